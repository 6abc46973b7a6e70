noncomputable def dkL02decX0_0 : List (ByteArray × Nat × Instr × Nat) := [(cX0_init, 0, (.aload_n 0, 1)), (cX0_init, 1, (.invokespecial 3, 3)), (cX0_init, 4, (.aload_n 0, 1)), (cX0_init, 5, (.bipush 12, 2)), (cX0_init, 7, (.newarray .int, 2)), (cX0_init, 9, (.putfield 9, 3)), (cX0_init, 12, (.aload_n 0, 1)), (cX0_init, 13, (.bipush 12, 2)), (cX0_init, 15, (.newarray .int, 2)), (cX0_init, 17, (.putfield 15, 3)), (cX0_init, 20, (.aload_n 0, 1)), (cX0_init, 21, (.bipush 12, 2)), (cX0_init, 23, (.newarray .int, 2)), (cX0_init, 25, (.putfield 18, 3)), (cX0_init, 28, (.aload_n 0, 1)), (cX0_init, 29, (.bipush 6, 2)), (cX0_init, 31, (.newarray .int, 2)), (cX0_init, 33, (.putfield 21, 3)), (cX0_init, 36, (.aload_n 0, 1)), (cX0_init, 37, (.bipush 6, 2)), (cX0_init, 39, (.newarray .int, 2)), (cX0_init, 41, (.putfield 24, 3)), (cX0_init, 44, (.aload_n 0, 1)), (cX0_init, 45, (.bipush 6, 2)), (cX0_init, 47, (.newarray .int, 2)), (cX0_init, 49, (.putfield 27, 3)), (cX0_init, 52, (.aload_n 0, 1)), (cX0_init, 53, (.bipush 6, 2)), (cX0_init, 55, (.newarray .int, 2)), (cX0_init, 57, (.putfield 30, 3)), (cX0_init, 60, (.aload_n 0, 1)), (cX0_init, 61, (.iconst 2, 1)), (cX0_init, 62, (.putfield 33, 3)), (cX0_init, 65, (.return_, 1)), (cX0_isPlace, 0, (.aload_n 0, 1)), (cX0_isPlace, 1, (.getfield 9, 3)), (cX0_isPlace, 4, (.iload_n 1, 1)), (cX0_isPlace, 5, (.iaload, 1)), (cX0_isPlace, 6, (.iconst 2, 1)), (cX0_isPlace, 7, (.if_icmp .eq 7, 3)), (cX0_isPlace, 10, (.iconst 1, 1)), (cX0_isPlace, 11, (.goto 4, 3)), (cX0_isPlace, 14, (.iconst 0, 1)), (cX0_isPlace, 15, (.ireturn, 1)), (cX0_places, 0, (.iconst 0, 1)), (cX0_places, 1, (.istore_n 1, 1)), (cX0_places, 2, (.iconst 0, 1)), (cX0_places, 3, (.istore_n 2, 1)), (cX0_places, 4, (.iload_n 2, 1)), (cX0_places, 5, (.aload_n 0, 1)), (cX0_places, 6, (.getfield 37, 3)), (cX0_places, 9, (.if_icmp .ge 25, 3)), (cX0_places, 12, (.iload_n 1, 1)), (cX0_places, 13, (.aload_n 0, 1)), (cX0_places, 14, (.iload_n 2, 1)), (cX0_places, 15, (.invokevirtual 40, 3)), (cX0_places, 18, (.ifCond .eq 7, 3)), (cX0_places, 21, (.iconst 1, 1)), (cX0_places, 22, (.goto 4, 3)), (cX0_places, 25, (.iconst 0, 1))]
theorem dkB02decX0_0 : dkL02decX0_0.all (fun q => decide (decode q.1 q.2.1 = .ok q.2.2)) = true := by decide +kernel
theorem dX0_init_0 : decode cX0_init 0 = .ok (.aload_n 0, 1) := dk_at dkB02decX0_0 0 rfl
theorem dX0_init_1 : decode cX0_init 1 = .ok (.invokespecial 3, 3) := dk_at dkB02decX0_0 1 rfl
theorem dX0_init_4 : decode cX0_init 4 = .ok (.aload_n 0, 1) := dk_at dkB02decX0_0 2 rfl
theorem dX0_init_5 : decode cX0_init 5 = .ok (.bipush 12, 2) := dk_at dkB02decX0_0 3 rfl
theorem dX0_init_7 : decode cX0_init 7 = .ok (.newarray .int, 2) := dk_at dkB02decX0_0 4 rfl
theorem dX0_init_9 : decode cX0_init 9 = .ok (.putfield 9, 3) := dk_at dkB02decX0_0 5 rfl
theorem dX0_init_12 : decode cX0_init 12 = .ok (.aload_n 0, 1) := dk_at dkB02decX0_0 6 rfl
theorem dX0_init_13 : decode cX0_init 13 = .ok (.bipush 12, 2) := dk_at dkB02decX0_0 7 rfl
theorem dX0_init_15 : decode cX0_init 15 = .ok (.newarray .int, 2) := dk_at dkB02decX0_0 8 rfl
theorem dX0_init_17 : decode cX0_init 17 = .ok (.putfield 15, 3) := dk_at dkB02decX0_0 9 rfl
theorem dX0_init_20 : decode cX0_init 20 = .ok (.aload_n 0, 1) := dk_at dkB02decX0_0 10 rfl
theorem dX0_init_21 : decode cX0_init 21 = .ok (.bipush 12, 2) := dk_at dkB02decX0_0 11 rfl
theorem dX0_init_23 : decode cX0_init 23 = .ok (.newarray .int, 2) := dk_at dkB02decX0_0 12 rfl
theorem dX0_init_25 : decode cX0_init 25 = .ok (.putfield 18, 3) := dk_at dkB02decX0_0 13 rfl
theorem dX0_init_28 : decode cX0_init 28 = .ok (.aload_n 0, 1) := dk_at dkB02decX0_0 14 rfl
theorem dX0_init_29 : decode cX0_init 29 = .ok (.bipush 6, 2) := dk_at dkB02decX0_0 15 rfl
theorem dX0_init_31 : decode cX0_init 31 = .ok (.newarray .int, 2) := dk_at dkB02decX0_0 16 rfl
theorem dX0_init_33 : decode cX0_init 33 = .ok (.putfield 21, 3) := dk_at dkB02decX0_0 17 rfl
theorem dX0_init_36 : decode cX0_init 36 = .ok (.aload_n 0, 1) := dk_at dkB02decX0_0 18 rfl
theorem dX0_init_37 : decode cX0_init 37 = .ok (.bipush 6, 2) := dk_at dkB02decX0_0 19 rfl
theorem dX0_init_39 : decode cX0_init 39 = .ok (.newarray .int, 2) := dk_at dkB02decX0_0 20 rfl
theorem dX0_init_41 : decode cX0_init 41 = .ok (.putfield 24, 3) := dk_at dkB02decX0_0 21 rfl
theorem dX0_init_44 : decode cX0_init 44 = .ok (.aload_n 0, 1) := dk_at dkB02decX0_0 22 rfl
theorem dX0_init_45 : decode cX0_init 45 = .ok (.bipush 6, 2) := dk_at dkB02decX0_0 23 rfl
theorem dX0_init_47 : decode cX0_init 47 = .ok (.newarray .int, 2) := dk_at dkB02decX0_0 24 rfl
theorem dX0_init_49 : decode cX0_init 49 = .ok (.putfield 27, 3) := dk_at dkB02decX0_0 25 rfl
theorem dX0_init_52 : decode cX0_init 52 = .ok (.aload_n 0, 1) := dk_at dkB02decX0_0 26 rfl
theorem dX0_init_53 : decode cX0_init 53 = .ok (.bipush 6, 2) := dk_at dkB02decX0_0 27 rfl
theorem dX0_init_55 : decode cX0_init 55 = .ok (.newarray .int, 2) := dk_at dkB02decX0_0 28 rfl
theorem dX0_init_57 : decode cX0_init 57 = .ok (.putfield 30, 3) := dk_at dkB02decX0_0 29 rfl
theorem dX0_init_60 : decode cX0_init 60 = .ok (.aload_n 0, 1) := dk_at dkB02decX0_0 30 rfl
theorem dX0_init_61 : decode cX0_init 61 = .ok (.iconst 2, 1) := dk_at dkB02decX0_0 31 rfl
theorem dX0_init_62 : decode cX0_init 62 = .ok (.putfield 33, 3) := dk_at dkB02decX0_0 32 rfl
theorem dX0_init_65 : decode cX0_init 65 = .ok (.return_, 1) := dk_at dkB02decX0_0 33 rfl
theorem dX0_isPlace_0 : decode cX0_isPlace 0 = .ok (.aload_n 0, 1) := dk_at dkB02decX0_0 34 rfl
theorem dX0_isPlace_1 : decode cX0_isPlace 1 = .ok (.getfield 9, 3) := dk_at dkB02decX0_0 35 rfl
theorem dX0_isPlace_4 : decode cX0_isPlace 4 = .ok (.iload_n 1, 1) := dk_at dkB02decX0_0 36 rfl
theorem dX0_isPlace_5 : decode cX0_isPlace 5 = .ok (.iaload, 1) := dk_at dkB02decX0_0 37 rfl
theorem dX0_isPlace_6 : decode cX0_isPlace 6 = .ok (.iconst 2, 1) := dk_at dkB02decX0_0 38 rfl
theorem dX0_isPlace_7 : decode cX0_isPlace 7 = .ok (.if_icmp .eq 7, 3) := dk_at dkB02decX0_0 39 rfl
theorem dX0_isPlace_10 : decode cX0_isPlace 10 = .ok (.iconst 1, 1) := dk_at dkB02decX0_0 40 rfl
theorem dX0_isPlace_11 : decode cX0_isPlace 11 = .ok (.goto 4, 3) := dk_at dkB02decX0_0 41 rfl
theorem dX0_isPlace_14 : decode cX0_isPlace 14 = .ok (.iconst 0, 1) := dk_at dkB02decX0_0 42 rfl
theorem dX0_isPlace_15 : decode cX0_isPlace 15 = .ok (.ireturn, 1) := dk_at dkB02decX0_0 43 rfl
theorem dX0_places_0 : decode cX0_places 0 = .ok (.iconst 0, 1) := dk_at dkB02decX0_0 44 rfl
theorem dX0_places_1 : decode cX0_places 1 = .ok (.istore_n 1, 1) := dk_at dkB02decX0_0 45 rfl
theorem dX0_places_2 : decode cX0_places 2 = .ok (.iconst 0, 1) := dk_at dkB02decX0_0 46 rfl
theorem dX0_places_3 : decode cX0_places 3 = .ok (.istore_n 2, 1) := dk_at dkB02decX0_0 47 rfl
theorem dX0_places_4 : decode cX0_places 4 = .ok (.iload_n 2, 1) := dk_at dkB02decX0_0 48 rfl
theorem dX0_places_5 : decode cX0_places 5 = .ok (.aload_n 0, 1) := dk_at dkB02decX0_0 49 rfl
theorem dX0_places_6 : decode cX0_places 6 = .ok (.getfield 37, 3) := dk_at dkB02decX0_0 50 rfl
theorem dX0_places_9 : decode cX0_places 9 = .ok (.if_icmp .ge 25, 3) := dk_at dkB02decX0_0 51 rfl
theorem dX0_places_12 : decode cX0_places 12 = .ok (.iload_n 1, 1) := dk_at dkB02decX0_0 52 rfl
theorem dX0_places_13 : decode cX0_places 13 = .ok (.aload_n 0, 1) := dk_at dkB02decX0_0 53 rfl
theorem dX0_places_14 : decode cX0_places 14 = .ok (.iload_n 2, 1) := dk_at dkB02decX0_0 54 rfl
theorem dX0_places_15 : decode cX0_places 15 = .ok (.invokevirtual 40, 3) := dk_at dkB02decX0_0 55 rfl
theorem dX0_places_18 : decode cX0_places 18 = .ok (.ifCond .eq 7, 3) := dk_at dkB02decX0_0 56 rfl
theorem dX0_places_21 : decode cX0_places 21 = .ok (.iconst 1, 1) := dk_at dkB02decX0_0 57 rfl
theorem dX0_places_22 : decode cX0_places 22 = .ok (.goto 4, 3) := dk_at dkB02decX0_0 58 rfl
theorem dX0_places_25 : decode cX0_places 25 = .ok (.iconst 0, 1) := dk_at dkB02decX0_0 59 rfl
noncomputable def dkL02decX0_1 : List (ByteArray × Nat × Instr × Nat) := [(cX0_places, 26, (.iadd, 1)), (cX0_places, 27, (.istore_n 1, 1)), (cX0_places, 28, (.iinc 2 1, 3)), (cX0_places, 31, (.goto (-27), 3)), (cX0_places, 34, (.iload_n 1, 1)), (cX0_places, 35, (.ireturn, 1)), (cX0_add, 0, (.aload_n 0, 1)), (cX0_add, 1, (.getfield 37, 3)), (cX0_add, 4, (.bipush 12, 2)), (cX0_add, 6, (.if_icmp .ge 43, 3)), (cX0_add, 9, (.aload_n 0, 1)), (cX0_add, 10, (.getfield 9, 3)), (cX0_add, 13, (.aload_n 0, 1)), (cX0_add, 14, (.getfield 37, 3)), (cX0_add, 17, (.iload_n 1, 1)), (cX0_add, 18, (.iastore, 1)), (cX0_add, 19, (.aload_n 0, 1)), (cX0_add, 20, (.getfield 15, 3)), (cX0_add, 23, (.aload_n 0, 1)), (cX0_add, 24, (.getfield 37, 3)), (cX0_add, 27, (.iload_n 2, 1)), (cX0_add, 28, (.iastore, 1)), (cX0_add, 29, (.aload_n 0, 1)), (cX0_add, 30, (.getfield 18, 3)), (cX0_add, 33, (.aload_n 0, 1)), (cX0_add, 34, (.getfield 37, 3)), (cX0_add, 37, (.iload_n 3, 1)), (cX0_add, 38, (.iastore, 1)), (cX0_add, 39, (.aload_n 0, 1)), (cX0_add, 40, (.dup, 1)), (cX0_add, 41, (.getfield 37, 3)), (cX0_add, 44, (.iconst 1, 1)), (cX0_add, 45, (.iadd, 1)), (cX0_add, 46, (.putfield 37, 3)), (cX0_add, 49, (.return_, 1)), (cX0_grow, 0, (.aload_n 0, 1)), (cX0_grow, 1, (.iconst 0, 1)), (cX0_grow, 2, (.putfield 37, 3)), (cX0_grow, 5, (.aload_n 0, 1)), (cX0_grow, 6, (.iconst 0, 1)), (cX0_grow, 7, (.putfield 44, 3)), (cX0_grow, 10, (.aload_n 0, 1)), (cX0_grow, 11, (.iconst 1, 1)), (cX0_grow, 12, (.putfield 47, 3)), (cX0_grow, 15, (.iconst (-1), 1)), (cX0_grow, 16, (.istore_n 3, 1)), (cX0_grow, 17, (.iconst 0, 1)), (cX0_grow, 18, (.istore 4, 2)), (cX0_grow, 20, (.iload 4, 2)), (cX0_grow, 22, (.bipush 24, 2)), (cX0_grow, 24, (.if_icmp .ge 94, 3)), (cX0_grow, 27, (.aload_n 2, 1)), (cX0_grow, 28, (.aload_n 1, 1)), (cX0_grow, 29, (.iload 4, 2)), (cX0_grow, 31, (.invokevirtual 51, 3)), (cX0_grow, 34, (.istore 5, 2)), (cX0_grow, 36, (.iload 5, 2)), (cX0_grow, 38, (.ifCond .le 74, 3)), (cX0_grow, 41, (.iload_n 3, 1)), (cX0_grow, 42, (.ifCond .lt 24, 3))]
theorem dkB02decX0_1 : dkL02decX0_1.all (fun q => decide (decode q.1 q.2.1 = .ok q.2.2)) = true := by decide +kernel
theorem dX0_places_26 : decode cX0_places 26 = .ok (.iadd, 1) := dk_at dkB02decX0_1 0 rfl
theorem dX0_places_27 : decode cX0_places 27 = .ok (.istore_n 1, 1) := dk_at dkB02decX0_1 1 rfl
theorem dX0_places_28 : decode cX0_places 28 = .ok (.iinc 2 1, 3) := dk_at dkB02decX0_1 2 rfl
theorem dX0_places_31 : decode cX0_places 31 = .ok (.goto (-27), 3) := dk_at dkB02decX0_1 3 rfl
theorem dX0_places_34 : decode cX0_places 34 = .ok (.iload_n 1, 1) := dk_at dkB02decX0_1 4 rfl
theorem dX0_places_35 : decode cX0_places 35 = .ok (.ireturn, 1) := dk_at dkB02decX0_1 5 rfl
theorem dX0_add_0 : decode cX0_add 0 = .ok (.aload_n 0, 1) := dk_at dkB02decX0_1 6 rfl
theorem dX0_add_1 : decode cX0_add 1 = .ok (.getfield 37, 3) := dk_at dkB02decX0_1 7 rfl
theorem dX0_add_4 : decode cX0_add 4 = .ok (.bipush 12, 2) := dk_at dkB02decX0_1 8 rfl
theorem dX0_add_6 : decode cX0_add 6 = .ok (.if_icmp .ge 43, 3) := dk_at dkB02decX0_1 9 rfl
theorem dX0_add_9 : decode cX0_add 9 = .ok (.aload_n 0, 1) := dk_at dkB02decX0_1 10 rfl
theorem dX0_add_10 : decode cX0_add 10 = .ok (.getfield 9, 3) := dk_at dkB02decX0_1 11 rfl
theorem dX0_add_13 : decode cX0_add 13 = .ok (.aload_n 0, 1) := dk_at dkB02decX0_1 12 rfl
theorem dX0_add_14 : decode cX0_add 14 = .ok (.getfield 37, 3) := dk_at dkB02decX0_1 13 rfl
theorem dX0_add_17 : decode cX0_add 17 = .ok (.iload_n 1, 1) := dk_at dkB02decX0_1 14 rfl
theorem dX0_add_18 : decode cX0_add 18 = .ok (.iastore, 1) := dk_at dkB02decX0_1 15 rfl
theorem dX0_add_19 : decode cX0_add 19 = .ok (.aload_n 0, 1) := dk_at dkB02decX0_1 16 rfl
theorem dX0_add_20 : decode cX0_add 20 = .ok (.getfield 15, 3) := dk_at dkB02decX0_1 17 rfl
theorem dX0_add_23 : decode cX0_add 23 = .ok (.aload_n 0, 1) := dk_at dkB02decX0_1 18 rfl
theorem dX0_add_24 : decode cX0_add 24 = .ok (.getfield 37, 3) := dk_at dkB02decX0_1 19 rfl
theorem dX0_add_27 : decode cX0_add 27 = .ok (.iload_n 2, 1) := dk_at dkB02decX0_1 20 rfl
theorem dX0_add_28 : decode cX0_add 28 = .ok (.iastore, 1) := dk_at dkB02decX0_1 21 rfl
theorem dX0_add_29 : decode cX0_add 29 = .ok (.aload_n 0, 1) := dk_at dkB02decX0_1 22 rfl
theorem dX0_add_30 : decode cX0_add 30 = .ok (.getfield 18, 3) := dk_at dkB02decX0_1 23 rfl
theorem dX0_add_33 : decode cX0_add 33 = .ok (.aload_n 0, 1) := dk_at dkB02decX0_1 24 rfl
theorem dX0_add_34 : decode cX0_add 34 = .ok (.getfield 37, 3) := dk_at dkB02decX0_1 25 rfl
theorem dX0_add_37 : decode cX0_add 37 = .ok (.iload_n 3, 1) := dk_at dkB02decX0_1 26 rfl
theorem dX0_add_38 : decode cX0_add 38 = .ok (.iastore, 1) := dk_at dkB02decX0_1 27 rfl
theorem dX0_add_39 : decode cX0_add 39 = .ok (.aload_n 0, 1) := dk_at dkB02decX0_1 28 rfl
theorem dX0_add_40 : decode cX0_add 40 = .ok (.dup, 1) := dk_at dkB02decX0_1 29 rfl
theorem dX0_add_41 : decode cX0_add 41 = .ok (.getfield 37, 3) := dk_at dkB02decX0_1 30 rfl
theorem dX0_add_44 : decode cX0_add 44 = .ok (.iconst 1, 1) := dk_at dkB02decX0_1 31 rfl
theorem dX0_add_45 : decode cX0_add 45 = .ok (.iadd, 1) := dk_at dkB02decX0_1 32 rfl
theorem dX0_add_46 : decode cX0_add 46 = .ok (.putfield 37, 3) := dk_at dkB02decX0_1 33 rfl
theorem dX0_add_49 : decode cX0_add 49 = .ok (.return_, 1) := dk_at dkB02decX0_1 34 rfl
theorem dX0_grow_0 : decode cX0_grow 0 = .ok (.aload_n 0, 1) := dk_at dkB02decX0_1 35 rfl
theorem dX0_grow_1 : decode cX0_grow 1 = .ok (.iconst 0, 1) := dk_at dkB02decX0_1 36 rfl
theorem dX0_grow_2 : decode cX0_grow 2 = .ok (.putfield 37, 3) := dk_at dkB02decX0_1 37 rfl
theorem dX0_grow_5 : decode cX0_grow 5 = .ok (.aload_n 0, 1) := dk_at dkB02decX0_1 38 rfl
theorem dX0_grow_6 : decode cX0_grow 6 = .ok (.iconst 0, 1) := dk_at dkB02decX0_1 39 rfl
theorem dX0_grow_7 : decode cX0_grow 7 = .ok (.putfield 44, 3) := dk_at dkB02decX0_1 40 rfl
theorem dX0_grow_10 : decode cX0_grow 10 = .ok (.aload_n 0, 1) := dk_at dkB02decX0_1 41 rfl
theorem dX0_grow_11 : decode cX0_grow 11 = .ok (.iconst 1, 1) := dk_at dkB02decX0_1 42 rfl
theorem dX0_grow_12 : decode cX0_grow 12 = .ok (.putfield 47, 3) := dk_at dkB02decX0_1 43 rfl
theorem dX0_grow_15 : decode cX0_grow 15 = .ok (.iconst (-1), 1) := dk_at dkB02decX0_1 44 rfl
theorem dX0_grow_16 : decode cX0_grow 16 = .ok (.istore_n 3, 1) := dk_at dkB02decX0_1 45 rfl
theorem dX0_grow_17 : decode cX0_grow 17 = .ok (.iconst 0, 1) := dk_at dkB02decX0_1 46 rfl
theorem dX0_grow_18 : decode cX0_grow 18 = .ok (.istore 4, 2) := dk_at dkB02decX0_1 47 rfl
theorem dX0_grow_20 : decode cX0_grow 20 = .ok (.iload 4, 2) := dk_at dkB02decX0_1 48 rfl
theorem dX0_grow_22 : decode cX0_grow 22 = .ok (.bipush 24, 2) := dk_at dkB02decX0_1 49 rfl
theorem dX0_grow_24 : decode cX0_grow 24 = .ok (.if_icmp .ge 94, 3) := dk_at dkB02decX0_1 50 rfl
theorem dX0_grow_27 : decode cX0_grow 27 = .ok (.aload_n 2, 1) := dk_at dkB02decX0_1 51 rfl
theorem dX0_grow_28 : decode cX0_grow 28 = .ok (.aload_n 1, 1) := dk_at dkB02decX0_1 52 rfl
theorem dX0_grow_29 : decode cX0_grow 29 = .ok (.iload 4, 2) := dk_at dkB02decX0_1 53 rfl
theorem dX0_grow_31 : decode cX0_grow 31 = .ok (.invokevirtual 51, 3) := dk_at dkB02decX0_1 54 rfl
theorem dX0_grow_34 : decode cX0_grow 34 = .ok (.istore 5, 2) := dk_at dkB02decX0_1 55 rfl
theorem dX0_grow_36 : decode cX0_grow 36 = .ok (.iload 5, 2) := dk_at dkB02decX0_1 56 rfl
theorem dX0_grow_38 : decode cX0_grow 38 = .ok (.ifCond .le 74, 3) := dk_at dkB02decX0_1 57 rfl
theorem dX0_grow_41 : decode cX0_grow 41 = .ok (.iload_n 3, 1) := dk_at dkB02decX0_1 58 rfl
theorem dX0_grow_42 : decode cX0_grow 42 = .ok (.ifCond .lt 24, 3) := dk_at dkB02decX0_1 59 rfl
noncomputable def dkL02decX0_2 : List (ByteArray × Nat × Instr × Nat) := [(cX0_grow, 45, (.iload 4, 2)), (cX0_grow, 47, (.iload_n 3, 1)), (cX0_grow, 48, (.isub, 1)), (cX0_grow, 49, (.iconst 1, 1)), (cX0_grow, 50, (.isub, 1)), (cX0_grow, 51, (.aload_n 1, 1)), (cX0_grow, 52, (.getfield 57, 3)), (cX0_grow, 55, (.if_icmp .lt 11, 3)), (cX0_grow, 58, (.aload_n 0, 1)), (cX0_grow, 59, (.iconst 2, 1)), (cX0_grow, 60, (.iconst 0, 1)), (cX0_grow, 61, (.iload 4, 2)), (cX0_grow, 63, (.invokevirtual 62, 3)), (cX0_grow, 66, (.iconst 0, 1)), (cX0_grow, 67, (.istore 6, 2)), (cX0_grow, 69, (.iload 6, 2)), (cX0_grow, 71, (.iload 5, 2)), (cX0_grow, 73, (.if_icmp .ge 36, 3)), (cX0_grow, 76, (.aload_n 0, 1)), (cX0_grow, 77, (.iconst 0, 1)), (cX0_grow, 78, (.aload_n 1, 1)), (cX0_grow, 79, (.iload 4, 2)), (cX0_grow, 81, (.aload_n 1, 1)), (cX0_grow, 82, (.getfield 66, 3)), (cX0_grow, 85, (.invokevirtual 69, 3)), (cX0_grow, 88, (.aload_n 1, 1)), (cX0_grow, 89, (.getfield 73, 3)), (cX0_grow, 92, (.iconst 2, 1)), (cX0_grow, 93, (.aaload, 1)), (cX0_grow, 94, (.iload 4, 2)), (cX0_grow, 96, (.iaload, 1)), (cX0_grow, 97, (.isub, 1)), (cX0_grow, 98, (.iload 4, 2)), (cX0_grow, 100, (.invokevirtual 62, 3)), (cX0_grow, 103, (.iinc 6 1, 3)), (cX0_grow, 106, (.goto (-37), 3)), (cX0_grow, 109, (.iload 4, 2)), (cX0_grow, 111, (.istore_n 3, 1)), (cX0_grow, 112, (.iinc 4 1, 3)), (cX0_grow, 115, (.goto (-95), 3)), (cX0_grow, 118, (.return_, 1)), (cX0_addStretch, 0, (.aload_n 0, 1)), (cX0_addStretch, 1, (.getfield 21, 3)), (cX0_addStretch, 4, (.aload_n 0, 1)), (cX0_addStretch, 5, (.getfield 44, 3)), (cX0_addStretch, 8, (.iload_n 1, 1)), (cX0_addStretch, 9, (.iastore, 1)), (cX0_addStretch, 10, (.aload_n 0, 1)), (cX0_addStretch, 11, (.getfield 24, 3)), (cX0_addStretch, 14, (.aload_n 0, 1)), (cX0_addStretch, 15, (.getfield 44, 3)), (cX0_addStretch, 18, (.iload_n 2, 1)), (cX0_addStretch, 19, (.iastore, 1)), (cX0_addStretch, 20, (.aload_n 0, 1)), (cX0_addStretch, 21, (.getfield 27, 3)), (cX0_addStretch, 24, (.aload_n 0, 1)), (cX0_addStretch, 25, (.getfield 44, 3)), (cX0_addStretch, 28, (.iload_n 3, 1)), (cX0_addStretch, 29, (.iastore, 1)), (cX0_addStretch, 30, (.aload_n 0, 1))]
theorem dkB02decX0_2 : dkL02decX0_2.all (fun q => decide (decode q.1 q.2.1 = .ok q.2.2)) = true := by decide +kernel
theorem dX0_grow_45 : decode cX0_grow 45 = .ok (.iload 4, 2) := dk_at dkB02decX0_2 0 rfl
theorem dX0_grow_47 : decode cX0_grow 47 = .ok (.iload_n 3, 1) := dk_at dkB02decX0_2 1 rfl
theorem dX0_grow_48 : decode cX0_grow 48 = .ok (.isub, 1) := dk_at dkB02decX0_2 2 rfl
theorem dX0_grow_49 : decode cX0_grow 49 = .ok (.iconst 1, 1) := dk_at dkB02decX0_2 3 rfl
theorem dX0_grow_50 : decode cX0_grow 50 = .ok (.isub, 1) := dk_at dkB02decX0_2 4 rfl
theorem dX0_grow_51 : decode cX0_grow 51 = .ok (.aload_n 1, 1) := dk_at dkB02decX0_2 5 rfl
theorem dX0_grow_52 : decode cX0_grow 52 = .ok (.getfield 57, 3) := dk_at dkB02decX0_2 6 rfl
theorem dX0_grow_55 : decode cX0_grow 55 = .ok (.if_icmp .lt 11, 3) := dk_at dkB02decX0_2 7 rfl
theorem dX0_grow_58 : decode cX0_grow 58 = .ok (.aload_n 0, 1) := dk_at dkB02decX0_2 8 rfl
theorem dX0_grow_59 : decode cX0_grow 59 = .ok (.iconst 2, 1) := dk_at dkB02decX0_2 9 rfl
theorem dX0_grow_60 : decode cX0_grow 60 = .ok (.iconst 0, 1) := dk_at dkB02decX0_2 10 rfl
theorem dX0_grow_61 : decode cX0_grow 61 = .ok (.iload 4, 2) := dk_at dkB02decX0_2 11 rfl
theorem dX0_grow_63 : decode cX0_grow 63 = .ok (.invokevirtual 62, 3) := dk_at dkB02decX0_2 12 rfl
theorem dX0_grow_66 : decode cX0_grow 66 = .ok (.iconst 0, 1) := dk_at dkB02decX0_2 13 rfl
theorem dX0_grow_67 : decode cX0_grow 67 = .ok (.istore 6, 2) := dk_at dkB02decX0_2 14 rfl
theorem dX0_grow_69 : decode cX0_grow 69 = .ok (.iload 6, 2) := dk_at dkB02decX0_2 15 rfl
theorem dX0_grow_71 : decode cX0_grow 71 = .ok (.iload 5, 2) := dk_at dkB02decX0_2 16 rfl
theorem dX0_grow_73 : decode cX0_grow 73 = .ok (.if_icmp .ge 36, 3) := dk_at dkB02decX0_2 17 rfl
theorem dX0_grow_76 : decode cX0_grow 76 = .ok (.aload_n 0, 1) := dk_at dkB02decX0_2 18 rfl
theorem dX0_grow_77 : decode cX0_grow 77 = .ok (.iconst 0, 1) := dk_at dkB02decX0_2 19 rfl
theorem dX0_grow_78 : decode cX0_grow 78 = .ok (.aload_n 1, 1) := dk_at dkB02decX0_2 20 rfl
theorem dX0_grow_79 : decode cX0_grow 79 = .ok (.iload 4, 2) := dk_at dkB02decX0_2 21 rfl
theorem dX0_grow_81 : decode cX0_grow 81 = .ok (.aload_n 1, 1) := dk_at dkB02decX0_2 22 rfl
theorem dX0_grow_82 : decode cX0_grow 82 = .ok (.getfield 66, 3) := dk_at dkB02decX0_2 23 rfl
theorem dX0_grow_85 : decode cX0_grow 85 = .ok (.invokevirtual 69, 3) := dk_at dkB02decX0_2 24 rfl
theorem dX0_grow_88 : decode cX0_grow 88 = .ok (.aload_n 1, 1) := dk_at dkB02decX0_2 25 rfl
theorem dX0_grow_89 : decode cX0_grow 89 = .ok (.getfield 73, 3) := dk_at dkB02decX0_2 26 rfl
theorem dX0_grow_92 : decode cX0_grow 92 = .ok (.iconst 2, 1) := dk_at dkB02decX0_2 27 rfl
theorem dX0_grow_93 : decode cX0_grow 93 = .ok (.aaload, 1) := dk_at dkB02decX0_2 28 rfl
theorem dX0_grow_94 : decode cX0_grow 94 = .ok (.iload 4, 2) := dk_at dkB02decX0_2 29 rfl
theorem dX0_grow_96 : decode cX0_grow 96 = .ok (.iaload, 1) := dk_at dkB02decX0_2 30 rfl
theorem dX0_grow_97 : decode cX0_grow 97 = .ok (.isub, 1) := dk_at dkB02decX0_2 31 rfl
theorem dX0_grow_98 : decode cX0_grow 98 = .ok (.iload 4, 2) := dk_at dkB02decX0_2 32 rfl
theorem dX0_grow_100 : decode cX0_grow 100 = .ok (.invokevirtual 62, 3) := dk_at dkB02decX0_2 33 rfl
theorem dX0_grow_103 : decode cX0_grow 103 = .ok (.iinc 6 1, 3) := dk_at dkB02decX0_2 34 rfl
theorem dX0_grow_106 : decode cX0_grow 106 = .ok (.goto (-37), 3) := dk_at dkB02decX0_2 35 rfl
theorem dX0_grow_109 : decode cX0_grow 109 = .ok (.iload 4, 2) := dk_at dkB02decX0_2 36 rfl
theorem dX0_grow_111 : decode cX0_grow 111 = .ok (.istore_n 3, 1) := dk_at dkB02decX0_2 37 rfl
theorem dX0_grow_112 : decode cX0_grow 112 = .ok (.iinc 4 1, 3) := dk_at dkB02decX0_2 38 rfl
theorem dX0_grow_115 : decode cX0_grow 115 = .ok (.goto (-95), 3) := dk_at dkB02decX0_2 39 rfl
theorem dX0_grow_118 : decode cX0_grow 118 = .ok (.return_, 1) := dk_at dkB02decX0_2 40 rfl
theorem dX0_addStretch_0 : decode cX0_addStretch 0 = .ok (.aload_n 0, 1) := dk_at dkB02decX0_2 41 rfl
theorem dX0_addStretch_1 : decode cX0_addStretch 1 = .ok (.getfield 21, 3) := dk_at dkB02decX0_2 42 rfl
theorem dX0_addStretch_4 : decode cX0_addStretch 4 = .ok (.aload_n 0, 1) := dk_at dkB02decX0_2 43 rfl
theorem dX0_addStretch_5 : decode cX0_addStretch 5 = .ok (.getfield 44, 3) := dk_at dkB02decX0_2 44 rfl
theorem dX0_addStretch_8 : decode cX0_addStretch 8 = .ok (.iload_n 1, 1) := dk_at dkB02decX0_2 45 rfl
theorem dX0_addStretch_9 : decode cX0_addStretch 9 = .ok (.iastore, 1) := dk_at dkB02decX0_2 46 rfl
theorem dX0_addStretch_10 : decode cX0_addStretch 10 = .ok (.aload_n 0, 1) := dk_at dkB02decX0_2 47 rfl
theorem dX0_addStretch_11 : decode cX0_addStretch 11 = .ok (.getfield 24, 3) := dk_at dkB02decX0_2 48 rfl
theorem dX0_addStretch_14 : decode cX0_addStretch 14 = .ok (.aload_n 0, 1) := dk_at dkB02decX0_2 49 rfl
theorem dX0_addStretch_15 : decode cX0_addStretch 15 = .ok (.getfield 44, 3) := dk_at dkB02decX0_2 50 rfl
theorem dX0_addStretch_18 : decode cX0_addStretch 18 = .ok (.iload_n 2, 1) := dk_at dkB02decX0_2 51 rfl
theorem dX0_addStretch_19 : decode cX0_addStretch 19 = .ok (.iastore, 1) := dk_at dkB02decX0_2 52 rfl
theorem dX0_addStretch_20 : decode cX0_addStretch 20 = .ok (.aload_n 0, 1) := dk_at dkB02decX0_2 53 rfl
theorem dX0_addStretch_21 : decode cX0_addStretch 21 = .ok (.getfield 27, 3) := dk_at dkB02decX0_2 54 rfl
theorem dX0_addStretch_24 : decode cX0_addStretch 24 = .ok (.aload_n 0, 1) := dk_at dkB02decX0_2 55 rfl
theorem dX0_addStretch_25 : decode cX0_addStretch 25 = .ok (.getfield 44, 3) := dk_at dkB02decX0_2 56 rfl
theorem dX0_addStretch_28 : decode cX0_addStretch 28 = .ok (.iload_n 3, 1) := dk_at dkB02decX0_2 57 rfl
theorem dX0_addStretch_29 : decode cX0_addStretch 29 = .ok (.iastore, 1) := dk_at dkB02decX0_2 58 rfl
theorem dX0_addStretch_30 : decode cX0_addStretch 30 = .ok (.aload_n 0, 1) := dk_at dkB02decX0_2 59 rfl
noncomputable def dkL02decX0_3 : List (ByteArray × Nat × Instr × Nat) := [(cX0_addStretch, 31, (.getfield 30, 3)), (cX0_addStretch, 34, (.aload_n 0, 1)), (cX0_addStretch, 35, (.getfield 44, 3)), (cX0_addStretch, 38, (.iload 4, 2)), (cX0_addStretch, 40, (.iastore, 1)), (cX0_addStretch, 41, (.aload_n 0, 1)), (cX0_addStretch, 42, (.dup, 1)), (cX0_addStretch, 43, (.getfield 44, 3)), (cX0_addStretch, 46, (.iconst 1, 1)), (cX0_addStretch, 47, (.iadd, 1)), (cX0_addStretch, 48, (.putfield 44, 3)), (cX0_addStretch, 51, (.return_, 1)), (cX0_cutFrom, 0, (.aload_n 0, 1)), (cX0_cutFrom, 1, (.getfield 44, 3)), (cX0_cutFrom, 4, (.istore_n 2, 1)), (cX0_cutFrom, 5, (.aload_n 0, 1)), (cX0_cutFrom, 6, (.iload_n 1, 1)), (cX0_cutFrom, 7, (.putfield 37, 3)), (cX0_cutFrom, 10, (.aload_n 0, 1)), (cX0_cutFrom, 11, (.iconst 0, 1)), (cX0_cutFrom, 12, (.putfield 47, 3)), (cX0_cutFrom, 15, (.aload_n 0, 1)), (cX0_cutFrom, 16, (.iconst 0, 1)), (cX0_cutFrom, 17, (.putfield 44, 3)), (cX0_cutFrom, 20, (.iconst 0, 1)), (cX0_cutFrom, 21, (.istore_n 3, 1)), (cX0_cutFrom, 22, (.iload_n 3, 1)), (cX0_cutFrom, 23, (.iload_n 2, 1)), (cX0_cutFrom, 24, (.if_icmp .ge 47, 3)), (cX0_cutFrom, 27, (.aload_n 0, 1)), (cX0_cutFrom, 28, (.getfield 27, 3)), (cX0_cutFrom, 31, (.iload_n 3, 1)), (cX0_cutFrom, 32, (.iaload, 1)), (cX0_cutFrom, 33, (.iload_n 1, 1)), (cX0_cutFrom, 34, (.if_icmp .ge 31, 3)), (cX0_cutFrom, 37, (.aload_n 0, 1)), (cX0_cutFrom, 38, (.aload_n 0, 1)), (cX0_cutFrom, 39, (.getfield 21, 3)), (cX0_cutFrom, 42, (.iload_n 3, 1)), (cX0_cutFrom, 43, (.iaload, 1)), (cX0_cutFrom, 44, (.aload_n 0, 1)), (cX0_cutFrom, 45, (.getfield 24, 3)), (cX0_cutFrom, 48, (.iload_n 3, 1)), (cX0_cutFrom, 49, (.iaload, 1)), (cX0_cutFrom, 50, (.aload_n 0, 1)), (cX0_cutFrom, 51, (.getfield 27, 3)), (cX0_cutFrom, 54, (.iload_n 3, 1)), (cX0_cutFrom, 55, (.iaload, 1)), (cX0_cutFrom, 56, (.aload_n 0, 1)), (cX0_cutFrom, 57, (.getfield 30, 3)), (cX0_cutFrom, 60, (.iload_n 3, 1)), (cX0_cutFrom, 61, (.iaload, 1)), (cX0_cutFrom, 62, (.invokevirtual 77, 3)), (cX0_cutFrom, 65, (.iinc 3 1, 3)), (cX0_cutFrom, 68, (.goto (-46), 3)), (cX0_cutFrom, 71, (.return_, 1)), (cX0_take, 0, (.aload_n 1, 1)), (cX0_take, 1, (.getfield 9, 3)), (cX0_take, 4, (.aload_n 0, 1)), (cX0_take, 5, (.getfield 9, 3))]
theorem dkB02decX0_3 : dkL02decX0_3.all (fun q => decide (decode q.1 q.2.1 = .ok q.2.2)) = true := by decide +kernel
theorem dX0_addStretch_31 : decode cX0_addStretch 31 = .ok (.getfield 30, 3) := dk_at dkB02decX0_3 0 rfl
theorem dX0_addStretch_34 : decode cX0_addStretch 34 = .ok (.aload_n 0, 1) := dk_at dkB02decX0_3 1 rfl
theorem dX0_addStretch_35 : decode cX0_addStretch 35 = .ok (.getfield 44, 3) := dk_at dkB02decX0_3 2 rfl
theorem dX0_addStretch_38 : decode cX0_addStretch 38 = .ok (.iload 4, 2) := dk_at dkB02decX0_3 3 rfl
theorem dX0_addStretch_40 : decode cX0_addStretch 40 = .ok (.iastore, 1) := dk_at dkB02decX0_3 4 rfl
theorem dX0_addStretch_41 : decode cX0_addStretch 41 = .ok (.aload_n 0, 1) := dk_at dkB02decX0_3 5 rfl
theorem dX0_addStretch_42 : decode cX0_addStretch 42 = .ok (.dup, 1) := dk_at dkB02decX0_3 6 rfl
theorem dX0_addStretch_43 : decode cX0_addStretch 43 = .ok (.getfield 44, 3) := dk_at dkB02decX0_3 7 rfl
theorem dX0_addStretch_46 : decode cX0_addStretch 46 = .ok (.iconst 1, 1) := dk_at dkB02decX0_3 8 rfl
theorem dX0_addStretch_47 : decode cX0_addStretch 47 = .ok (.iadd, 1) := dk_at dkB02decX0_3 9 rfl
theorem dX0_addStretch_48 : decode cX0_addStretch 48 = .ok (.putfield 44, 3) := dk_at dkB02decX0_3 10 rfl
theorem dX0_addStretch_51 : decode cX0_addStretch 51 = .ok (.return_, 1) := dk_at dkB02decX0_3 11 rfl
theorem dX0_cutFrom_0 : decode cX0_cutFrom 0 = .ok (.aload_n 0, 1) := dk_at dkB02decX0_3 12 rfl
theorem dX0_cutFrom_1 : decode cX0_cutFrom 1 = .ok (.getfield 44, 3) := dk_at dkB02decX0_3 13 rfl
theorem dX0_cutFrom_4 : decode cX0_cutFrom 4 = .ok (.istore_n 2, 1) := dk_at dkB02decX0_3 14 rfl
theorem dX0_cutFrom_5 : decode cX0_cutFrom 5 = .ok (.aload_n 0, 1) := dk_at dkB02decX0_3 15 rfl
theorem dX0_cutFrom_6 : decode cX0_cutFrom 6 = .ok (.iload_n 1, 1) := dk_at dkB02decX0_3 16 rfl
theorem dX0_cutFrom_7 : decode cX0_cutFrom 7 = .ok (.putfield 37, 3) := dk_at dkB02decX0_3 17 rfl
theorem dX0_cutFrom_10 : decode cX0_cutFrom 10 = .ok (.aload_n 0, 1) := dk_at dkB02decX0_3 18 rfl
theorem dX0_cutFrom_11 : decode cX0_cutFrom 11 = .ok (.iconst 0, 1) := dk_at dkB02decX0_3 19 rfl
theorem dX0_cutFrom_12 : decode cX0_cutFrom 12 = .ok (.putfield 47, 3) := dk_at dkB02decX0_3 20 rfl
theorem dX0_cutFrom_15 : decode cX0_cutFrom 15 = .ok (.aload_n 0, 1) := dk_at dkB02decX0_3 21 rfl
theorem dX0_cutFrom_16 : decode cX0_cutFrom 16 = .ok (.iconst 0, 1) := dk_at dkB02decX0_3 22 rfl
theorem dX0_cutFrom_17 : decode cX0_cutFrom 17 = .ok (.putfield 44, 3) := dk_at dkB02decX0_3 23 rfl
theorem dX0_cutFrom_20 : decode cX0_cutFrom 20 = .ok (.iconst 0, 1) := dk_at dkB02decX0_3 24 rfl
theorem dX0_cutFrom_21 : decode cX0_cutFrom 21 = .ok (.istore_n 3, 1) := dk_at dkB02decX0_3 25 rfl
theorem dX0_cutFrom_22 : decode cX0_cutFrom 22 = .ok (.iload_n 3, 1) := dk_at dkB02decX0_3 26 rfl
theorem dX0_cutFrom_23 : decode cX0_cutFrom 23 = .ok (.iload_n 2, 1) := dk_at dkB02decX0_3 27 rfl
theorem dX0_cutFrom_24 : decode cX0_cutFrom 24 = .ok (.if_icmp .ge 47, 3) := dk_at dkB02decX0_3 28 rfl
theorem dX0_cutFrom_27 : decode cX0_cutFrom 27 = .ok (.aload_n 0, 1) := dk_at dkB02decX0_3 29 rfl
theorem dX0_cutFrom_28 : decode cX0_cutFrom 28 = .ok (.getfield 27, 3) := dk_at dkB02decX0_3 30 rfl
theorem dX0_cutFrom_31 : decode cX0_cutFrom 31 = .ok (.iload_n 3, 1) := dk_at dkB02decX0_3 31 rfl
theorem dX0_cutFrom_32 : decode cX0_cutFrom 32 = .ok (.iaload, 1) := dk_at dkB02decX0_3 32 rfl
theorem dX0_cutFrom_33 : decode cX0_cutFrom 33 = .ok (.iload_n 1, 1) := dk_at dkB02decX0_3 33 rfl
theorem dX0_cutFrom_34 : decode cX0_cutFrom 34 = .ok (.if_icmp .ge 31, 3) := dk_at dkB02decX0_3 34 rfl
theorem dX0_cutFrom_37 : decode cX0_cutFrom 37 = .ok (.aload_n 0, 1) := dk_at dkB02decX0_3 35 rfl
theorem dX0_cutFrom_38 : decode cX0_cutFrom 38 = .ok (.aload_n 0, 1) := dk_at dkB02decX0_3 36 rfl
theorem dX0_cutFrom_39 : decode cX0_cutFrom 39 = .ok (.getfield 21, 3) := dk_at dkB02decX0_3 37 rfl
theorem dX0_cutFrom_42 : decode cX0_cutFrom 42 = .ok (.iload_n 3, 1) := dk_at dkB02decX0_3 38 rfl
theorem dX0_cutFrom_43 : decode cX0_cutFrom 43 = .ok (.iaload, 1) := dk_at dkB02decX0_3 39 rfl
theorem dX0_cutFrom_44 : decode cX0_cutFrom 44 = .ok (.aload_n 0, 1) := dk_at dkB02decX0_3 40 rfl
theorem dX0_cutFrom_45 : decode cX0_cutFrom 45 = .ok (.getfield 24, 3) := dk_at dkB02decX0_3 41 rfl
theorem dX0_cutFrom_48 : decode cX0_cutFrom 48 = .ok (.iload_n 3, 1) := dk_at dkB02decX0_3 42 rfl
theorem dX0_cutFrom_49 : decode cX0_cutFrom 49 = .ok (.iaload, 1) := dk_at dkB02decX0_3 43 rfl
theorem dX0_cutFrom_50 : decode cX0_cutFrom 50 = .ok (.aload_n 0, 1) := dk_at dkB02decX0_3 44 rfl
theorem dX0_cutFrom_51 : decode cX0_cutFrom 51 = .ok (.getfield 27, 3) := dk_at dkB02decX0_3 45 rfl
theorem dX0_cutFrom_54 : decode cX0_cutFrom 54 = .ok (.iload_n 3, 1) := dk_at dkB02decX0_3 46 rfl
theorem dX0_cutFrom_55 : decode cX0_cutFrom 55 = .ok (.iaload, 1) := dk_at dkB02decX0_3 47 rfl
theorem dX0_cutFrom_56 : decode cX0_cutFrom 56 = .ok (.aload_n 0, 1) := dk_at dkB02decX0_3 48 rfl
theorem dX0_cutFrom_57 : decode cX0_cutFrom 57 = .ok (.getfield 30, 3) := dk_at dkB02decX0_3 49 rfl
theorem dX0_cutFrom_60 : decode cX0_cutFrom 60 = .ok (.iload_n 3, 1) := dk_at dkB02decX0_3 50 rfl
theorem dX0_cutFrom_61 : decode cX0_cutFrom 61 = .ok (.iaload, 1) := dk_at dkB02decX0_3 51 rfl
theorem dX0_cutFrom_62 : decode cX0_cutFrom 62 = .ok (.invokevirtual 77, 3) := dk_at dkB02decX0_3 52 rfl
theorem dX0_cutFrom_65 : decode cX0_cutFrom 65 = .ok (.iinc 3 1, 3) := dk_at dkB02decX0_3 53 rfl
theorem dX0_cutFrom_68 : decode cX0_cutFrom 68 = .ok (.goto (-46), 3) := dk_at dkB02decX0_3 54 rfl
theorem dX0_cutFrom_71 : decode cX0_cutFrom 71 = .ok (.return_, 1) := dk_at dkB02decX0_3 55 rfl
theorem dX0_take_0 : decode cX0_take 0 = .ok (.aload_n 1, 1) := dk_at dkB02decX0_3 56 rfl
theorem dX0_take_1 : decode cX0_take 1 = .ok (.getfield 9, 3) := dk_at dkB02decX0_3 57 rfl
theorem dX0_take_4 : decode cX0_take 4 = .ok (.aload_n 0, 1) := dk_at dkB02decX0_3 58 rfl
theorem dX0_take_5 : decode cX0_take 5 = .ok (.getfield 9, 3) := dk_at dkB02decX0_3 59 rfl
noncomputable def dkL02decX0_4 : List (ByteArray × Nat × Instr × Nat) := [(cX0_take, 8, (.invokestatic 81, 3)), (cX0_take, 11, (.aload_n 1, 1)), (cX0_take, 12, (.getfield 15, 3)), (cX0_take, 15, (.aload_n 0, 1)), (cX0_take, 16, (.getfield 15, 3)), (cX0_take, 19, (.invokestatic 81, 3)), (cX0_take, 22, (.aload_n 1, 1)), (cX0_take, 23, (.getfield 18, 3)), (cX0_take, 26, (.aload_n 0, 1)), (cX0_take, 27, (.getfield 18, 3)), (cX0_take, 30, (.invokestatic 81, 3)), (cX0_take, 33, (.aload_n 1, 1)), (cX0_take, 34, (.getfield 21, 3)), (cX0_take, 37, (.aload_n 0, 1)), (cX0_take, 38, (.getfield 21, 3)), (cX0_take, 41, (.invokestatic 81, 3)), (cX0_take, 44, (.aload_n 1, 1)), (cX0_take, 45, (.getfield 24, 3)), (cX0_take, 48, (.aload_n 0, 1)), (cX0_take, 49, (.getfield 24, 3)), (cX0_take, 52, (.invokestatic 81, 3)), (cX0_take, 55, (.aload_n 1, 1)), (cX0_take, 56, (.getfield 27, 3)), (cX0_take, 59, (.aload_n 0, 1)), (cX0_take, 60, (.getfield 27, 3)), (cX0_take, 63, (.invokestatic 81, 3)), (cX0_take, 66, (.aload_n 1, 1)), (cX0_take, 67, (.getfield 30, 3)), (cX0_take, 70, (.aload_n 0, 1)), (cX0_take, 71, (.getfield 30, 3)), (cX0_take, 74, (.invokestatic 81, 3)), (cX0_take, 77, (.aload_n 0, 1)), (cX0_take, 78, (.aload_n 1, 1)), (cX0_take, 79, (.getfield 37, 3)), (cX0_take, 82, (.putfield 37, 3)), (cX0_take, 85, (.aload_n 0, 1)), (cX0_take, 86, (.aload_n 1, 1)), (cX0_take, 87, (.getfield 44, 3)), (cX0_take, 90, (.putfield 44, 3)), (cX0_take, 93, (.aload_n 0, 1)), (cX0_take, 94, (.aload_n 1, 1)), (cX0_take, 95, (.getfield 33, 3)), (cX0_take, 98, (.putfield 33, 3)), (cX0_take, 101, (.aload_n 0, 1)), (cX0_take, 102, (.aload_n 1, 1)), (cX0_take, 103, (.getfield 47, 3)), (cX0_take, 106, (.putfield 47, 3)), (cX0_take, 109, (.return_, 1)), (cX1_init, 0, (.aload_n 0, 1)), (cX1_init, 1, (.invokespecial 3, 3)), (cX1_init, 4, (.aload_n 0, 1)), (cX1_init, 5, (.iconst 2, 1)), (cX1_init, 6, (.newarray .int, 2)), (cX1_init, 8, (.putfield 9, 3)), (cX1_init, 11, (.aload_n 0, 1)), (cX1_init, 12, (.iconst 2, 1)), (cX1_init, 13, (.newarray .int, 2)), (cX1_init, 15, (.putfield 15, 3)), (cX1_init, 18, (.aload_n 0, 1)), (cX1_init, 19, (.iconst 2, 1))]
theorem dkB02decX0_4 : dkL02decX0_4.all (fun q => decide (decode q.1 q.2.1 = .ok q.2.2)) = true := by decide +kernel
theorem dX0_take_8 : decode cX0_take 8 = .ok (.invokestatic 81, 3) := dk_at dkB02decX0_4 0 rfl
theorem dX0_take_11 : decode cX0_take 11 = .ok (.aload_n 1, 1) := dk_at dkB02decX0_4 1 rfl
theorem dX0_take_12 : decode cX0_take 12 = .ok (.getfield 15, 3) := dk_at dkB02decX0_4 2 rfl
theorem dX0_take_15 : decode cX0_take 15 = .ok (.aload_n 0, 1) := dk_at dkB02decX0_4 3 rfl
theorem dX0_take_16 : decode cX0_take 16 = .ok (.getfield 15, 3) := dk_at dkB02decX0_4 4 rfl
theorem dX0_take_19 : decode cX0_take 19 = .ok (.invokestatic 81, 3) := dk_at dkB02decX0_4 5 rfl
theorem dX0_take_22 : decode cX0_take 22 = .ok (.aload_n 1, 1) := dk_at dkB02decX0_4 6 rfl
theorem dX0_take_23 : decode cX0_take 23 = .ok (.getfield 18, 3) := dk_at dkB02decX0_4 7 rfl
theorem dX0_take_26 : decode cX0_take 26 = .ok (.aload_n 0, 1) := dk_at dkB02decX0_4 8 rfl
theorem dX0_take_27 : decode cX0_take 27 = .ok (.getfield 18, 3) := dk_at dkB02decX0_4 9 rfl
theorem dX0_take_30 : decode cX0_take 30 = .ok (.invokestatic 81, 3) := dk_at dkB02decX0_4 10 rfl
theorem dX0_take_33 : decode cX0_take 33 = .ok (.aload_n 1, 1) := dk_at dkB02decX0_4 11 rfl
theorem dX0_take_34 : decode cX0_take 34 = .ok (.getfield 21, 3) := dk_at dkB02decX0_4 12 rfl
theorem dX0_take_37 : decode cX0_take 37 = .ok (.aload_n 0, 1) := dk_at dkB02decX0_4 13 rfl
theorem dX0_take_38 : decode cX0_take 38 = .ok (.getfield 21, 3) := dk_at dkB02decX0_4 14 rfl
theorem dX0_take_41 : decode cX0_take 41 = .ok (.invokestatic 81, 3) := dk_at dkB02decX0_4 15 rfl
theorem dX0_take_44 : decode cX0_take 44 = .ok (.aload_n 1, 1) := dk_at dkB02decX0_4 16 rfl
theorem dX0_take_45 : decode cX0_take 45 = .ok (.getfield 24, 3) := dk_at dkB02decX0_4 17 rfl
theorem dX0_take_48 : decode cX0_take 48 = .ok (.aload_n 0, 1) := dk_at dkB02decX0_4 18 rfl
theorem dX0_take_49 : decode cX0_take 49 = .ok (.getfield 24, 3) := dk_at dkB02decX0_4 19 rfl
theorem dX0_take_52 : decode cX0_take 52 = .ok (.invokestatic 81, 3) := dk_at dkB02decX0_4 20 rfl
theorem dX0_take_55 : decode cX0_take 55 = .ok (.aload_n 1, 1) := dk_at dkB02decX0_4 21 rfl
theorem dX0_take_56 : decode cX0_take 56 = .ok (.getfield 27, 3) := dk_at dkB02decX0_4 22 rfl
theorem dX0_take_59 : decode cX0_take 59 = .ok (.aload_n 0, 1) := dk_at dkB02decX0_4 23 rfl
theorem dX0_take_60 : decode cX0_take 60 = .ok (.getfield 27, 3) := dk_at dkB02decX0_4 24 rfl
theorem dX0_take_63 : decode cX0_take 63 = .ok (.invokestatic 81, 3) := dk_at dkB02decX0_4 25 rfl
theorem dX0_take_66 : decode cX0_take 66 = .ok (.aload_n 1, 1) := dk_at dkB02decX0_4 26 rfl
theorem dX0_take_67 : decode cX0_take 67 = .ok (.getfield 30, 3) := dk_at dkB02decX0_4 27 rfl
theorem dX0_take_70 : decode cX0_take 70 = .ok (.aload_n 0, 1) := dk_at dkB02decX0_4 28 rfl
theorem dX0_take_71 : decode cX0_take 71 = .ok (.getfield 30, 3) := dk_at dkB02decX0_4 29 rfl
theorem dX0_take_74 : decode cX0_take 74 = .ok (.invokestatic 81, 3) := dk_at dkB02decX0_4 30 rfl
theorem dX0_take_77 : decode cX0_take 77 = .ok (.aload_n 0, 1) := dk_at dkB02decX0_4 31 rfl
theorem dX0_take_78 : decode cX0_take 78 = .ok (.aload_n 1, 1) := dk_at dkB02decX0_4 32 rfl
theorem dX0_take_79 : decode cX0_take 79 = .ok (.getfield 37, 3) := dk_at dkB02decX0_4 33 rfl
theorem dX0_take_82 : decode cX0_take 82 = .ok (.putfield 37, 3) := dk_at dkB02decX0_4 34 rfl
theorem dX0_take_85 : decode cX0_take 85 = .ok (.aload_n 0, 1) := dk_at dkB02decX0_4 35 rfl
theorem dX0_take_86 : decode cX0_take 86 = .ok (.aload_n 1, 1) := dk_at dkB02decX0_4 36 rfl
theorem dX0_take_87 : decode cX0_take 87 = .ok (.getfield 44, 3) := dk_at dkB02decX0_4 37 rfl
theorem dX0_take_90 : decode cX0_take 90 = .ok (.putfield 44, 3) := dk_at dkB02decX0_4 38 rfl
theorem dX0_take_93 : decode cX0_take 93 = .ok (.aload_n 0, 1) := dk_at dkB02decX0_4 39 rfl
theorem dX0_take_94 : decode cX0_take 94 = .ok (.aload_n 1, 1) := dk_at dkB02decX0_4 40 rfl
theorem dX0_take_95 : decode cX0_take 95 = .ok (.getfield 33, 3) := dk_at dkB02decX0_4 41 rfl
theorem dX0_take_98 : decode cX0_take 98 = .ok (.putfield 33, 3) := dk_at dkB02decX0_4 42 rfl
theorem dX0_take_101 : decode cX0_take 101 = .ok (.aload_n 0, 1) := dk_at dkB02decX0_4 43 rfl
theorem dX0_take_102 : decode cX0_take 102 = .ok (.aload_n 1, 1) := dk_at dkB02decX0_4 44 rfl
theorem dX0_take_103 : decode cX0_take 103 = .ok (.getfield 47, 3) := dk_at dkB02decX0_4 45 rfl
theorem dX0_take_106 : decode cX0_take 106 = .ok (.putfield 47, 3) := dk_at dkB02decX0_4 46 rfl
theorem dX0_take_109 : decode cX0_take 109 = .ok (.return_, 1) := dk_at dkB02decX0_4 47 rfl
theorem dX1_init_0 : decode cX1_init 0 = .ok (.aload_n 0, 1) := dk_at dkB02decX0_4 48 rfl
theorem dX1_init_1 : decode cX1_init 1 = .ok (.invokespecial 3, 3) := dk_at dkB02decX0_4 49 rfl
theorem dX1_init_4 : decode cX1_init 4 = .ok (.aload_n 0, 1) := dk_at dkB02decX0_4 50 rfl
theorem dX1_init_5 : decode cX1_init 5 = .ok (.iconst 2, 1) := dk_at dkB02decX0_4 51 rfl
theorem dX1_init_6 : decode cX1_init 6 = .ok (.newarray .int, 2) := dk_at dkB02decX0_4 52 rfl
theorem dX1_init_8 : decode cX1_init 8 = .ok (.putfield 9, 3) := dk_at dkB02decX0_4 53 rfl
theorem dX1_init_11 : decode cX1_init 11 = .ok (.aload_n 0, 1) := dk_at dkB02decX0_4 54 rfl
theorem dX1_init_12 : decode cX1_init 12 = .ok (.iconst 2, 1) := dk_at dkB02decX0_4 55 rfl
theorem dX1_init_13 : decode cX1_init 13 = .ok (.newarray .int, 2) := dk_at dkB02decX0_4 56 rfl
theorem dX1_init_15 : decode cX1_init 15 = .ok (.putfield 15, 3) := dk_at dkB02decX0_4 57 rfl
theorem dX1_init_18 : decode cX1_init 18 = .ok (.aload_n 0, 1) := dk_at dkB02decX0_4 58 rfl
theorem dX1_init_19 : decode cX1_init 19 = .ok (.iconst 2, 1) := dk_at dkB02decX0_4 59 rfl
noncomputable def dkL02decX0_5 : List (ByteArray × Nat × Instr × Nat) := [(cX1_init, 20, (.newarray .int, 2)), (cX1_init, 22, (.putfield 18, 3)), (cX1_init, 25, (.aload_n 0, 1)), (cX1_init, 26, (.iconst 2, 1)), (cX1_init, 27, (.newarray .int, 2)), (cX1_init, 29, (.putfield 21, 3)), (cX1_init, 32, (.aload_n 0, 1)), (cX1_init, 33, (.iconst 2, 1)), (cX1_init, 34, (.newarray .int, 2)), (cX1_init, 36, (.putfield 24, 3)), (cX1_init, 39, (.aload_n 0, 1)), (cX1_init, 40, (.iconst 2, 1)), (cX1_init, 41, (.newarray .boolean, 2)), (cX1_init, 43, (.putfield 27, 3)), (cX1_init, 46, (.return_, 1)), (cX1_counts, 0, (.aload_n 0, 1)), (cX1_counts, 1, (.getfield 9, 3)), (cX1_counts, 4, (.iload_n 1, 1)), (cX1_counts, 5, (.iaload, 1)), (cX1_counts, 6, (.bipush 42, 2)), (cX1_counts, 8, (.if_icmp .ne 9, 3)), (cX1_counts, 11, (.aload_n 2, 1)), (cX1_counts, 12, (.iload_n 3, 1)), (cX1_counts, 13, (.invokevirtual 31, 3)), (cX1_counts, 16, (.ireturn, 1)), (cX1_counts, 17, (.aload_n 2, 1)), (cX1_counts, 18, (.getfield 37, 3)), (cX1_counts, 21, (.iload_n 3, 1)), (cX1_counts, 22, (.iaload, 1)), (cX1_counts, 23, (.istore 4, 2)), (cX1_counts, 25, (.aload_n 0, 1)), (cX1_counts, 26, (.getfield 9, 3)), (cX1_counts, 29, (.iload_n 1, 1)), (cX1_counts, 30, (.iaload, 1)), (cX1_counts, 31, (.bipush 60, 2)), (cX1_counts, 33, (.if_icmp .ne 22, 3)), (cX1_counts, 36, (.iload 4, 2)), (cX1_counts, 38, (.aload_n 0, 1)), (cX1_counts, 39, (.getfield 15, 3)), (cX1_counts, 42, (.iload_n 1, 1)), (cX1_counts, 43, (.iaload, 1)), (cX1_counts, 44, (.if_icmp .ge 7, 3)), (cX1_counts, 47, (.iconst 1, 1)), (cX1_counts, 48, (.goto 23, 3)), (cX1_counts, 51, (.iconst 0, 1)), (cX1_counts, 52, (.goto 19, 3)), (cX1_counts, 55, (.iload 4, 2)), (cX1_counts, 57, (.aload_n 0, 1)), (cX1_counts, 58, (.getfield 15, 3)), (cX1_counts, 61, (.iload_n 1, 1)), (cX1_counts, 62, (.iaload, 1)), (cX1_counts, 63, (.if_icmp .le 7, 3)), (cX1_counts, 66, (.iconst 1, 1)), (cX1_counts, 67, (.goto 4, 3)), (cX1_counts, 70, (.iconst 0, 1)), (cX1_counts, 71, (.istore 5, 2)), (cX1_counts, 73, (.aload_n 2, 1)), (cX1_counts, 74, (.getfield 38, 3)), (cX1_counts, 77, (.iload_n 3, 1)), (cX1_counts, 78, (.iaload, 1))]
theorem dkB02decX0_5 : dkL02decX0_5.all (fun q => decide (decode q.1 q.2.1 = .ok q.2.2)) = true := by decide +kernel
theorem dX1_init_20 : decode cX1_init 20 = .ok (.newarray .int, 2) := dk_at dkB02decX0_5 0 rfl
theorem dX1_init_22 : decode cX1_init 22 = .ok (.putfield 18, 3) := dk_at dkB02decX0_5 1 rfl
theorem dX1_init_25 : decode cX1_init 25 = .ok (.aload_n 0, 1) := dk_at dkB02decX0_5 2 rfl
theorem dX1_init_26 : decode cX1_init 26 = .ok (.iconst 2, 1) := dk_at dkB02decX0_5 3 rfl
theorem dX1_init_27 : decode cX1_init 27 = .ok (.newarray .int, 2) := dk_at dkB02decX0_5 4 rfl
theorem dX1_init_29 : decode cX1_init 29 = .ok (.putfield 21, 3) := dk_at dkB02decX0_5 5 rfl
theorem dX1_init_32 : decode cX1_init 32 = .ok (.aload_n 0, 1) := dk_at dkB02decX0_5 6 rfl
theorem dX1_init_33 : decode cX1_init 33 = .ok (.iconst 2, 1) := dk_at dkB02decX0_5 7 rfl
theorem dX1_init_34 : decode cX1_init 34 = .ok (.newarray .int, 2) := dk_at dkB02decX0_5 8 rfl
theorem dX1_init_36 : decode cX1_init 36 = .ok (.putfield 24, 3) := dk_at dkB02decX0_5 9 rfl
theorem dX1_init_39 : decode cX1_init 39 = .ok (.aload_n 0, 1) := dk_at dkB02decX0_5 10 rfl
theorem dX1_init_40 : decode cX1_init 40 = .ok (.iconst 2, 1) := dk_at dkB02decX0_5 11 rfl
theorem dX1_init_41 : decode cX1_init 41 = .ok (.newarray .boolean, 2) := dk_at dkB02decX0_5 12 rfl
theorem dX1_init_43 : decode cX1_init 43 = .ok (.putfield 27, 3) := dk_at dkB02decX0_5 13 rfl
theorem dX1_init_46 : decode cX1_init 46 = .ok (.return_, 1) := dk_at dkB02decX0_5 14 rfl
theorem dX1_counts_0 : decode cX1_counts 0 = .ok (.aload_n 0, 1) := dk_at dkB02decX0_5 15 rfl
theorem dX1_counts_1 : decode cX1_counts 1 = .ok (.getfield 9, 3) := dk_at dkB02decX0_5 16 rfl
theorem dX1_counts_4 : decode cX1_counts 4 = .ok (.iload_n 1, 1) := dk_at dkB02decX0_5 17 rfl
theorem dX1_counts_5 : decode cX1_counts 5 = .ok (.iaload, 1) := dk_at dkB02decX0_5 18 rfl
theorem dX1_counts_6 : decode cX1_counts 6 = .ok (.bipush 42, 2) := dk_at dkB02decX0_5 19 rfl
theorem dX1_counts_8 : decode cX1_counts 8 = .ok (.if_icmp .ne 9, 3) := dk_at dkB02decX0_5 20 rfl
theorem dX1_counts_11 : decode cX1_counts 11 = .ok (.aload_n 2, 1) := dk_at dkB02decX0_5 21 rfl
theorem dX1_counts_12 : decode cX1_counts 12 = .ok (.iload_n 3, 1) := dk_at dkB02decX0_5 22 rfl
theorem dX1_counts_13 : decode cX1_counts 13 = .ok (.invokevirtual 31, 3) := dk_at dkB02decX0_5 23 rfl
theorem dX1_counts_16 : decode cX1_counts 16 = .ok (.ireturn, 1) := dk_at dkB02decX0_5 24 rfl
theorem dX1_counts_17 : decode cX1_counts 17 = .ok (.aload_n 2, 1) := dk_at dkB02decX0_5 25 rfl
theorem dX1_counts_18 : decode cX1_counts 18 = .ok (.getfield 37, 3) := dk_at dkB02decX0_5 26 rfl
theorem dX1_counts_21 : decode cX1_counts 21 = .ok (.iload_n 3, 1) := dk_at dkB02decX0_5 27 rfl
theorem dX1_counts_22 : decode cX1_counts 22 = .ok (.iaload, 1) := dk_at dkB02decX0_5 28 rfl
theorem dX1_counts_23 : decode cX1_counts 23 = .ok (.istore 4, 2) := dk_at dkB02decX0_5 29 rfl
theorem dX1_counts_25 : decode cX1_counts 25 = .ok (.aload_n 0, 1) := dk_at dkB02decX0_5 30 rfl
theorem dX1_counts_26 : decode cX1_counts 26 = .ok (.getfield 9, 3) := dk_at dkB02decX0_5 31 rfl
theorem dX1_counts_29 : decode cX1_counts 29 = .ok (.iload_n 1, 1) := dk_at dkB02decX0_5 32 rfl
theorem dX1_counts_30 : decode cX1_counts 30 = .ok (.iaload, 1) := dk_at dkB02decX0_5 33 rfl
theorem dX1_counts_31 : decode cX1_counts 31 = .ok (.bipush 60, 2) := dk_at dkB02decX0_5 34 rfl
theorem dX1_counts_33 : decode cX1_counts 33 = .ok (.if_icmp .ne 22, 3) := dk_at dkB02decX0_5 35 rfl
theorem dX1_counts_36 : decode cX1_counts 36 = .ok (.iload 4, 2) := dk_at dkB02decX0_5 36 rfl
theorem dX1_counts_38 : decode cX1_counts 38 = .ok (.aload_n 0, 1) := dk_at dkB02decX0_5 37 rfl
theorem dX1_counts_39 : decode cX1_counts 39 = .ok (.getfield 15, 3) := dk_at dkB02decX0_5 38 rfl
theorem dX1_counts_42 : decode cX1_counts 42 = .ok (.iload_n 1, 1) := dk_at dkB02decX0_5 39 rfl
theorem dX1_counts_43 : decode cX1_counts 43 = .ok (.iaload, 1) := dk_at dkB02decX0_5 40 rfl
theorem dX1_counts_44 : decode cX1_counts 44 = .ok (.if_icmp .ge 7, 3) := dk_at dkB02decX0_5 41 rfl
theorem dX1_counts_47 : decode cX1_counts 47 = .ok (.iconst 1, 1) := dk_at dkB02decX0_5 42 rfl
theorem dX1_counts_48 : decode cX1_counts 48 = .ok (.goto 23, 3) := dk_at dkB02decX0_5 43 rfl
theorem dX1_counts_51 : decode cX1_counts 51 = .ok (.iconst 0, 1) := dk_at dkB02decX0_5 44 rfl
theorem dX1_counts_52 : decode cX1_counts 52 = .ok (.goto 19, 3) := dk_at dkB02decX0_5 45 rfl
theorem dX1_counts_55 : decode cX1_counts 55 = .ok (.iload 4, 2) := dk_at dkB02decX0_5 46 rfl
theorem dX1_counts_57 : decode cX1_counts 57 = .ok (.aload_n 0, 1) := dk_at dkB02decX0_5 47 rfl
theorem dX1_counts_58 : decode cX1_counts 58 = .ok (.getfield 15, 3) := dk_at dkB02decX0_5 48 rfl
theorem dX1_counts_61 : decode cX1_counts 61 = .ok (.iload_n 1, 1) := dk_at dkB02decX0_5 49 rfl
theorem dX1_counts_62 : decode cX1_counts 62 = .ok (.iaload, 1) := dk_at dkB02decX0_5 50 rfl
theorem dX1_counts_63 : decode cX1_counts 63 = .ok (.if_icmp .le 7, 3) := dk_at dkB02decX0_5 51 rfl
theorem dX1_counts_66 : decode cX1_counts 66 = .ok (.iconst 1, 1) := dk_at dkB02decX0_5 52 rfl
theorem dX1_counts_67 : decode cX1_counts 67 = .ok (.goto 4, 3) := dk_at dkB02decX0_5 53 rfl
theorem dX1_counts_70 : decode cX1_counts 70 = .ok (.iconst 0, 1) := dk_at dkB02decX0_5 54 rfl
theorem dX1_counts_71 : decode cX1_counts 71 = .ok (.istore 5, 2) := dk_at dkB02decX0_5 55 rfl
theorem dX1_counts_73 : decode cX1_counts 73 = .ok (.aload_n 2, 1) := dk_at dkB02decX0_5 56 rfl
theorem dX1_counts_74 : decode cX1_counts 74 = .ok (.getfield 38, 3) := dk_at dkB02decX0_5 57 rfl
theorem dX1_counts_77 : decode cX1_counts 77 = .ok (.iload_n 3, 1) := dk_at dkB02decX0_5 58 rfl
theorem dX1_counts_78 : decode cX1_counts 78 = .ok (.iaload, 1) := dk_at dkB02decX0_5 59 rfl
noncomputable def dkL02decX0_6 : List (ByteArray × Nat × Instr × Nat) := [(cX1_counts, 79, (.ifCond .ne 12, 3)), (cX1_counts, 82, (.iload 5, 2)), (cX1_counts, 84, (.ifCond .eq 7, 3)), (cX1_counts, 87, (.iconst 1, 1)), (cX1_counts, 88, (.goto 4, 3)), (cX1_counts, 91, (.iconst 0, 1)), (cX1_counts, 92, (.ireturn, 1)), (cX1_seenInTruth, 0, (.iconst 0, 1)), (cX1_seenInTruth, 1, (.istore_n 3, 1)), (cX1_seenInTruth, 2, (.iconst 0, 1)), (cX1_seenInTruth, 3, (.istore 4, 2)), (cX1_seenInTruth, 5, (.iload 4, 2)), (cX1_seenInTruth, 7, (.aload_n 2, 1)), (cX1_seenInTruth, 8, (.getfield 41, 3)), (cX1_seenInTruth, 11, (.if_icmp .ge 48, 3)), (cX1_seenInTruth, 14, (.aload_n 0, 1)), (cX1_seenInTruth, 15, (.iload_n 1, 1)), (cX1_seenInTruth, 16, (.aload_n 2, 1)), (cX1_seenInTruth, 17, (.iload 4, 2)), (cX1_seenInTruth, 19, (.invokevirtual 45, 3)), (cX1_seenInTruth, 22, (.ifCond .eq 31, 3)), (cX1_seenInTruth, 25, (.aload_n 2, 1)), (cX1_seenInTruth, 26, (.getfield 49, 3)), (cX1_seenInTruth, 29, (.iload 4, 2)), (cX1_seenInTruth, 31, (.iaload, 1)), (cX1_seenInTruth, 32, (.aload_n 0, 1)), (cX1_seenInTruth, 33, (.getfield 18, 3)), (cX1_seenInTruth, 36, (.iload_n 1, 1)), (cX1_seenInTruth, 37, (.iaload, 1)), (cX1_seenInTruth, 38, (.aload_n 0, 1)), (cX1_seenInTruth, 39, (.getfield 21, 3)), (cX1_seenInTruth, 42, (.iload_n 1, 1)), (cX1_seenInTruth, 43, (.iaload, 1)), (cX1_seenInTruth, 44, (.invokestatic 52, 3)), (cX1_seenInTruth, 47, (.ifCond .eq 6, 3)), (cX1_seenInTruth, 50, (.iinc 3 1, 3)), (cX1_seenInTruth, 53, (.iinc 4 1, 3)), (cX1_seenInTruth, 56, (.goto (-51), 3)), (cX1_seenInTruth, 59, (.iload_n 3, 1)), (cX1_seenInTruth, 60, (.ireturn, 1)), (cX1_isSo, 0, (.iload_n 1, 1)), (cX1_isSo, 1, (.aload_n 0, 1)), (cX1_isSo, 2, (.getfield 24, 3)), (cX1_isSo, 5, (.iconst 0, 1)), (cX1_isSo, 6, (.iaload, 1)), (cX1_isSo, 7, (.if_icmp .lt 7, 3)), (cX1_isSo, 10, (.iconst 1, 1)), (cX1_isSo, 11, (.goto 4, 3)), (cX1_isSo, 14, (.iconst 0, 1)), (cX1_isSo, 15, (.aload_n 0, 1)), (cX1_isSo, 16, (.getfield 27, 3)), (cX1_isSo, 19, (.iconst 0, 1)), (cX1_isSo, 20, (.baload, 1)), (cX1_isSo, 21, (.if_icmp .eq 7, 3)), (cX1_isSo, 24, (.iconst 1, 1)), (cX1_isSo, 25, (.goto 4, 3)), (cX1_isSo, 28, (.iconst 0, 1)), (cX1_isSo, 29, (.istore_n 3, 1)), (cX1_isSo, 30, (.iload_n 2, 1)), (cX1_isSo, 31, (.aload_n 0, 1))]
theorem dkB02decX0_6 : dkL02decX0_6.all (fun q => decide (decode q.1 q.2.1 = .ok q.2.2)) = true := by decide +kernel
theorem dX1_counts_79 : decode cX1_counts 79 = .ok (.ifCond .ne 12, 3) := dk_at dkB02decX0_6 0 rfl
theorem dX1_counts_82 : decode cX1_counts 82 = .ok (.iload 5, 2) := dk_at dkB02decX0_6 1 rfl
theorem dX1_counts_84 : decode cX1_counts 84 = .ok (.ifCond .eq 7, 3) := dk_at dkB02decX0_6 2 rfl
theorem dX1_counts_87 : decode cX1_counts 87 = .ok (.iconst 1, 1) := dk_at dkB02decX0_6 3 rfl
theorem dX1_counts_88 : decode cX1_counts 88 = .ok (.goto 4, 3) := dk_at dkB02decX0_6 4 rfl
theorem dX1_counts_91 : decode cX1_counts 91 = .ok (.iconst 0, 1) := dk_at dkB02decX0_6 5 rfl
theorem dX1_counts_92 : decode cX1_counts 92 = .ok (.ireturn, 1) := dk_at dkB02decX0_6 6 rfl
theorem dX1_seenInTruth_0 : decode cX1_seenInTruth 0 = .ok (.iconst 0, 1) := dk_at dkB02decX0_6 7 rfl
theorem dX1_seenInTruth_1 : decode cX1_seenInTruth 1 = .ok (.istore_n 3, 1) := dk_at dkB02decX0_6 8 rfl
theorem dX1_seenInTruth_2 : decode cX1_seenInTruth 2 = .ok (.iconst 0, 1) := dk_at dkB02decX0_6 9 rfl
theorem dX1_seenInTruth_3 : decode cX1_seenInTruth 3 = .ok (.istore 4, 2) := dk_at dkB02decX0_6 10 rfl
theorem dX1_seenInTruth_5 : decode cX1_seenInTruth 5 = .ok (.iload 4, 2) := dk_at dkB02decX0_6 11 rfl
theorem dX1_seenInTruth_7 : decode cX1_seenInTruth 7 = .ok (.aload_n 2, 1) := dk_at dkB02decX0_6 12 rfl
theorem dX1_seenInTruth_8 : decode cX1_seenInTruth 8 = .ok (.getfield 41, 3) := dk_at dkB02decX0_6 13 rfl
theorem dX1_seenInTruth_11 : decode cX1_seenInTruth 11 = .ok (.if_icmp .ge 48, 3) := dk_at dkB02decX0_6 14 rfl
theorem dX1_seenInTruth_14 : decode cX1_seenInTruth 14 = .ok (.aload_n 0, 1) := dk_at dkB02decX0_6 15 rfl
theorem dX1_seenInTruth_15 : decode cX1_seenInTruth 15 = .ok (.iload_n 1, 1) := dk_at dkB02decX0_6 16 rfl
theorem dX1_seenInTruth_16 : decode cX1_seenInTruth 16 = .ok (.aload_n 2, 1) := dk_at dkB02decX0_6 17 rfl
theorem dX1_seenInTruth_17 : decode cX1_seenInTruth 17 = .ok (.iload 4, 2) := dk_at dkB02decX0_6 18 rfl
theorem dX1_seenInTruth_19 : decode cX1_seenInTruth 19 = .ok (.invokevirtual 45, 3) := dk_at dkB02decX0_6 19 rfl
theorem dX1_seenInTruth_22 : decode cX1_seenInTruth 22 = .ok (.ifCond .eq 31, 3) := dk_at dkB02decX0_6 20 rfl
theorem dX1_seenInTruth_25 : decode cX1_seenInTruth 25 = .ok (.aload_n 2, 1) := dk_at dkB02decX0_6 21 rfl
theorem dX1_seenInTruth_26 : decode cX1_seenInTruth 26 = .ok (.getfield 49, 3) := dk_at dkB02decX0_6 22 rfl
theorem dX1_seenInTruth_29 : decode cX1_seenInTruth 29 = .ok (.iload 4, 2) := dk_at dkB02decX0_6 23 rfl
theorem dX1_seenInTruth_31 : decode cX1_seenInTruth 31 = .ok (.iaload, 1) := dk_at dkB02decX0_6 24 rfl
theorem dX1_seenInTruth_32 : decode cX1_seenInTruth 32 = .ok (.aload_n 0, 1) := dk_at dkB02decX0_6 25 rfl
theorem dX1_seenInTruth_33 : decode cX1_seenInTruth 33 = .ok (.getfield 18, 3) := dk_at dkB02decX0_6 26 rfl
theorem dX1_seenInTruth_36 : decode cX1_seenInTruth 36 = .ok (.iload_n 1, 1) := dk_at dkB02decX0_6 27 rfl
theorem dX1_seenInTruth_37 : decode cX1_seenInTruth 37 = .ok (.iaload, 1) := dk_at dkB02decX0_6 28 rfl
theorem dX1_seenInTruth_38 : decode cX1_seenInTruth 38 = .ok (.aload_n 0, 1) := dk_at dkB02decX0_6 29 rfl
theorem dX1_seenInTruth_39 : decode cX1_seenInTruth 39 = .ok (.getfield 21, 3) := dk_at dkB02decX0_6 30 rfl
theorem dX1_seenInTruth_42 : decode cX1_seenInTruth 42 = .ok (.iload_n 1, 1) := dk_at dkB02decX0_6 31 rfl
theorem dX1_seenInTruth_43 : decode cX1_seenInTruth 43 = .ok (.iaload, 1) := dk_at dkB02decX0_6 32 rfl
theorem dX1_seenInTruth_44 : decode cX1_seenInTruth 44 = .ok (.invokestatic 52, 3) := dk_at dkB02decX0_6 33 rfl
theorem dX1_seenInTruth_47 : decode cX1_seenInTruth 47 = .ok (.ifCond .eq 6, 3) := dk_at dkB02decX0_6 34 rfl
theorem dX1_seenInTruth_50 : decode cX1_seenInTruth 50 = .ok (.iinc 3 1, 3) := dk_at dkB02decX0_6 35 rfl
theorem dX1_seenInTruth_53 : decode cX1_seenInTruth 53 = .ok (.iinc 4 1, 3) := dk_at dkB02decX0_6 36 rfl
theorem dX1_seenInTruth_56 : decode cX1_seenInTruth 56 = .ok (.goto (-51), 3) := dk_at dkB02decX0_6 37 rfl
theorem dX1_seenInTruth_59 : decode cX1_seenInTruth 59 = .ok (.iload_n 3, 1) := dk_at dkB02decX0_6 38 rfl
theorem dX1_seenInTruth_60 : decode cX1_seenInTruth 60 = .ok (.ireturn, 1) := dk_at dkB02decX0_6 39 rfl
theorem dX1_isSo_0 : decode cX1_isSo 0 = .ok (.iload_n 1, 1) := dk_at dkB02decX0_6 40 rfl
theorem dX1_isSo_1 : decode cX1_isSo 1 = .ok (.aload_n 0, 1) := dk_at dkB02decX0_6 41 rfl
theorem dX1_isSo_2 : decode cX1_isSo 2 = .ok (.getfield 24, 3) := dk_at dkB02decX0_6 42 rfl
theorem dX1_isSo_5 : decode cX1_isSo 5 = .ok (.iconst 0, 1) := dk_at dkB02decX0_6 43 rfl
theorem dX1_isSo_6 : decode cX1_isSo 6 = .ok (.iaload, 1) := dk_at dkB02decX0_6 44 rfl
theorem dX1_isSo_7 : decode cX1_isSo 7 = .ok (.if_icmp .lt 7, 3) := dk_at dkB02decX0_6 45 rfl
theorem dX1_isSo_10 : decode cX1_isSo 10 = .ok (.iconst 1, 1) := dk_at dkB02decX0_6 46 rfl
theorem dX1_isSo_11 : decode cX1_isSo 11 = .ok (.goto 4, 3) := dk_at dkB02decX0_6 47 rfl
theorem dX1_isSo_14 : decode cX1_isSo 14 = .ok (.iconst 0, 1) := dk_at dkB02decX0_6 48 rfl
theorem dX1_isSo_15 : decode cX1_isSo 15 = .ok (.aload_n 0, 1) := dk_at dkB02decX0_6 49 rfl
theorem dX1_isSo_16 : decode cX1_isSo 16 = .ok (.getfield 27, 3) := dk_at dkB02decX0_6 50 rfl
theorem dX1_isSo_19 : decode cX1_isSo 19 = .ok (.iconst 0, 1) := dk_at dkB02decX0_6 51 rfl
theorem dX1_isSo_20 : decode cX1_isSo 20 = .ok (.baload, 1) := dk_at dkB02decX0_6 52 rfl
theorem dX1_isSo_21 : decode cX1_isSo 21 = .ok (.if_icmp .eq 7, 3) := dk_at dkB02decX0_6 53 rfl
theorem dX1_isSo_24 : decode cX1_isSo 24 = .ok (.iconst 1, 1) := dk_at dkB02decX0_6 54 rfl
theorem dX1_isSo_25 : decode cX1_isSo 25 = .ok (.goto 4, 3) := dk_at dkB02decX0_6 55 rfl
theorem dX1_isSo_28 : decode cX1_isSo 28 = .ok (.iconst 0, 1) := dk_at dkB02decX0_6 56 rfl
theorem dX1_isSo_29 : decode cX1_isSo 29 = .ok (.istore_n 3, 1) := dk_at dkB02decX0_6 57 rfl
theorem dX1_isSo_30 : decode cX1_isSo 30 = .ok (.iload_n 2, 1) := dk_at dkB02decX0_6 58 rfl
theorem dX1_isSo_31 : decode cX1_isSo 31 = .ok (.aload_n 0, 1) := dk_at dkB02decX0_6 59 rfl
noncomputable def dkL02decX0_7 : List (ByteArray × Nat × Instr × Nat) := [(cX1_isSo, 32, (.getfield 24, 3)), (cX1_isSo, 35, (.iconst 1, 1)), (cX1_isSo, 36, (.iaload, 1)), (cX1_isSo, 37, (.if_icmp .lt 7, 3)), (cX1_isSo, 40, (.iconst 1, 1)), (cX1_isSo, 41, (.goto 4, 3)), (cX1_isSo, 44, (.iconst 0, 1)), (cX1_isSo, 45, (.aload_n 0, 1)), (cX1_isSo, 46, (.getfield 27, 3)), (cX1_isSo, 49, (.iconst 1, 1)), (cX1_isSo, 50, (.baload, 1)), (cX1_isSo, 51, (.if_icmp .eq 7, 3)), (cX1_isSo, 54, (.iconst 1, 1)), (cX1_isSo, 55, (.goto 4, 3)), (cX1_isSo, 58, (.iconst 0, 1)), (cX1_isSo, 59, (.istore 4, 2)), (cX1_isSo, 61, (.aload_n 0, 1)), (cX1_isSo, 62, (.getfield 56, 3)), (cX1_isSo, 65, (.iconst 1, 1)), (cX1_isSo, 66, (.if_icmp .ne 5, 3)), (cX1_isSo, 69, (.iload_n 3, 1)), (cX1_isSo, 70, (.ireturn, 1)), (cX1_isSo, 71, (.aload_n 0, 1)), (cX1_isSo, 72, (.getfield 59, 3)), (cX1_isSo, 75, (.ifCond .eq 20, 3)), (cX1_isSo, 78, (.iload_n 3, 1)), (cX1_isSo, 79, (.ifCond .ne 8, 3)), (cX1_isSo, 82, (.iload 4, 2)), (cX1_isSo, 84, (.ifCond .eq 7, 3)), (cX1_isSo, 87, (.iconst 1, 1)), (cX1_isSo, 88, (.goto 21, 3)), (cX1_isSo, 91, (.iconst 0, 1)), (cX1_isSo, 92, (.goto 17, 3)), (cX1_isSo, 95, (.iload_n 3, 1)), (cX1_isSo, 96, (.ifCond .eq 12, 3)), (cX1_isSo, 99, (.iload 4, 2)), (cX1_isSo, 101, (.ifCond .eq 7, 3)), (cX1_isSo, 104, (.iconst 1, 1)), (cX1_isSo, 105, (.goto 4, 3)), (cX1_isSo, 108, (.iconst 0, 1)), (cX1_isSo, 109, (.ireturn, 1)), (cX1_latest, 0, (.aload_n 0, 1)), (cX1_latest, 1, (.getfield 56, 3)), (cX1_latest, 4, (.iconst 1, 1)), (cX1_latest, 5, (.if_icmp .ne 12, 3)), (cX1_latest, 8, (.aload_n 0, 1)), (cX1_latest, 9, (.getfield 21, 3)), (cX1_latest, 12, (.iconst 0, 1)), (cX1_latest, 13, (.iaload, 1)), (cX1_latest, 14, (.goto 18, 3)), (cX1_latest, 17, (.aload_n 0, 1)), (cX1_latest, 18, (.getfield 21, 3)), (cX1_latest, 21, (.iconst 0, 1)), (cX1_latest, 22, (.iaload, 1)), (cX1_latest, 23, (.aload_n 0, 1)), (cX1_latest, 24, (.getfield 21, 3)), (cX1_latest, 27, (.iconst 1, 1)), (cX1_latest, 28, (.iaload, 1)), (cX1_latest, 29, (.invokestatic 63, 3)), (cX1_latest, 32, (.ireturn, 1))]
theorem dkB02decX0_7 : dkL02decX0_7.all (fun q => decide (decode q.1 q.2.1 = .ok q.2.2)) = true := by decide +kernel
theorem dX1_isSo_32 : decode cX1_isSo 32 = .ok (.getfield 24, 3) := dk_at dkB02decX0_7 0 rfl
theorem dX1_isSo_35 : decode cX1_isSo 35 = .ok (.iconst 1, 1) := dk_at dkB02decX0_7 1 rfl
theorem dX1_isSo_36 : decode cX1_isSo 36 = .ok (.iaload, 1) := dk_at dkB02decX0_7 2 rfl
theorem dX1_isSo_37 : decode cX1_isSo 37 = .ok (.if_icmp .lt 7, 3) := dk_at dkB02decX0_7 3 rfl
theorem dX1_isSo_40 : decode cX1_isSo 40 = .ok (.iconst 1, 1) := dk_at dkB02decX0_7 4 rfl
theorem dX1_isSo_41 : decode cX1_isSo 41 = .ok (.goto 4, 3) := dk_at dkB02decX0_7 5 rfl
theorem dX1_isSo_44 : decode cX1_isSo 44 = .ok (.iconst 0, 1) := dk_at dkB02decX0_7 6 rfl
theorem dX1_isSo_45 : decode cX1_isSo 45 = .ok (.aload_n 0, 1) := dk_at dkB02decX0_7 7 rfl
theorem dX1_isSo_46 : decode cX1_isSo 46 = .ok (.getfield 27, 3) := dk_at dkB02decX0_7 8 rfl
theorem dX1_isSo_49 : decode cX1_isSo 49 = .ok (.iconst 1, 1) := dk_at dkB02decX0_7 9 rfl
theorem dX1_isSo_50 : decode cX1_isSo 50 = .ok (.baload, 1) := dk_at dkB02decX0_7 10 rfl
theorem dX1_isSo_51 : decode cX1_isSo 51 = .ok (.if_icmp .eq 7, 3) := dk_at dkB02decX0_7 11 rfl
theorem dX1_isSo_54 : decode cX1_isSo 54 = .ok (.iconst 1, 1) := dk_at dkB02decX0_7 12 rfl
theorem dX1_isSo_55 : decode cX1_isSo 55 = .ok (.goto 4, 3) := dk_at dkB02decX0_7 13 rfl
theorem dX1_isSo_58 : decode cX1_isSo 58 = .ok (.iconst 0, 1) := dk_at dkB02decX0_7 14 rfl
theorem dX1_isSo_59 : decode cX1_isSo 59 = .ok (.istore 4, 2) := dk_at dkB02decX0_7 15 rfl
theorem dX1_isSo_61 : decode cX1_isSo 61 = .ok (.aload_n 0, 1) := dk_at dkB02decX0_7 16 rfl
theorem dX1_isSo_62 : decode cX1_isSo 62 = .ok (.getfield 56, 3) := dk_at dkB02decX0_7 17 rfl
theorem dX1_isSo_65 : decode cX1_isSo 65 = .ok (.iconst 1, 1) := dk_at dkB02decX0_7 18 rfl
theorem dX1_isSo_66 : decode cX1_isSo 66 = .ok (.if_icmp .ne 5, 3) := dk_at dkB02decX0_7 19 rfl
theorem dX1_isSo_69 : decode cX1_isSo 69 = .ok (.iload_n 3, 1) := dk_at dkB02decX0_7 20 rfl
theorem dX1_isSo_70 : decode cX1_isSo 70 = .ok (.ireturn, 1) := dk_at dkB02decX0_7 21 rfl
theorem dX1_isSo_71 : decode cX1_isSo 71 = .ok (.aload_n 0, 1) := dk_at dkB02decX0_7 22 rfl
theorem dX1_isSo_72 : decode cX1_isSo 72 = .ok (.getfield 59, 3) := dk_at dkB02decX0_7 23 rfl
theorem dX1_isSo_75 : decode cX1_isSo 75 = .ok (.ifCond .eq 20, 3) := dk_at dkB02decX0_7 24 rfl
theorem dX1_isSo_78 : decode cX1_isSo 78 = .ok (.iload_n 3, 1) := dk_at dkB02decX0_7 25 rfl
theorem dX1_isSo_79 : decode cX1_isSo 79 = .ok (.ifCond .ne 8, 3) := dk_at dkB02decX0_7 26 rfl
theorem dX1_isSo_82 : decode cX1_isSo 82 = .ok (.iload 4, 2) := dk_at dkB02decX0_7 27 rfl
theorem dX1_isSo_84 : decode cX1_isSo 84 = .ok (.ifCond .eq 7, 3) := dk_at dkB02decX0_7 28 rfl
theorem dX1_isSo_87 : decode cX1_isSo 87 = .ok (.iconst 1, 1) := dk_at dkB02decX0_7 29 rfl
theorem dX1_isSo_88 : decode cX1_isSo 88 = .ok (.goto 21, 3) := dk_at dkB02decX0_7 30 rfl
theorem dX1_isSo_91 : decode cX1_isSo 91 = .ok (.iconst 0, 1) := dk_at dkB02decX0_7 31 rfl
theorem dX1_isSo_92 : decode cX1_isSo 92 = .ok (.goto 17, 3) := dk_at dkB02decX0_7 32 rfl
theorem dX1_isSo_95 : decode cX1_isSo 95 = .ok (.iload_n 3, 1) := dk_at dkB02decX0_7 33 rfl
theorem dX1_isSo_96 : decode cX1_isSo 96 = .ok (.ifCond .eq 12, 3) := dk_at dkB02decX0_7 34 rfl
theorem dX1_isSo_99 : decode cX1_isSo 99 = .ok (.iload 4, 2) := dk_at dkB02decX0_7 35 rfl
theorem dX1_isSo_101 : decode cX1_isSo 101 = .ok (.ifCond .eq 7, 3) := dk_at dkB02decX0_7 36 rfl
theorem dX1_isSo_104 : decode cX1_isSo 104 = .ok (.iconst 1, 1) := dk_at dkB02decX0_7 37 rfl
theorem dX1_isSo_105 : decode cX1_isSo 105 = .ok (.goto 4, 3) := dk_at dkB02decX0_7 38 rfl
theorem dX1_isSo_108 : decode cX1_isSo 108 = .ok (.iconst 0, 1) := dk_at dkB02decX0_7 39 rfl
theorem dX1_isSo_109 : decode cX1_isSo 109 = .ok (.ireturn, 1) := dk_at dkB02decX0_7 40 rfl
theorem dX1_latest_0 : decode cX1_latest 0 = .ok (.aload_n 0, 1) := dk_at dkB02decX0_7 41 rfl
theorem dX1_latest_1 : decode cX1_latest 1 = .ok (.getfield 56, 3) := dk_at dkB02decX0_7 42 rfl
theorem dX1_latest_4 : decode cX1_latest 4 = .ok (.iconst 1, 1) := dk_at dkB02decX0_7 43 rfl
theorem dX1_latest_5 : decode cX1_latest 5 = .ok (.if_icmp .ne 12, 3) := dk_at dkB02decX0_7 44 rfl
theorem dX1_latest_8 : decode cX1_latest 8 = .ok (.aload_n 0, 1) := dk_at dkB02decX0_7 45 rfl
theorem dX1_latest_9 : decode cX1_latest 9 = .ok (.getfield 21, 3) := dk_at dkB02decX0_7 46 rfl
theorem dX1_latest_12 : decode cX1_latest 12 = .ok (.iconst 0, 1) := dk_at dkB02decX0_7 47 rfl
theorem dX1_latest_13 : decode cX1_latest 13 = .ok (.iaload, 1) := dk_at dkB02decX0_7 48 rfl
theorem dX1_latest_14 : decode cX1_latest 14 = .ok (.goto 18, 3) := dk_at dkB02decX0_7 49 rfl
theorem dX1_latest_17 : decode cX1_latest 17 = .ok (.aload_n 0, 1) := dk_at dkB02decX0_7 50 rfl
theorem dX1_latest_18 : decode cX1_latest 18 = .ok (.getfield 21, 3) := dk_at dkB02decX0_7 51 rfl
theorem dX1_latest_21 : decode cX1_latest 21 = .ok (.iconst 0, 1) := dk_at dkB02decX0_7 52 rfl
theorem dX1_latest_22 : decode cX1_latest 22 = .ok (.iaload, 1) := dk_at dkB02decX0_7 53 rfl
theorem dX1_latest_23 : decode cX1_latest 23 = .ok (.aload_n 0, 1) := dk_at dkB02decX0_7 54 rfl
theorem dX1_latest_24 : decode cX1_latest 24 = .ok (.getfield 21, 3) := dk_at dkB02decX0_7 55 rfl
theorem dX1_latest_27 : decode cX1_latest 27 = .ok (.iconst 1, 1) := dk_at dkB02decX0_7 56 rfl
theorem dX1_latest_28 : decode cX1_latest 28 = .ok (.iaload, 1) := dk_at dkB02decX0_7 57 rfl
theorem dX1_latest_29 : decode cX1_latest 29 = .ok (.invokestatic 63, 3) := dk_at dkB02decX0_7 58 rfl
theorem dX1_latest_32 : decode cX1_latest 32 = .ok (.ireturn, 1) := dk_at dkB02decX0_7 59 rfl
noncomputable def dkL02decX0_8 : List (ByteArray × Nat × Instr × Nat) := [(cX1_take, 0, (.aload_n 1, 1)), (cX1_take, 1, (.getfield 9, 3)), (cX1_take, 4, (.aload_n 0, 1)), (cX1_take, 5, (.getfield 9, 3)), (cX1_take, 8, (.invokestatic 69, 3)), (cX1_take, 11, (.aload_n 1, 1)), (cX1_take, 12, (.getfield 15, 3)), (cX1_take, 15, (.aload_n 0, 1)), (cX1_take, 16, (.getfield 15, 3)), (cX1_take, 19, (.invokestatic 69, 3)), (cX1_take, 22, (.aload_n 1, 1)), (cX1_take, 23, (.getfield 18, 3)), (cX1_take, 26, (.aload_n 0, 1)), (cX1_take, 27, (.getfield 18, 3)), (cX1_take, 30, (.invokestatic 69, 3)), (cX1_take, 33, (.aload_n 1, 1)), (cX1_take, 34, (.getfield 21, 3)), (cX1_take, 37, (.aload_n 0, 1)), (cX1_take, 38, (.getfield 21, 3)), (cX1_take, 41, (.invokestatic 69, 3)), (cX1_take, 44, (.aload_n 1, 1)), (cX1_take, 45, (.getfield 24, 3)), (cX1_take, 48, (.aload_n 0, 1)), (cX1_take, 49, (.getfield 24, 3)), (cX1_take, 52, (.invokestatic 69, 3)), (cX1_take, 55, (.iconst 0, 1)), (cX1_take, 56, (.istore_n 2, 1)), (cX1_take, 57, (.iload_n 2, 1)), (cX1_take, 58, (.iconst 2, 1)), (cX1_take, 59, (.if_icmp .ge 21, 3)), (cX1_take, 62, (.aload_n 0, 1)), (cX1_take, 63, (.getfield 27, 3)), (cX1_take, 66, (.iload_n 2, 1)), (cX1_take, 67, (.aload_n 1, 1)), (cX1_take, 68, (.getfield 27, 3)), (cX1_take, 71, (.iload_n 2, 1)), (cX1_take, 72, (.baload, 1)), (cX1_take, 73, (.bastore, 1)), (cX1_take, 74, (.iinc 2 1, 3)), (cX1_take, 77, (.goto (-20), 3)), (cX1_take, 80, (.aload_n 0, 1)), (cX1_take, 81, (.aload_n 1, 1)), (cX1_take, 82, (.getfield 56, 3)), (cX1_take, 85, (.putfield 56, 3)), (cX1_take, 88, (.aload_n 0, 1)), (cX1_take, 89, (.aload_n 1, 1)), (cX1_take, 90, (.getfield 59, 3)), (cX1_take, 93, (.putfield 59, 3)), (cX1_take, 96, (.return_, 1)), (cX2_init, 0, (.aload_n 0, 1)), (cX2_init, 1, (.invokespecial 3, 3)), (cX2_init, 4, (.aload_n 0, 1)), (cX2_init, 5, (.bipush 8, 2)), (cX2_init, 7, (.newarray .int, 2)), (cX2_init, 9, (.putfield 9, 3)), (cX2_init, 12, (.aload_n 0, 1)), (cX2_init, 13, (.bipush 8, 2)), (cX2_init, 15, (.newarray .int, 2)), (cX2_init, 17, (.putfield 15, 3)), (cX2_init, 20, (.aload_n 0, 1))]
theorem dkB02decX0_8 : dkL02decX0_8.all (fun q => decide (decode q.1 q.2.1 = .ok q.2.2)) = true := by decide +kernel
theorem dX1_take_0 : decode cX1_take 0 = .ok (.aload_n 1, 1) := dk_at dkB02decX0_8 0 rfl
theorem dX1_take_1 : decode cX1_take 1 = .ok (.getfield 9, 3) := dk_at dkB02decX0_8 1 rfl
theorem dX1_take_4 : decode cX1_take 4 = .ok (.aload_n 0, 1) := dk_at dkB02decX0_8 2 rfl
theorem dX1_take_5 : decode cX1_take 5 = .ok (.getfield 9, 3) := dk_at dkB02decX0_8 3 rfl
theorem dX1_take_8 : decode cX1_take 8 = .ok (.invokestatic 69, 3) := dk_at dkB02decX0_8 4 rfl
theorem dX1_take_11 : decode cX1_take 11 = .ok (.aload_n 1, 1) := dk_at dkB02decX0_8 5 rfl
theorem dX1_take_12 : decode cX1_take 12 = .ok (.getfield 15, 3) := dk_at dkB02decX0_8 6 rfl
theorem dX1_take_15 : decode cX1_take 15 = .ok (.aload_n 0, 1) := dk_at dkB02decX0_8 7 rfl
theorem dX1_take_16 : decode cX1_take 16 = .ok (.getfield 15, 3) := dk_at dkB02decX0_8 8 rfl
theorem dX1_take_19 : decode cX1_take 19 = .ok (.invokestatic 69, 3) := dk_at dkB02decX0_8 9 rfl
theorem dX1_take_22 : decode cX1_take 22 = .ok (.aload_n 1, 1) := dk_at dkB02decX0_8 10 rfl
theorem dX1_take_23 : decode cX1_take 23 = .ok (.getfield 18, 3) := dk_at dkB02decX0_8 11 rfl
theorem dX1_take_26 : decode cX1_take 26 = .ok (.aload_n 0, 1) := dk_at dkB02decX0_8 12 rfl
theorem dX1_take_27 : decode cX1_take 27 = .ok (.getfield 18, 3) := dk_at dkB02decX0_8 13 rfl
theorem dX1_take_30 : decode cX1_take 30 = .ok (.invokestatic 69, 3) := dk_at dkB02decX0_8 14 rfl
theorem dX1_take_33 : decode cX1_take 33 = .ok (.aload_n 1, 1) := dk_at dkB02decX0_8 15 rfl
theorem dX1_take_34 : decode cX1_take 34 = .ok (.getfield 21, 3) := dk_at dkB02decX0_8 16 rfl
theorem dX1_take_37 : decode cX1_take 37 = .ok (.aload_n 0, 1) := dk_at dkB02decX0_8 17 rfl
theorem dX1_take_38 : decode cX1_take 38 = .ok (.getfield 21, 3) := dk_at dkB02decX0_8 18 rfl
theorem dX1_take_41 : decode cX1_take 41 = .ok (.invokestatic 69, 3) := dk_at dkB02decX0_8 19 rfl
theorem dX1_take_44 : decode cX1_take 44 = .ok (.aload_n 1, 1) := dk_at dkB02decX0_8 20 rfl
theorem dX1_take_45 : decode cX1_take 45 = .ok (.getfield 24, 3) := dk_at dkB02decX0_8 21 rfl
theorem dX1_take_48 : decode cX1_take 48 = .ok (.aload_n 0, 1) := dk_at dkB02decX0_8 22 rfl
theorem dX1_take_49 : decode cX1_take 49 = .ok (.getfield 24, 3) := dk_at dkB02decX0_8 23 rfl
theorem dX1_take_52 : decode cX1_take 52 = .ok (.invokestatic 69, 3) := dk_at dkB02decX0_8 24 rfl
theorem dX1_take_55 : decode cX1_take 55 = .ok (.iconst 0, 1) := dk_at dkB02decX0_8 25 rfl
theorem dX1_take_56 : decode cX1_take 56 = .ok (.istore_n 2, 1) := dk_at dkB02decX0_8 26 rfl
theorem dX1_take_57 : decode cX1_take 57 = .ok (.iload_n 2, 1) := dk_at dkB02decX0_8 27 rfl
theorem dX1_take_58 : decode cX1_take 58 = .ok (.iconst 2, 1) := dk_at dkB02decX0_8 28 rfl
theorem dX1_take_59 : decode cX1_take 59 = .ok (.if_icmp .ge 21, 3) := dk_at dkB02decX0_8 29 rfl
theorem dX1_take_62 : decode cX1_take 62 = .ok (.aload_n 0, 1) := dk_at dkB02decX0_8 30 rfl
theorem dX1_take_63 : decode cX1_take 63 = .ok (.getfield 27, 3) := dk_at dkB02decX0_8 31 rfl
theorem dX1_take_66 : decode cX1_take 66 = .ok (.iload_n 2, 1) := dk_at dkB02decX0_8 32 rfl
theorem dX1_take_67 : decode cX1_take 67 = .ok (.aload_n 1, 1) := dk_at dkB02decX0_8 33 rfl
theorem dX1_take_68 : decode cX1_take 68 = .ok (.getfield 27, 3) := dk_at dkB02decX0_8 34 rfl
theorem dX1_take_71 : decode cX1_take 71 = .ok (.iload_n 2, 1) := dk_at dkB02decX0_8 35 rfl
theorem dX1_take_72 : decode cX1_take 72 = .ok (.baload, 1) := dk_at dkB02decX0_8 36 rfl
theorem dX1_take_73 : decode cX1_take 73 = .ok (.bastore, 1) := dk_at dkB02decX0_8 37 rfl
theorem dX1_take_74 : decode cX1_take 74 = .ok (.iinc 2 1, 3) := dk_at dkB02decX0_8 38 rfl
theorem dX1_take_77 : decode cX1_take 77 = .ok (.goto (-20), 3) := dk_at dkB02decX0_8 39 rfl
theorem dX1_take_80 : decode cX1_take 80 = .ok (.aload_n 0, 1) := dk_at dkB02decX0_8 40 rfl
theorem dX1_take_81 : decode cX1_take 81 = .ok (.aload_n 1, 1) := dk_at dkB02decX0_8 41 rfl
theorem dX1_take_82 : decode cX1_take 82 = .ok (.getfield 56, 3) := dk_at dkB02decX0_8 42 rfl
theorem dX1_take_85 : decode cX1_take 85 = .ok (.putfield 56, 3) := dk_at dkB02decX0_8 43 rfl
theorem dX1_take_88 : decode cX1_take 88 = .ok (.aload_n 0, 1) := dk_at dkB02decX0_8 44 rfl
theorem dX1_take_89 : decode cX1_take 89 = .ok (.aload_n 1, 1) := dk_at dkB02decX0_8 45 rfl
theorem dX1_take_90 : decode cX1_take 90 = .ok (.getfield 59, 3) := dk_at dkB02decX0_8 46 rfl
theorem dX1_take_93 : decode cX1_take 93 = .ok (.putfield 59, 3) := dk_at dkB02decX0_8 47 rfl
theorem dX1_take_96 : decode cX1_take 96 = .ok (.return_, 1) := dk_at dkB02decX0_8 48 rfl
theorem dX2_init_0 : decode cX2_init 0 = .ok (.aload_n 0, 1) := dk_at dkB02decX0_8 49 rfl
theorem dX2_init_1 : decode cX2_init 1 = .ok (.invokespecial 3, 3) := dk_at dkB02decX0_8 50 rfl
theorem dX2_init_4 : decode cX2_init 4 = .ok (.aload_n 0, 1) := dk_at dkB02decX0_8 51 rfl
theorem dX2_init_5 : decode cX2_init 5 = .ok (.bipush 8, 2) := dk_at dkB02decX0_8 52 rfl
theorem dX2_init_7 : decode cX2_init 7 = .ok (.newarray .int, 2) := dk_at dkB02decX0_8 53 rfl
theorem dX2_init_9 : decode cX2_init 9 = .ok (.putfield 9, 3) := dk_at dkB02decX0_8 54 rfl
theorem dX2_init_12 : decode cX2_init 12 = .ok (.aload_n 0, 1) := dk_at dkB02decX0_8 55 rfl
theorem dX2_init_13 : decode cX2_init 13 = .ok (.bipush 8, 2) := dk_at dkB02decX0_8 56 rfl
theorem dX2_init_15 : decode cX2_init 15 = .ok (.newarray .int, 2) := dk_at dkB02decX0_8 57 rfl
theorem dX2_init_17 : decode cX2_init 17 = .ok (.putfield 15, 3) := dk_at dkB02decX0_8 58 rfl
theorem dX2_init_20 : decode cX2_init 20 = .ok (.aload_n 0, 1) := dk_at dkB02decX0_8 59 rfl
noncomputable def dkL02decX0_9 : List (ByteArray × Nat × Instr × Nat) := [(cX2_init, 21, (.bipush 8, 2)), (cX2_init, 23, (.newarray .int, 2)), (cX2_init, 25, (.putfield 18, 3)), (cX2_init, 28, (.aload_n 0, 1)), (cX2_init, 29, (.bipush 8, 2)), (cX2_init, 31, (.newarray .int, 2)), (cX2_init, 33, (.putfield 21, 3)), (cX2_init, 36, (.aload_n 0, 1)), (cX2_init, 37, (.bipush 8, 2)), (cX2_init, 39, (.newarray .int, 2)), (cX2_init, 41, (.putfield 24, 3)), (cX2_init, 44, (.aload_n 0, 1)), (cX2_init, 45, (.bipush 8, 2)), (cX2_init, 47, (.newarray .int, 2)), (cX2_init, 49, (.putfield 27, 3)), (cX2_init, 52, (.return_, 1)), (cX2_add, 0, (.aload_n 0, 1)), (cX2_add, 1, (.getfield 9, 3)), (cX2_add, 4, (.aload_n 0, 1)), (cX2_add, 5, (.getfield 30, 3)), (cX2_add, 8, (.iload_n 1, 1)), (cX2_add, 9, (.iastore, 1)), (cX2_add, 10, (.aload_n 0, 1)), (cX2_add, 11, (.getfield 15, 3)), (cX2_add, 14, (.aload_n 0, 1)), (cX2_add, 15, (.getfield 30, 3)), (cX2_add, 18, (.iload_n 2, 1)), (cX2_add, 19, (.iastore, 1)), (cX2_add, 20, (.aload_n 0, 1)), (cX2_add, 21, (.getfield 18, 3)), (cX2_add, 24, (.aload_n 0, 1)), (cX2_add, 25, (.getfield 30, 3)), (cX2_add, 28, (.iload_n 3, 1)), (cX2_add, 29, (.iastore, 1)), (cX2_add, 30, (.aload_n 0, 1)), (cX2_add, 31, (.getfield 21, 3)), (cX2_add, 34, (.aload_n 0, 1)), (cX2_add, 35, (.getfield 30, 3)), (cX2_add, 38, (.iload 4, 2)), (cX2_add, 40, (.iastore, 1)), (cX2_add, 41, (.aload_n 0, 1)), (cX2_add, 42, (.getfield 24, 3)), (cX2_add, 45, (.aload_n 0, 1)), (cX2_add, 46, (.getfield 30, 3)), (cX2_add, 49, (.iload 5, 2)), (cX2_add, 51, (.iastore, 1)), (cX2_add, 52, (.aload_n 0, 1)), (cX2_add, 53, (.getfield 27, 3)), (cX2_add, 56, (.aload_n 0, 1)), (cX2_add, 57, (.getfield 30, 3)), (cX2_add, 60, (.iconst 0, 1)), (cX2_add, 61, (.iastore, 1)), (cX2_add, 62, (.aload_n 0, 1)), (cX2_add, 63, (.dup, 1)), (cX2_add, 64, (.getfield 30, 3)), (cX2_add, 67, (.iconst 1, 1)), (cX2_add, 68, (.iadd, 1)), (cX2_add, 69, (.putfield 30, 3)), (cX2_add, 72, (.return_, 1)), (cX2_removeFrom, 0, (.aload_n 0, 1))]
theorem dkB02decX0_9 : dkL02decX0_9.all (fun q => decide (decode q.1 q.2.1 = .ok q.2.2)) = true := by decide +kernel
theorem dX2_init_21 : decode cX2_init 21 = .ok (.bipush 8, 2) := dk_at dkB02decX0_9 0 rfl
theorem dX2_init_23 : decode cX2_init 23 = .ok (.newarray .int, 2) := dk_at dkB02decX0_9 1 rfl
theorem dX2_init_25 : decode cX2_init 25 = .ok (.putfield 18, 3) := dk_at dkB02decX0_9 2 rfl
theorem dX2_init_28 : decode cX2_init 28 = .ok (.aload_n 0, 1) := dk_at dkB02decX0_9 3 rfl
theorem dX2_init_29 : decode cX2_init 29 = .ok (.bipush 8, 2) := dk_at dkB02decX0_9 4 rfl
theorem dX2_init_31 : decode cX2_init 31 = .ok (.newarray .int, 2) := dk_at dkB02decX0_9 5 rfl
theorem dX2_init_33 : decode cX2_init 33 = .ok (.putfield 21, 3) := dk_at dkB02decX0_9 6 rfl
theorem dX2_init_36 : decode cX2_init 36 = .ok (.aload_n 0, 1) := dk_at dkB02decX0_9 7 rfl
theorem dX2_init_37 : decode cX2_init 37 = .ok (.bipush 8, 2) := dk_at dkB02decX0_9 8 rfl
theorem dX2_init_39 : decode cX2_init 39 = .ok (.newarray .int, 2) := dk_at dkB02decX0_9 9 rfl
theorem dX2_init_41 : decode cX2_init 41 = .ok (.putfield 24, 3) := dk_at dkB02decX0_9 10 rfl
theorem dX2_init_44 : decode cX2_init 44 = .ok (.aload_n 0, 1) := dk_at dkB02decX0_9 11 rfl
theorem dX2_init_45 : decode cX2_init 45 = .ok (.bipush 8, 2) := dk_at dkB02decX0_9 12 rfl
theorem dX2_init_47 : decode cX2_init 47 = .ok (.newarray .int, 2) := dk_at dkB02decX0_9 13 rfl
theorem dX2_init_49 : decode cX2_init 49 = .ok (.putfield 27, 3) := dk_at dkB02decX0_9 14 rfl
theorem dX2_init_52 : decode cX2_init 52 = .ok (.return_, 1) := dk_at dkB02decX0_9 15 rfl
theorem dX2_add_0 : decode cX2_add 0 = .ok (.aload_n 0, 1) := dk_at dkB02decX0_9 16 rfl
theorem dX2_add_1 : decode cX2_add 1 = .ok (.getfield 9, 3) := dk_at dkB02decX0_9 17 rfl
theorem dX2_add_4 : decode cX2_add 4 = .ok (.aload_n 0, 1) := dk_at dkB02decX0_9 18 rfl
theorem dX2_add_5 : decode cX2_add 5 = .ok (.getfield 30, 3) := dk_at dkB02decX0_9 19 rfl
theorem dX2_add_8 : decode cX2_add 8 = .ok (.iload_n 1, 1) := dk_at dkB02decX0_9 20 rfl
theorem dX2_add_9 : decode cX2_add 9 = .ok (.iastore, 1) := dk_at dkB02decX0_9 21 rfl
theorem dX2_add_10 : decode cX2_add 10 = .ok (.aload_n 0, 1) := dk_at dkB02decX0_9 22 rfl
theorem dX2_add_11 : decode cX2_add 11 = .ok (.getfield 15, 3) := dk_at dkB02decX0_9 23 rfl
theorem dX2_add_14 : decode cX2_add 14 = .ok (.aload_n 0, 1) := dk_at dkB02decX0_9 24 rfl
theorem dX2_add_15 : decode cX2_add 15 = .ok (.getfield 30, 3) := dk_at dkB02decX0_9 25 rfl
theorem dX2_add_18 : decode cX2_add 18 = .ok (.iload_n 2, 1) := dk_at dkB02decX0_9 26 rfl
theorem dX2_add_19 : decode cX2_add 19 = .ok (.iastore, 1) := dk_at dkB02decX0_9 27 rfl
theorem dX2_add_20 : decode cX2_add 20 = .ok (.aload_n 0, 1) := dk_at dkB02decX0_9 28 rfl
theorem dX2_add_21 : decode cX2_add 21 = .ok (.getfield 18, 3) := dk_at dkB02decX0_9 29 rfl
theorem dX2_add_24 : decode cX2_add 24 = .ok (.aload_n 0, 1) := dk_at dkB02decX0_9 30 rfl
theorem dX2_add_25 : decode cX2_add 25 = .ok (.getfield 30, 3) := dk_at dkB02decX0_9 31 rfl
theorem dX2_add_28 : decode cX2_add 28 = .ok (.iload_n 3, 1) := dk_at dkB02decX0_9 32 rfl
theorem dX2_add_29 : decode cX2_add 29 = .ok (.iastore, 1) := dk_at dkB02decX0_9 33 rfl
theorem dX2_add_30 : decode cX2_add 30 = .ok (.aload_n 0, 1) := dk_at dkB02decX0_9 34 rfl
theorem dX2_add_31 : decode cX2_add 31 = .ok (.getfield 21, 3) := dk_at dkB02decX0_9 35 rfl
theorem dX2_add_34 : decode cX2_add 34 = .ok (.aload_n 0, 1) := dk_at dkB02decX0_9 36 rfl
theorem dX2_add_35 : decode cX2_add 35 = .ok (.getfield 30, 3) := dk_at dkB02decX0_9 37 rfl
theorem dX2_add_38 : decode cX2_add 38 = .ok (.iload 4, 2) := dk_at dkB02decX0_9 38 rfl
theorem dX2_add_40 : decode cX2_add 40 = .ok (.iastore, 1) := dk_at dkB02decX0_9 39 rfl
theorem dX2_add_41 : decode cX2_add 41 = .ok (.aload_n 0, 1) := dk_at dkB02decX0_9 40 rfl
theorem dX2_add_42 : decode cX2_add 42 = .ok (.getfield 24, 3) := dk_at dkB02decX0_9 41 rfl
theorem dX2_add_45 : decode cX2_add 45 = .ok (.aload_n 0, 1) := dk_at dkB02decX0_9 42 rfl
theorem dX2_add_46 : decode cX2_add 46 = .ok (.getfield 30, 3) := dk_at dkB02decX0_9 43 rfl
theorem dX2_add_49 : decode cX2_add 49 = .ok (.iload 5, 2) := dk_at dkB02decX0_9 44 rfl
theorem dX2_add_51 : decode cX2_add 51 = .ok (.iastore, 1) := dk_at dkB02decX0_9 45 rfl
theorem dX2_add_52 : decode cX2_add 52 = .ok (.aload_n 0, 1) := dk_at dkB02decX0_9 46 rfl
theorem dX2_add_53 : decode cX2_add 53 = .ok (.getfield 27, 3) := dk_at dkB02decX0_9 47 rfl
theorem dX2_add_56 : decode cX2_add 56 = .ok (.aload_n 0, 1) := dk_at dkB02decX0_9 48 rfl
theorem dX2_add_57 : decode cX2_add 57 = .ok (.getfield 30, 3) := dk_at dkB02decX0_9 49 rfl
theorem dX2_add_60 : decode cX2_add 60 = .ok (.iconst 0, 1) := dk_at dkB02decX0_9 50 rfl
theorem dX2_add_61 : decode cX2_add 61 = .ok (.iastore, 1) := dk_at dkB02decX0_9 51 rfl
theorem dX2_add_62 : decode cX2_add 62 = .ok (.aload_n 0, 1) := dk_at dkB02decX0_9 52 rfl
theorem dX2_add_63 : decode cX2_add 63 = .ok (.dup, 1) := dk_at dkB02decX0_9 53 rfl
theorem dX2_add_64 : decode cX2_add 64 = .ok (.getfield 30, 3) := dk_at dkB02decX0_9 54 rfl
theorem dX2_add_67 : decode cX2_add 67 = .ok (.iconst 1, 1) := dk_at dkB02decX0_9 55 rfl
theorem dX2_add_68 : decode cX2_add 68 = .ok (.iadd, 1) := dk_at dkB02decX0_9 56 rfl
theorem dX2_add_69 : decode cX2_add 69 = .ok (.putfield 30, 3) := dk_at dkB02decX0_9 57 rfl
theorem dX2_add_72 : decode cX2_add 72 = .ok (.return_, 1) := dk_at dkB02decX0_9 58 rfl
theorem dX2_removeFrom_0 : decode cX2_removeFrom 0 = .ok (.aload_n 0, 1) := dk_at dkB02decX0_9 59 rfl
noncomputable def dkL02decX0_10 : List (ByteArray × Nat × Instr × Nat) := [(cX2_removeFrom, 1, (.getfield 30, 3)), (cX2_removeFrom, 4, (.istore_n 3, 1)), (cX2_removeFrom, 5, (.aload_n 0, 1)), (cX2_removeFrom, 6, (.iconst 0, 1)), (cX2_removeFrom, 7, (.putfield 30, 3)), (cX2_removeFrom, 10, (.iconst 0, 1)), (cX2_removeFrom, 11, (.istore 4, 2)), (cX2_removeFrom, 13, (.iload 4, 2)), (cX2_removeFrom, 15, (.iload_n 3, 1)), (cX2_removeFrom, 16, (.if_icmp .ge 92, 3)), (cX2_removeFrom, 19, (.aload_n 0, 1)), (cX2_removeFrom, 20, (.getfield 9, 3)), (cX2_removeFrom, 23, (.iload 4, 2)), (cX2_removeFrom, 25, (.iaload, 1)), (cX2_removeFrom, 26, (.iload_n 1, 1)), (cX2_removeFrom, 27, (.if_icmp .ne 14, 3)), (cX2_removeFrom, 30, (.aload_n 0, 1)), (cX2_removeFrom, 31, (.getfield 15, 3)), (cX2_removeFrom, 34, (.iload 4, 2)), (cX2_removeFrom, 36, (.iaload, 1)), (cX2_removeFrom, 37, (.iload_n 2, 1)), (cX2_removeFrom, 38, (.if_icmp .ge 64, 3)), (cX2_removeFrom, 41, (.aload_n 0, 1)), (cX2_removeFrom, 42, (.getfield 27, 3)), (cX2_removeFrom, 45, (.iload 4, 2)), (cX2_removeFrom, 47, (.iaload, 1)), (cX2_removeFrom, 48, (.istore 5, 2)), (cX2_removeFrom, 50, (.aload_n 0, 1)), (cX2_removeFrom, 51, (.aload_n 0, 1)), (cX2_removeFrom, 52, (.getfield 9, 3)), (cX2_removeFrom, 55, (.iload 4, 2)), (cX2_removeFrom, 57, (.iaload, 1)), (cX2_removeFrom, 58, (.aload_n 0, 1)), (cX2_removeFrom, 59, (.getfield 15, 3)), (cX2_removeFrom, 62, (.iload 4, 2)), (cX2_removeFrom, 64, (.iaload, 1)), (cX2_removeFrom, 65, (.aload_n 0, 1)), (cX2_removeFrom, 66, (.getfield 18, 3)), (cX2_removeFrom, 69, (.iload 4, 2)), (cX2_removeFrom, 71, (.iaload, 1)), (cX2_removeFrom, 72, (.aload_n 0, 1)), (cX2_removeFrom, 73, (.getfield 21, 3)), (cX2_removeFrom, 76, (.iload 4, 2)), (cX2_removeFrom, 78, (.iaload, 1)), (cX2_removeFrom, 79, (.aload_n 0, 1)), (cX2_removeFrom, 80, (.getfield 24, 3)), (cX2_removeFrom, 83, (.iload 4, 2)), (cX2_removeFrom, 85, (.iaload, 1)), (cX2_removeFrom, 86, (.invokevirtual 34, 3)), (cX2_removeFrom, 89, (.aload_n 0, 1)), (cX2_removeFrom, 90, (.getfield 27, 3)), (cX2_removeFrom, 93, (.aload_n 0, 1)), (cX2_removeFrom, 94, (.getfield 30, 3)), (cX2_removeFrom, 97, (.iconst 1, 1)), (cX2_removeFrom, 98, (.isub, 1)), (cX2_removeFrom, 99, (.iload 5, 2)), (cX2_removeFrom, 101, (.iastore, 1)), (cX2_removeFrom, 102, (.iinc 4 1, 3)), (cX2_removeFrom, 105, (.goto (-92), 3)), (cX2_removeFrom, 108, (.return_, 1))]
theorem dkB02decX0_10 : dkL02decX0_10.all (fun q => decide (decode q.1 q.2.1 = .ok q.2.2)) = true := by decide +kernel
theorem dX2_removeFrom_1 : decode cX2_removeFrom 1 = .ok (.getfield 30, 3) := dk_at dkB02decX0_10 0 rfl
theorem dX2_removeFrom_4 : decode cX2_removeFrom 4 = .ok (.istore_n 3, 1) := dk_at dkB02decX0_10 1 rfl
theorem dX2_removeFrom_5 : decode cX2_removeFrom 5 = .ok (.aload_n 0, 1) := dk_at dkB02decX0_10 2 rfl
theorem dX2_removeFrom_6 : decode cX2_removeFrom 6 = .ok (.iconst 0, 1) := dk_at dkB02decX0_10 3 rfl
theorem dX2_removeFrom_7 : decode cX2_removeFrom 7 = .ok (.putfield 30, 3) := dk_at dkB02decX0_10 4 rfl
theorem dX2_removeFrom_10 : decode cX2_removeFrom 10 = .ok (.iconst 0, 1) := dk_at dkB02decX0_10 5 rfl
theorem dX2_removeFrom_11 : decode cX2_removeFrom 11 = .ok (.istore 4, 2) := dk_at dkB02decX0_10 6 rfl
theorem dX2_removeFrom_13 : decode cX2_removeFrom 13 = .ok (.iload 4, 2) := dk_at dkB02decX0_10 7 rfl
theorem dX2_removeFrom_15 : decode cX2_removeFrom 15 = .ok (.iload_n 3, 1) := dk_at dkB02decX0_10 8 rfl
theorem dX2_removeFrom_16 : decode cX2_removeFrom 16 = .ok (.if_icmp .ge 92, 3) := dk_at dkB02decX0_10 9 rfl
theorem dX2_removeFrom_19 : decode cX2_removeFrom 19 = .ok (.aload_n 0, 1) := dk_at dkB02decX0_10 10 rfl
theorem dX2_removeFrom_20 : decode cX2_removeFrom 20 = .ok (.getfield 9, 3) := dk_at dkB02decX0_10 11 rfl
theorem dX2_removeFrom_23 : decode cX2_removeFrom 23 = .ok (.iload 4, 2) := dk_at dkB02decX0_10 12 rfl
theorem dX2_removeFrom_25 : decode cX2_removeFrom 25 = .ok (.iaload, 1) := dk_at dkB02decX0_10 13 rfl
theorem dX2_removeFrom_26 : decode cX2_removeFrom 26 = .ok (.iload_n 1, 1) := dk_at dkB02decX0_10 14 rfl
theorem dX2_removeFrom_27 : decode cX2_removeFrom 27 = .ok (.if_icmp .ne 14, 3) := dk_at dkB02decX0_10 15 rfl
theorem dX2_removeFrom_30 : decode cX2_removeFrom 30 = .ok (.aload_n 0, 1) := dk_at dkB02decX0_10 16 rfl
theorem dX2_removeFrom_31 : decode cX2_removeFrom 31 = .ok (.getfield 15, 3) := dk_at dkB02decX0_10 17 rfl
theorem dX2_removeFrom_34 : decode cX2_removeFrom 34 = .ok (.iload 4, 2) := dk_at dkB02decX0_10 18 rfl
theorem dX2_removeFrom_36 : decode cX2_removeFrom 36 = .ok (.iaload, 1) := dk_at dkB02decX0_10 19 rfl
theorem dX2_removeFrom_37 : decode cX2_removeFrom 37 = .ok (.iload_n 2, 1) := dk_at dkB02decX0_10 20 rfl
theorem dX2_removeFrom_38 : decode cX2_removeFrom 38 = .ok (.if_icmp .ge 64, 3) := dk_at dkB02decX0_10 21 rfl
theorem dX2_removeFrom_41 : decode cX2_removeFrom 41 = .ok (.aload_n 0, 1) := dk_at dkB02decX0_10 22 rfl
theorem dX2_removeFrom_42 : decode cX2_removeFrom 42 = .ok (.getfield 27, 3) := dk_at dkB02decX0_10 23 rfl
theorem dX2_removeFrom_45 : decode cX2_removeFrom 45 = .ok (.iload 4, 2) := dk_at dkB02decX0_10 24 rfl
theorem dX2_removeFrom_47 : decode cX2_removeFrom 47 = .ok (.iaload, 1) := dk_at dkB02decX0_10 25 rfl
theorem dX2_removeFrom_48 : decode cX2_removeFrom 48 = .ok (.istore 5, 2) := dk_at dkB02decX0_10 26 rfl
theorem dX2_removeFrom_50 : decode cX2_removeFrom 50 = .ok (.aload_n 0, 1) := dk_at dkB02decX0_10 27 rfl
theorem dX2_removeFrom_51 : decode cX2_removeFrom 51 = .ok (.aload_n 0, 1) := dk_at dkB02decX0_10 28 rfl
theorem dX2_removeFrom_52 : decode cX2_removeFrom 52 = .ok (.getfield 9, 3) := dk_at dkB02decX0_10 29 rfl
theorem dX2_removeFrom_55 : decode cX2_removeFrom 55 = .ok (.iload 4, 2) := dk_at dkB02decX0_10 30 rfl
theorem dX2_removeFrom_57 : decode cX2_removeFrom 57 = .ok (.iaload, 1) := dk_at dkB02decX0_10 31 rfl
theorem dX2_removeFrom_58 : decode cX2_removeFrom 58 = .ok (.aload_n 0, 1) := dk_at dkB02decX0_10 32 rfl
theorem dX2_removeFrom_59 : decode cX2_removeFrom 59 = .ok (.getfield 15, 3) := dk_at dkB02decX0_10 33 rfl
theorem dX2_removeFrom_62 : decode cX2_removeFrom 62 = .ok (.iload 4, 2) := dk_at dkB02decX0_10 34 rfl
theorem dX2_removeFrom_64 : decode cX2_removeFrom 64 = .ok (.iaload, 1) := dk_at dkB02decX0_10 35 rfl
theorem dX2_removeFrom_65 : decode cX2_removeFrom 65 = .ok (.aload_n 0, 1) := dk_at dkB02decX0_10 36 rfl
theorem dX2_removeFrom_66 : decode cX2_removeFrom 66 = .ok (.getfield 18, 3) := dk_at dkB02decX0_10 37 rfl
theorem dX2_removeFrom_69 : decode cX2_removeFrom 69 = .ok (.iload 4, 2) := dk_at dkB02decX0_10 38 rfl
theorem dX2_removeFrom_71 : decode cX2_removeFrom 71 = .ok (.iaload, 1) := dk_at dkB02decX0_10 39 rfl
theorem dX2_removeFrom_72 : decode cX2_removeFrom 72 = .ok (.aload_n 0, 1) := dk_at dkB02decX0_10 40 rfl
theorem dX2_removeFrom_73 : decode cX2_removeFrom 73 = .ok (.getfield 21, 3) := dk_at dkB02decX0_10 41 rfl
theorem dX2_removeFrom_76 : decode cX2_removeFrom 76 = .ok (.iload 4, 2) := dk_at dkB02decX0_10 42 rfl
theorem dX2_removeFrom_78 : decode cX2_removeFrom 78 = .ok (.iaload, 1) := dk_at dkB02decX0_10 43 rfl
theorem dX2_removeFrom_79 : decode cX2_removeFrom 79 = .ok (.aload_n 0, 1) := dk_at dkB02decX0_10 44 rfl
theorem dX2_removeFrom_80 : decode cX2_removeFrom 80 = .ok (.getfield 24, 3) := dk_at dkB02decX0_10 45 rfl
theorem dX2_removeFrom_83 : decode cX2_removeFrom 83 = .ok (.iload 4, 2) := dk_at dkB02decX0_10 46 rfl
theorem dX2_removeFrom_85 : decode cX2_removeFrom 85 = .ok (.iaload, 1) := dk_at dkB02decX0_10 47 rfl
theorem dX2_removeFrom_86 : decode cX2_removeFrom 86 = .ok (.invokevirtual 34, 3) := dk_at dkB02decX0_10 48 rfl
theorem dX2_removeFrom_89 : decode cX2_removeFrom 89 = .ok (.aload_n 0, 1) := dk_at dkB02decX0_10 49 rfl
theorem dX2_removeFrom_90 : decode cX2_removeFrom 90 = .ok (.getfield 27, 3) := dk_at dkB02decX0_10 50 rfl
theorem dX2_removeFrom_93 : decode cX2_removeFrom 93 = .ok (.aload_n 0, 1) := dk_at dkB02decX0_10 51 rfl
theorem dX2_removeFrom_94 : decode cX2_removeFrom 94 = .ok (.getfield 30, 3) := dk_at dkB02decX0_10 52 rfl
theorem dX2_removeFrom_97 : decode cX2_removeFrom 97 = .ok (.iconst 1, 1) := dk_at dkB02decX0_10 53 rfl
theorem dX2_removeFrom_98 : decode cX2_removeFrom 98 = .ok (.isub, 1) := dk_at dkB02decX0_10 54 rfl
theorem dX2_removeFrom_99 : decode cX2_removeFrom 99 = .ok (.iload 5, 2) := dk_at dkB02decX0_10 55 rfl
theorem dX2_removeFrom_101 : decode cX2_removeFrom 101 = .ok (.iastore, 1) := dk_at dkB02decX0_10 56 rfl
theorem dX2_removeFrom_102 : decode cX2_removeFrom 102 = .ok (.iinc 4 1, 3) := dk_at dkB02decX0_10 57 rfl
theorem dX2_removeFrom_105 : decode cX2_removeFrom 105 = .ok (.goto (-92), 3) := dk_at dkB02decX0_10 58 rfl
theorem dX2_removeFrom_108 : decode cX2_removeFrom 108 = .ok (.return_, 1) := dk_at dkB02decX0_10 59 rfl
noncomputable def dkL02decX0_11 : List (ByteArray × Nat × Instr × Nat) := [(cX2_thrown, 0, (.iconst 0, 1)), (cX2_thrown, 1, (.istore_n 1, 1)), (cX2_thrown, 2, (.iconst 0, 1)), (cX2_thrown, 3, (.istore_n 2, 1)), (cX2_thrown, 4, (.iload_n 2, 1)), (cX2_thrown, 5, (.aload_n 0, 1)), (cX2_thrown, 6, (.getfield 30, 3)), (cX2_thrown, 9, (.if_icmp .ge 26, 3)), (cX2_thrown, 12, (.iload_n 1, 1)), (cX2_thrown, 13, (.aload_n 0, 1)), (cX2_thrown, 14, (.getfield 27, 3)), (cX2_thrown, 17, (.iload_n 2, 1)), (cX2_thrown, 18, (.iaload, 1)), (cX2_thrown, 19, (.ifCond .ne 7, 3)), (cX2_thrown, 22, (.iconst 0, 1)), (cX2_thrown, 23, (.goto 4, 3)), (cX2_thrown, 26, (.iconst 1, 1)), (cX2_thrown, 27, (.iadd, 1)), (cX2_thrown, 28, (.istore_n 1, 1)), (cX2_thrown, 29, (.iinc 2 1, 3)), (cX2_thrown, 32, (.goto (-28), 3)), (cX2_thrown, 35, (.iload_n 1, 1)), (cX2_thrown, 36, (.ireturn, 1)), (cX2_binding, 0, (.iconst 0, 1)), (cX2_binding, 1, (.istore_n 2, 1)), (cX2_binding, 2, (.iconst 0, 1)), (cX2_binding, 3, (.istore_n 3, 1)), (cX2_binding, 4, (.iload_n 3, 1)), (cX2_binding, 5, (.aload_n 0, 1)), (cX2_binding, 6, (.getfield 30, 3)), (cX2_binding, 9, (.if_icmp .ge 34, 3)), (cX2_binding, 12, (.aload_n 0, 1)), (cX2_binding, 13, (.getfield 9, 3)), (cX2_binding, 16, (.iload_n 3, 1)), (cX2_binding, 17, (.iaload, 1)), (cX2_binding, 18, (.iload_n 1, 1)), (cX2_binding, 19, (.if_icmp .ne 18, 3)), (cX2_binding, 22, (.aload_n 0, 1)), (cX2_binding, 23, (.getfield 27, 3)), (cX2_binding, 26, (.iload_n 3, 1)), (cX2_binding, 27, (.iaload, 1)), (cX2_binding, 28, (.ifCond .ne 9, 3)), (cX2_binding, 31, (.iload_n 2, 1)), (cX2_binding, 32, (.iconst 1, 1)), (cX2_binding, 33, (.iload_n 3, 1)), (cX2_binding, 34, (.ishl, 1)), (cX2_binding, 35, (.ior, 1)), (cX2_binding, 36, (.istore_n 2, 1)), (cX2_binding, 37, (.iinc 3 1, 3)), (cX2_binding, 40, (.goto (-36), 3)), (cX2_binding, 43, (.iload_n 2, 1)), (cX2_binding, 44, (.ireturn, 1)), (cX2_take, 0, (.aload_n 1, 1)), (cX2_take, 1, (.getfield 9, 3)), (cX2_take, 4, (.aload_n 0, 1)), (cX2_take, 5, (.getfield 9, 3)), (cX2_take, 8, (.invokestatic 38, 3)), (cX2_take, 11, (.aload_n 1, 1)), (cX2_take, 12, (.getfield 15, 3)), (cX2_take, 15, (.aload_n 0, 1))]
theorem dkB02decX0_11 : dkL02decX0_11.all (fun q => decide (decode q.1 q.2.1 = .ok q.2.2)) = true := by decide +kernel
theorem dX2_thrown_0 : decode cX2_thrown 0 = .ok (.iconst 0, 1) := dk_at dkB02decX0_11 0 rfl
theorem dX2_thrown_1 : decode cX2_thrown 1 = .ok (.istore_n 1, 1) := dk_at dkB02decX0_11 1 rfl
theorem dX2_thrown_2 : decode cX2_thrown 2 = .ok (.iconst 0, 1) := dk_at dkB02decX0_11 2 rfl
theorem dX2_thrown_3 : decode cX2_thrown 3 = .ok (.istore_n 2, 1) := dk_at dkB02decX0_11 3 rfl
theorem dX2_thrown_4 : decode cX2_thrown 4 = .ok (.iload_n 2, 1) := dk_at dkB02decX0_11 4 rfl
theorem dX2_thrown_5 : decode cX2_thrown 5 = .ok (.aload_n 0, 1) := dk_at dkB02decX0_11 5 rfl
theorem dX2_thrown_6 : decode cX2_thrown 6 = .ok (.getfield 30, 3) := dk_at dkB02decX0_11 6 rfl
theorem dX2_thrown_9 : decode cX2_thrown 9 = .ok (.if_icmp .ge 26, 3) := dk_at dkB02decX0_11 7 rfl
theorem dX2_thrown_12 : decode cX2_thrown 12 = .ok (.iload_n 1, 1) := dk_at dkB02decX0_11 8 rfl
theorem dX2_thrown_13 : decode cX2_thrown 13 = .ok (.aload_n 0, 1) := dk_at dkB02decX0_11 9 rfl
theorem dX2_thrown_14 : decode cX2_thrown 14 = .ok (.getfield 27, 3) := dk_at dkB02decX0_11 10 rfl
theorem dX2_thrown_17 : decode cX2_thrown 17 = .ok (.iload_n 2, 1) := dk_at dkB02decX0_11 11 rfl
theorem dX2_thrown_18 : decode cX2_thrown 18 = .ok (.iaload, 1) := dk_at dkB02decX0_11 12 rfl
theorem dX2_thrown_19 : decode cX2_thrown 19 = .ok (.ifCond .ne 7, 3) := dk_at dkB02decX0_11 13 rfl
theorem dX2_thrown_22 : decode cX2_thrown 22 = .ok (.iconst 0, 1) := dk_at dkB02decX0_11 14 rfl
theorem dX2_thrown_23 : decode cX2_thrown 23 = .ok (.goto 4, 3) := dk_at dkB02decX0_11 15 rfl
theorem dX2_thrown_26 : decode cX2_thrown 26 = .ok (.iconst 1, 1) := dk_at dkB02decX0_11 16 rfl
theorem dX2_thrown_27 : decode cX2_thrown 27 = .ok (.iadd, 1) := dk_at dkB02decX0_11 17 rfl
theorem dX2_thrown_28 : decode cX2_thrown 28 = .ok (.istore_n 1, 1) := dk_at dkB02decX0_11 18 rfl
theorem dX2_thrown_29 : decode cX2_thrown 29 = .ok (.iinc 2 1, 3) := dk_at dkB02decX0_11 19 rfl
theorem dX2_thrown_32 : decode cX2_thrown 32 = .ok (.goto (-28), 3) := dk_at dkB02decX0_11 20 rfl
theorem dX2_thrown_35 : decode cX2_thrown 35 = .ok (.iload_n 1, 1) := dk_at dkB02decX0_11 21 rfl
theorem dX2_thrown_36 : decode cX2_thrown 36 = .ok (.ireturn, 1) := dk_at dkB02decX0_11 22 rfl
theorem dX2_binding_0 : decode cX2_binding 0 = .ok (.iconst 0, 1) := dk_at dkB02decX0_11 23 rfl
theorem dX2_binding_1 : decode cX2_binding 1 = .ok (.istore_n 2, 1) := dk_at dkB02decX0_11 24 rfl
theorem dX2_binding_2 : decode cX2_binding 2 = .ok (.iconst 0, 1) := dk_at dkB02decX0_11 25 rfl
theorem dX2_binding_3 : decode cX2_binding 3 = .ok (.istore_n 3, 1) := dk_at dkB02decX0_11 26 rfl
theorem dX2_binding_4 : decode cX2_binding 4 = .ok (.iload_n 3, 1) := dk_at dkB02decX0_11 27 rfl
theorem dX2_binding_5 : decode cX2_binding 5 = .ok (.aload_n 0, 1) := dk_at dkB02decX0_11 28 rfl
theorem dX2_binding_6 : decode cX2_binding 6 = .ok (.getfield 30, 3) := dk_at dkB02decX0_11 29 rfl
theorem dX2_binding_9 : decode cX2_binding 9 = .ok (.if_icmp .ge 34, 3) := dk_at dkB02decX0_11 30 rfl
theorem dX2_binding_12 : decode cX2_binding 12 = .ok (.aload_n 0, 1) := dk_at dkB02decX0_11 31 rfl
theorem dX2_binding_13 : decode cX2_binding 13 = .ok (.getfield 9, 3) := dk_at dkB02decX0_11 32 rfl
theorem dX2_binding_16 : decode cX2_binding 16 = .ok (.iload_n 3, 1) := dk_at dkB02decX0_11 33 rfl
theorem dX2_binding_17 : decode cX2_binding 17 = .ok (.iaload, 1) := dk_at dkB02decX0_11 34 rfl
theorem dX2_binding_18 : decode cX2_binding 18 = .ok (.iload_n 1, 1) := dk_at dkB02decX0_11 35 rfl
theorem dX2_binding_19 : decode cX2_binding 19 = .ok (.if_icmp .ne 18, 3) := dk_at dkB02decX0_11 36 rfl
theorem dX2_binding_22 : decode cX2_binding 22 = .ok (.aload_n 0, 1) := dk_at dkB02decX0_11 37 rfl
theorem dX2_binding_23 : decode cX2_binding 23 = .ok (.getfield 27, 3) := dk_at dkB02decX0_11 38 rfl
theorem dX2_binding_26 : decode cX2_binding 26 = .ok (.iload_n 3, 1) := dk_at dkB02decX0_11 39 rfl
theorem dX2_binding_27 : decode cX2_binding 27 = .ok (.iaload, 1) := dk_at dkB02decX0_11 40 rfl
theorem dX2_binding_28 : decode cX2_binding 28 = .ok (.ifCond .ne 9, 3) := dk_at dkB02decX0_11 41 rfl
theorem dX2_binding_31 : decode cX2_binding 31 = .ok (.iload_n 2, 1) := dk_at dkB02decX0_11 42 rfl
theorem dX2_binding_32 : decode cX2_binding 32 = .ok (.iconst 1, 1) := dk_at dkB02decX0_11 43 rfl
theorem dX2_binding_33 : decode cX2_binding 33 = .ok (.iload_n 3, 1) := dk_at dkB02decX0_11 44 rfl
theorem dX2_binding_34 : decode cX2_binding 34 = .ok (.ishl, 1) := dk_at dkB02decX0_11 45 rfl
theorem dX2_binding_35 : decode cX2_binding 35 = .ok (.ior, 1) := dk_at dkB02decX0_11 46 rfl
theorem dX2_binding_36 : decode cX2_binding 36 = .ok (.istore_n 2, 1) := dk_at dkB02decX0_11 47 rfl
theorem dX2_binding_37 : decode cX2_binding 37 = .ok (.iinc 3 1, 3) := dk_at dkB02decX0_11 48 rfl
theorem dX2_binding_40 : decode cX2_binding 40 = .ok (.goto (-36), 3) := dk_at dkB02decX0_11 49 rfl
theorem dX2_binding_43 : decode cX2_binding 43 = .ok (.iload_n 2, 1) := dk_at dkB02decX0_11 50 rfl
theorem dX2_binding_44 : decode cX2_binding 44 = .ok (.ireturn, 1) := dk_at dkB02decX0_11 51 rfl
theorem dX2_take_0 : decode cX2_take 0 = .ok (.aload_n 1, 1) := dk_at dkB02decX0_11 52 rfl
theorem dX2_take_1 : decode cX2_take 1 = .ok (.getfield 9, 3) := dk_at dkB02decX0_11 53 rfl
theorem dX2_take_4 : decode cX2_take 4 = .ok (.aload_n 0, 1) := dk_at dkB02decX0_11 54 rfl
theorem dX2_take_5 : decode cX2_take 5 = .ok (.getfield 9, 3) := dk_at dkB02decX0_11 55 rfl
theorem dX2_take_8 : decode cX2_take 8 = .ok (.invokestatic 38, 3) := dk_at dkB02decX0_11 56 rfl
theorem dX2_take_11 : decode cX2_take 11 = .ok (.aload_n 1, 1) := dk_at dkB02decX0_11 57 rfl
theorem dX2_take_12 : decode cX2_take 12 = .ok (.getfield 15, 3) := dk_at dkB02decX0_11 58 rfl
theorem dX2_take_15 : decode cX2_take 15 = .ok (.aload_n 0, 1) := dk_at dkB02decX0_11 59 rfl
noncomputable def dkL02decX0_12 : List (ByteArray × Nat × Instr × Nat) := [(cX2_take, 16, (.getfield 15, 3)), (cX2_take, 19, (.invokestatic 38, 3)), (cX2_take, 22, (.aload_n 1, 1)), (cX2_take, 23, (.getfield 18, 3)), (cX2_take, 26, (.aload_n 0, 1)), (cX2_take, 27, (.getfield 18, 3)), (cX2_take, 30, (.invokestatic 38, 3)), (cX2_take, 33, (.aload_n 1, 1)), (cX2_take, 34, (.getfield 21, 3)), (cX2_take, 37, (.aload_n 0, 1)), (cX2_take, 38, (.getfield 21, 3)), (cX2_take, 41, (.invokestatic 38, 3)), (cX2_take, 44, (.aload_n 1, 1)), (cX2_take, 45, (.getfield 24, 3)), (cX2_take, 48, (.aload_n 0, 1)), (cX2_take, 49, (.getfield 24, 3)), (cX2_take, 52, (.invokestatic 38, 3)), (cX2_take, 55, (.aload_n 1, 1)), (cX2_take, 56, (.getfield 27, 3)), (cX2_take, 59, (.aload_n 0, 1)), (cX2_take, 60, (.getfield 27, 3)), (cX2_take, 63, (.invokestatic 38, 3)), (cX2_take, 66, (.aload_n 0, 1)), (cX2_take, 67, (.aload_n 1, 1)), (cX2_take, 68, (.getfield 30, 3)), (cX2_take, 71, (.putfield 30, 3)), (cX2_take, 74, (.return_, 1)), (cX3_init, 0, (.aload_n 0, 1)), (cX3_init, 1, (.invokespecial 3, 3)), (cX3_init, 4, (.aload_n 0, 1)), (cX3_init, 5, (.iconst 3, 1)), (cX3_init, 6, (.bipush 24, 2)), (cX3_init, 8, (.multianewarray 9 2, 4)), (cX3_init, 12, (.putfield 11, 3)), (cX3_init, 15, (.aload_n 0, 1)), (cX3_init, 16, (.iconst 1, 1)), (cX3_init, 17, (.putfield 16, 3)), (cX3_init, 20, (.aload_n 0, 1)), (cX3_init, 21, (.iconst 3, 1)), (cX3_init, 22, (.putfield 20, 3)), (cX3_init, 25, (.return_, 1)), (cX3_fits, 0, (.iload_n 0, 1)), (cX3_fits, 1, (.iconst 1, 1)), (cX3_fits, 2, (.if_icmp .ne 14, 3)), (cX3_fits, 5, (.iload_n 1, 1)), (cX3_fits, 6, (.bipush (-20), 2)), (cX3_fits, 8, (.bipush 20, 2)), (cX3_fits, 10, (.invokestatic 23, 3)), (cX3_fits, 13, (.goto 10, 3)), (cX3_fits, 16, (.iload_n 1, 1)), (cX3_fits, 17, (.iconst 0, 1)), (cX3_fits, 18, (.bipush 9, 2)), (cX3_fits, 20, (.invokestatic 23, 3)), (cX3_fits, 23, (.ireturn, 1)), (cX3_wetBy, 0, (.iconst 0, 1)), (cX3_wetBy, 1, (.istore_n 3, 1)), (cX3_wetBy, 2, (.iconst 0, 1)), (cX3_wetBy, 3, (.iload_n 1, 1)), (cX3_wetBy, 4, (.iload_n 2, 1)), (cX3_wetBy, 5, (.isub, 1))]
theorem dkB02decX0_12 : dkL02decX0_12.all (fun q => decide (decode q.1 q.2.1 = .ok q.2.2)) = true := by decide +kernel
theorem dX2_take_16 : decode cX2_take 16 = .ok (.getfield 15, 3) := dk_at dkB02decX0_12 0 rfl
theorem dX2_take_19 : decode cX2_take 19 = .ok (.invokestatic 38, 3) := dk_at dkB02decX0_12 1 rfl
theorem dX2_take_22 : decode cX2_take 22 = .ok (.aload_n 1, 1) := dk_at dkB02decX0_12 2 rfl
theorem dX2_take_23 : decode cX2_take 23 = .ok (.getfield 18, 3) := dk_at dkB02decX0_12 3 rfl
theorem dX2_take_26 : decode cX2_take 26 = .ok (.aload_n 0, 1) := dk_at dkB02decX0_12 4 rfl
theorem dX2_take_27 : decode cX2_take 27 = .ok (.getfield 18, 3) := dk_at dkB02decX0_12 5 rfl
theorem dX2_take_30 : decode cX2_take 30 = .ok (.invokestatic 38, 3) := dk_at dkB02decX0_12 6 rfl
theorem dX2_take_33 : decode cX2_take 33 = .ok (.aload_n 1, 1) := dk_at dkB02decX0_12 7 rfl
theorem dX2_take_34 : decode cX2_take 34 = .ok (.getfield 21, 3) := dk_at dkB02decX0_12 8 rfl
theorem dX2_take_37 : decode cX2_take 37 = .ok (.aload_n 0, 1) := dk_at dkB02decX0_12 9 rfl
theorem dX2_take_38 : decode cX2_take 38 = .ok (.getfield 21, 3) := dk_at dkB02decX0_12 10 rfl
theorem dX2_take_41 : decode cX2_take 41 = .ok (.invokestatic 38, 3) := dk_at dkB02decX0_12 11 rfl
theorem dX2_take_44 : decode cX2_take 44 = .ok (.aload_n 1, 1) := dk_at dkB02decX0_12 12 rfl
theorem dX2_take_45 : decode cX2_take 45 = .ok (.getfield 24, 3) := dk_at dkB02decX0_12 13 rfl
theorem dX2_take_48 : decode cX2_take 48 = .ok (.aload_n 0, 1) := dk_at dkB02decX0_12 14 rfl
theorem dX2_take_49 : decode cX2_take 49 = .ok (.getfield 24, 3) := dk_at dkB02decX0_12 15 rfl
theorem dX2_take_52 : decode cX2_take 52 = .ok (.invokestatic 38, 3) := dk_at dkB02decX0_12 16 rfl
theorem dX2_take_55 : decode cX2_take 55 = .ok (.aload_n 1, 1) := dk_at dkB02decX0_12 17 rfl
theorem dX2_take_56 : decode cX2_take 56 = .ok (.getfield 27, 3) := dk_at dkB02decX0_12 18 rfl
theorem dX2_take_59 : decode cX2_take 59 = .ok (.aload_n 0, 1) := dk_at dkB02decX0_12 19 rfl
theorem dX2_take_60 : decode cX2_take 60 = .ok (.getfield 27, 3) := dk_at dkB02decX0_12 20 rfl
theorem dX2_take_63 : decode cX2_take 63 = .ok (.invokestatic 38, 3) := dk_at dkB02decX0_12 21 rfl
theorem dX2_take_66 : decode cX2_take 66 = .ok (.aload_n 0, 1) := dk_at dkB02decX0_12 22 rfl
theorem dX2_take_67 : decode cX2_take 67 = .ok (.aload_n 1, 1) := dk_at dkB02decX0_12 23 rfl
theorem dX2_take_68 : decode cX2_take 68 = .ok (.getfield 30, 3) := dk_at dkB02decX0_12 24 rfl
theorem dX2_take_71 : decode cX2_take 71 = .ok (.putfield 30, 3) := dk_at dkB02decX0_12 25 rfl
theorem dX2_take_74 : decode cX2_take 74 = .ok (.return_, 1) := dk_at dkB02decX0_12 26 rfl
theorem dX3_init_0 : decode cX3_init 0 = .ok (.aload_n 0, 1) := dk_at dkB02decX0_12 27 rfl
theorem dX3_init_1 : decode cX3_init 1 = .ok (.invokespecial 3, 3) := dk_at dkB02decX0_12 28 rfl
theorem dX3_init_4 : decode cX3_init 4 = .ok (.aload_n 0, 1) := dk_at dkB02decX0_12 29 rfl
theorem dX3_init_5 : decode cX3_init 5 = .ok (.iconst 3, 1) := dk_at dkB02decX0_12 30 rfl
theorem dX3_init_6 : decode cX3_init 6 = .ok (.bipush 24, 2) := dk_at dkB02decX0_12 31 rfl
theorem dX3_init_8 : decode cX3_init 8 = .ok (.multianewarray 9 2, 4) := dk_at dkB02decX0_12 32 rfl
theorem dX3_init_12 : decode cX3_init 12 = .ok (.putfield 11, 3) := dk_at dkB02decX0_12 33 rfl
theorem dX3_init_15 : decode cX3_init 15 = .ok (.aload_n 0, 1) := dk_at dkB02decX0_12 34 rfl
theorem dX3_init_16 : decode cX3_init 16 = .ok (.iconst 1, 1) := dk_at dkB02decX0_12 35 rfl
theorem dX3_init_17 : decode cX3_init 17 = .ok (.putfield 16, 3) := dk_at dkB02decX0_12 36 rfl
theorem dX3_init_20 : decode cX3_init 20 = .ok (.aload_n 0, 1) := dk_at dkB02decX0_12 37 rfl
theorem dX3_init_21 : decode cX3_init 21 = .ok (.iconst 3, 1) := dk_at dkB02decX0_12 38 rfl
theorem dX3_init_22 : decode cX3_init 22 = .ok (.putfield 20, 3) := dk_at dkB02decX0_12 39 rfl
theorem dX3_init_25 : decode cX3_init 25 = .ok (.return_, 1) := dk_at dkB02decX0_12 40 rfl
theorem dX3_fits_0 : decode cX3_fits 0 = .ok (.iload_n 0, 1) := dk_at dkB02decX0_12 41 rfl
theorem dX3_fits_1 : decode cX3_fits 1 = .ok (.iconst 1, 1) := dk_at dkB02decX0_12 42 rfl
theorem dX3_fits_2 : decode cX3_fits 2 = .ok (.if_icmp .ne 14, 3) := dk_at dkB02decX0_12 43 rfl
theorem dX3_fits_5 : decode cX3_fits 5 = .ok (.iload_n 1, 1) := dk_at dkB02decX0_12 44 rfl
theorem dX3_fits_6 : decode cX3_fits 6 = .ok (.bipush (-20), 2) := dk_at dkB02decX0_12 45 rfl
theorem dX3_fits_8 : decode cX3_fits 8 = .ok (.bipush 20, 2) := dk_at dkB02decX0_12 46 rfl
theorem dX3_fits_10 : decode cX3_fits 10 = .ok (.invokestatic 23, 3) := dk_at dkB02decX0_12 47 rfl
theorem dX3_fits_13 : decode cX3_fits 13 = .ok (.goto 10, 3) := dk_at dkB02decX0_12 48 rfl
theorem dX3_fits_16 : decode cX3_fits 16 = .ok (.iload_n 1, 1) := dk_at dkB02decX0_12 49 rfl
theorem dX3_fits_17 : decode cX3_fits 17 = .ok (.iconst 0, 1) := dk_at dkB02decX0_12 50 rfl
theorem dX3_fits_18 : decode cX3_fits 18 = .ok (.bipush 9, 2) := dk_at dkB02decX0_12 51 rfl
theorem dX3_fits_20 : decode cX3_fits 20 = .ok (.invokestatic 23, 3) := dk_at dkB02decX0_12 52 rfl
theorem dX3_fits_23 : decode cX3_fits 23 = .ok (.ireturn, 1) := dk_at dkB02decX0_12 53 rfl
theorem dX3_wetBy_0 : decode cX3_wetBy 0 = .ok (.iconst 0, 1) := dk_at dkB02decX0_12 54 rfl
theorem dX3_wetBy_1 : decode cX3_wetBy 1 = .ok (.istore_n 3, 1) := dk_at dkB02decX0_12 55 rfl
theorem dX3_wetBy_2 : decode cX3_wetBy 2 = .ok (.iconst 0, 1) := dk_at dkB02decX0_12 56 rfl
theorem dX3_wetBy_3 : decode cX3_wetBy 3 = .ok (.iload_n 1, 1) := dk_at dkB02decX0_12 57 rfl
theorem dX3_wetBy_4 : decode cX3_wetBy 4 = .ok (.iload_n 2, 1) := dk_at dkB02decX0_12 58 rfl
theorem dX3_wetBy_5 : decode cX3_wetBy 5 = .ok (.isub, 1) := dk_at dkB02decX0_12 59 rfl
noncomputable def dkL02decX0_13 : List (ByteArray × Nat × Instr × Nat) := [(cX3_wetBy, 6, (.iconst 1, 1)), (cX3_wetBy, 7, (.iadd, 1)), (cX3_wetBy, 8, (.invokestatic 27, 3)), (cX3_wetBy, 11, (.istore 4, 2)), (cX3_wetBy, 13, (.iload 4, 2)), (cX3_wetBy, 15, (.iload_n 1, 1)), (cX3_wetBy, 16, (.if_icmp .gt 21, 3)), (cX3_wetBy, 19, (.iload_n 3, 1)), (cX3_wetBy, 20, (.aload_n 0, 1)), (cX3_wetBy, 21, (.getfield 11, 3)), (cX3_wetBy, 24, (.iconst 0, 1)), (cX3_wetBy, 25, (.aaload, 1)), (cX3_wetBy, 26, (.iload 4, 2)), (cX3_wetBy, 28, (.iaload, 1)), (cX3_wetBy, 29, (.iadd, 1)), (cX3_wetBy, 30, (.istore_n 3, 1)), (cX3_wetBy, 31, (.iinc 4 1, 3)), (cX3_wetBy, 34, (.goto (-21), 3)), (cX3_wetBy, 37, (.iload_n 3, 1)), (cX3_wetBy, 38, (.ireturn, 1)), (cX3_waterBy, 0, (.aload_n 0, 1)), (cX3_waterBy, 1, (.iload_n 1, 1)), (cX3_waterBy, 2, (.iload_n 2, 1)), (cX3_waterBy, 3, (.invokevirtual 33, 3)), (cX3_waterBy, 6, (.istore_n 3, 1)), (cX3_waterBy, 7, (.iload_n 3, 1)), (cX3_waterBy, 8, (.ifCond .ne 7, 3)), (cX3_waterBy, 11, (.sipush (-1004), 3)), (cX3_waterBy, 14, (.ireturn, 1)), (cX3_waterBy, 15, (.iconst 0, 1)), (cX3_waterBy, 16, (.istore 4, 2)), (cX3_waterBy, 18, (.iconst 0, 1)), (cX3_waterBy, 19, (.iload_n 1, 1)), (cX3_waterBy, 20, (.iload_n 2, 1)), (cX3_waterBy, 21, (.isub, 1)), (cX3_waterBy, 22, (.iconst 1, 1)), (cX3_waterBy, 23, (.iadd, 1)), (cX3_waterBy, 24, (.invokestatic 27, 3)), (cX3_waterBy, 27, (.istore 5, 2)), (cX3_waterBy, 29, (.iload 5, 2)), (cX3_waterBy, 31, (.iload_n 1, 1)), (cX3_waterBy, 32, (.if_icmp .gt 33, 3)), (cX3_waterBy, 35, (.iload 4, 2)), (cX3_waterBy, 37, (.aload_n 0, 1)), (cX3_waterBy, 38, (.getfield 11, 3)), (cX3_waterBy, 41, (.iconst 0, 1)), (cX3_waterBy, 42, (.aaload, 1)), (cX3_waterBy, 43, (.iload 5, 2)), (cX3_waterBy, 45, (.iaload, 1)), (cX3_waterBy, 46, (.aload_n 0, 1)), (cX3_waterBy, 47, (.getfield 11, 3)), (cX3_waterBy, 50, (.iconst 1, 1)), (cX3_waterBy, 51, (.aaload, 1)), (cX3_waterBy, 52, (.iload 5, 2)), (cX3_waterBy, 54, (.iaload, 1)), (cX3_waterBy, 55, (.imul, 1)), (cX3_waterBy, 56, (.iadd, 1)), (cX3_waterBy, 57, (.istore 4, 2)), (cX3_waterBy, 59, (.iinc 5 1, 3)), (cX3_waterBy, 62, (.goto (-33), 3))]
theorem dkB02decX0_13 : dkL02decX0_13.all (fun q => decide (decode q.1 q.2.1 = .ok q.2.2)) = true := by decide +kernel
theorem dX3_wetBy_6 : decode cX3_wetBy 6 = .ok (.iconst 1, 1) := dk_at dkB02decX0_13 0 rfl
theorem dX3_wetBy_7 : decode cX3_wetBy 7 = .ok (.iadd, 1) := dk_at dkB02decX0_13 1 rfl
theorem dX3_wetBy_8 : decode cX3_wetBy 8 = .ok (.invokestatic 27, 3) := dk_at dkB02decX0_13 2 rfl
theorem dX3_wetBy_11 : decode cX3_wetBy 11 = .ok (.istore 4, 2) := dk_at dkB02decX0_13 3 rfl
theorem dX3_wetBy_13 : decode cX3_wetBy 13 = .ok (.iload 4, 2) := dk_at dkB02decX0_13 4 rfl
theorem dX3_wetBy_15 : decode cX3_wetBy 15 = .ok (.iload_n 1, 1) := dk_at dkB02decX0_13 5 rfl
theorem dX3_wetBy_16 : decode cX3_wetBy 16 = .ok (.if_icmp .gt 21, 3) := dk_at dkB02decX0_13 6 rfl
theorem dX3_wetBy_19 : decode cX3_wetBy 19 = .ok (.iload_n 3, 1) := dk_at dkB02decX0_13 7 rfl
theorem dX3_wetBy_20 : decode cX3_wetBy 20 = .ok (.aload_n 0, 1) := dk_at dkB02decX0_13 8 rfl
theorem dX3_wetBy_21 : decode cX3_wetBy 21 = .ok (.getfield 11, 3) := dk_at dkB02decX0_13 9 rfl
theorem dX3_wetBy_24 : decode cX3_wetBy 24 = .ok (.iconst 0, 1) := dk_at dkB02decX0_13 10 rfl
theorem dX3_wetBy_25 : decode cX3_wetBy 25 = .ok (.aaload, 1) := dk_at dkB02decX0_13 11 rfl
theorem dX3_wetBy_26 : decode cX3_wetBy 26 = .ok (.iload 4, 2) := dk_at dkB02decX0_13 12 rfl
theorem dX3_wetBy_28 : decode cX3_wetBy 28 = .ok (.iaload, 1) := dk_at dkB02decX0_13 13 rfl
theorem dX3_wetBy_29 : decode cX3_wetBy 29 = .ok (.iadd, 1) := dk_at dkB02decX0_13 14 rfl
theorem dX3_wetBy_30 : decode cX3_wetBy 30 = .ok (.istore_n 3, 1) := dk_at dkB02decX0_13 15 rfl
theorem dX3_wetBy_31 : decode cX3_wetBy 31 = .ok (.iinc 4 1, 3) := dk_at dkB02decX0_13 16 rfl
theorem dX3_wetBy_34 : decode cX3_wetBy 34 = .ok (.goto (-21), 3) := dk_at dkB02decX0_13 17 rfl
theorem dX3_wetBy_37 : decode cX3_wetBy 37 = .ok (.iload_n 3, 1) := dk_at dkB02decX0_13 18 rfl
theorem dX3_wetBy_38 : decode cX3_wetBy 38 = .ok (.ireturn, 1) := dk_at dkB02decX0_13 19 rfl
theorem dX3_waterBy_0 : decode cX3_waterBy 0 = .ok (.aload_n 0, 1) := dk_at dkB02decX0_13 20 rfl
theorem dX3_waterBy_1 : decode cX3_waterBy 1 = .ok (.iload_n 1, 1) := dk_at dkB02decX0_13 21 rfl
theorem dX3_waterBy_2 : decode cX3_waterBy 2 = .ok (.iload_n 2, 1) := dk_at dkB02decX0_13 22 rfl
theorem dX3_waterBy_3 : decode cX3_waterBy 3 = .ok (.invokevirtual 33, 3) := dk_at dkB02decX0_13 23 rfl
theorem dX3_waterBy_6 : decode cX3_waterBy 6 = .ok (.istore_n 3, 1) := dk_at dkB02decX0_13 24 rfl
theorem dX3_waterBy_7 : decode cX3_waterBy 7 = .ok (.iload_n 3, 1) := dk_at dkB02decX0_13 25 rfl
theorem dX3_waterBy_8 : decode cX3_waterBy 8 = .ok (.ifCond .ne 7, 3) := dk_at dkB02decX0_13 26 rfl
theorem dX3_waterBy_11 : decode cX3_waterBy 11 = .ok (.sipush (-1004), 3) := dk_at dkB02decX0_13 27 rfl
theorem dX3_waterBy_14 : decode cX3_waterBy 14 = .ok (.ireturn, 1) := dk_at dkB02decX0_13 28 rfl
theorem dX3_waterBy_15 : decode cX3_waterBy 15 = .ok (.iconst 0, 1) := dk_at dkB02decX0_13 29 rfl
theorem dX3_waterBy_16 : decode cX3_waterBy 16 = .ok (.istore 4, 2) := dk_at dkB02decX0_13 30 rfl
theorem dX3_waterBy_18 : decode cX3_waterBy 18 = .ok (.iconst 0, 1) := dk_at dkB02decX0_13 31 rfl
theorem dX3_waterBy_19 : decode cX3_waterBy 19 = .ok (.iload_n 1, 1) := dk_at dkB02decX0_13 32 rfl
theorem dX3_waterBy_20 : decode cX3_waterBy 20 = .ok (.iload_n 2, 1) := dk_at dkB02decX0_13 33 rfl
theorem dX3_waterBy_21 : decode cX3_waterBy 21 = .ok (.isub, 1) := dk_at dkB02decX0_13 34 rfl
theorem dX3_waterBy_22 : decode cX3_waterBy 22 = .ok (.iconst 1, 1) := dk_at dkB02decX0_13 35 rfl
theorem dX3_waterBy_23 : decode cX3_waterBy 23 = .ok (.iadd, 1) := dk_at dkB02decX0_13 36 rfl
theorem dX3_waterBy_24 : decode cX3_waterBy 24 = .ok (.invokestatic 27, 3) := dk_at dkB02decX0_13 37 rfl
theorem dX3_waterBy_27 : decode cX3_waterBy 27 = .ok (.istore 5, 2) := dk_at dkB02decX0_13 38 rfl
theorem dX3_waterBy_29 : decode cX3_waterBy 29 = .ok (.iload 5, 2) := dk_at dkB02decX0_13 39 rfl
theorem dX3_waterBy_31 : decode cX3_waterBy 31 = .ok (.iload_n 1, 1) := dk_at dkB02decX0_13 40 rfl
theorem dX3_waterBy_32 : decode cX3_waterBy 32 = .ok (.if_icmp .gt 33, 3) := dk_at dkB02decX0_13 41 rfl
theorem dX3_waterBy_35 : decode cX3_waterBy 35 = .ok (.iload 4, 2) := dk_at dkB02decX0_13 42 rfl
theorem dX3_waterBy_37 : decode cX3_waterBy 37 = .ok (.aload_n 0, 1) := dk_at dkB02decX0_13 43 rfl
theorem dX3_waterBy_38 : decode cX3_waterBy 38 = .ok (.getfield 11, 3) := dk_at dkB02decX0_13 44 rfl
theorem dX3_waterBy_41 : decode cX3_waterBy 41 = .ok (.iconst 0, 1) := dk_at dkB02decX0_13 45 rfl
theorem dX3_waterBy_42 : decode cX3_waterBy 42 = .ok (.aaload, 1) := dk_at dkB02decX0_13 46 rfl
theorem dX3_waterBy_43 : decode cX3_waterBy 43 = .ok (.iload 5, 2) := dk_at dkB02decX0_13 47 rfl
theorem dX3_waterBy_45 : decode cX3_waterBy 45 = .ok (.iaload, 1) := dk_at dkB02decX0_13 48 rfl
theorem dX3_waterBy_46 : decode cX3_waterBy 46 = .ok (.aload_n 0, 1) := dk_at dkB02decX0_13 49 rfl
theorem dX3_waterBy_47 : decode cX3_waterBy 47 = .ok (.getfield 11, 3) := dk_at dkB02decX0_13 50 rfl
theorem dX3_waterBy_50 : decode cX3_waterBy 50 = .ok (.iconst 1, 1) := dk_at dkB02decX0_13 51 rfl
theorem dX3_waterBy_51 : decode cX3_waterBy 51 = .ok (.aaload, 1) := dk_at dkB02decX0_13 52 rfl
theorem dX3_waterBy_52 : decode cX3_waterBy 52 = .ok (.iload 5, 2) := dk_at dkB02decX0_13 53 rfl
theorem dX3_waterBy_54 : decode cX3_waterBy 54 = .ok (.iaload, 1) := dk_at dkB02decX0_13 54 rfl
theorem dX3_waterBy_55 : decode cX3_waterBy 55 = .ok (.imul, 1) := dk_at dkB02decX0_13 55 rfl
theorem dX3_waterBy_56 : decode cX3_waterBy 56 = .ok (.iadd, 1) := dk_at dkB02decX0_13 56 rfl
theorem dX3_waterBy_57 : decode cX3_waterBy 57 = .ok (.istore 4, 2) := dk_at dkB02decX0_13 57 rfl
theorem dX3_waterBy_59 : decode cX3_waterBy 59 = .ok (.iinc 5 1, 3) := dk_at dkB02decX0_13 58 rfl
theorem dX3_waterBy_62 : decode cX3_waterBy 62 = .ok (.goto (-33), 3) := dk_at dkB02decX0_13 59 rfl
noncomputable def dkL02decX0_14 : List (ByteArray × Nat × Instr × Nat) := [(cX3_waterBy, 65, (.iload 4, 2)), (cX3_waterBy, 67, (.iload_n 3, 1)), (cX3_waterBy, 68, (.idiv, 1)), (cX3_waterBy, 69, (.ireturn, 1)), (cX3_take, 0, (.iconst 0, 1)), (cX3_take, 1, (.istore_n 2, 1)), (cX3_take, 2, (.iload_n 2, 1)), (cX3_take, 3, (.iconst 2, 1)), (cX3_take, 4, (.if_icmp .gt 24, 3)), (cX3_take, 7, (.aload_n 1, 1)), (cX3_take, 8, (.getfield 11, 3)), (cX3_take, 11, (.iload_n 2, 1)), (cX3_take, 12, (.aaload, 1)), (cX3_take, 13, (.aload_n 0, 1)), (cX3_take, 14, (.getfield 11, 3)), (cX3_take, 17, (.iload_n 2, 1)), (cX3_take, 18, (.aaload, 1)), (cX3_take, 19, (.invokestatic 36, 3)), (cX3_take, 22, (.iinc 2 1, 3)), (cX3_take, 25, (.goto (-23), 3)), (cX3_take, 28, (.aload_n 0, 1)), (cX3_take, 29, (.aload_n 1, 1)), (cX3_take, 30, (.getfield 16, 3)), (cX3_take, 33, (.putfield 16, 3)), (cX3_take, 36, (.aload_n 0, 1)), (cX3_take, 37, (.aload_n 1, 1)), (cX3_take, 38, (.getfield 20, 3)), (cX3_take, 41, (.putfield 20, 3)), (cX3_take, 44, (.return_, 1)), (cX4_init, 0, (.aload_n 0, 1)), (cX4_init, 1, (.invokespecial 3, 3)), (cX4_init, 4, (.aload_n 0, 1)), (cX4_init, 5, (.bipush 6, 2)), (cX4_init, 7, (.newarray .int, 2)), (cX4_init, 9, (.putfield 9, 3)), (cX4_init, 12, (.aload_n 0, 1)), (cX4_init, 13, (.bipush 6, 2)), (cX4_init, 15, (.newarray .int, 2)), (cX4_init, 17, (.putfield 15, 3)), (cX4_init, 20, (.aload_n 0, 1)), (cX4_init, 21, (.bipush 18, 2)), (cX4_init, 23, (.newarray .int, 2)), (cX4_init, 25, (.putfield 18, 3)), (cX4_init, 28, (.aload_n 0, 1)), (cX4_init, 29, (.bipush 18, 2)), (cX4_init, 31, (.newarray .int, 2)), (cX4_init, 33, (.putfield 21, 3)), (cX4_init, 36, (.aload_n 0, 1)), (cX4_init, 37, (.bipush 18, 2)), (cX4_init, 39, (.newarray .int, 2)), (cX4_init, 41, (.putfield 24, 3)), (cX4_init, 44, (.return_, 1)), (cX4_growth, 0, (.aload_n 1, 1)), (cX4_growth, 1, (.iload_n 2, 1)), (cX4_growth, 2, (.aload_n 1, 1)), (cX4_growth, 3, (.getfield 27, 3)), (cX4_growth, 6, (.invokevirtual 33, 3)), (cX4_growth, 9, (.istore_n 3, 1)), (cX4_growth, 10, (.iload_n 3, 1)), (cX4_growth, 11, (.ifCond .ne 5, 3))]
theorem dkB02decX0_14 : dkL02decX0_14.all (fun q => decide (decode q.1 q.2.1 = .ok q.2.2)) = true := by decide +kernel
theorem dX3_waterBy_65 : decode cX3_waterBy 65 = .ok (.iload 4, 2) := dk_at dkB02decX0_14 0 rfl
theorem dX3_waterBy_67 : decode cX3_waterBy 67 = .ok (.iload_n 3, 1) := dk_at dkB02decX0_14 1 rfl
theorem dX3_waterBy_68 : decode cX3_waterBy 68 = .ok (.idiv, 1) := dk_at dkB02decX0_14 2 rfl
theorem dX3_waterBy_69 : decode cX3_waterBy 69 = .ok (.ireturn, 1) := dk_at dkB02decX0_14 3 rfl
theorem dX3_take_0 : decode cX3_take 0 = .ok (.iconst 0, 1) := dk_at dkB02decX0_14 4 rfl
theorem dX3_take_1 : decode cX3_take 1 = .ok (.istore_n 2, 1) := dk_at dkB02decX0_14 5 rfl
theorem dX3_take_2 : decode cX3_take 2 = .ok (.iload_n 2, 1) := dk_at dkB02decX0_14 6 rfl
theorem dX3_take_3 : decode cX3_take 3 = .ok (.iconst 2, 1) := dk_at dkB02decX0_14 7 rfl
theorem dX3_take_4 : decode cX3_take 4 = .ok (.if_icmp .gt 24, 3) := dk_at dkB02decX0_14 8 rfl
theorem dX3_take_7 : decode cX3_take 7 = .ok (.aload_n 1, 1) := dk_at dkB02decX0_14 9 rfl
theorem dX3_take_8 : decode cX3_take 8 = .ok (.getfield 11, 3) := dk_at dkB02decX0_14 10 rfl
theorem dX3_take_11 : decode cX3_take 11 = .ok (.iload_n 2, 1) := dk_at dkB02decX0_14 11 rfl
theorem dX3_take_12 : decode cX3_take 12 = .ok (.aaload, 1) := dk_at dkB02decX0_14 12 rfl
theorem dX3_take_13 : decode cX3_take 13 = .ok (.aload_n 0, 1) := dk_at dkB02decX0_14 13 rfl
theorem dX3_take_14 : decode cX3_take 14 = .ok (.getfield 11, 3) := dk_at dkB02decX0_14 14 rfl
theorem dX3_take_17 : decode cX3_take 17 = .ok (.iload_n 2, 1) := dk_at dkB02decX0_14 15 rfl
theorem dX3_take_18 : decode cX3_take 18 = .ok (.aaload, 1) := dk_at dkB02decX0_14 16 rfl
theorem dX3_take_19 : decode cX3_take 19 = .ok (.invokestatic 36, 3) := dk_at dkB02decX0_14 17 rfl
theorem dX3_take_22 : decode cX3_take 22 = .ok (.iinc 2 1, 3) := dk_at dkB02decX0_14 18 rfl
theorem dX3_take_25 : decode cX3_take 25 = .ok (.goto (-23), 3) := dk_at dkB02decX0_14 19 rfl
theorem dX3_take_28 : decode cX3_take 28 = .ok (.aload_n 0, 1) := dk_at dkB02decX0_14 20 rfl
theorem dX3_take_29 : decode cX3_take 29 = .ok (.aload_n 1, 1) := dk_at dkB02decX0_14 21 rfl
theorem dX3_take_30 : decode cX3_take 30 = .ok (.getfield 16, 3) := dk_at dkB02decX0_14 22 rfl
theorem dX3_take_33 : decode cX3_take 33 = .ok (.putfield 16, 3) := dk_at dkB02decX0_14 23 rfl
theorem dX3_take_36 : decode cX3_take 36 = .ok (.aload_n 0, 1) := dk_at dkB02decX0_14 24 rfl
theorem dX3_take_37 : decode cX3_take 37 = .ok (.aload_n 1, 1) := dk_at dkB02decX0_14 25 rfl
theorem dX3_take_38 : decode cX3_take 38 = .ok (.getfield 20, 3) := dk_at dkB02decX0_14 26 rfl
theorem dX3_take_41 : decode cX3_take 41 = .ok (.putfield 20, 3) := dk_at dkB02decX0_14 27 rfl
theorem dX3_take_44 : decode cX3_take 44 = .ok (.return_, 1) := dk_at dkB02decX0_14 28 rfl
theorem dX4_init_0 : decode cX4_init 0 = .ok (.aload_n 0, 1) := dk_at dkB02decX0_14 29 rfl
theorem dX4_init_1 : decode cX4_init 1 = .ok (.invokespecial 3, 3) := dk_at dkB02decX0_14 30 rfl
theorem dX4_init_4 : decode cX4_init 4 = .ok (.aload_n 0, 1) := dk_at dkB02decX0_14 31 rfl
theorem dX4_init_5 : decode cX4_init 5 = .ok (.bipush 6, 2) := dk_at dkB02decX0_14 32 rfl
theorem dX4_init_7 : decode cX4_init 7 = .ok (.newarray .int, 2) := dk_at dkB02decX0_14 33 rfl
theorem dX4_init_9 : decode cX4_init 9 = .ok (.putfield 9, 3) := dk_at dkB02decX0_14 34 rfl
theorem dX4_init_12 : decode cX4_init 12 = .ok (.aload_n 0, 1) := dk_at dkB02decX0_14 35 rfl
theorem dX4_init_13 : decode cX4_init 13 = .ok (.bipush 6, 2) := dk_at dkB02decX0_14 36 rfl
theorem dX4_init_15 : decode cX4_init 15 = .ok (.newarray .int, 2) := dk_at dkB02decX0_14 37 rfl
theorem dX4_init_17 : decode cX4_init 17 = .ok (.putfield 15, 3) := dk_at dkB02decX0_14 38 rfl
theorem dX4_init_20 : decode cX4_init 20 = .ok (.aload_n 0, 1) := dk_at dkB02decX0_14 39 rfl
theorem dX4_init_21 : decode cX4_init 21 = .ok (.bipush 18, 2) := dk_at dkB02decX0_14 40 rfl
theorem dX4_init_23 : decode cX4_init 23 = .ok (.newarray .int, 2) := dk_at dkB02decX0_14 41 rfl
theorem dX4_init_25 : decode cX4_init 25 = .ok (.putfield 18, 3) := dk_at dkB02decX0_14 42 rfl
theorem dX4_init_28 : decode cX4_init 28 = .ok (.aload_n 0, 1) := dk_at dkB02decX0_14 43 rfl
theorem dX4_init_29 : decode cX4_init 29 = .ok (.bipush 18, 2) := dk_at dkB02decX0_14 44 rfl
theorem dX4_init_31 : decode cX4_init 31 = .ok (.newarray .int, 2) := dk_at dkB02decX0_14 45 rfl
theorem dX4_init_33 : decode cX4_init 33 = .ok (.putfield 21, 3) := dk_at dkB02decX0_14 46 rfl
theorem dX4_init_36 : decode cX4_init 36 = .ok (.aload_n 0, 1) := dk_at dkB02decX0_14 47 rfl
theorem dX4_init_37 : decode cX4_init 37 = .ok (.bipush 18, 2) := dk_at dkB02decX0_14 48 rfl
theorem dX4_init_39 : decode cX4_init 39 = .ok (.newarray .int, 2) := dk_at dkB02decX0_14 49 rfl
theorem dX4_init_41 : decode cX4_init 41 = .ok (.putfield 24, 3) := dk_at dkB02decX0_14 50 rfl
theorem dX4_init_44 : decode cX4_init 44 = .ok (.return_, 1) := dk_at dkB02decX0_14 51 rfl
theorem dX4_growth_0 : decode cX4_growth 0 = .ok (.aload_n 1, 1) := dk_at dkB02decX0_14 52 rfl
theorem dX4_growth_1 : decode cX4_growth 1 = .ok (.iload_n 2, 1) := dk_at dkB02decX0_14 53 rfl
theorem dX4_growth_2 : decode cX4_growth 2 = .ok (.aload_n 1, 1) := dk_at dkB02decX0_14 54 rfl
theorem dX4_growth_3 : decode cX4_growth 3 = .ok (.getfield 27, 3) := dk_at dkB02decX0_14 55 rfl
theorem dX4_growth_6 : decode cX4_growth 6 = .ok (.invokevirtual 33, 3) := dk_at dkB02decX0_14 56 rfl
theorem dX4_growth_9 : decode cX4_growth 9 = .ok (.istore_n 3, 1) := dk_at dkB02decX0_14 57 rfl
theorem dX4_growth_10 : decode cX4_growth 10 = .ok (.iload_n 3, 1) := dk_at dkB02decX0_14 58 rfl
theorem dX4_growth_11 : decode cX4_growth 11 = .ok (.ifCond .ne 5, 3) := dk_at dkB02decX0_14 59 rfl
noncomputable def dkL02decX0_15 : List (ByteArray × Nat × Instr × Nat) := [(cX4_growth, 14, (.iconst 0, 1)), (cX4_growth, 15, (.ireturn, 1)), (cX4_growth, 16, (.iconst 0, 1)), (cX4_growth, 17, (.istore 4, 2)), (cX4_growth, 19, (.iload 4, 2)), (cX4_growth, 21, (.aload_n 0, 1)), (cX4_growth, 22, (.getfield 37, 3)), (cX4_growth, 25, (.if_icmp .ge 43, 3)), (cX4_growth, 28, (.aload_n 0, 1)), (cX4_growth, 29, (.iload 4, 2)), (cX4_growth, 31, (.aload_n 1, 1)), (cX4_growth, 32, (.getfield 40, 3)), (cX4_growth, 35, (.iconst 0, 1)), (cX4_growth, 36, (.aaload, 1)), (cX4_growth, 37, (.iload_n 2, 1)), (cX4_growth, 38, (.iaload, 1)), (cX4_growth, 39, (.aload_n 1, 1)), (cX4_growth, 40, (.getfield 40, 3)), (cX4_growth, 43, (.iconst 2, 1)), (cX4_growth, 44, (.aaload, 1)), (cX4_growth, 45, (.iload_n 2, 1)), (cX4_growth, 46, (.iaload, 1)), (cX4_growth, 47, (.iload_n 3, 1)), (cX4_growth, 48, (.invokevirtual 44, 3)), (cX4_growth, 51, (.ifCond .eq 11, 3)), (cX4_growth, 54, (.aload_n 0, 1)), (cX4_growth, 55, (.getfield 9, 3)), (cX4_growth, 58, (.iload 4, 2)), (cX4_growth, 60, (.iaload, 1)), (cX4_growth, 61, (.ireturn, 1)), (cX4_growth, 62, (.iinc 4 1, 3)), (cX4_growth, 65, (.goto (-46), 3)), (cX4_growth, 68, (.iconst 0, 1)), (cX4_growth, 69, (.ireturn, 1)), (cX4_isMet, 0, (.iconst 0, 1)), (cX4_isMet, 1, (.istore 5, 2)), (cX4_isMet, 3, (.iload 5, 2)), (cX4_isMet, 5, (.aload_n 0, 1)), (cX4_isMet, 6, (.getfield 15, 3)), (cX4_isMet, 9, (.iload_n 1, 1)), (cX4_isMet, 10, (.iaload, 1)), (cX4_isMet, 11, (.if_icmp .ge 111, 3)), (cX4_isMet, 14, (.iload_n 1, 1)), (cX4_isMet, 15, (.iconst 3, 1)), (cX4_isMet, 16, (.imul, 1)), (cX4_isMet, 17, (.iload 5, 2)), (cX4_isMet, 19, (.iadd, 1)), (cX4_isMet, 20, (.istore 6, 2)), (cX4_isMet, 22, (.aload_n 0, 1)), (cX4_isMet, 23, (.getfield 18, 3)), (cX4_isMet, 26, (.iload 6, 2)), (cX4_isMet, 28, (.iaload, 1)), (cX4_isMet, 29, (.bipush 97, 2)), (cX4_isMet, 31, (.if_icmp .ne 7, 3)), (cX4_isMet, 34, (.iload_n 2, 1)), (cX4_isMet, 35, (.goto 21, 3)), (cX4_isMet, 38, (.aload_n 0, 1)), (cX4_isMet, 39, (.getfield 18, 3)), (cX4_isMet, 42, (.iload 6, 2)), (cX4_isMet, 44, (.iaload, 1))]
theorem dkB02decX0_15 : dkL02decX0_15.all (fun q => decide (decode q.1 q.2.1 = .ok q.2.2)) = true := by decide +kernel
theorem dX4_growth_14 : decode cX4_growth 14 = .ok (.iconst 0, 1) := dk_at dkB02decX0_15 0 rfl
theorem dX4_growth_15 : decode cX4_growth 15 = .ok (.ireturn, 1) := dk_at dkB02decX0_15 1 rfl
theorem dX4_growth_16 : decode cX4_growth 16 = .ok (.iconst 0, 1) := dk_at dkB02decX0_15 2 rfl
theorem dX4_growth_17 : decode cX4_growth 17 = .ok (.istore 4, 2) := dk_at dkB02decX0_15 3 rfl
theorem dX4_growth_19 : decode cX4_growth 19 = .ok (.iload 4, 2) := dk_at dkB02decX0_15 4 rfl
theorem dX4_growth_21 : decode cX4_growth 21 = .ok (.aload_n 0, 1) := dk_at dkB02decX0_15 5 rfl
theorem dX4_growth_22 : decode cX4_growth 22 = .ok (.getfield 37, 3) := dk_at dkB02decX0_15 6 rfl
theorem dX4_growth_25 : decode cX4_growth 25 = .ok (.if_icmp .ge 43, 3) := dk_at dkB02decX0_15 7 rfl
theorem dX4_growth_28 : decode cX4_growth 28 = .ok (.aload_n 0, 1) := dk_at dkB02decX0_15 8 rfl
theorem dX4_growth_29 : decode cX4_growth 29 = .ok (.iload 4, 2) := dk_at dkB02decX0_15 9 rfl
theorem dX4_growth_31 : decode cX4_growth 31 = .ok (.aload_n 1, 1) := dk_at dkB02decX0_15 10 rfl
theorem dX4_growth_32 : decode cX4_growth 32 = .ok (.getfield 40, 3) := dk_at dkB02decX0_15 11 rfl
theorem dX4_growth_35 : decode cX4_growth 35 = .ok (.iconst 0, 1) := dk_at dkB02decX0_15 12 rfl
theorem dX4_growth_36 : decode cX4_growth 36 = .ok (.aaload, 1) := dk_at dkB02decX0_15 13 rfl
theorem dX4_growth_37 : decode cX4_growth 37 = .ok (.iload_n 2, 1) := dk_at dkB02decX0_15 14 rfl
theorem dX4_growth_38 : decode cX4_growth 38 = .ok (.iaload, 1) := dk_at dkB02decX0_15 15 rfl
theorem dX4_growth_39 : decode cX4_growth 39 = .ok (.aload_n 1, 1) := dk_at dkB02decX0_15 16 rfl
theorem dX4_growth_40 : decode cX4_growth 40 = .ok (.getfield 40, 3) := dk_at dkB02decX0_15 17 rfl
theorem dX4_growth_43 : decode cX4_growth 43 = .ok (.iconst 2, 1) := dk_at dkB02decX0_15 18 rfl
theorem dX4_growth_44 : decode cX4_growth 44 = .ok (.aaload, 1) := dk_at dkB02decX0_15 19 rfl
theorem dX4_growth_45 : decode cX4_growth 45 = .ok (.iload_n 2, 1) := dk_at dkB02decX0_15 20 rfl
theorem dX4_growth_46 : decode cX4_growth 46 = .ok (.iaload, 1) := dk_at dkB02decX0_15 21 rfl
theorem dX4_growth_47 : decode cX4_growth 47 = .ok (.iload_n 3, 1) := dk_at dkB02decX0_15 22 rfl
theorem dX4_growth_48 : decode cX4_growth 48 = .ok (.invokevirtual 44, 3) := dk_at dkB02decX0_15 23 rfl
theorem dX4_growth_51 : decode cX4_growth 51 = .ok (.ifCond .eq 11, 3) := dk_at dkB02decX0_15 24 rfl
theorem dX4_growth_54 : decode cX4_growth 54 = .ok (.aload_n 0, 1) := dk_at dkB02decX0_15 25 rfl
theorem dX4_growth_55 : decode cX4_growth 55 = .ok (.getfield 9, 3) := dk_at dkB02decX0_15 26 rfl
theorem dX4_growth_58 : decode cX4_growth 58 = .ok (.iload 4, 2) := dk_at dkB02decX0_15 27 rfl
theorem dX4_growth_60 : decode cX4_growth 60 = .ok (.iaload, 1) := dk_at dkB02decX0_15 28 rfl
theorem dX4_growth_61 : decode cX4_growth 61 = .ok (.ireturn, 1) := dk_at dkB02decX0_15 29 rfl
theorem dX4_growth_62 : decode cX4_growth 62 = .ok (.iinc 4 1, 3) := dk_at dkB02decX0_15 30 rfl
theorem dX4_growth_65 : decode cX4_growth 65 = .ok (.goto (-46), 3) := dk_at dkB02decX0_15 31 rfl
theorem dX4_growth_68 : decode cX4_growth 68 = .ok (.iconst 0, 1) := dk_at dkB02decX0_15 32 rfl
theorem dX4_growth_69 : decode cX4_growth 69 = .ok (.ireturn, 1) := dk_at dkB02decX0_15 33 rfl
theorem dX4_isMet_0 : decode cX4_isMet 0 = .ok (.iconst 0, 1) := dk_at dkB02decX0_15 34 rfl
theorem dX4_isMet_1 : decode cX4_isMet 1 = .ok (.istore 5, 2) := dk_at dkB02decX0_15 35 rfl
theorem dX4_isMet_3 : decode cX4_isMet 3 = .ok (.iload 5, 2) := dk_at dkB02decX0_15 36 rfl
theorem dX4_isMet_5 : decode cX4_isMet 5 = .ok (.aload_n 0, 1) := dk_at dkB02decX0_15 37 rfl
theorem dX4_isMet_6 : decode cX4_isMet 6 = .ok (.getfield 15, 3) := dk_at dkB02decX0_15 38 rfl
theorem dX4_isMet_9 : decode cX4_isMet 9 = .ok (.iload_n 1, 1) := dk_at dkB02decX0_15 39 rfl
theorem dX4_isMet_10 : decode cX4_isMet 10 = .ok (.iaload, 1) := dk_at dkB02decX0_15 40 rfl
theorem dX4_isMet_11 : decode cX4_isMet 11 = .ok (.if_icmp .ge 111, 3) := dk_at dkB02decX0_15 41 rfl
theorem dX4_isMet_14 : decode cX4_isMet 14 = .ok (.iload_n 1, 1) := dk_at dkB02decX0_15 42 rfl
theorem dX4_isMet_15 : decode cX4_isMet 15 = .ok (.iconst 3, 1) := dk_at dkB02decX0_15 43 rfl
theorem dX4_isMet_16 : decode cX4_isMet 16 = .ok (.imul, 1) := dk_at dkB02decX0_15 44 rfl
theorem dX4_isMet_17 : decode cX4_isMet 17 = .ok (.iload 5, 2) := dk_at dkB02decX0_15 45 rfl
theorem dX4_isMet_19 : decode cX4_isMet 19 = .ok (.iadd, 1) := dk_at dkB02decX0_15 46 rfl
theorem dX4_isMet_20 : decode cX4_isMet 20 = .ok (.istore 6, 2) := dk_at dkB02decX0_15 47 rfl
theorem dX4_isMet_22 : decode cX4_isMet 22 = .ok (.aload_n 0, 1) := dk_at dkB02decX0_15 48 rfl
theorem dX4_isMet_23 : decode cX4_isMet 23 = .ok (.getfield 18, 3) := dk_at dkB02decX0_15 49 rfl
theorem dX4_isMet_26 : decode cX4_isMet 26 = .ok (.iload 6, 2) := dk_at dkB02decX0_15 50 rfl
theorem dX4_isMet_28 : decode cX4_isMet 28 = .ok (.iaload, 1) := dk_at dkB02decX0_15 51 rfl
theorem dX4_isMet_29 : decode cX4_isMet 29 = .ok (.bipush 97, 2) := dk_at dkB02decX0_15 52 rfl
theorem dX4_isMet_31 : decode cX4_isMet 31 = .ok (.if_icmp .ne 7, 3) := dk_at dkB02decX0_15 53 rfl
theorem dX4_isMet_34 : decode cX4_isMet 34 = .ok (.iload_n 2, 1) := dk_at dkB02decX0_15 54 rfl
theorem dX4_isMet_35 : decode cX4_isMet 35 = .ok (.goto 21, 3) := dk_at dkB02decX0_15 55 rfl
theorem dX4_isMet_38 : decode cX4_isMet 38 = .ok (.aload_n 0, 1) := dk_at dkB02decX0_15 56 rfl
theorem dX4_isMet_39 : decode cX4_isMet 39 = .ok (.getfield 18, 3) := dk_at dkB02decX0_15 57 rfl
theorem dX4_isMet_42 : decode cX4_isMet 42 = .ok (.iload 6, 2) := dk_at dkB02decX0_15 58 rfl
theorem dX4_isMet_44 : decode cX4_isMet 44 = .ok (.iaload, 1) := dk_at dkB02decX0_15 59 rfl
noncomputable def dkL02decX0_16 : List (ByteArray × Nat × Instr × Nat) := [(cX4_isMet, 45, (.bipush 104, 2)), (cX4_isMet, 47, (.if_icmp .ne 7, 3)), (cX4_isMet, 50, (.iload_n 3, 1)), (cX4_isMet, 51, (.goto 5, 3)), (cX4_isMet, 54, (.iload 4, 2)), (cX4_isMet, 56, (.istore 7, 2)), (cX4_isMet, 58, (.iload 7, 2)), (cX4_isMet, 60, (.aload_n 0, 1)), (cX4_isMet, 61, (.getfield 24, 3)), (cX4_isMet, 64, (.iload 6, 2)), (cX4_isMet, 66, (.iaload, 1)), (cX4_isMet, 67, (.invokestatic 48, 3)), (cX4_isMet, 70, (.istore 8, 2)), (cX4_isMet, 72, (.aload_n 0, 1)), (cX4_isMet, 73, (.getfield 21, 3)), (cX4_isMet, 76, (.iload 6, 2)), (cX4_isMet, 78, (.iaload, 1)), (cX4_isMet, 79, (.bipush 60, 2)), (cX4_isMet, 81, (.if_icmp .ne 7, 3)), (cX4_isMet, 84, (.iconst (-1), 1)), (cX4_isMet, 85, (.goto 20, 3)), (cX4_isMet, 88, (.aload_n 0, 1)), (cX4_isMet, 89, (.getfield 21, 3)), (cX4_isMet, 92, (.iload 6, 2)), (cX4_isMet, 94, (.iaload, 1)), (cX4_isMet, 95, (.bipush 62, 2)), (cX4_isMet, 97, (.if_icmp .ne 7, 3)), (cX4_isMet, 100, (.iconst 1, 1)), (cX4_isMet, 101, (.goto 4, 3)), (cX4_isMet, 104, (.iconst 0, 1)), (cX4_isMet, 105, (.istore 9, 2)), (cX4_isMet, 107, (.iload 8, 2)), (cX4_isMet, 109, (.iload 9, 2)), (cX4_isMet, 111, (.if_icmp .eq 5, 3)), (cX4_isMet, 114, (.iconst 0, 1)), (cX4_isMet, 115, (.ireturn, 1)), (cX4_isMet, 116, (.iinc 5 1, 3)), (cX4_isMet, 119, (.goto (-116), 3)), (cX4_isMet, 122, (.iconst 1, 1)), (cX4_isMet, 123, (.ireturn, 1)), (cX4_take, 0, (.aload_n 1, 1)), (cX4_take, 1, (.getfield 9, 3)), (cX4_take, 4, (.aload_n 0, 1)), (cX4_take, 5, (.getfield 9, 3)), (cX4_take, 8, (.invokestatic 53, 3)), (cX4_take, 11, (.aload_n 1, 1)), (cX4_take, 12, (.getfield 15, 3)), (cX4_take, 15, (.aload_n 0, 1)), (cX4_take, 16, (.getfield 15, 3)), (cX4_take, 19, (.invokestatic 53, 3)), (cX4_take, 22, (.aload_n 1, 1)), (cX4_take, 23, (.getfield 18, 3)), (cX4_take, 26, (.aload_n 0, 1)), (cX4_take, 27, (.getfield 18, 3)), (cX4_take, 30, (.invokestatic 53, 3)), (cX4_take, 33, (.aload_n 1, 1)), (cX4_take, 34, (.getfield 21, 3)), (cX4_take, 37, (.aload_n 0, 1)), (cX4_take, 38, (.getfield 21, 3)), (cX4_take, 41, (.invokestatic 53, 3))]
theorem dkB02decX0_16 : dkL02decX0_16.all (fun q => decide (decode q.1 q.2.1 = .ok q.2.2)) = true := by decide +kernel
theorem dX4_isMet_45 : decode cX4_isMet 45 = .ok (.bipush 104, 2) := dk_at dkB02decX0_16 0 rfl
theorem dX4_isMet_47 : decode cX4_isMet 47 = .ok (.if_icmp .ne 7, 3) := dk_at dkB02decX0_16 1 rfl
theorem dX4_isMet_50 : decode cX4_isMet 50 = .ok (.iload_n 3, 1) := dk_at dkB02decX0_16 2 rfl
theorem dX4_isMet_51 : decode cX4_isMet 51 = .ok (.goto 5, 3) := dk_at dkB02decX0_16 3 rfl
theorem dX4_isMet_54 : decode cX4_isMet 54 = .ok (.iload 4, 2) := dk_at dkB02decX0_16 4 rfl
theorem dX4_isMet_56 : decode cX4_isMet 56 = .ok (.istore 7, 2) := dk_at dkB02decX0_16 5 rfl
theorem dX4_isMet_58 : decode cX4_isMet 58 = .ok (.iload 7, 2) := dk_at dkB02decX0_16 6 rfl
theorem dX4_isMet_60 : decode cX4_isMet 60 = .ok (.aload_n 0, 1) := dk_at dkB02decX0_16 7 rfl
theorem dX4_isMet_61 : decode cX4_isMet 61 = .ok (.getfield 24, 3) := dk_at dkB02decX0_16 8 rfl
theorem dX4_isMet_64 : decode cX4_isMet 64 = .ok (.iload 6, 2) := dk_at dkB02decX0_16 9 rfl
theorem dX4_isMet_66 : decode cX4_isMet 66 = .ok (.iaload, 1) := dk_at dkB02decX0_16 10 rfl
theorem dX4_isMet_67 : decode cX4_isMet 67 = .ok (.invokestatic 48, 3) := dk_at dkB02decX0_16 11 rfl
theorem dX4_isMet_70 : decode cX4_isMet 70 = .ok (.istore 8, 2) := dk_at dkB02decX0_16 12 rfl
theorem dX4_isMet_72 : decode cX4_isMet 72 = .ok (.aload_n 0, 1) := dk_at dkB02decX0_16 13 rfl
theorem dX4_isMet_73 : decode cX4_isMet 73 = .ok (.getfield 21, 3) := dk_at dkB02decX0_16 14 rfl
theorem dX4_isMet_76 : decode cX4_isMet 76 = .ok (.iload 6, 2) := dk_at dkB02decX0_16 15 rfl
theorem dX4_isMet_78 : decode cX4_isMet 78 = .ok (.iaload, 1) := dk_at dkB02decX0_16 16 rfl
theorem dX4_isMet_79 : decode cX4_isMet 79 = .ok (.bipush 60, 2) := dk_at dkB02decX0_16 17 rfl
theorem dX4_isMet_81 : decode cX4_isMet 81 = .ok (.if_icmp .ne 7, 3) := dk_at dkB02decX0_16 18 rfl
theorem dX4_isMet_84 : decode cX4_isMet 84 = .ok (.iconst (-1), 1) := dk_at dkB02decX0_16 19 rfl
theorem dX4_isMet_85 : decode cX4_isMet 85 = .ok (.goto 20, 3) := dk_at dkB02decX0_16 20 rfl
theorem dX4_isMet_88 : decode cX4_isMet 88 = .ok (.aload_n 0, 1) := dk_at dkB02decX0_16 21 rfl
theorem dX4_isMet_89 : decode cX4_isMet 89 = .ok (.getfield 21, 3) := dk_at dkB02decX0_16 22 rfl
theorem dX4_isMet_92 : decode cX4_isMet 92 = .ok (.iload 6, 2) := dk_at dkB02decX0_16 23 rfl
theorem dX4_isMet_94 : decode cX4_isMet 94 = .ok (.iaload, 1) := dk_at dkB02decX0_16 24 rfl
theorem dX4_isMet_95 : decode cX4_isMet 95 = .ok (.bipush 62, 2) := dk_at dkB02decX0_16 25 rfl
theorem dX4_isMet_97 : decode cX4_isMet 97 = .ok (.if_icmp .ne 7, 3) := dk_at dkB02decX0_16 26 rfl
theorem dX4_isMet_100 : decode cX4_isMet 100 = .ok (.iconst 1, 1) := dk_at dkB02decX0_16 27 rfl
theorem dX4_isMet_101 : decode cX4_isMet 101 = .ok (.goto 4, 3) := dk_at dkB02decX0_16 28 rfl
theorem dX4_isMet_104 : decode cX4_isMet 104 = .ok (.iconst 0, 1) := dk_at dkB02decX0_16 29 rfl
theorem dX4_isMet_105 : decode cX4_isMet 105 = .ok (.istore 9, 2) := dk_at dkB02decX0_16 30 rfl
theorem dX4_isMet_107 : decode cX4_isMet 107 = .ok (.iload 8, 2) := dk_at dkB02decX0_16 31 rfl
theorem dX4_isMet_109 : decode cX4_isMet 109 = .ok (.iload 9, 2) := dk_at dkB02decX0_16 32 rfl
theorem dX4_isMet_111 : decode cX4_isMet 111 = .ok (.if_icmp .eq 5, 3) := dk_at dkB02decX0_16 33 rfl
theorem dX4_isMet_114 : decode cX4_isMet 114 = .ok (.iconst 0, 1) := dk_at dkB02decX0_16 34 rfl
theorem dX4_isMet_115 : decode cX4_isMet 115 = .ok (.ireturn, 1) := dk_at dkB02decX0_16 35 rfl
theorem dX4_isMet_116 : decode cX4_isMet 116 = .ok (.iinc 5 1, 3) := dk_at dkB02decX0_16 36 rfl
theorem dX4_isMet_119 : decode cX4_isMet 119 = .ok (.goto (-116), 3) := dk_at dkB02decX0_16 37 rfl
theorem dX4_isMet_122 : decode cX4_isMet 122 = .ok (.iconst 1, 1) := dk_at dkB02decX0_16 38 rfl
theorem dX4_isMet_123 : decode cX4_isMet 123 = .ok (.ireturn, 1) := dk_at dkB02decX0_16 39 rfl
theorem dX4_take_0 : decode cX4_take 0 = .ok (.aload_n 1, 1) := dk_at dkB02decX0_16 40 rfl
theorem dX4_take_1 : decode cX4_take 1 = .ok (.getfield 9, 3) := dk_at dkB02decX0_16 41 rfl
theorem dX4_take_4 : decode cX4_take 4 = .ok (.aload_n 0, 1) := dk_at dkB02decX0_16 42 rfl
theorem dX4_take_5 : decode cX4_take 5 = .ok (.getfield 9, 3) := dk_at dkB02decX0_16 43 rfl
theorem dX4_take_8 : decode cX4_take 8 = .ok (.invokestatic 53, 3) := dk_at dkB02decX0_16 44 rfl
theorem dX4_take_11 : decode cX4_take 11 = .ok (.aload_n 1, 1) := dk_at dkB02decX0_16 45 rfl
theorem dX4_take_12 : decode cX4_take 12 = .ok (.getfield 15, 3) := dk_at dkB02decX0_16 46 rfl
theorem dX4_take_15 : decode cX4_take 15 = .ok (.aload_n 0, 1) := dk_at dkB02decX0_16 47 rfl
theorem dX4_take_16 : decode cX4_take 16 = .ok (.getfield 15, 3) := dk_at dkB02decX0_16 48 rfl
theorem dX4_take_19 : decode cX4_take 19 = .ok (.invokestatic 53, 3) := dk_at dkB02decX0_16 49 rfl
theorem dX4_take_22 : decode cX4_take 22 = .ok (.aload_n 1, 1) := dk_at dkB02decX0_16 50 rfl
theorem dX4_take_23 : decode cX4_take 23 = .ok (.getfield 18, 3) := dk_at dkB02decX0_16 51 rfl
theorem dX4_take_26 : decode cX4_take 26 = .ok (.aload_n 0, 1) := dk_at dkB02decX0_16 52 rfl
theorem dX4_take_27 : decode cX4_take 27 = .ok (.getfield 18, 3) := dk_at dkB02decX0_16 53 rfl
theorem dX4_take_30 : decode cX4_take 30 = .ok (.invokestatic 53, 3) := dk_at dkB02decX0_16 54 rfl
theorem dX4_take_33 : decode cX4_take 33 = .ok (.aload_n 1, 1) := dk_at dkB02decX0_16 55 rfl
theorem dX4_take_34 : decode cX4_take 34 = .ok (.getfield 21, 3) := dk_at dkB02decX0_16 56 rfl
theorem dX4_take_37 : decode cX4_take 37 = .ok (.aload_n 0, 1) := dk_at dkB02decX0_16 57 rfl
theorem dX4_take_38 : decode cX4_take 38 = .ok (.getfield 21, 3) := dk_at dkB02decX0_16 58 rfl
theorem dX4_take_41 : decode cX4_take 41 = .ok (.invokestatic 53, 3) := dk_at dkB02decX0_16 59 rfl
noncomputable def dkL02decX0_17 : List (ByteArray × Nat × Instr × Nat) := [(cX4_take, 44, (.aload_n 1, 1)), (cX4_take, 45, (.getfield 24, 3)), (cX4_take, 48, (.aload_n 0, 1)), (cX4_take, 49, (.getfield 24, 3)), (cX4_take, 52, (.invokestatic 53, 3)), (cX4_take, 55, (.aload_n 0, 1)), (cX4_take, 56, (.aload_n 1, 1)), (cX4_take, 57, (.getfield 37, 3)), (cX4_take, 60, (.putfield 37, 3)), (cX4_take, 63, (.return_, 1)), (cX5_init, 0, (.aload_n 0, 1)), (cX5_init, 1, (.invokespecial 3, 3)), (cX5_init, 4, (.aload_n 0, 1)), (cX5_init, 5, (.bipush 12, 2)), (cX5_init, 7, (.newarray .boolean, 2)), (cX5_init, 9, (.putfield 9, 3)), (cX5_init, 12, (.aload_n 0, 1)), (cX5_init, 13, (.bipush 12, 2)), (cX5_init, 15, (.newarray .boolean, 2)), (cX5_init, 17, (.putfield 15, 3)), (cX5_init, 20, (.aload_n 0, 1)), (cX5_init, 21, (.bipush 24, 2)), (cX5_init, 23, (.newarray .boolean, 2)), (cX5_init, 25, (.putfield 18, 3)), (cX5_init, 28, (.aload_n 0, 1)), (cX5_init, 29, (.bipush 24, 2)), (cX5_init, 31, (.newarray .boolean, 2)), (cX5_init, 33, (.putfield 21, 3)), (cX5_init, 36, (.aload_n 0, 1)), (cX5_init, 37, (.bipush 24, 2)), (cX5_init, 39, (.newarray .int, 2)), (cX5_init, 41, (.putfield 24, 3)), (cX5_init, 44, (.aload_n 0, 1)), (cX5_init, 45, (.sipush 16224, 3)), (cX5_init, 48, (.newarray .long, 2)), (cX5_init, 50, (.putfield 28, 3)), (cX5_init, 53, (.aload_n 0, 1)), (cX5_init, 54, (.bipush 96, 2)), (cX5_init, 56, (.newarray .long, 2)), (cX5_init, 58, (.putfield 32, 3)), (cX5_init, 61, (.return_, 1)), (cX5_waysSo, 0, (.aload_n 1, 1)), (cX5_waysSo, 1, (.getfield 35, 3)), (cX5_waysSo, 4, (.ifCond .ne 5, 3)), (cX5_waysSo, 7, (.lconst 0, 1)), (cX5_waysSo, 8, (.lreturn, 1)), (cX5_waysSo, 9, (.aload_n 0, 1)), (cX5_waysSo, 10, (.aload_n 1, 1)), (cX5_waysSo, 11, (.aload_n 2, 1)), (cX5_waysSo, 12, (.aload_n 3, 1)), (cX5_waysSo, 13, (.iload 4, 2)), (cX5_waysSo, 15, (.invokevirtual 41, 3)), (cX5_waysSo, 18, (.aload_n 0, 1)), (cX5_waysSo, 19, (.getfield 28, 3)), (cX5_waysSo, 22, (.iconst 0, 1)), (cX5_waysSo, 23, (.aload_n 0, 1)), (cX5_waysSo, 24, (.getfield 45, 3)), (cX5_waysSo, 27, (.iconst 1, 1)), (cX5_waysSo, 28, (.iadd, 1)), (cX5_waysSo, 29, (.aload_n 0, 1))]
theorem dkB02decX0_17 : dkL02decX0_17.all (fun q => decide (decode q.1 q.2.1 = .ok q.2.2)) = true := by decide +kernel
theorem dX4_take_44 : decode cX4_take 44 = .ok (.aload_n 1, 1) := dk_at dkB02decX0_17 0 rfl
theorem dX4_take_45 : decode cX4_take 45 = .ok (.getfield 24, 3) := dk_at dkB02decX0_17 1 rfl
theorem dX4_take_48 : decode cX4_take 48 = .ok (.aload_n 0, 1) := dk_at dkB02decX0_17 2 rfl
theorem dX4_take_49 : decode cX4_take 49 = .ok (.getfield 24, 3) := dk_at dkB02decX0_17 3 rfl
theorem dX4_take_52 : decode cX4_take 52 = .ok (.invokestatic 53, 3) := dk_at dkB02decX0_17 4 rfl
theorem dX4_take_55 : decode cX4_take 55 = .ok (.aload_n 0, 1) := dk_at dkB02decX0_17 5 rfl
theorem dX4_take_56 : decode cX4_take 56 = .ok (.aload_n 1, 1) := dk_at dkB02decX0_17 6 rfl
theorem dX4_take_57 : decode cX4_take 57 = .ok (.getfield 37, 3) := dk_at dkB02decX0_17 7 rfl
theorem dX4_take_60 : decode cX4_take 60 = .ok (.putfield 37, 3) := dk_at dkB02decX0_17 8 rfl
theorem dX4_take_63 : decode cX4_take 63 = .ok (.return_, 1) := dk_at dkB02decX0_17 9 rfl
theorem dX5_init_0 : decode cX5_init 0 = .ok (.aload_n 0, 1) := dk_at dkB02decX0_17 10 rfl
theorem dX5_init_1 : decode cX5_init 1 = .ok (.invokespecial 3, 3) := dk_at dkB02decX0_17 11 rfl
theorem dX5_init_4 : decode cX5_init 4 = .ok (.aload_n 0, 1) := dk_at dkB02decX0_17 12 rfl
theorem dX5_init_5 : decode cX5_init 5 = .ok (.bipush 12, 2) := dk_at dkB02decX0_17 13 rfl
theorem dX5_init_7 : decode cX5_init 7 = .ok (.newarray .boolean, 2) := dk_at dkB02decX0_17 14 rfl
theorem dX5_init_9 : decode cX5_init 9 = .ok (.putfield 9, 3) := dk_at dkB02decX0_17 15 rfl
theorem dX5_init_12 : decode cX5_init 12 = .ok (.aload_n 0, 1) := dk_at dkB02decX0_17 16 rfl
theorem dX5_init_13 : decode cX5_init 13 = .ok (.bipush 12, 2) := dk_at dkB02decX0_17 17 rfl
theorem dX5_init_15 : decode cX5_init 15 = .ok (.newarray .boolean, 2) := dk_at dkB02decX0_17 18 rfl
theorem dX5_init_17 : decode cX5_init 17 = .ok (.putfield 15, 3) := dk_at dkB02decX0_17 19 rfl
theorem dX5_init_20 : decode cX5_init 20 = .ok (.aload_n 0, 1) := dk_at dkB02decX0_17 20 rfl
theorem dX5_init_21 : decode cX5_init 21 = .ok (.bipush 24, 2) := dk_at dkB02decX0_17 21 rfl
theorem dX5_init_23 : decode cX5_init 23 = .ok (.newarray .boolean, 2) := dk_at dkB02decX0_17 22 rfl
theorem dX5_init_25 : decode cX5_init 25 = .ok (.putfield 18, 3) := dk_at dkB02decX0_17 23 rfl
theorem dX5_init_28 : decode cX5_init 28 = .ok (.aload_n 0, 1) := dk_at dkB02decX0_17 24 rfl
theorem dX5_init_29 : decode cX5_init 29 = .ok (.bipush 24, 2) := dk_at dkB02decX0_17 25 rfl
theorem dX5_init_31 : decode cX5_init 31 = .ok (.newarray .boolean, 2) := dk_at dkB02decX0_17 26 rfl
theorem dX5_init_33 : decode cX5_init 33 = .ok (.putfield 21, 3) := dk_at dkB02decX0_17 27 rfl
theorem dX5_init_36 : decode cX5_init 36 = .ok (.aload_n 0, 1) := dk_at dkB02decX0_17 28 rfl
theorem dX5_init_37 : decode cX5_init 37 = .ok (.bipush 24, 2) := dk_at dkB02decX0_17 29 rfl
theorem dX5_init_39 : decode cX5_init 39 = .ok (.newarray .int, 2) := dk_at dkB02decX0_17 30 rfl
theorem dX5_init_41 : decode cX5_init 41 = .ok (.putfield 24, 3) := dk_at dkB02decX0_17 31 rfl
theorem dX5_init_44 : decode cX5_init 44 = .ok (.aload_n 0, 1) := dk_at dkB02decX0_17 32 rfl
theorem dX5_init_45 : decode cX5_init 45 = .ok (.sipush 16224, 3) := dk_at dkB02decX0_17 33 rfl
theorem dX5_init_48 : decode cX5_init 48 = .ok (.newarray .long, 2) := dk_at dkB02decX0_17 34 rfl
theorem dX5_init_50 : decode cX5_init 50 = .ok (.putfield 28, 3) := dk_at dkB02decX0_17 35 rfl
theorem dX5_init_53 : decode cX5_init 53 = .ok (.aload_n 0, 1) := dk_at dkB02decX0_17 36 rfl
theorem dX5_init_54 : decode cX5_init 54 = .ok (.bipush 96, 2) := dk_at dkB02decX0_17 37 rfl
theorem dX5_init_56 : decode cX5_init 56 = .ok (.newarray .long, 2) := dk_at dkB02decX0_17 38 rfl
theorem dX5_init_58 : decode cX5_init 58 = .ok (.putfield 32, 3) := dk_at dkB02decX0_17 39 rfl
theorem dX5_init_61 : decode cX5_init 61 = .ok (.return_, 1) := dk_at dkB02decX0_17 40 rfl
theorem dX5_waysSo_0 : decode cX5_waysSo 0 = .ok (.aload_n 1, 1) := dk_at dkB02decX0_17 41 rfl
theorem dX5_waysSo_1 : decode cX5_waysSo 1 = .ok (.getfield 35, 3) := dk_at dkB02decX0_17 42 rfl
theorem dX5_waysSo_4 : decode cX5_waysSo 4 = .ok (.ifCond .ne 5, 3) := dk_at dkB02decX0_17 43 rfl
theorem dX5_waysSo_7 : decode cX5_waysSo 7 = .ok (.lconst 0, 1) := dk_at dkB02decX0_17 44 rfl
theorem dX5_waysSo_8 : decode cX5_waysSo 8 = .ok (.lreturn, 1) := dk_at dkB02decX0_17 45 rfl
theorem dX5_waysSo_9 : decode cX5_waysSo 9 = .ok (.aload_n 0, 1) := dk_at dkB02decX0_17 46 rfl
theorem dX5_waysSo_10 : decode cX5_waysSo 10 = .ok (.aload_n 1, 1) := dk_at dkB02decX0_17 47 rfl
theorem dX5_waysSo_11 : decode cX5_waysSo 11 = .ok (.aload_n 2, 1) := dk_at dkB02decX0_17 48 rfl
theorem dX5_waysSo_12 : decode cX5_waysSo 12 = .ok (.aload_n 3, 1) := dk_at dkB02decX0_17 49 rfl
theorem dX5_waysSo_13 : decode cX5_waysSo 13 = .ok (.iload 4, 2) := dk_at dkB02decX0_17 50 rfl
theorem dX5_waysSo_15 : decode cX5_waysSo 15 = .ok (.invokevirtual 41, 3) := dk_at dkB02decX0_17 51 rfl
theorem dX5_waysSo_18 : decode cX5_waysSo 18 = .ok (.aload_n 0, 1) := dk_at dkB02decX0_17 52 rfl
theorem dX5_waysSo_19 : decode cX5_waysSo 19 = .ok (.getfield 28, 3) := dk_at dkB02decX0_17 53 rfl
theorem dX5_waysSo_22 : decode cX5_waysSo 22 = .ok (.iconst 0, 1) := dk_at dkB02decX0_17 54 rfl
theorem dX5_waysSo_23 : decode cX5_waysSo 23 = .ok (.aload_n 0, 1) := dk_at dkB02decX0_17 55 rfl
theorem dX5_waysSo_24 : decode cX5_waysSo 24 = .ok (.getfield 45, 3) := dk_at dkB02decX0_17 56 rfl
theorem dX5_waysSo_27 : decode cX5_waysSo 27 = .ok (.iconst 1, 1) := dk_at dkB02decX0_17 57 rfl
theorem dX5_waysSo_28 : decode cX5_waysSo 28 = .ok (.iadd, 1) := dk_at dkB02decX0_17 58 rfl
theorem dX5_waysSo_29 : decode cX5_waysSo 29 = .ok (.aload_n 0, 1) := dk_at dkB02decX0_17 59 rfl
noncomputable def dkL02decX0_18 : List (ByteArray × Nat × Instr × Nat) := [(cX5_waysSo, 30, (.getfield 48, 3)), (cX5_waysSo, 33, (.iconst 1, 1)), (cX5_waysSo, 34, (.iadd, 1)), (cX5_waysSo, 35, (.imul, 1)), (cX5_waysSo, 36, (.bipush 96, 2)), (cX5_waysSo, 38, (.imul, 1)), (cX5_waysSo, 39, (.lconst 0, 1)), (cX5_waysSo, 40, (.invokestatic 51, 3)), (cX5_waysSo, 43, (.aload_n 0, 1)), (cX5_waysSo, 44, (.iconst 0, 1)), (cX5_waysSo, 45, (.iconst 0, 1)), (cX5_waysSo, 46, (.iconst 0, 1)), (cX5_waysSo, 47, (.invokevirtual 57, 3)), (cX5_waysSo, 50, (.aload_n 1, 1)), (cX5_waysSo, 51, (.aload_n 0, 1)), (cX5_waysSo, 52, (.getfield 28, 3)), (cX5_waysSo, 55, (.aload_n 0, 1)), (cX5_waysSo, 56, (.getfield 24, 3)), (cX5_waysSo, 59, (.invokevirtual 61, 3)), (cX5_waysSo, 62, (.iconst 1, 1)), (cX5_waysSo, 63, (.istore 5, 2)), (cX5_waysSo, 65, (.iload 5, 2)), (cX5_waysSo, 67, (.aload_n 1, 1)), (cX5_waysSo, 68, (.getfield 35, 3)), (cX5_waysSo, 71, (.if_icmp .ge 16, 3)), (cX5_waysSo, 74, (.aload_n 0, 1)), (cX5_waysSo, 75, (.aload_n 1, 1)), (cX5_waysSo, 76, (.iload 5, 2)), (cX5_waysSo, 78, (.invokevirtual 65, 3)), (cX5_waysSo, 81, (.iinc 5 1, 3)), (cX5_waysSo, 84, (.goto (-19), 3)), (cX5_waysSo, 87, (.aload_n 0, 1)), (cX5_waysSo, 88, (.aload_n 3, 1)), (cX5_waysSo, 89, (.invokevirtual 69, 3)), (cX5_waysSo, 92, (.lreturn, 1)), (cX5_ask, 0, (.aload_n 0, 1)), (cX5_ask, 1, (.iconst 0, 1)), (cX5_ask, 2, (.aload_n 1, 1)), (cX5_ask, 3, (.aload_n 2, 1)), (cX5_ask, 4, (.aload_n 3, 1)), (cX5_ask, 5, (.invokestatic 73, 3)), (cX5_ask, 8, (.putfield 45, 3)), (cX5_ask, 11, (.aload_n 0, 1)), (cX5_ask, 12, (.iconst 1, 1)), (cX5_ask, 13, (.aload_n 1, 1)), (cX5_ask, 14, (.aload_n 2, 1)), (cX5_ask, 15, (.aload_n 3, 1)), (cX5_ask, 16, (.invokestatic 73, 3)), (cX5_ask, 19, (.putfield 48, 3)), (cX5_ask, 22, (.iconst 0, 1)), (cX5_ask, 23, (.istore 5, 2)), (cX5_ask, 25, (.iload 5, 2)), (cX5_ask, 27, (.aload_n 1, 1)), (cX5_ask, 28, (.getfield 35, 3)), (cX5_ask, 31, (.if_icmp .ge 49, 3)), (cX5_ask, 34, (.aload_n 0, 1)), (cX5_ask, 35, (.getfield 9, 3)), (cX5_ask, 38, (.iload 5, 2)), (cX5_ask, 40, (.aload_n 3, 1)), (cX5_ask, 41, (.iconst 0, 1))]
theorem dkB02decX0_18 : dkL02decX0_18.all (fun q => decide (decode q.1 q.2.1 = .ok q.2.2)) = true := by decide +kernel
theorem dX5_waysSo_30 : decode cX5_waysSo 30 = .ok (.getfield 48, 3) := dk_at dkB02decX0_18 0 rfl
theorem dX5_waysSo_33 : decode cX5_waysSo 33 = .ok (.iconst 1, 1) := dk_at dkB02decX0_18 1 rfl
theorem dX5_waysSo_34 : decode cX5_waysSo 34 = .ok (.iadd, 1) := dk_at dkB02decX0_18 2 rfl
theorem dX5_waysSo_35 : decode cX5_waysSo 35 = .ok (.imul, 1) := dk_at dkB02decX0_18 3 rfl
theorem dX5_waysSo_36 : decode cX5_waysSo 36 = .ok (.bipush 96, 2) := dk_at dkB02decX0_18 4 rfl
theorem dX5_waysSo_38 : decode cX5_waysSo 38 = .ok (.imul, 1) := dk_at dkB02decX0_18 5 rfl
theorem dX5_waysSo_39 : decode cX5_waysSo 39 = .ok (.lconst 0, 1) := dk_at dkB02decX0_18 6 rfl
theorem dX5_waysSo_40 : decode cX5_waysSo 40 = .ok (.invokestatic 51, 3) := dk_at dkB02decX0_18 7 rfl
theorem dX5_waysSo_43 : decode cX5_waysSo 43 = .ok (.aload_n 0, 1) := dk_at dkB02decX0_18 8 rfl
theorem dX5_waysSo_44 : decode cX5_waysSo 44 = .ok (.iconst 0, 1) := dk_at dkB02decX0_18 9 rfl
theorem dX5_waysSo_45 : decode cX5_waysSo 45 = .ok (.iconst 0, 1) := dk_at dkB02decX0_18 10 rfl
theorem dX5_waysSo_46 : decode cX5_waysSo 46 = .ok (.iconst 0, 1) := dk_at dkB02decX0_18 11 rfl
theorem dX5_waysSo_47 : decode cX5_waysSo 47 = .ok (.invokevirtual 57, 3) := dk_at dkB02decX0_18 12 rfl
theorem dX5_waysSo_50 : decode cX5_waysSo 50 = .ok (.aload_n 1, 1) := dk_at dkB02decX0_18 13 rfl
theorem dX5_waysSo_51 : decode cX5_waysSo 51 = .ok (.aload_n 0, 1) := dk_at dkB02decX0_18 14 rfl
theorem dX5_waysSo_52 : decode cX5_waysSo 52 = .ok (.getfield 28, 3) := dk_at dkB02decX0_18 15 rfl
theorem dX5_waysSo_55 : decode cX5_waysSo 55 = .ok (.aload_n 0, 1) := dk_at dkB02decX0_18 16 rfl
theorem dX5_waysSo_56 : decode cX5_waysSo 56 = .ok (.getfield 24, 3) := dk_at dkB02decX0_18 17 rfl
theorem dX5_waysSo_59 : decode cX5_waysSo 59 = .ok (.invokevirtual 61, 3) := dk_at dkB02decX0_18 18 rfl
theorem dX5_waysSo_62 : decode cX5_waysSo 62 = .ok (.iconst 1, 1) := dk_at dkB02decX0_18 19 rfl
theorem dX5_waysSo_63 : decode cX5_waysSo 63 = .ok (.istore 5, 2) := dk_at dkB02decX0_18 20 rfl
theorem dX5_waysSo_65 : decode cX5_waysSo 65 = .ok (.iload 5, 2) := dk_at dkB02decX0_18 21 rfl
theorem dX5_waysSo_67 : decode cX5_waysSo 67 = .ok (.aload_n 1, 1) := dk_at dkB02decX0_18 22 rfl
theorem dX5_waysSo_68 : decode cX5_waysSo 68 = .ok (.getfield 35, 3) := dk_at dkB02decX0_18 23 rfl
theorem dX5_waysSo_71 : decode cX5_waysSo 71 = .ok (.if_icmp .ge 16, 3) := dk_at dkB02decX0_18 24 rfl
theorem dX5_waysSo_74 : decode cX5_waysSo 74 = .ok (.aload_n 0, 1) := dk_at dkB02decX0_18 25 rfl
theorem dX5_waysSo_75 : decode cX5_waysSo 75 = .ok (.aload_n 1, 1) := dk_at dkB02decX0_18 26 rfl
theorem dX5_waysSo_76 : decode cX5_waysSo 76 = .ok (.iload 5, 2) := dk_at dkB02decX0_18 27 rfl
theorem dX5_waysSo_78 : decode cX5_waysSo 78 = .ok (.invokevirtual 65, 3) := dk_at dkB02decX0_18 28 rfl
theorem dX5_waysSo_81 : decode cX5_waysSo 81 = .ok (.iinc 5 1, 3) := dk_at dkB02decX0_18 29 rfl
theorem dX5_waysSo_84 : decode cX5_waysSo 84 = .ok (.goto (-19), 3) := dk_at dkB02decX0_18 30 rfl
theorem dX5_waysSo_87 : decode cX5_waysSo 87 = .ok (.aload_n 0, 1) := dk_at dkB02decX0_18 31 rfl
theorem dX5_waysSo_88 : decode cX5_waysSo 88 = .ok (.aload_n 3, 1) := dk_at dkB02decX0_18 32 rfl
theorem dX5_waysSo_89 : decode cX5_waysSo 89 = .ok (.invokevirtual 69, 3) := dk_at dkB02decX0_18 33 rfl
theorem dX5_waysSo_92 : decode cX5_waysSo 92 = .ok (.lreturn, 1) := dk_at dkB02decX0_18 34 rfl
theorem dX5_ask_0 : decode cX5_ask 0 = .ok (.aload_n 0, 1) := dk_at dkB02decX0_18 35 rfl
theorem dX5_ask_1 : decode cX5_ask 1 = .ok (.iconst 0, 1) := dk_at dkB02decX0_18 36 rfl
theorem dX5_ask_2 : decode cX5_ask 2 = .ok (.aload_n 1, 1) := dk_at dkB02decX0_18 37 rfl
theorem dX5_ask_3 : decode cX5_ask 3 = .ok (.aload_n 2, 1) := dk_at dkB02decX0_18 38 rfl
theorem dX5_ask_4 : decode cX5_ask 4 = .ok (.aload_n 3, 1) := dk_at dkB02decX0_18 39 rfl
theorem dX5_ask_5 : decode cX5_ask 5 = .ok (.invokestatic 73, 3) := dk_at dkB02decX0_18 40 rfl
theorem dX5_ask_8 : decode cX5_ask 8 = .ok (.putfield 45, 3) := dk_at dkB02decX0_18 41 rfl
theorem dX5_ask_11 : decode cX5_ask 11 = .ok (.aload_n 0, 1) := dk_at dkB02decX0_18 42 rfl
theorem dX5_ask_12 : decode cX5_ask 12 = .ok (.iconst 1, 1) := dk_at dkB02decX0_18 43 rfl
theorem dX5_ask_13 : decode cX5_ask 13 = .ok (.aload_n 1, 1) := dk_at dkB02decX0_18 44 rfl
theorem dX5_ask_14 : decode cX5_ask 14 = .ok (.aload_n 2, 1) := dk_at dkB02decX0_18 45 rfl
theorem dX5_ask_15 : decode cX5_ask 15 = .ok (.aload_n 3, 1) := dk_at dkB02decX0_18 46 rfl
theorem dX5_ask_16 : decode cX5_ask 16 = .ok (.invokestatic 73, 3) := dk_at dkB02decX0_18 47 rfl
theorem dX5_ask_19 : decode cX5_ask 19 = .ok (.putfield 48, 3) := dk_at dkB02decX0_18 48 rfl
theorem dX5_ask_22 : decode cX5_ask 22 = .ok (.iconst 0, 1) := dk_at dkB02decX0_18 49 rfl
theorem dX5_ask_23 : decode cX5_ask 23 = .ok (.istore 5, 2) := dk_at dkB02decX0_18 50 rfl
theorem dX5_ask_25 : decode cX5_ask 25 = .ok (.iload 5, 2) := dk_at dkB02decX0_18 51 rfl
theorem dX5_ask_27 : decode cX5_ask 27 = .ok (.aload_n 1, 1) := dk_at dkB02decX0_18 52 rfl
theorem dX5_ask_28 : decode cX5_ask 28 = .ok (.getfield 35, 3) := dk_at dkB02decX0_18 53 rfl
theorem dX5_ask_31 : decode cX5_ask 31 = .ok (.if_icmp .ge 49, 3) := dk_at dkB02decX0_18 54 rfl
theorem dX5_ask_34 : decode cX5_ask 34 = .ok (.aload_n 0, 1) := dk_at dkB02decX0_18 55 rfl
theorem dX5_ask_35 : decode cX5_ask 35 = .ok (.getfield 9, 3) := dk_at dkB02decX0_18 56 rfl
theorem dX5_ask_38 : decode cX5_ask 38 = .ok (.iload 5, 2) := dk_at dkB02decX0_18 57 rfl
theorem dX5_ask_40 : decode cX5_ask 40 = .ok (.aload_n 3, 1) := dk_at dkB02decX0_18 58 rfl
theorem dX5_ask_41 : decode cX5_ask 41 = .ok (.iconst 0, 1) := dk_at dkB02decX0_18 59 rfl
noncomputable def dkL02decX0_19 : List (ByteArray × Nat × Instr × Nat) := [(cX5_ask, 42, (.aload_n 2, 1)), (cX5_ask, 43, (.aload_n 1, 1)), (cX5_ask, 44, (.getfield 77, 3)), (cX5_ask, 47, (.iload 5, 2)), (cX5_ask, 49, (.iaload, 1)), (cX5_ask, 50, (.invokevirtual 80, 3)), (cX5_ask, 53, (.bastore, 1)), (cX5_ask, 54, (.aload_n 0, 1)), (cX5_ask, 55, (.getfield 15, 3)), (cX5_ask, 58, (.iload 5, 2)), (cX5_ask, 60, (.aload_n 3, 1)), (cX5_ask, 61, (.iconst 1, 1)), (cX5_ask, 62, (.aload_n 2, 1)), (cX5_ask, 63, (.aload_n 1, 1)), (cX5_ask, 64, (.getfield 77, 3)), (cX5_ask, 67, (.iload 5, 2)), (cX5_ask, 69, (.iaload, 1)), (cX5_ask, 70, (.invokevirtual 80, 3)), (cX5_ask, 73, (.bastore, 1)), (cX5_ask, 74, (.iinc 5 1, 3)), (cX5_ask, 77, (.goto (-52), 3)), (cX5_ask, 80, (.iconst 0, 1)), (cX5_ask, 81, (.istore 5, 2)), (cX5_ask, 83, (.iload 5, 2)), (cX5_ask, 85, (.bipush 24, 2)), (cX5_ask, 87, (.if_icmp .ge 63, 3)), (cX5_ask, 90, (.aload_n 0, 1)), (cX5_ask, 91, (.getfield 18, 3)), (cX5_ask, 94, (.iload 5, 2)), (cX5_ask, 96, (.iload 5, 2)), (cX5_ask, 98, (.iload 4, 2)), (cX5_ask, 100, (.isub, 1)), (cX5_ask, 101, (.aload_n 3, 1)), (cX5_ask, 102, (.getfield 86, 3)), (cX5_ask, 105, (.iconst 0, 1)), (cX5_ask, 106, (.iaload, 1)), (cX5_ask, 107, (.aload_n 3, 1)), (cX5_ask, 108, (.getfield 89, 3)), (cX5_ask, 111, (.iconst 0, 1)), (cX5_ask, 112, (.iaload, 1)), (cX5_ask, 113, (.invokestatic 92, 3)), (cX5_ask, 116, (.bastore, 1)), (cX5_ask, 117, (.aload_n 0, 1)), (cX5_ask, 118, (.getfield 21, 3)), (cX5_ask, 121, (.iload 5, 2)), (cX5_ask, 123, (.iload 5, 2)), (cX5_ask, 125, (.iload 4, 2)), (cX5_ask, 127, (.isub, 1)), (cX5_ask, 128, (.aload_n 3, 1)), (cX5_ask, 129, (.getfield 86, 3)), (cX5_ask, 132, (.iconst 1, 1)), (cX5_ask, 133, (.iaload, 1)), (cX5_ask, 134, (.aload_n 3, 1)), (cX5_ask, 135, (.getfield 89, 3)), (cX5_ask, 138, (.iconst 1, 1)), (cX5_ask, 139, (.iaload, 1)), (cX5_ask, 140, (.invokestatic 92, 3)), (cX5_ask, 143, (.bastore, 1)), (cX5_ask, 144, (.iinc 5 1, 3)), (cX5_ask, 147, (.goto (-64), 3))]
theorem dkB02decX0_19 : dkL02decX0_19.all (fun q => decide (decode q.1 q.2.1 = .ok q.2.2)) = true := by decide +kernel
theorem dX5_ask_42 : decode cX5_ask 42 = .ok (.aload_n 2, 1) := dk_at dkB02decX0_19 0 rfl
theorem dX5_ask_43 : decode cX5_ask 43 = .ok (.aload_n 1, 1) := dk_at dkB02decX0_19 1 rfl
theorem dX5_ask_44 : decode cX5_ask 44 = .ok (.getfield 77, 3) := dk_at dkB02decX0_19 2 rfl
theorem dX5_ask_47 : decode cX5_ask 47 = .ok (.iload 5, 2) := dk_at dkB02decX0_19 3 rfl
theorem dX5_ask_49 : decode cX5_ask 49 = .ok (.iaload, 1) := dk_at dkB02decX0_19 4 rfl
theorem dX5_ask_50 : decode cX5_ask 50 = .ok (.invokevirtual 80, 3) := dk_at dkB02decX0_19 5 rfl
theorem dX5_ask_53 : decode cX5_ask 53 = .ok (.bastore, 1) := dk_at dkB02decX0_19 6 rfl
theorem dX5_ask_54 : decode cX5_ask 54 = .ok (.aload_n 0, 1) := dk_at dkB02decX0_19 7 rfl
theorem dX5_ask_55 : decode cX5_ask 55 = .ok (.getfield 15, 3) := dk_at dkB02decX0_19 8 rfl
theorem dX5_ask_58 : decode cX5_ask 58 = .ok (.iload 5, 2) := dk_at dkB02decX0_19 9 rfl
theorem dX5_ask_60 : decode cX5_ask 60 = .ok (.aload_n 3, 1) := dk_at dkB02decX0_19 10 rfl
theorem dX5_ask_61 : decode cX5_ask 61 = .ok (.iconst 1, 1) := dk_at dkB02decX0_19 11 rfl
theorem dX5_ask_62 : decode cX5_ask 62 = .ok (.aload_n 2, 1) := dk_at dkB02decX0_19 12 rfl
theorem dX5_ask_63 : decode cX5_ask 63 = .ok (.aload_n 1, 1) := dk_at dkB02decX0_19 13 rfl
theorem dX5_ask_64 : decode cX5_ask 64 = .ok (.getfield 77, 3) := dk_at dkB02decX0_19 14 rfl
theorem dX5_ask_67 : decode cX5_ask 67 = .ok (.iload 5, 2) := dk_at dkB02decX0_19 15 rfl
theorem dX5_ask_69 : decode cX5_ask 69 = .ok (.iaload, 1) := dk_at dkB02decX0_19 16 rfl
theorem dX5_ask_70 : decode cX5_ask 70 = .ok (.invokevirtual 80, 3) := dk_at dkB02decX0_19 17 rfl
theorem dX5_ask_73 : decode cX5_ask 73 = .ok (.bastore, 1) := dk_at dkB02decX0_19 18 rfl
theorem dX5_ask_74 : decode cX5_ask 74 = .ok (.iinc 5 1, 3) := dk_at dkB02decX0_19 19 rfl
theorem dX5_ask_77 : decode cX5_ask 77 = .ok (.goto (-52), 3) := dk_at dkB02decX0_19 20 rfl
theorem dX5_ask_80 : decode cX5_ask 80 = .ok (.iconst 0, 1) := dk_at dkB02decX0_19 21 rfl
theorem dX5_ask_81 : decode cX5_ask 81 = .ok (.istore 5, 2) := dk_at dkB02decX0_19 22 rfl
theorem dX5_ask_83 : decode cX5_ask 83 = .ok (.iload 5, 2) := dk_at dkB02decX0_19 23 rfl
theorem dX5_ask_85 : decode cX5_ask 85 = .ok (.bipush 24, 2) := dk_at dkB02decX0_19 24 rfl
theorem dX5_ask_87 : decode cX5_ask 87 = .ok (.if_icmp .ge 63, 3) := dk_at dkB02decX0_19 25 rfl
theorem dX5_ask_90 : decode cX5_ask 90 = .ok (.aload_n 0, 1) := dk_at dkB02decX0_19 26 rfl
theorem dX5_ask_91 : decode cX5_ask 91 = .ok (.getfield 18, 3) := dk_at dkB02decX0_19 27 rfl
theorem dX5_ask_94 : decode cX5_ask 94 = .ok (.iload 5, 2) := dk_at dkB02decX0_19 28 rfl
theorem dX5_ask_96 : decode cX5_ask 96 = .ok (.iload 5, 2) := dk_at dkB02decX0_19 29 rfl
theorem dX5_ask_98 : decode cX5_ask 98 = .ok (.iload 4, 2) := dk_at dkB02decX0_19 30 rfl
theorem dX5_ask_100 : decode cX5_ask 100 = .ok (.isub, 1) := dk_at dkB02decX0_19 31 rfl
theorem dX5_ask_101 : decode cX5_ask 101 = .ok (.aload_n 3, 1) := dk_at dkB02decX0_19 32 rfl
theorem dX5_ask_102 : decode cX5_ask 102 = .ok (.getfield 86, 3) := dk_at dkB02decX0_19 33 rfl
theorem dX5_ask_105 : decode cX5_ask 105 = .ok (.iconst 0, 1) := dk_at dkB02decX0_19 34 rfl
theorem dX5_ask_106 : decode cX5_ask 106 = .ok (.iaload, 1) := dk_at dkB02decX0_19 35 rfl
theorem dX5_ask_107 : decode cX5_ask 107 = .ok (.aload_n 3, 1) := dk_at dkB02decX0_19 36 rfl
theorem dX5_ask_108 : decode cX5_ask 108 = .ok (.getfield 89, 3) := dk_at dkB02decX0_19 37 rfl
theorem dX5_ask_111 : decode cX5_ask 111 = .ok (.iconst 0, 1) := dk_at dkB02decX0_19 38 rfl
theorem dX5_ask_112 : decode cX5_ask 112 = .ok (.iaload, 1) := dk_at dkB02decX0_19 39 rfl
theorem dX5_ask_113 : decode cX5_ask 113 = .ok (.invokestatic 92, 3) := dk_at dkB02decX0_19 40 rfl
theorem dX5_ask_116 : decode cX5_ask 116 = .ok (.bastore, 1) := dk_at dkB02decX0_19 41 rfl
theorem dX5_ask_117 : decode cX5_ask 117 = .ok (.aload_n 0, 1) := dk_at dkB02decX0_19 42 rfl
theorem dX5_ask_118 : decode cX5_ask 118 = .ok (.getfield 21, 3) := dk_at dkB02decX0_19 43 rfl
theorem dX5_ask_121 : decode cX5_ask 121 = .ok (.iload 5, 2) := dk_at dkB02decX0_19 44 rfl
theorem dX5_ask_123 : decode cX5_ask 123 = .ok (.iload 5, 2) := dk_at dkB02decX0_19 45 rfl
theorem dX5_ask_125 : decode cX5_ask 125 = .ok (.iload 4, 2) := dk_at dkB02decX0_19 46 rfl
theorem dX5_ask_127 : decode cX5_ask 127 = .ok (.isub, 1) := dk_at dkB02decX0_19 47 rfl
theorem dX5_ask_128 : decode cX5_ask 128 = .ok (.aload_n 3, 1) := dk_at dkB02decX0_19 48 rfl
theorem dX5_ask_129 : decode cX5_ask 129 = .ok (.getfield 86, 3) := dk_at dkB02decX0_19 49 rfl
theorem dX5_ask_132 : decode cX5_ask 132 = .ok (.iconst 1, 1) := dk_at dkB02decX0_19 50 rfl
theorem dX5_ask_133 : decode cX5_ask 133 = .ok (.iaload, 1) := dk_at dkB02decX0_19 51 rfl
theorem dX5_ask_134 : decode cX5_ask 134 = .ok (.aload_n 3, 1) := dk_at dkB02decX0_19 52 rfl
theorem dX5_ask_135 : decode cX5_ask 135 = .ok (.getfield 89, 3) := dk_at dkB02decX0_19 53 rfl
theorem dX5_ask_138 : decode cX5_ask 138 = .ok (.iconst 1, 1) := dk_at dkB02decX0_19 54 rfl
theorem dX5_ask_139 : decode cX5_ask 139 = .ok (.iaload, 1) := dk_at dkB02decX0_19 55 rfl
theorem dX5_ask_140 : decode cX5_ask 140 = .ok (.invokestatic 92, 3) := dk_at dkB02decX0_19 56 rfl
theorem dX5_ask_143 : decode cX5_ask 143 = .ok (.bastore, 1) := dk_at dkB02decX0_19 57 rfl
theorem dX5_ask_144 : decode cX5_ask 144 = .ok (.iinc 5 1, 3) := dk_at dkB02decX0_19 58 rfl
theorem dX5_ask_147 : decode cX5_ask 147 = .ok (.goto (-64), 3) := dk_at dkB02decX0_19 59 rfl
noncomputable def dkL02decX0_20 : List (ByteArray × Nat × Instr × Nat) := [(cX5_ask, 150, (.return_, 1)), (cX5_goalOf, 0, (.aload_n 3, 1)), (cX5_goalOf, 1, (.getfield 89, 3)), (cX5_goalOf, 4, (.iload_n 0, 1)), (cX5_goalOf, 5, (.iaload, 1)), (cX5_goalOf, 6, (.aload_n 3, 1)), (cX5_goalOf, 7, (.getfield 86, 3)), (cX5_goalOf, 10, (.iload_n 0, 1)), (cX5_goalOf, 11, (.iaload, 1)), (cX5_goalOf, 12, (.isub, 1)), (cX5_goalOf, 13, (.iconst 1, 1)), (cX5_goalOf, 14, (.iadd, 1)), (cX5_goalOf, 15, (.aload_n 1, 1)), (cX5_goalOf, 16, (.getfield 96, 3)), (cX5_goalOf, 19, (.imul, 1)), (cX5_goalOf, 20, (.istore 4, 2)), (cX5_goalOf, 22, (.iconst 0, 1)), (cX5_goalOf, 23, (.istore 5, 2)), (cX5_goalOf, 25, (.iconst 0, 1)), (cX5_goalOf, 26, (.istore 6, 2)), (cX5_goalOf, 28, (.iload 6, 2)), (cX5_goalOf, 30, (.aload_n 1, 1)), (cX5_goalOf, 31, (.getfield 35, 3)), (cX5_goalOf, 34, (.if_icmp .ge 35, 3)), (cX5_goalOf, 37, (.iload 5, 2)), (cX5_goalOf, 39, (.aload_n 3, 1)), (cX5_goalOf, 40, (.iload_n 0, 1)), (cX5_goalOf, 41, (.aload_n 2, 1)), (cX5_goalOf, 42, (.aload_n 1, 1)), (cX5_goalOf, 43, (.getfield 77, 3)), (cX5_goalOf, 46, (.iload 6, 2)), (cX5_goalOf, 48, (.iaload, 1)), (cX5_goalOf, 49, (.invokevirtual 80, 3)), (cX5_goalOf, 52, (.ifCond .eq 7, 3)), (cX5_goalOf, 55, (.iconst 1, 1)), (cX5_goalOf, 56, (.goto 4, 3)), (cX5_goalOf, 59, (.iconst 0, 1)), (cX5_goalOf, 60, (.iadd, 1)), (cX5_goalOf, 61, (.istore 5, 2)), (cX5_goalOf, 63, (.iinc 6 1, 3)), (cX5_goalOf, 66, (.goto (-38), 3)), (cX5_goalOf, 69, (.iload_n 0, 1)), (cX5_goalOf, 70, (.aload_n 3, 1)), (cX5_goalOf, 71, (.getfield 99, 3)), (cX5_goalOf, 74, (.if_icmp .ge 23, 3)), (cX5_goalOf, 77, (.aload_n 3, 1)), (cX5_goalOf, 78, (.getfield 102, 3)), (cX5_goalOf, 81, (.iload_n 0, 1)), (cX5_goalOf, 82, (.iaload, 1)), (cX5_goalOf, 83, (.iload 4, 2)), (cX5_goalOf, 85, (.iload 5, 2)), (cX5_goalOf, 87, (.invokestatic 105, 3)), (cX5_goalOf, 90, (.if_icmp .gt 7, 3)), (cX5_goalOf, 93, (.iconst 1, 1)), (cX5_goalOf, 94, (.goto 4, 3)), (cX5_goalOf, 97, (.iconst 0, 1)), (cX5_goalOf, 98, (.istore 6, 2)), (cX5_goalOf, 100, (.iload 6, 2)), (cX5_goalOf, 102, (.ifCond .eq 12, 3)), (cX5_goalOf, 105, (.aload_n 3, 1))]
theorem dkB02decX0_20 : dkL02decX0_20.all (fun q => decide (decode q.1 q.2.1 = .ok q.2.2)) = true := by decide +kernel
theorem dX5_ask_150 : decode cX5_ask 150 = .ok (.return_, 1) := dk_at dkB02decX0_20 0 rfl
theorem dX5_goalOf_0 : decode cX5_goalOf 0 = .ok (.aload_n 3, 1) := dk_at dkB02decX0_20 1 rfl
theorem dX5_goalOf_1 : decode cX5_goalOf 1 = .ok (.getfield 89, 3) := dk_at dkB02decX0_20 2 rfl
theorem dX5_goalOf_4 : decode cX5_goalOf 4 = .ok (.iload_n 0, 1) := dk_at dkB02decX0_20 3 rfl
theorem dX5_goalOf_5 : decode cX5_goalOf 5 = .ok (.iaload, 1) := dk_at dkB02decX0_20 4 rfl
theorem dX5_goalOf_6 : decode cX5_goalOf 6 = .ok (.aload_n 3, 1) := dk_at dkB02decX0_20 5 rfl
theorem dX5_goalOf_7 : decode cX5_goalOf 7 = .ok (.getfield 86, 3) := dk_at dkB02decX0_20 6 rfl
theorem dX5_goalOf_10 : decode cX5_goalOf 10 = .ok (.iload_n 0, 1) := dk_at dkB02decX0_20 7 rfl
theorem dX5_goalOf_11 : decode cX5_goalOf 11 = .ok (.iaload, 1) := dk_at dkB02decX0_20 8 rfl
theorem dX5_goalOf_12 : decode cX5_goalOf 12 = .ok (.isub, 1) := dk_at dkB02decX0_20 9 rfl
theorem dX5_goalOf_13 : decode cX5_goalOf 13 = .ok (.iconst 1, 1) := dk_at dkB02decX0_20 10 rfl
theorem dX5_goalOf_14 : decode cX5_goalOf 14 = .ok (.iadd, 1) := dk_at dkB02decX0_20 11 rfl
theorem dX5_goalOf_15 : decode cX5_goalOf 15 = .ok (.aload_n 1, 1) := dk_at dkB02decX0_20 12 rfl
theorem dX5_goalOf_16 : decode cX5_goalOf 16 = .ok (.getfield 96, 3) := dk_at dkB02decX0_20 13 rfl
theorem dX5_goalOf_19 : decode cX5_goalOf 19 = .ok (.imul, 1) := dk_at dkB02decX0_20 14 rfl
theorem dX5_goalOf_20 : decode cX5_goalOf 20 = .ok (.istore 4, 2) := dk_at dkB02decX0_20 15 rfl
theorem dX5_goalOf_22 : decode cX5_goalOf 22 = .ok (.iconst 0, 1) := dk_at dkB02decX0_20 16 rfl
theorem dX5_goalOf_23 : decode cX5_goalOf 23 = .ok (.istore 5, 2) := dk_at dkB02decX0_20 17 rfl
theorem dX5_goalOf_25 : decode cX5_goalOf 25 = .ok (.iconst 0, 1) := dk_at dkB02decX0_20 18 rfl
theorem dX5_goalOf_26 : decode cX5_goalOf 26 = .ok (.istore 6, 2) := dk_at dkB02decX0_20 19 rfl
theorem dX5_goalOf_28 : decode cX5_goalOf 28 = .ok (.iload 6, 2) := dk_at dkB02decX0_20 20 rfl
theorem dX5_goalOf_30 : decode cX5_goalOf 30 = .ok (.aload_n 1, 1) := dk_at dkB02decX0_20 21 rfl
theorem dX5_goalOf_31 : decode cX5_goalOf 31 = .ok (.getfield 35, 3) := dk_at dkB02decX0_20 22 rfl
theorem dX5_goalOf_34 : decode cX5_goalOf 34 = .ok (.if_icmp .ge 35, 3) := dk_at dkB02decX0_20 23 rfl
theorem dX5_goalOf_37 : decode cX5_goalOf 37 = .ok (.iload 5, 2) := dk_at dkB02decX0_20 24 rfl
theorem dX5_goalOf_39 : decode cX5_goalOf 39 = .ok (.aload_n 3, 1) := dk_at dkB02decX0_20 25 rfl
theorem dX5_goalOf_40 : decode cX5_goalOf 40 = .ok (.iload_n 0, 1) := dk_at dkB02decX0_20 26 rfl
theorem dX5_goalOf_41 : decode cX5_goalOf 41 = .ok (.aload_n 2, 1) := dk_at dkB02decX0_20 27 rfl
theorem dX5_goalOf_42 : decode cX5_goalOf 42 = .ok (.aload_n 1, 1) := dk_at dkB02decX0_20 28 rfl
theorem dX5_goalOf_43 : decode cX5_goalOf 43 = .ok (.getfield 77, 3) := dk_at dkB02decX0_20 29 rfl
theorem dX5_goalOf_46 : decode cX5_goalOf 46 = .ok (.iload 6, 2) := dk_at dkB02decX0_20 30 rfl
theorem dX5_goalOf_48 : decode cX5_goalOf 48 = .ok (.iaload, 1) := dk_at dkB02decX0_20 31 rfl
theorem dX5_goalOf_49 : decode cX5_goalOf 49 = .ok (.invokevirtual 80, 3) := dk_at dkB02decX0_20 32 rfl
theorem dX5_goalOf_52 : decode cX5_goalOf 52 = .ok (.ifCond .eq 7, 3) := dk_at dkB02decX0_20 33 rfl
theorem dX5_goalOf_55 : decode cX5_goalOf 55 = .ok (.iconst 1, 1) := dk_at dkB02decX0_20 34 rfl
theorem dX5_goalOf_56 : decode cX5_goalOf 56 = .ok (.goto 4, 3) := dk_at dkB02decX0_20 35 rfl
theorem dX5_goalOf_59 : decode cX5_goalOf 59 = .ok (.iconst 0, 1) := dk_at dkB02decX0_20 36 rfl
theorem dX5_goalOf_60 : decode cX5_goalOf 60 = .ok (.iadd, 1) := dk_at dkB02decX0_20 37 rfl
theorem dX5_goalOf_61 : decode cX5_goalOf 61 = .ok (.istore 5, 2) := dk_at dkB02decX0_20 38 rfl
theorem dX5_goalOf_63 : decode cX5_goalOf 63 = .ok (.iinc 6 1, 3) := dk_at dkB02decX0_20 39 rfl
theorem dX5_goalOf_66 : decode cX5_goalOf 66 = .ok (.goto (-38), 3) := dk_at dkB02decX0_20 40 rfl
theorem dX5_goalOf_69 : decode cX5_goalOf 69 = .ok (.iload_n 0, 1) := dk_at dkB02decX0_20 41 rfl
theorem dX5_goalOf_70 : decode cX5_goalOf 70 = .ok (.aload_n 3, 1) := dk_at dkB02decX0_20 42 rfl
theorem dX5_goalOf_71 : decode cX5_goalOf 71 = .ok (.getfield 99, 3) := dk_at dkB02decX0_20 43 rfl
theorem dX5_goalOf_74 : decode cX5_goalOf 74 = .ok (.if_icmp .ge 23, 3) := dk_at dkB02decX0_20 44 rfl
theorem dX5_goalOf_77 : decode cX5_goalOf 77 = .ok (.aload_n 3, 1) := dk_at dkB02decX0_20 45 rfl
theorem dX5_goalOf_78 : decode cX5_goalOf 78 = .ok (.getfield 102, 3) := dk_at dkB02decX0_20 46 rfl
theorem dX5_goalOf_81 : decode cX5_goalOf 81 = .ok (.iload_n 0, 1) := dk_at dkB02decX0_20 47 rfl
theorem dX5_goalOf_82 : decode cX5_goalOf 82 = .ok (.iaload, 1) := dk_at dkB02decX0_20 48 rfl
theorem dX5_goalOf_83 : decode cX5_goalOf 83 = .ok (.iload 4, 2) := dk_at dkB02decX0_20 49 rfl
theorem dX5_goalOf_85 : decode cX5_goalOf 85 = .ok (.iload 5, 2) := dk_at dkB02decX0_20 50 rfl
theorem dX5_goalOf_87 : decode cX5_goalOf 87 = .ok (.invokestatic 105, 3) := dk_at dkB02decX0_20 51 rfl
theorem dX5_goalOf_90 : decode cX5_goalOf 90 = .ok (.if_icmp .gt 7, 3) := dk_at dkB02decX0_20 52 rfl
theorem dX5_goalOf_93 : decode cX5_goalOf 93 = .ok (.iconst 1, 1) := dk_at dkB02decX0_20 53 rfl
theorem dX5_goalOf_94 : decode cX5_goalOf 94 = .ok (.goto 4, 3) := dk_at dkB02decX0_20 54 rfl
theorem dX5_goalOf_97 : decode cX5_goalOf 97 = .ok (.iconst 0, 1) := dk_at dkB02decX0_20 55 rfl
theorem dX5_goalOf_98 : decode cX5_goalOf 98 = .ok (.istore 6, 2) := dk_at dkB02decX0_20 56 rfl
theorem dX5_goalOf_100 : decode cX5_goalOf 100 = .ok (.iload 6, 2) := dk_at dkB02decX0_20 57 rfl
theorem dX5_goalOf_102 : decode cX5_goalOf 102 = .ok (.ifCond .eq 12, 3) := dk_at dkB02decX0_20 58 rfl
theorem dX5_goalOf_105 : decode cX5_goalOf 105 = .ok (.aload_n 3, 1) := dk_at dkB02decX0_20 59 rfl
noncomputable def dkL02decX0_21 : List (ByteArray × Nat × Instr × Nat) := [(cX5_goalOf, 106, (.getfield 102, 3)), (cX5_goalOf, 109, (.iload_n 0, 1)), (cX5_goalOf, 110, (.iaload, 1)), (cX5_goalOf, 111, (.goto 4, 3)), (cX5_goalOf, 114, (.iconst 0, 1)), (cX5_goalOf, 115, (.ireturn, 1)), (cX5_advanceAll, 0, (.aload_n 0, 1)), (cX5_advanceAll, 1, (.getfield 45, 3)), (cX5_advanceAll, 4, (.iload_n 2, 1)), (cX5_advanceAll, 5, (.invokestatic 105, 3)), (cX5_advanceAll, 8, (.istore_n 3, 1)), (cX5_advanceAll, 9, (.iload_n 3, 1)), (cX5_advanceAll, 10, (.ifCond .lt 66, 3)), (cX5_advanceAll, 13, (.aload_n 0, 1)), (cX5_advanceAll, 14, (.getfield 48, 3)), (cX5_advanceAll, 17, (.iload_n 2, 1)), (cX5_advanceAll, 18, (.invokestatic 105, 3)), (cX5_advanceAll, 21, (.istore 4, 2)), (cX5_advanceAll, 23, (.iload 4, 2)), (cX5_advanceAll, 25, (.ifCond .lt 45, 3)), (cX5_advanceAll, 28, (.aload_n 0, 1)), (cX5_advanceAll, 29, (.aload_n 0, 1)), (cX5_advanceAll, 30, (.iload_n 3, 1)), (cX5_advanceAll, 31, (.iload 4, 2)), (cX5_advanceAll, 33, (.invokevirtual 111, 3)), (cX5_advanceAll, 36, (.invokevirtual 114, 3)), (cX5_advanceAll, 39, (.aload_n 0, 1)), (cX5_advanceAll, 40, (.iload_n 3, 1)), (cX5_advanceAll, 41, (.iload 4, 2)), (cX5_advanceAll, 43, (.iload_n 2, 1)), (cX5_advanceAll, 44, (.invokevirtual 57, 3)), (cX5_advanceAll, 47, (.aload_n 1, 1)), (cX5_advanceAll, 48, (.aload_n 0, 1)), (cX5_advanceAll, 49, (.getfield 32, 3)), (cX5_advanceAll, 52, (.aload_n 0, 1)), (cX5_advanceAll, 53, (.getfield 28, 3)), (cX5_advanceAll, 56, (.iload_n 2, 1)), (cX5_advanceAll, 57, (.aload_n 0, 1)), (cX5_advanceAll, 58, (.getfield 24, 3)), (cX5_advanceAll, 61, (.invokevirtual 118, 3)), (cX5_advanceAll, 64, (.iinc 4 (-1), 3)), (cX5_advanceAll, 67, (.goto (-44), 3)), (cX5_advanceAll, 70, (.iinc 3 (-1), 3)), (cX5_advanceAll, 73, (.goto (-64), 3)), (cX5_advanceAll, 76, (.return_, 1)), (cX5_lift, 0, (.iload_n 1, 1)), (cX5_lift, 1, (.bipush 96, 2)), (cX5_lift, 3, (.imul, 1)), (cX5_lift, 4, (.istore_n 2, 1)), (cX5_lift, 5, (.aload_n 0, 1)), (cX5_lift, 6, (.getfield 28, 3)), (cX5_lift, 9, (.iload_n 2, 1)), (cX5_lift, 10, (.aload_n 0, 1)), (cX5_lift, 11, (.getfield 32, 3)), (cX5_lift, 14, (.iconst 0, 1)), (cX5_lift, 15, (.bipush 96, 2)), (cX5_lift, 17, (.invokestatic 122, 3)), (cX5_lift, 20, (.aload_n 0, 1)), (cX5_lift, 21, (.getfield 28, 3)), (cX5_lift, 24, (.iload_n 2, 1))]
theorem dkB02decX0_21 : dkL02decX0_21.all (fun q => decide (decode q.1 q.2.1 = .ok q.2.2)) = true := by decide +kernel
theorem dX5_goalOf_106 : decode cX5_goalOf 106 = .ok (.getfield 102, 3) := dk_at dkB02decX0_21 0 rfl
theorem dX5_goalOf_109 : decode cX5_goalOf 109 = .ok (.iload_n 0, 1) := dk_at dkB02decX0_21 1 rfl
theorem dX5_goalOf_110 : decode cX5_goalOf 110 = .ok (.iaload, 1) := dk_at dkB02decX0_21 2 rfl
theorem dX5_goalOf_111 : decode cX5_goalOf 111 = .ok (.goto 4, 3) := dk_at dkB02decX0_21 3 rfl
theorem dX5_goalOf_114 : decode cX5_goalOf 114 = .ok (.iconst 0, 1) := dk_at dkB02decX0_21 4 rfl
theorem dX5_goalOf_115 : decode cX5_goalOf 115 = .ok (.ireturn, 1) := dk_at dkB02decX0_21 5 rfl
theorem dX5_advanceAll_0 : decode cX5_advanceAll 0 = .ok (.aload_n 0, 1) := dk_at dkB02decX0_21 6 rfl
theorem dX5_advanceAll_1 : decode cX5_advanceAll 1 = .ok (.getfield 45, 3) := dk_at dkB02decX0_21 7 rfl
theorem dX5_advanceAll_4 : decode cX5_advanceAll 4 = .ok (.iload_n 2, 1) := dk_at dkB02decX0_21 8 rfl
theorem dX5_advanceAll_5 : decode cX5_advanceAll 5 = .ok (.invokestatic 105, 3) := dk_at dkB02decX0_21 9 rfl
theorem dX5_advanceAll_8 : decode cX5_advanceAll 8 = .ok (.istore_n 3, 1) := dk_at dkB02decX0_21 10 rfl
theorem dX5_advanceAll_9 : decode cX5_advanceAll 9 = .ok (.iload_n 3, 1) := dk_at dkB02decX0_21 11 rfl
theorem dX5_advanceAll_10 : decode cX5_advanceAll 10 = .ok (.ifCond .lt 66, 3) := dk_at dkB02decX0_21 12 rfl
theorem dX5_advanceAll_13 : decode cX5_advanceAll 13 = .ok (.aload_n 0, 1) := dk_at dkB02decX0_21 13 rfl
theorem dX5_advanceAll_14 : decode cX5_advanceAll 14 = .ok (.getfield 48, 3) := dk_at dkB02decX0_21 14 rfl
theorem dX5_advanceAll_17 : decode cX5_advanceAll 17 = .ok (.iload_n 2, 1) := dk_at dkB02decX0_21 15 rfl
theorem dX5_advanceAll_18 : decode cX5_advanceAll 18 = .ok (.invokestatic 105, 3) := dk_at dkB02decX0_21 16 rfl
theorem dX5_advanceAll_21 : decode cX5_advanceAll 21 = .ok (.istore 4, 2) := dk_at dkB02decX0_21 17 rfl
theorem dX5_advanceAll_23 : decode cX5_advanceAll 23 = .ok (.iload 4, 2) := dk_at dkB02decX0_21 18 rfl
theorem dX5_advanceAll_25 : decode cX5_advanceAll 25 = .ok (.ifCond .lt 45, 3) := dk_at dkB02decX0_21 19 rfl
theorem dX5_advanceAll_28 : decode cX5_advanceAll 28 = .ok (.aload_n 0, 1) := dk_at dkB02decX0_21 20 rfl
theorem dX5_advanceAll_29 : decode cX5_advanceAll 29 = .ok (.aload_n 0, 1) := dk_at dkB02decX0_21 21 rfl
theorem dX5_advanceAll_30 : decode cX5_advanceAll 30 = .ok (.iload_n 3, 1) := dk_at dkB02decX0_21 22 rfl
theorem dX5_advanceAll_31 : decode cX5_advanceAll 31 = .ok (.iload 4, 2) := dk_at dkB02decX0_21 23 rfl
theorem dX5_advanceAll_33 : decode cX5_advanceAll 33 = .ok (.invokevirtual 111, 3) := dk_at dkB02decX0_21 24 rfl
theorem dX5_advanceAll_36 : decode cX5_advanceAll 36 = .ok (.invokevirtual 114, 3) := dk_at dkB02decX0_21 25 rfl
theorem dX5_advanceAll_39 : decode cX5_advanceAll 39 = .ok (.aload_n 0, 1) := dk_at dkB02decX0_21 26 rfl
theorem dX5_advanceAll_40 : decode cX5_advanceAll 40 = .ok (.iload_n 3, 1) := dk_at dkB02decX0_21 27 rfl
theorem dX5_advanceAll_41 : decode cX5_advanceAll 41 = .ok (.iload 4, 2) := dk_at dkB02decX0_21 28 rfl
theorem dX5_advanceAll_43 : decode cX5_advanceAll 43 = .ok (.iload_n 2, 1) := dk_at dkB02decX0_21 29 rfl
theorem dX5_advanceAll_44 : decode cX5_advanceAll 44 = .ok (.invokevirtual 57, 3) := dk_at dkB02decX0_21 30 rfl
theorem dX5_advanceAll_47 : decode cX5_advanceAll 47 = .ok (.aload_n 1, 1) := dk_at dkB02decX0_21 31 rfl
theorem dX5_advanceAll_48 : decode cX5_advanceAll 48 = .ok (.aload_n 0, 1) := dk_at dkB02decX0_21 32 rfl
theorem dX5_advanceAll_49 : decode cX5_advanceAll 49 = .ok (.getfield 32, 3) := dk_at dkB02decX0_21 33 rfl
theorem dX5_advanceAll_52 : decode cX5_advanceAll 52 = .ok (.aload_n 0, 1) := dk_at dkB02decX0_21 34 rfl
theorem dX5_advanceAll_53 : decode cX5_advanceAll 53 = .ok (.getfield 28, 3) := dk_at dkB02decX0_21 35 rfl
theorem dX5_advanceAll_56 : decode cX5_advanceAll 56 = .ok (.iload_n 2, 1) := dk_at dkB02decX0_21 36 rfl
theorem dX5_advanceAll_57 : decode cX5_advanceAll 57 = .ok (.aload_n 0, 1) := dk_at dkB02decX0_21 37 rfl
theorem dX5_advanceAll_58 : decode cX5_advanceAll 58 = .ok (.getfield 24, 3) := dk_at dkB02decX0_21 38 rfl
theorem dX5_advanceAll_61 : decode cX5_advanceAll 61 = .ok (.invokevirtual 118, 3) := dk_at dkB02decX0_21 39 rfl
theorem dX5_advanceAll_64 : decode cX5_advanceAll 64 = .ok (.iinc 4 (-1), 3) := dk_at dkB02decX0_21 40 rfl
theorem dX5_advanceAll_67 : decode cX5_advanceAll 67 = .ok (.goto (-44), 3) := dk_at dkB02decX0_21 41 rfl
theorem dX5_advanceAll_70 : decode cX5_advanceAll 70 = .ok (.iinc 3 (-1), 3) := dk_at dkB02decX0_21 42 rfl
theorem dX5_advanceAll_73 : decode cX5_advanceAll 73 = .ok (.goto (-64), 3) := dk_at dkB02decX0_21 43 rfl
theorem dX5_advanceAll_76 : decode cX5_advanceAll 76 = .ok (.return_, 1) := dk_at dkB02decX0_21 44 rfl
theorem dX5_lift_0 : decode cX5_lift 0 = .ok (.iload_n 1, 1) := dk_at dkB02decX0_21 45 rfl
theorem dX5_lift_1 : decode cX5_lift 1 = .ok (.bipush 96, 2) := dk_at dkB02decX0_21 46 rfl
theorem dX5_lift_3 : decode cX5_lift 3 = .ok (.imul, 1) := dk_at dkB02decX0_21 47 rfl
theorem dX5_lift_4 : decode cX5_lift 4 = .ok (.istore_n 2, 1) := dk_at dkB02decX0_21 48 rfl
theorem dX5_lift_5 : decode cX5_lift 5 = .ok (.aload_n 0, 1) := dk_at dkB02decX0_21 49 rfl
theorem dX5_lift_6 : decode cX5_lift 6 = .ok (.getfield 28, 3) := dk_at dkB02decX0_21 50 rfl
theorem dX5_lift_9 : decode cX5_lift 9 = .ok (.iload_n 2, 1) := dk_at dkB02decX0_21 51 rfl
theorem dX5_lift_10 : decode cX5_lift 10 = .ok (.aload_n 0, 1) := dk_at dkB02decX0_21 52 rfl
theorem dX5_lift_11 : decode cX5_lift 11 = .ok (.getfield 32, 3) := dk_at dkB02decX0_21 53 rfl
theorem dX5_lift_14 : decode cX5_lift 14 = .ok (.iconst 0, 1) := dk_at dkB02decX0_21 54 rfl
theorem dX5_lift_15 : decode cX5_lift 15 = .ok (.bipush 96, 2) := dk_at dkB02decX0_21 55 rfl
theorem dX5_lift_17 : decode cX5_lift 17 = .ok (.invokestatic 122, 3) := dk_at dkB02decX0_21 56 rfl
theorem dX5_lift_20 : decode cX5_lift 20 = .ok (.aload_n 0, 1) := dk_at dkB02decX0_21 57 rfl
theorem dX5_lift_21 : decode cX5_lift 21 = .ok (.getfield 28, 3) := dk_at dkB02decX0_21 58 rfl
theorem dX5_lift_24 : decode cX5_lift 24 = .ok (.iload_n 2, 1) := dk_at dkB02decX0_21 59 rfl
noncomputable def dkL02decX0_22 : List (ByteArray × Nat × Instr × Nat) := [(cX5_lift, 25, (.iload_n 2, 1)), (cX5_lift, 26, (.bipush 96, 2)), (cX5_lift, 28, (.iadd, 1)), (cX5_lift, 29, (.lconst 0, 1)), (cX5_lift, 30, (.invokestatic 51, 3)), (cX5_lift, 33, (.return_, 1)), (cX5_tellMarks, 0, (.iload_n 1, 1)), (cX5_tellMarks, 1, (.aload_n 0, 1)), (cX5_tellMarks, 2, (.getfield 45, 3)), (cX5_tellMarks, 5, (.if_icmp .ge 16, 3)), (cX5_tellMarks, 8, (.aload_n 0, 1)), (cX5_tellMarks, 9, (.getfield 9, 3)), (cX5_tellMarks, 12, (.iload_n 3, 1)), (cX5_tellMarks, 13, (.baload, 1)), (cX5_tellMarks, 14, (.ifCond .eq 7, 3)), (cX5_tellMarks, 17, (.iconst 1, 1)), (cX5_tellMarks, 18, (.goto 4, 3)), (cX5_tellMarks, 21, (.iconst 0, 1)), (cX5_tellMarks, 22, (.istore 4, 2)), (cX5_tellMarks, 24, (.iload_n 2, 1)), (cX5_tellMarks, 25, (.aload_n 0, 1)), (cX5_tellMarks, 26, (.getfield 48, 3)), (cX5_tellMarks, 29, (.if_icmp .ge 16, 3)), (cX5_tellMarks, 32, (.aload_n 0, 1)), (cX5_tellMarks, 33, (.getfield 15, 3)), (cX5_tellMarks, 36, (.iload_n 3, 1)), (cX5_tellMarks, 37, (.baload, 1)), (cX5_tellMarks, 38, (.ifCond .eq 7, 3)), (cX5_tellMarks, 41, (.iconst 1, 1)), (cX5_tellMarks, 42, (.goto 4, 3)), (cX5_tellMarks, 45, (.iconst 0, 1)), (cX5_tellMarks, 46, (.istore 5, 2)), (cX5_tellMarks, 48, (.iconst 0, 1)), (cX5_tellMarks, 49, (.istore 6, 2)), (cX5_tellMarks, 51, (.iload 6, 2)), (cX5_tellMarks, 53, (.bipush 24, 2)), (cX5_tellMarks, 55, (.if_icmp .ge 72, 3)), (cX5_tellMarks, 58, (.iload 4, 2)), (cX5_tellMarks, 60, (.ifCond .eq 17, 3)), (cX5_tellMarks, 63, (.aload_n 0, 1)), (cX5_tellMarks, 64, (.getfield 18, 3)), (cX5_tellMarks, 67, (.iload 6, 2)), (cX5_tellMarks, 69, (.baload, 1)), (cX5_tellMarks, 70, (.ifCond .eq 7, 3)), (cX5_tellMarks, 73, (.iconst 1, 1)), (cX5_tellMarks, 74, (.goto 4, 3)), (cX5_tellMarks, 77, (.iconst 0, 1)), (cX5_tellMarks, 78, (.istore 7, 2)), (cX5_tellMarks, 80, (.iload 5, 2)), (cX5_tellMarks, 82, (.ifCond .eq 17, 3)), (cX5_tellMarks, 85, (.aload_n 0, 1)), (cX5_tellMarks, 86, (.getfield 21, 3)), (cX5_tellMarks, 89, (.iload 6, 2)), (cX5_tellMarks, 91, (.baload, 1)), (cX5_tellMarks, 92, (.ifCond .eq 7, 3)), (cX5_tellMarks, 95, (.iconst 1, 1)), (cX5_tellMarks, 96, (.goto 4, 3)), (cX5_tellMarks, 99, (.iconst 0, 1)), (cX5_tellMarks, 100, (.istore 8, 2)), (cX5_tellMarks, 102, (.aload_n 0, 1))]
theorem dkB02decX0_22 : dkL02decX0_22.all (fun q => decide (decode q.1 q.2.1 = .ok q.2.2)) = true := by decide +kernel
theorem dX5_lift_25 : decode cX5_lift 25 = .ok (.iload_n 2, 1) := dk_at dkB02decX0_22 0 rfl
theorem dX5_lift_26 : decode cX5_lift 26 = .ok (.bipush 96, 2) := dk_at dkB02decX0_22 1 rfl
theorem dX5_lift_28 : decode cX5_lift 28 = .ok (.iadd, 1) := dk_at dkB02decX0_22 2 rfl
theorem dX5_lift_29 : decode cX5_lift 29 = .ok (.lconst 0, 1) := dk_at dkB02decX0_22 3 rfl
theorem dX5_lift_30 : decode cX5_lift 30 = .ok (.invokestatic 51, 3) := dk_at dkB02decX0_22 4 rfl
theorem dX5_lift_33 : decode cX5_lift 33 = .ok (.return_, 1) := dk_at dkB02decX0_22 5 rfl
theorem dX5_tellMarks_0 : decode cX5_tellMarks 0 = .ok (.iload_n 1, 1) := dk_at dkB02decX0_22 6 rfl
theorem dX5_tellMarks_1 : decode cX5_tellMarks 1 = .ok (.aload_n 0, 1) := dk_at dkB02decX0_22 7 rfl
theorem dX5_tellMarks_2 : decode cX5_tellMarks 2 = .ok (.getfield 45, 3) := dk_at dkB02decX0_22 8 rfl
theorem dX5_tellMarks_5 : decode cX5_tellMarks 5 = .ok (.if_icmp .ge 16, 3) := dk_at dkB02decX0_22 9 rfl
theorem dX5_tellMarks_8 : decode cX5_tellMarks 8 = .ok (.aload_n 0, 1) := dk_at dkB02decX0_22 10 rfl
theorem dX5_tellMarks_9 : decode cX5_tellMarks 9 = .ok (.getfield 9, 3) := dk_at dkB02decX0_22 11 rfl
theorem dX5_tellMarks_12 : decode cX5_tellMarks 12 = .ok (.iload_n 3, 1) := dk_at dkB02decX0_22 12 rfl
theorem dX5_tellMarks_13 : decode cX5_tellMarks 13 = .ok (.baload, 1) := dk_at dkB02decX0_22 13 rfl
theorem dX5_tellMarks_14 : decode cX5_tellMarks 14 = .ok (.ifCond .eq 7, 3) := dk_at dkB02decX0_22 14 rfl
theorem dX5_tellMarks_17 : decode cX5_tellMarks 17 = .ok (.iconst 1, 1) := dk_at dkB02decX0_22 15 rfl
theorem dX5_tellMarks_18 : decode cX5_tellMarks 18 = .ok (.goto 4, 3) := dk_at dkB02decX0_22 16 rfl
theorem dX5_tellMarks_21 : decode cX5_tellMarks 21 = .ok (.iconst 0, 1) := dk_at dkB02decX0_22 17 rfl
theorem dX5_tellMarks_22 : decode cX5_tellMarks 22 = .ok (.istore 4, 2) := dk_at dkB02decX0_22 18 rfl
theorem dX5_tellMarks_24 : decode cX5_tellMarks 24 = .ok (.iload_n 2, 1) := dk_at dkB02decX0_22 19 rfl
theorem dX5_tellMarks_25 : decode cX5_tellMarks 25 = .ok (.aload_n 0, 1) := dk_at dkB02decX0_22 20 rfl
theorem dX5_tellMarks_26 : decode cX5_tellMarks 26 = .ok (.getfield 48, 3) := dk_at dkB02decX0_22 21 rfl
theorem dX5_tellMarks_29 : decode cX5_tellMarks 29 = .ok (.if_icmp .ge 16, 3) := dk_at dkB02decX0_22 22 rfl
theorem dX5_tellMarks_32 : decode cX5_tellMarks 32 = .ok (.aload_n 0, 1) := dk_at dkB02decX0_22 23 rfl
theorem dX5_tellMarks_33 : decode cX5_tellMarks 33 = .ok (.getfield 15, 3) := dk_at dkB02decX0_22 24 rfl
theorem dX5_tellMarks_36 : decode cX5_tellMarks 36 = .ok (.iload_n 3, 1) := dk_at dkB02decX0_22 25 rfl
theorem dX5_tellMarks_37 : decode cX5_tellMarks 37 = .ok (.baload, 1) := dk_at dkB02decX0_22 26 rfl
theorem dX5_tellMarks_38 : decode cX5_tellMarks 38 = .ok (.ifCond .eq 7, 3) := dk_at dkB02decX0_22 27 rfl
theorem dX5_tellMarks_41 : decode cX5_tellMarks 41 = .ok (.iconst 1, 1) := dk_at dkB02decX0_22 28 rfl
theorem dX5_tellMarks_42 : decode cX5_tellMarks 42 = .ok (.goto 4, 3) := dk_at dkB02decX0_22 29 rfl
theorem dX5_tellMarks_45 : decode cX5_tellMarks 45 = .ok (.iconst 0, 1) := dk_at dkB02decX0_22 30 rfl
theorem dX5_tellMarks_46 : decode cX5_tellMarks 46 = .ok (.istore 5, 2) := dk_at dkB02decX0_22 31 rfl
theorem dX5_tellMarks_48 : decode cX5_tellMarks 48 = .ok (.iconst 0, 1) := dk_at dkB02decX0_22 32 rfl
theorem dX5_tellMarks_49 : decode cX5_tellMarks 49 = .ok (.istore 6, 2) := dk_at dkB02decX0_22 33 rfl
theorem dX5_tellMarks_51 : decode cX5_tellMarks 51 = .ok (.iload 6, 2) := dk_at dkB02decX0_22 34 rfl
theorem dX5_tellMarks_53 : decode cX5_tellMarks 53 = .ok (.bipush 24, 2) := dk_at dkB02decX0_22 35 rfl
theorem dX5_tellMarks_55 : decode cX5_tellMarks 55 = .ok (.if_icmp .ge 72, 3) := dk_at dkB02decX0_22 36 rfl
theorem dX5_tellMarks_58 : decode cX5_tellMarks 58 = .ok (.iload 4, 2) := dk_at dkB02decX0_22 37 rfl
theorem dX5_tellMarks_60 : decode cX5_tellMarks 60 = .ok (.ifCond .eq 17, 3) := dk_at dkB02decX0_22 38 rfl
theorem dX5_tellMarks_63 : decode cX5_tellMarks 63 = .ok (.aload_n 0, 1) := dk_at dkB02decX0_22 39 rfl
theorem dX5_tellMarks_64 : decode cX5_tellMarks 64 = .ok (.getfield 18, 3) := dk_at dkB02decX0_22 40 rfl
theorem dX5_tellMarks_67 : decode cX5_tellMarks 67 = .ok (.iload 6, 2) := dk_at dkB02decX0_22 41 rfl
theorem dX5_tellMarks_69 : decode cX5_tellMarks 69 = .ok (.baload, 1) := dk_at dkB02decX0_22 42 rfl
theorem dX5_tellMarks_70 : decode cX5_tellMarks 70 = .ok (.ifCond .eq 7, 3) := dk_at dkB02decX0_22 43 rfl
theorem dX5_tellMarks_73 : decode cX5_tellMarks 73 = .ok (.iconst 1, 1) := dk_at dkB02decX0_22 44 rfl
theorem dX5_tellMarks_74 : decode cX5_tellMarks 74 = .ok (.goto 4, 3) := dk_at dkB02decX0_22 45 rfl
theorem dX5_tellMarks_77 : decode cX5_tellMarks 77 = .ok (.iconst 0, 1) := dk_at dkB02decX0_22 46 rfl
theorem dX5_tellMarks_78 : decode cX5_tellMarks 78 = .ok (.istore 7, 2) := dk_at dkB02decX0_22 47 rfl
theorem dX5_tellMarks_80 : decode cX5_tellMarks 80 = .ok (.iload 5, 2) := dk_at dkB02decX0_22 48 rfl
theorem dX5_tellMarks_82 : decode cX5_tellMarks 82 = .ok (.ifCond .eq 17, 3) := dk_at dkB02decX0_22 49 rfl
theorem dX5_tellMarks_85 : decode cX5_tellMarks 85 = .ok (.aload_n 0, 1) := dk_at dkB02decX0_22 50 rfl
theorem dX5_tellMarks_86 : decode cX5_tellMarks 86 = .ok (.getfield 21, 3) := dk_at dkB02decX0_22 51 rfl
theorem dX5_tellMarks_89 : decode cX5_tellMarks 89 = .ok (.iload 6, 2) := dk_at dkB02decX0_22 52 rfl
theorem dX5_tellMarks_91 : decode cX5_tellMarks 91 = .ok (.baload, 1) := dk_at dkB02decX0_22 53 rfl
theorem dX5_tellMarks_92 : decode cX5_tellMarks 92 = .ok (.ifCond .eq 7, 3) := dk_at dkB02decX0_22 54 rfl
theorem dX5_tellMarks_95 : decode cX5_tellMarks 95 = .ok (.iconst 1, 1) := dk_at dkB02decX0_22 55 rfl
theorem dX5_tellMarks_96 : decode cX5_tellMarks 96 = .ok (.goto 4, 3) := dk_at dkB02decX0_22 56 rfl
theorem dX5_tellMarks_99 : decode cX5_tellMarks 99 = .ok (.iconst 0, 1) := dk_at dkB02decX0_22 57 rfl
theorem dX5_tellMarks_100 : decode cX5_tellMarks 100 = .ok (.istore 8, 2) := dk_at dkB02decX0_22 58 rfl
theorem dX5_tellMarks_102 : decode cX5_tellMarks 102 = .ok (.aload_n 0, 1) := dk_at dkB02decX0_22 59 rfl
noncomputable def dkL02decX0_23 : List (ByteArray × Nat × Instr × Nat) := [(cX5_tellMarks, 103, (.getfield 24, 3)), (cX5_tellMarks, 106, (.iload 6, 2)), (cX5_tellMarks, 108, (.aload_n 0, 1)), (cX5_tellMarks, 109, (.iload_n 1, 1)), (cX5_tellMarks, 110, (.iload 7, 2)), (cX5_tellMarks, 112, (.iadd, 1)), (cX5_tellMarks, 113, (.iload_n 2, 1)), (cX5_tellMarks, 114, (.iload 8, 2)), (cX5_tellMarks, 116, (.iadd, 1)), (cX5_tellMarks, 117, (.invokevirtual 111, 3)), (cX5_tellMarks, 120, (.iastore, 1)), (cX5_tellMarks, 121, (.iinc 6 1, 3)), (cX5_tellMarks, 124, (.goto (-73), 3)), (cX5_tellMarks, 127, (.return_, 1)), (cX5_markOf, 0, (.iload_n 1, 1)), (cX5_markOf, 1, (.aload_n 0, 1)), (cX5_markOf, 2, (.getfield 48, 3)), (cX5_markOf, 5, (.iconst 1, 1)), (cX5_markOf, 6, (.iadd, 1)), (cX5_markOf, 7, (.imul, 1)), (cX5_markOf, 8, (.iload_n 2, 1)), (cX5_markOf, 9, (.iadd, 1)), (cX5_markOf, 10, (.ireturn, 1)), (cX5_sumSo, 0, (.lconst 0, 1)), (cX5_sumSo, 1, (.lstore_n 2, 1)), (cX5_sumSo, 2, (.iconst 0, 1)), (cX5_sumSo, 3, (.istore 4, 2)), (cX5_sumSo, 5, (.iload 4, 2)), (cX5_sumSo, 7, (.aload_n 0, 1)), (cX5_sumSo, 8, (.getfield 45, 3)), (cX5_sumSo, 11, (.if_icmp .gt 84, 3)), (cX5_sumSo, 14, (.iconst 0, 1)), (cX5_sumSo, 15, (.istore 5, 2)), (cX5_sumSo, 17, (.iload 5, 2)), (cX5_sumSo, 19, (.aload_n 0, 1)), (cX5_sumSo, 20, (.getfield 48, 3)), (cX5_sumSo, 23, (.if_icmp .gt 66, 3)), (cX5_sumSo, 26, (.aload_n 0, 1)), (cX5_sumSo, 27, (.iload 4, 2)), (cX5_sumSo, 29, (.iload 5, 2)), (cX5_sumSo, 31, (.invokevirtual 111, 3)), (cX5_sumSo, 34, (.bipush 96, 2)), (cX5_sumSo, 36, (.imul, 1)), (cX5_sumSo, 37, (.istore 6, 2)), (cX5_sumSo, 39, (.aload_n 1, 1)), (cX5_sumSo, 40, (.iload 4, 2)), (cX5_sumSo, 42, (.iload 5, 2)), (cX5_sumSo, 44, (.invokevirtual 128, 3)), (cX5_sumSo, 47, (.istore 7, 2)), (cX5_sumSo, 49, (.iconst 0, 1)), (cX5_sumSo, 50, (.istore 8, 2)), (cX5_sumSo, 52, (.iload 8, 2)), (cX5_sumSo, 54, (.bipush 96, 2)), (cX5_sumSo, 56, (.if_icmp .ge 27, 3)), (cX5_sumSo, 59, (.iload 7, 2)), (cX5_sumSo, 61, (.ifCond .eq 22, 3)), (cX5_sumSo, 64, (.lload_n 2, 1)), (cX5_sumSo, 65, (.aload_n 0, 1)), (cX5_sumSo, 66, (.getfield 28, 3)), (cX5_sumSo, 69, (.iload 6, 2))]
theorem dkB02decX0_23 : dkL02decX0_23.all (fun q => decide (decode q.1 q.2.1 = .ok q.2.2)) = true := by decide +kernel
theorem dX5_tellMarks_103 : decode cX5_tellMarks 103 = .ok (.getfield 24, 3) := dk_at dkB02decX0_23 0 rfl
theorem dX5_tellMarks_106 : decode cX5_tellMarks 106 = .ok (.iload 6, 2) := dk_at dkB02decX0_23 1 rfl
theorem dX5_tellMarks_108 : decode cX5_tellMarks 108 = .ok (.aload_n 0, 1) := dk_at dkB02decX0_23 2 rfl
theorem dX5_tellMarks_109 : decode cX5_tellMarks 109 = .ok (.iload_n 1, 1) := dk_at dkB02decX0_23 3 rfl
theorem dX5_tellMarks_110 : decode cX5_tellMarks 110 = .ok (.iload 7, 2) := dk_at dkB02decX0_23 4 rfl
theorem dX5_tellMarks_112 : decode cX5_tellMarks 112 = .ok (.iadd, 1) := dk_at dkB02decX0_23 5 rfl
theorem dX5_tellMarks_113 : decode cX5_tellMarks 113 = .ok (.iload_n 2, 1) := dk_at dkB02decX0_23 6 rfl
theorem dX5_tellMarks_114 : decode cX5_tellMarks 114 = .ok (.iload 8, 2) := dk_at dkB02decX0_23 7 rfl
theorem dX5_tellMarks_116 : decode cX5_tellMarks 116 = .ok (.iadd, 1) := dk_at dkB02decX0_23 8 rfl
theorem dX5_tellMarks_117 : decode cX5_tellMarks 117 = .ok (.invokevirtual 111, 3) := dk_at dkB02decX0_23 9 rfl
theorem dX5_tellMarks_120 : decode cX5_tellMarks 120 = .ok (.iastore, 1) := dk_at dkB02decX0_23 10 rfl
theorem dX5_tellMarks_121 : decode cX5_tellMarks 121 = .ok (.iinc 6 1, 3) := dk_at dkB02decX0_23 11 rfl
theorem dX5_tellMarks_124 : decode cX5_tellMarks 124 = .ok (.goto (-73), 3) := dk_at dkB02decX0_23 12 rfl
theorem dX5_tellMarks_127 : decode cX5_tellMarks 127 = .ok (.return_, 1) := dk_at dkB02decX0_23 13 rfl
theorem dX5_markOf_0 : decode cX5_markOf 0 = .ok (.iload_n 1, 1) := dk_at dkB02decX0_23 14 rfl
theorem dX5_markOf_1 : decode cX5_markOf 1 = .ok (.aload_n 0, 1) := dk_at dkB02decX0_23 15 rfl
theorem dX5_markOf_2 : decode cX5_markOf 2 = .ok (.getfield 48, 3) := dk_at dkB02decX0_23 16 rfl
theorem dX5_markOf_5 : decode cX5_markOf 5 = .ok (.iconst 1, 1) := dk_at dkB02decX0_23 17 rfl
theorem dX5_markOf_6 : decode cX5_markOf 6 = .ok (.iadd, 1) := dk_at dkB02decX0_23 18 rfl
theorem dX5_markOf_7 : decode cX5_markOf 7 = .ok (.imul, 1) := dk_at dkB02decX0_23 19 rfl
theorem dX5_markOf_8 : decode cX5_markOf 8 = .ok (.iload_n 2, 1) := dk_at dkB02decX0_23 20 rfl
theorem dX5_markOf_9 : decode cX5_markOf 9 = .ok (.iadd, 1) := dk_at dkB02decX0_23 21 rfl
theorem dX5_markOf_10 : decode cX5_markOf 10 = .ok (.ireturn, 1) := dk_at dkB02decX0_23 22 rfl
theorem dX5_sumSo_0 : decode cX5_sumSo 0 = .ok (.lconst 0, 1) := dk_at dkB02decX0_23 23 rfl
theorem dX5_sumSo_1 : decode cX5_sumSo 1 = .ok (.lstore_n 2, 1) := dk_at dkB02decX0_23 24 rfl
theorem dX5_sumSo_2 : decode cX5_sumSo 2 = .ok (.iconst 0, 1) := dk_at dkB02decX0_23 25 rfl
theorem dX5_sumSo_3 : decode cX5_sumSo 3 = .ok (.istore 4, 2) := dk_at dkB02decX0_23 26 rfl
theorem dX5_sumSo_5 : decode cX5_sumSo 5 = .ok (.iload 4, 2) := dk_at dkB02decX0_23 27 rfl
theorem dX5_sumSo_7 : decode cX5_sumSo 7 = .ok (.aload_n 0, 1) := dk_at dkB02decX0_23 28 rfl
theorem dX5_sumSo_8 : decode cX5_sumSo 8 = .ok (.getfield 45, 3) := dk_at dkB02decX0_23 29 rfl
theorem dX5_sumSo_11 : decode cX5_sumSo 11 = .ok (.if_icmp .gt 84, 3) := dk_at dkB02decX0_23 30 rfl
theorem dX5_sumSo_14 : decode cX5_sumSo 14 = .ok (.iconst 0, 1) := dk_at dkB02decX0_23 31 rfl
theorem dX5_sumSo_15 : decode cX5_sumSo 15 = .ok (.istore 5, 2) := dk_at dkB02decX0_23 32 rfl
theorem dX5_sumSo_17 : decode cX5_sumSo 17 = .ok (.iload 5, 2) := dk_at dkB02decX0_23 33 rfl
theorem dX5_sumSo_19 : decode cX5_sumSo 19 = .ok (.aload_n 0, 1) := dk_at dkB02decX0_23 34 rfl
theorem dX5_sumSo_20 : decode cX5_sumSo 20 = .ok (.getfield 48, 3) := dk_at dkB02decX0_23 35 rfl
theorem dX5_sumSo_23 : decode cX5_sumSo 23 = .ok (.if_icmp .gt 66, 3) := dk_at dkB02decX0_23 36 rfl
theorem dX5_sumSo_26 : decode cX5_sumSo 26 = .ok (.aload_n 0, 1) := dk_at dkB02decX0_23 37 rfl
theorem dX5_sumSo_27 : decode cX5_sumSo 27 = .ok (.iload 4, 2) := dk_at dkB02decX0_23 38 rfl
theorem dX5_sumSo_29 : decode cX5_sumSo 29 = .ok (.iload 5, 2) := dk_at dkB02decX0_23 39 rfl
theorem dX5_sumSo_31 : decode cX5_sumSo 31 = .ok (.invokevirtual 111, 3) := dk_at dkB02decX0_23 40 rfl
theorem dX5_sumSo_34 : decode cX5_sumSo 34 = .ok (.bipush 96, 2) := dk_at dkB02decX0_23 41 rfl
theorem dX5_sumSo_36 : decode cX5_sumSo 36 = .ok (.imul, 1) := dk_at dkB02decX0_23 42 rfl
theorem dX5_sumSo_37 : decode cX5_sumSo 37 = .ok (.istore 6, 2) := dk_at dkB02decX0_23 43 rfl
theorem dX5_sumSo_39 : decode cX5_sumSo 39 = .ok (.aload_n 1, 1) := dk_at dkB02decX0_23 44 rfl
theorem dX5_sumSo_40 : decode cX5_sumSo 40 = .ok (.iload 4, 2) := dk_at dkB02decX0_23 45 rfl
theorem dX5_sumSo_42 : decode cX5_sumSo 42 = .ok (.iload 5, 2) := dk_at dkB02decX0_23 46 rfl
theorem dX5_sumSo_44 : decode cX5_sumSo 44 = .ok (.invokevirtual 128, 3) := dk_at dkB02decX0_23 47 rfl
theorem dX5_sumSo_47 : decode cX5_sumSo 47 = .ok (.istore 7, 2) := dk_at dkB02decX0_23 48 rfl
theorem dX5_sumSo_49 : decode cX5_sumSo 49 = .ok (.iconst 0, 1) := dk_at dkB02decX0_23 49 rfl
theorem dX5_sumSo_50 : decode cX5_sumSo 50 = .ok (.istore 8, 2) := dk_at dkB02decX0_23 50 rfl
theorem dX5_sumSo_52 : decode cX5_sumSo 52 = .ok (.iload 8, 2) := dk_at dkB02decX0_23 51 rfl
theorem dX5_sumSo_54 : decode cX5_sumSo 54 = .ok (.bipush 96, 2) := dk_at dkB02decX0_23 52 rfl
theorem dX5_sumSo_56 : decode cX5_sumSo 56 = .ok (.if_icmp .ge 27, 3) := dk_at dkB02decX0_23 53 rfl
theorem dX5_sumSo_59 : decode cX5_sumSo 59 = .ok (.iload 7, 2) := dk_at dkB02decX0_23 54 rfl
theorem dX5_sumSo_61 : decode cX5_sumSo 61 = .ok (.ifCond .eq 22, 3) := dk_at dkB02decX0_23 55 rfl
theorem dX5_sumSo_64 : decode cX5_sumSo 64 = .ok (.lload_n 2, 1) := dk_at dkB02decX0_23 56 rfl
theorem dX5_sumSo_65 : decode cX5_sumSo 65 = .ok (.aload_n 0, 1) := dk_at dkB02decX0_23 57 rfl
theorem dX5_sumSo_66 : decode cX5_sumSo 66 = .ok (.getfield 28, 3) := dk_at dkB02decX0_23 58 rfl
theorem dX5_sumSo_69 : decode cX5_sumSo 69 = .ok (.iload 6, 2) := dk_at dkB02decX0_23 59 rfl
noncomputable def dkL02decX0_24 : List (ByteArray × Nat × Instr × Nat) := [(cX5_sumSo, 71, (.iload 8, 2)), (cX5_sumSo, 73, (.iadd, 1)), (cX5_sumSo, 74, (.laload, 1)), (cX5_sumSo, 75, (.ladd, 1)), (cX5_sumSo, 76, (.lstore_n 2, 1)), (cX5_sumSo, 77, (.iinc 8 1, 3)), (cX5_sumSo, 80, (.goto (-28), 3)), (cX5_sumSo, 83, (.iinc 5 1, 3)), (cX5_sumSo, 86, (.goto (-69), 3)), (cX5_sumSo, 89, (.iinc 4 1, 3)), (cX5_sumSo, 92, (.goto (-87), 3)), (cX5_sumSo, 95, (.lload_n 2, 1)), (cX5_sumSo, 96, (.lreturn, 1)), (cX6_init, 0, (.aload_n 0, 1)), (cX6_init, 1, (.invokespecial 3, 3)), (cX6_init, 4, (.aload_n 0, 1)), (cX6_init, 5, (.bipush 80, 2)), (cX6_init, 7, (.newarray .int, 2)), (cX6_init, 9, (.putfield 9, 3)), (cX6_init, 12, (.return_, 1)), (cX6_readLaw, 0, (.aload_n 0, 1)), (cX6_readLaw, 1, (.iconst 0, 1)), (cX6_readLaw, 2, (.putfield 15, 3)), (cX6_readLaw, 5, (.iconst 1, 1)), (cX6_readLaw, 6, (.istore_n 2, 1)), (cX6_readLaw, 7, (.iconst 0, 1)), (cX6_readLaw, 8, (.istore_n 3, 1)), (cX6_readLaw, 9, (.iload_n 3, 1)), (cX6_readLaw, 10, (.bipush 6, 2)), (cX6_readLaw, 12, (.if_icmp .ge 58, 3)), (cX6_readLaw, 15, (.iload_n 2, 1)), (cX6_readLaw, 16, (.ifCond .eq 54, 3)), (cX6_readLaw, 19, (.aload_n 0, 1)), (cX6_readLaw, 20, (.aload_n 1, 1)), (cX6_readLaw, 21, (.iload_n 3, 1)), (cX6_readLaw, 22, (.invokevirtual 19, 3)), (cX6_readLaw, 25, (.ifCond .ne 8, 3)), (cX6_readLaw, 28, (.aload_n 0, 1)), (cX6_readLaw, 29, (.getfield 23, 3)), (cX6_readLaw, 32, (.ireturn, 1)), (cX6_readLaw, 33, (.aload_n 1, 1)), (cX6_readLaw, 34, (.iload_n 3, 1)), (cX6_readLaw, 35, (.iconst 1, 1)), (cX6_readLaw, 36, (.iadd, 1)), (cX6_readLaw, 37, (.putfield 26, 3)), (cX6_readLaw, 40, (.aload_n 1, 1)), (cX6_readLaw, 41, (.getfield 26, 3)), (cX6_readLaw, 44, (.bipush 6, 2)), (cX6_readLaw, 46, (.if_icmp .ge 16, 3)), (cX6_readLaw, 49, (.aload_n 0, 1)), (cX6_readLaw, 50, (.bipush 59, 2)), (cX6_readLaw, 52, (.invokevirtual 31, 3)), (cX6_readLaw, 55, (.ifCond .eq 7, 3)), (cX6_readLaw, 58, (.iconst 1, 1)), (cX6_readLaw, 59, (.goto 4, 3)), (cX6_readLaw, 62, (.iconst 0, 1)), (cX6_readLaw, 63, (.istore_n 2, 1)), (cX6_readLaw, 64, (.iinc 3 1, 3)), (cX6_readLaw, 67, (.goto (-58), 3)), (cX6_readLaw, 70, (.aload_n 0, 1))]
theorem dkB02decX0_24 : dkL02decX0_24.all (fun q => decide (decode q.1 q.2.1 = .ok q.2.2)) = true := by decide +kernel
theorem dX5_sumSo_71 : decode cX5_sumSo 71 = .ok (.iload 8, 2) := dk_at dkB02decX0_24 0 rfl
theorem dX5_sumSo_73 : decode cX5_sumSo 73 = .ok (.iadd, 1) := dk_at dkB02decX0_24 1 rfl
theorem dX5_sumSo_74 : decode cX5_sumSo 74 = .ok (.laload, 1) := dk_at dkB02decX0_24 2 rfl
theorem dX5_sumSo_75 : decode cX5_sumSo 75 = .ok (.ladd, 1) := dk_at dkB02decX0_24 3 rfl
theorem dX5_sumSo_76 : decode cX5_sumSo 76 = .ok (.lstore_n 2, 1) := dk_at dkB02decX0_24 4 rfl
theorem dX5_sumSo_77 : decode cX5_sumSo 77 = .ok (.iinc 8 1, 3) := dk_at dkB02decX0_24 5 rfl
theorem dX5_sumSo_80 : decode cX5_sumSo 80 = .ok (.goto (-28), 3) := dk_at dkB02decX0_24 6 rfl
theorem dX5_sumSo_83 : decode cX5_sumSo 83 = .ok (.iinc 5 1, 3) := dk_at dkB02decX0_24 7 rfl
theorem dX5_sumSo_86 : decode cX5_sumSo 86 = .ok (.goto (-69), 3) := dk_at dkB02decX0_24 8 rfl
theorem dX5_sumSo_89 : decode cX5_sumSo 89 = .ok (.iinc 4 1, 3) := dk_at dkB02decX0_24 9 rfl
theorem dX5_sumSo_92 : decode cX5_sumSo 92 = .ok (.goto (-87), 3) := dk_at dkB02decX0_24 10 rfl
theorem dX5_sumSo_95 : decode cX5_sumSo 95 = .ok (.lload_n 2, 1) := dk_at dkB02decX0_24 11 rfl
theorem dX5_sumSo_96 : decode cX5_sumSo 96 = .ok (.lreturn, 1) := dk_at dkB02decX0_24 12 rfl
theorem dX6_init_0 : decode cX6_init 0 = .ok (.aload_n 0, 1) := dk_at dkB02decX0_24 13 rfl
theorem dX6_init_1 : decode cX6_init 1 = .ok (.invokespecial 3, 3) := dk_at dkB02decX0_24 14 rfl
theorem dX6_init_4 : decode cX6_init 4 = .ok (.aload_n 0, 1) := dk_at dkB02decX0_24 15 rfl
theorem dX6_init_5 : decode cX6_init 5 = .ok (.bipush 80, 2) := dk_at dkB02decX0_24 16 rfl
theorem dX6_init_7 : decode cX6_init 7 = .ok (.newarray .int, 2) := dk_at dkB02decX0_24 17 rfl
theorem dX6_init_9 : decode cX6_init 9 = .ok (.putfield 9, 3) := dk_at dkB02decX0_24 18 rfl
theorem dX6_init_12 : decode cX6_init 12 = .ok (.return_, 1) := dk_at dkB02decX0_24 19 rfl
theorem dX6_readLaw_0 : decode cX6_readLaw 0 = .ok (.aload_n 0, 1) := dk_at dkB02decX0_24 20 rfl
theorem dX6_readLaw_1 : decode cX6_readLaw 1 = .ok (.iconst 0, 1) := dk_at dkB02decX0_24 21 rfl
theorem dX6_readLaw_2 : decode cX6_readLaw 2 = .ok (.putfield 15, 3) := dk_at dkB02decX0_24 22 rfl
theorem dX6_readLaw_5 : decode cX6_readLaw 5 = .ok (.iconst 1, 1) := dk_at dkB02decX0_24 23 rfl
theorem dX6_readLaw_6 : decode cX6_readLaw 6 = .ok (.istore_n 2, 1) := dk_at dkB02decX0_24 24 rfl
theorem dX6_readLaw_7 : decode cX6_readLaw 7 = .ok (.iconst 0, 1) := dk_at dkB02decX0_24 25 rfl
theorem dX6_readLaw_8 : decode cX6_readLaw 8 = .ok (.istore_n 3, 1) := dk_at dkB02decX0_24 26 rfl
theorem dX6_readLaw_9 : decode cX6_readLaw 9 = .ok (.iload_n 3, 1) := dk_at dkB02decX0_24 27 rfl
theorem dX6_readLaw_10 : decode cX6_readLaw 10 = .ok (.bipush 6, 2) := dk_at dkB02decX0_24 28 rfl
theorem dX6_readLaw_12 : decode cX6_readLaw 12 = .ok (.if_icmp .ge 58, 3) := dk_at dkB02decX0_24 29 rfl
theorem dX6_readLaw_15 : decode cX6_readLaw 15 = .ok (.iload_n 2, 1) := dk_at dkB02decX0_24 30 rfl
theorem dX6_readLaw_16 : decode cX6_readLaw 16 = .ok (.ifCond .eq 54, 3) := dk_at dkB02decX0_24 31 rfl
theorem dX6_readLaw_19 : decode cX6_readLaw 19 = .ok (.aload_n 0, 1) := dk_at dkB02decX0_24 32 rfl
theorem dX6_readLaw_20 : decode cX6_readLaw 20 = .ok (.aload_n 1, 1) := dk_at dkB02decX0_24 33 rfl
theorem dX6_readLaw_21 : decode cX6_readLaw 21 = .ok (.iload_n 3, 1) := dk_at dkB02decX0_24 34 rfl
theorem dX6_readLaw_22 : decode cX6_readLaw 22 = .ok (.invokevirtual 19, 3) := dk_at dkB02decX0_24 35 rfl
theorem dX6_readLaw_25 : decode cX6_readLaw 25 = .ok (.ifCond .ne 8, 3) := dk_at dkB02decX0_24 36 rfl
theorem dX6_readLaw_28 : decode cX6_readLaw 28 = .ok (.aload_n 0, 1) := dk_at dkB02decX0_24 37 rfl
theorem dX6_readLaw_29 : decode cX6_readLaw 29 = .ok (.getfield 23, 3) := dk_at dkB02decX0_24 38 rfl
theorem dX6_readLaw_32 : decode cX6_readLaw 32 = .ok (.ireturn, 1) := dk_at dkB02decX0_24 39 rfl
theorem dX6_readLaw_33 : decode cX6_readLaw 33 = .ok (.aload_n 1, 1) := dk_at dkB02decX0_24 40 rfl
theorem dX6_readLaw_34 : decode cX6_readLaw 34 = .ok (.iload_n 3, 1) := dk_at dkB02decX0_24 41 rfl
theorem dX6_readLaw_35 : decode cX6_readLaw 35 = .ok (.iconst 1, 1) := dk_at dkB02decX0_24 42 rfl
theorem dX6_readLaw_36 : decode cX6_readLaw 36 = .ok (.iadd, 1) := dk_at dkB02decX0_24 43 rfl
theorem dX6_readLaw_37 : decode cX6_readLaw 37 = .ok (.putfield 26, 3) := dk_at dkB02decX0_24 44 rfl
theorem dX6_readLaw_40 : decode cX6_readLaw 40 = .ok (.aload_n 1, 1) := dk_at dkB02decX0_24 45 rfl
theorem dX6_readLaw_41 : decode cX6_readLaw 41 = .ok (.getfield 26, 3) := dk_at dkB02decX0_24 46 rfl
theorem dX6_readLaw_44 : decode cX6_readLaw 44 = .ok (.bipush 6, 2) := dk_at dkB02decX0_24 47 rfl
theorem dX6_readLaw_46 : decode cX6_readLaw 46 = .ok (.if_icmp .ge 16, 3) := dk_at dkB02decX0_24 48 rfl
theorem dX6_readLaw_49 : decode cX6_readLaw 49 = .ok (.aload_n 0, 1) := dk_at dkB02decX0_24 49 rfl
theorem dX6_readLaw_50 : decode cX6_readLaw 50 = .ok (.bipush 59, 2) := dk_at dkB02decX0_24 50 rfl
theorem dX6_readLaw_52 : decode cX6_readLaw 52 = .ok (.invokevirtual 31, 3) := dk_at dkB02decX0_24 51 rfl
theorem dX6_readLaw_55 : decode cX6_readLaw 55 = .ok (.ifCond .eq 7, 3) := dk_at dkB02decX0_24 52 rfl
theorem dX6_readLaw_58 : decode cX6_readLaw 58 = .ok (.iconst 1, 1) := dk_at dkB02decX0_24 53 rfl
theorem dX6_readLaw_59 : decode cX6_readLaw 59 = .ok (.goto 4, 3) := dk_at dkB02decX0_24 54 rfl
theorem dX6_readLaw_62 : decode cX6_readLaw 62 = .ok (.iconst 0, 1) := dk_at dkB02decX0_24 55 rfl
theorem dX6_readLaw_63 : decode cX6_readLaw 63 = .ok (.istore_n 2, 1) := dk_at dkB02decX0_24 56 rfl
theorem dX6_readLaw_64 : decode cX6_readLaw 64 = .ok (.iinc 3 1, 3) := dk_at dkB02decX0_24 57 rfl
theorem dX6_readLaw_67 : decode cX6_readLaw 67 = .ok (.goto (-58), 3) := dk_at dkB02decX0_24 58 rfl
theorem dX6_readLaw_70 : decode cX6_readLaw 70 = .ok (.aload_n 0, 1) := dk_at dkB02decX0_24 59 rfl
noncomputable def dkL02decX0_25 : List (ByteArray × Nat × Instr × Nat) := [(cX6_readLaw, 71, (.invokevirtual 35, 3)), (cX6_readLaw, 74, (.iconst (-1), 1)), (cX6_readLaw, 75, (.if_icmp .eq 14, 3)), (cX6_readLaw, 78, (.aload_n 0, 1)), (cX6_readLaw, 79, (.aload_n 0, 1)), (cX6_readLaw, 80, (.getfield 15, 3)), (cX6_readLaw, 83, (.invokevirtual 39, 3)), (cX6_readLaw, 86, (.ifCond .eq 7, 3)), (cX6_readLaw, 89, (.iconst 0, 1)), (cX6_readLaw, 90, (.goto 7, 3)), (cX6_readLaw, 93, (.aload_n 0, 1)), (cX6_readLaw, 94, (.getfield 23, 3)), (cX6_readLaw, 97, (.ireturn, 1)), (cX6_readClause, 0, (.aload_n 1, 1)), (cX6_readClause, 1, (.getfield 42, 3)), (cX6_readClause, 4, (.iload_n 2, 1)), (cX6_readClause, 5, (.iconst 0, 1)), (cX6_readClause, 6, (.iastore, 1)), (cX6_readClause, 7, (.aload_n 0, 1)), (cX6_readClause, 8, (.bipush 42, 2)), (cX6_readClause, 10, (.invokevirtual 31, 3)), (cX6_readClause, 13, (.ifCond .ne 14, 3)), (cX6_readClause, 16, (.aload_n 0, 1)), (cX6_readClause, 17, (.aload_n 1, 1)), (cX6_readClause, 18, (.iload_n 2, 1)), (cX6_readClause, 19, (.invokevirtual 45, 3)), (cX6_readClause, 22, (.ifCond .ne 5, 3)), (cX6_readClause, 25, (.iconst 0, 1)), (cX6_readClause, 26, (.ireturn, 1)), (cX6_readClause, 27, (.aload_n 0, 1)), (cX6_readClause, 28, (.bipush 58, 2)), (cX6_readClause, 30, (.invokevirtual 48, 3)), (cX6_readClause, 33, (.ifCond .ne 5, 3)), (cX6_readClause, 36, (.iconst 0, 1)), (cX6_readClause, 37, (.ireturn, 1)), (cX6_readClause, 38, (.aload_n 0, 1)), (cX6_readClause, 39, (.invokevirtual 35, 3)), (cX6_readClause, 42, (.istore_n 3, 1)), (cX6_readClause, 43, (.iload_n 3, 1)), (cX6_readClause, 44, (.bipush 48, 2)), (cX6_readClause, 46, (.bipush 52, 2)), (cX6_readClause, 48, (.invokestatic 51, 3)), (cX6_readClause, 51, (.ifCond .ne 12, 3)), (cX6_readClause, 54, (.aload_n 0, 1)), (cX6_readClause, 55, (.aload_n 0, 1)), (cX6_readClause, 56, (.getfield 15, 3)), (cX6_readClause, 59, (.invokevirtual 39, 3)), (cX6_readClause, 62, (.ireturn, 1)), (cX6_readClause, 63, (.aload_n 1, 1)), (cX6_readClause, 64, (.getfield 55, 3)), (cX6_readClause, 67, (.iload_n 2, 1)), (cX6_readClause, 68, (.iload_n 3, 1)), (cX6_readClause, 69, (.bipush 48, 2)), (cX6_readClause, 71, (.isub, 1)), (cX6_readClause, 72, (.iastore, 1)), (cX6_readClause, 73, (.aload_n 0, 1)), (cX6_readClause, 74, (.dup, 1)), (cX6_readClause, 75, (.getfield 15, 3)), (cX6_readClause, 78, (.iconst 1, 1)), (cX6_readClause, 79, (.iadd, 1))]
theorem dkB02decX0_25 : dkL02decX0_25.all (fun q => decide (decode q.1 q.2.1 = .ok q.2.2)) = true := by decide +kernel
theorem dX6_readLaw_71 : decode cX6_readLaw 71 = .ok (.invokevirtual 35, 3) := dk_at dkB02decX0_25 0 rfl
theorem dX6_readLaw_74 : decode cX6_readLaw 74 = .ok (.iconst (-1), 1) := dk_at dkB02decX0_25 1 rfl
theorem dX6_readLaw_75 : decode cX6_readLaw 75 = .ok (.if_icmp .eq 14, 3) := dk_at dkB02decX0_25 2 rfl
theorem dX6_readLaw_78 : decode cX6_readLaw 78 = .ok (.aload_n 0, 1) := dk_at dkB02decX0_25 3 rfl
theorem dX6_readLaw_79 : decode cX6_readLaw 79 = .ok (.aload_n 0, 1) := dk_at dkB02decX0_25 4 rfl
theorem dX6_readLaw_80 : decode cX6_readLaw 80 = .ok (.getfield 15, 3) := dk_at dkB02decX0_25 5 rfl
theorem dX6_readLaw_83 : decode cX6_readLaw 83 = .ok (.invokevirtual 39, 3) := dk_at dkB02decX0_25 6 rfl
theorem dX6_readLaw_86 : decode cX6_readLaw 86 = .ok (.ifCond .eq 7, 3) := dk_at dkB02decX0_25 7 rfl
theorem dX6_readLaw_89 : decode cX6_readLaw 89 = .ok (.iconst 0, 1) := dk_at dkB02decX0_25 8 rfl
theorem dX6_readLaw_90 : decode cX6_readLaw 90 = .ok (.goto 7, 3) := dk_at dkB02decX0_25 9 rfl
theorem dX6_readLaw_93 : decode cX6_readLaw 93 = .ok (.aload_n 0, 1) := dk_at dkB02decX0_25 10 rfl
theorem dX6_readLaw_94 : decode cX6_readLaw 94 = .ok (.getfield 23, 3) := dk_at dkB02decX0_25 11 rfl
theorem dX6_readLaw_97 : decode cX6_readLaw 97 = .ok (.ireturn, 1) := dk_at dkB02decX0_25 12 rfl
theorem dX6_readClause_0 : decode cX6_readClause 0 = .ok (.aload_n 1, 1) := dk_at dkB02decX0_25 13 rfl
theorem dX6_readClause_1 : decode cX6_readClause 1 = .ok (.getfield 42, 3) := dk_at dkB02decX0_25 14 rfl
theorem dX6_readClause_4 : decode cX6_readClause 4 = .ok (.iload_n 2, 1) := dk_at dkB02decX0_25 15 rfl
theorem dX6_readClause_5 : decode cX6_readClause 5 = .ok (.iconst 0, 1) := dk_at dkB02decX0_25 16 rfl
theorem dX6_readClause_6 : decode cX6_readClause 6 = .ok (.iastore, 1) := dk_at dkB02decX0_25 17 rfl
theorem dX6_readClause_7 : decode cX6_readClause 7 = .ok (.aload_n 0, 1) := dk_at dkB02decX0_25 18 rfl
theorem dX6_readClause_8 : decode cX6_readClause 8 = .ok (.bipush 42, 2) := dk_at dkB02decX0_25 19 rfl
theorem dX6_readClause_10 : decode cX6_readClause 10 = .ok (.invokevirtual 31, 3) := dk_at dkB02decX0_25 20 rfl
theorem dX6_readClause_13 : decode cX6_readClause 13 = .ok (.ifCond .ne 14, 3) := dk_at dkB02decX0_25 21 rfl
theorem dX6_readClause_16 : decode cX6_readClause 16 = .ok (.aload_n 0, 1) := dk_at dkB02decX0_25 22 rfl
theorem dX6_readClause_17 : decode cX6_readClause 17 = .ok (.aload_n 1, 1) := dk_at dkB02decX0_25 23 rfl
theorem dX6_readClause_18 : decode cX6_readClause 18 = .ok (.iload_n 2, 1) := dk_at dkB02decX0_25 24 rfl
theorem dX6_readClause_19 : decode cX6_readClause 19 = .ok (.invokevirtual 45, 3) := dk_at dkB02decX0_25 25 rfl
theorem dX6_readClause_22 : decode cX6_readClause 22 = .ok (.ifCond .ne 5, 3) := dk_at dkB02decX0_25 26 rfl
theorem dX6_readClause_25 : decode cX6_readClause 25 = .ok (.iconst 0, 1) := dk_at dkB02decX0_25 27 rfl
theorem dX6_readClause_26 : decode cX6_readClause 26 = .ok (.ireturn, 1) := dk_at dkB02decX0_25 28 rfl
theorem dX6_readClause_27 : decode cX6_readClause 27 = .ok (.aload_n 0, 1) := dk_at dkB02decX0_25 29 rfl
theorem dX6_readClause_28 : decode cX6_readClause 28 = .ok (.bipush 58, 2) := dk_at dkB02decX0_25 30 rfl
theorem dX6_readClause_30 : decode cX6_readClause 30 = .ok (.invokevirtual 48, 3) := dk_at dkB02decX0_25 31 rfl
theorem dX6_readClause_33 : decode cX6_readClause 33 = .ok (.ifCond .ne 5, 3) := dk_at dkB02decX0_25 32 rfl
theorem dX6_readClause_36 : decode cX6_readClause 36 = .ok (.iconst 0, 1) := dk_at dkB02decX0_25 33 rfl
theorem dX6_readClause_37 : decode cX6_readClause 37 = .ok (.ireturn, 1) := dk_at dkB02decX0_25 34 rfl
theorem dX6_readClause_38 : decode cX6_readClause 38 = .ok (.aload_n 0, 1) := dk_at dkB02decX0_25 35 rfl
theorem dX6_readClause_39 : decode cX6_readClause 39 = .ok (.invokevirtual 35, 3) := dk_at dkB02decX0_25 36 rfl
theorem dX6_readClause_42 : decode cX6_readClause 42 = .ok (.istore_n 3, 1) := dk_at dkB02decX0_25 37 rfl
theorem dX6_readClause_43 : decode cX6_readClause 43 = .ok (.iload_n 3, 1) := dk_at dkB02decX0_25 38 rfl
theorem dX6_readClause_44 : decode cX6_readClause 44 = .ok (.bipush 48, 2) := dk_at dkB02decX0_25 39 rfl
theorem dX6_readClause_46 : decode cX6_readClause 46 = .ok (.bipush 52, 2) := dk_at dkB02decX0_25 40 rfl
theorem dX6_readClause_48 : decode cX6_readClause 48 = .ok (.invokestatic 51, 3) := dk_at dkB02decX0_25 41 rfl
theorem dX6_readClause_51 : decode cX6_readClause 51 = .ok (.ifCond .ne 12, 3) := dk_at dkB02decX0_25 42 rfl
theorem dX6_readClause_54 : decode cX6_readClause 54 = .ok (.aload_n 0, 1) := dk_at dkB02decX0_25 43 rfl
theorem dX6_readClause_55 : decode cX6_readClause 55 = .ok (.aload_n 0, 1) := dk_at dkB02decX0_25 44 rfl
theorem dX6_readClause_56 : decode cX6_readClause 56 = .ok (.getfield 15, 3) := dk_at dkB02decX0_25 45 rfl
theorem dX6_readClause_59 : decode cX6_readClause 59 = .ok (.invokevirtual 39, 3) := dk_at dkB02decX0_25 46 rfl
theorem dX6_readClause_62 : decode cX6_readClause 62 = .ok (.ireturn, 1) := dk_at dkB02decX0_25 47 rfl
theorem dX6_readClause_63 : decode cX6_readClause 63 = .ok (.aload_n 1, 1) := dk_at dkB02decX0_25 48 rfl
theorem dX6_readClause_64 : decode cX6_readClause 64 = .ok (.getfield 55, 3) := dk_at dkB02decX0_25 49 rfl
theorem dX6_readClause_67 : decode cX6_readClause 67 = .ok (.iload_n 2, 1) := dk_at dkB02decX0_25 50 rfl
theorem dX6_readClause_68 : decode cX6_readClause 68 = .ok (.iload_n 3, 1) := dk_at dkB02decX0_25 51 rfl
theorem dX6_readClause_69 : decode cX6_readClause 69 = .ok (.bipush 48, 2) := dk_at dkB02decX0_25 52 rfl
theorem dX6_readClause_71 : decode cX6_readClause 71 = .ok (.isub, 1) := dk_at dkB02decX0_25 53 rfl
theorem dX6_readClause_72 : decode cX6_readClause 72 = .ok (.iastore, 1) := dk_at dkB02decX0_25 54 rfl
theorem dX6_readClause_73 : decode cX6_readClause 73 = .ok (.aload_n 0, 1) := dk_at dkB02decX0_25 55 rfl
theorem dX6_readClause_74 : decode cX6_readClause 74 = .ok (.dup, 1) := dk_at dkB02decX0_25 56 rfl
theorem dX6_readClause_75 : decode cX6_readClause 75 = .ok (.getfield 15, 3) := dk_at dkB02decX0_25 57 rfl
theorem dX6_readClause_78 : decode cX6_readClause 78 = .ok (.iconst 1, 1) := dk_at dkB02decX0_25 58 rfl
theorem dX6_readClause_79 : decode cX6_readClause 79 = .ok (.iadd, 1) := dk_at dkB02decX0_25 59 rfl
noncomputable def dkL02decX0_26 : List (ByteArray × Nat × Instr × Nat) := [(cX6_readClause, 80, (.putfield 15, 3)), (cX6_readClause, 83, (.iconst 1, 1)), (cX6_readClause, 84, (.ireturn, 1)), (cX6_readConditions, 0, (.iconst 1, 1)), (cX6_readConditions, 1, (.istore_n 3, 1)), (cX6_readConditions, 2, (.iconst 0, 1)), (cX6_readConditions, 3, (.istore 4, 2)), (cX6_readConditions, 5, (.iload 4, 2)), (cX6_readConditions, 7, (.iconst 3, 1)), (cX6_readConditions, 8, (.if_icmp .ge 174, 3)), (cX6_readConditions, 11, (.iload_n 3, 1)), (cX6_readConditions, 12, (.ifCond .eq 170, 3)), (cX6_readConditions, 15, (.iload_n 2, 1)), (cX6_readConditions, 16, (.iconst 3, 1)), (cX6_readConditions, 17, (.imul, 1)), (cX6_readConditions, 18, (.iload 4, 2)), (cX6_readConditions, 20, (.iadd, 1)), (cX6_readConditions, 21, (.istore 5, 2)), (cX6_readConditions, 23, (.aload_n 1, 1)), (cX6_readConditions, 24, (.getfield 58, 3)), (cX6_readConditions, 27, (.iload 5, 2)), (cX6_readConditions, 29, (.aload_n 0, 1)), (cX6_readConditions, 30, (.invokevirtual 35, 3)), (cX6_readConditions, 33, (.iastore, 1)), (cX6_readConditions, 34, (.aload_n 0, 1)), (cX6_readConditions, 35, (.bipush 97, 2)), (cX6_readConditions, 37, (.invokevirtual 31, 3)), (cX6_readConditions, 40, (.ifCond .ne 30, 3)), (cX6_readConditions, 43, (.aload_n 0, 1)), (cX6_readConditions, 44, (.bipush 104, 2)), (cX6_readConditions, 46, (.invokevirtual 31, 3)), (cX6_readConditions, 49, (.ifCond .ne 21, 3)), (cX6_readConditions, 52, (.aload_n 0, 1)), (cX6_readConditions, 53, (.bipush 119, 2)), (cX6_readConditions, 55, (.invokevirtual 31, 3)), (cX6_readConditions, 58, (.ifCond .ne 12, 3)), (cX6_readConditions, 61, (.aload_n 0, 1)), (cX6_readConditions, 62, (.aload_n 0, 1)), (cX6_readConditions, 63, (.getfield 15, 3)), (cX6_readConditions, 66, (.invokevirtual 39, 3)), (cX6_readConditions, 69, (.ireturn, 1)), (cX6_readConditions, 70, (.aload_n 1, 1)), (cX6_readConditions, 71, (.getfield 61, 3)), (cX6_readConditions, 74, (.iload 5, 2)), (cX6_readConditions, 76, (.aload_n 0, 1)), (cX6_readConditions, 77, (.invokevirtual 35, 3)), (cX6_readConditions, 80, (.iastore, 1)), (cX6_readConditions, 81, (.aload_n 0, 1)), (cX6_readConditions, 82, (.bipush 60, 2)), (cX6_readConditions, 84, (.invokevirtual 31, 3)), (cX6_readConditions, 87, (.ifCond .ne 30, 3)), (cX6_readConditions, 90, (.aload_n 0, 1)), (cX6_readConditions, 91, (.bipush 62, 2)), (cX6_readConditions, 93, (.invokevirtual 31, 3)), (cX6_readConditions, 96, (.ifCond .ne 21, 3)), (cX6_readConditions, 99, (.aload_n 0, 1)), (cX6_readConditions, 100, (.bipush 61, 2)), (cX6_readConditions, 102, (.invokevirtual 31, 3)), (cX6_readConditions, 105, (.ifCond .ne 12, 3)), (cX6_readConditions, 108, (.aload_n 0, 1))]
theorem dkB02decX0_26 : dkL02decX0_26.all (fun q => decide (decode q.1 q.2.1 = .ok q.2.2)) = true := by decide +kernel
theorem dX6_readClause_80 : decode cX6_readClause 80 = .ok (.putfield 15, 3) := dk_at dkB02decX0_26 0 rfl
theorem dX6_readClause_83 : decode cX6_readClause 83 = .ok (.iconst 1, 1) := dk_at dkB02decX0_26 1 rfl
theorem dX6_readClause_84 : decode cX6_readClause 84 = .ok (.ireturn, 1) := dk_at dkB02decX0_26 2 rfl
theorem dX6_readConditions_0 : decode cX6_readConditions 0 = .ok (.iconst 1, 1) := dk_at dkB02decX0_26 3 rfl
theorem dX6_readConditions_1 : decode cX6_readConditions 1 = .ok (.istore_n 3, 1) := dk_at dkB02decX0_26 4 rfl
theorem dX6_readConditions_2 : decode cX6_readConditions 2 = .ok (.iconst 0, 1) := dk_at dkB02decX0_26 5 rfl
theorem dX6_readConditions_3 : decode cX6_readConditions 3 = .ok (.istore 4, 2) := dk_at dkB02decX0_26 6 rfl
theorem dX6_readConditions_5 : decode cX6_readConditions 5 = .ok (.iload 4, 2) := dk_at dkB02decX0_26 7 rfl
theorem dX6_readConditions_7 : decode cX6_readConditions 7 = .ok (.iconst 3, 1) := dk_at dkB02decX0_26 8 rfl
theorem dX6_readConditions_8 : decode cX6_readConditions 8 = .ok (.if_icmp .ge 174, 3) := dk_at dkB02decX0_26 9 rfl
theorem dX6_readConditions_11 : decode cX6_readConditions 11 = .ok (.iload_n 3, 1) := dk_at dkB02decX0_26 10 rfl
theorem dX6_readConditions_12 : decode cX6_readConditions 12 = .ok (.ifCond .eq 170, 3) := dk_at dkB02decX0_26 11 rfl
theorem dX6_readConditions_15 : decode cX6_readConditions 15 = .ok (.iload_n 2, 1) := dk_at dkB02decX0_26 12 rfl
theorem dX6_readConditions_16 : decode cX6_readConditions 16 = .ok (.iconst 3, 1) := dk_at dkB02decX0_26 13 rfl
theorem dX6_readConditions_17 : decode cX6_readConditions 17 = .ok (.imul, 1) := dk_at dkB02decX0_26 14 rfl
theorem dX6_readConditions_18 : decode cX6_readConditions 18 = .ok (.iload 4, 2) := dk_at dkB02decX0_26 15 rfl
theorem dX6_readConditions_20 : decode cX6_readConditions 20 = .ok (.iadd, 1) := dk_at dkB02decX0_26 16 rfl
theorem dX6_readConditions_21 : decode cX6_readConditions 21 = .ok (.istore 5, 2) := dk_at dkB02decX0_26 17 rfl
theorem dX6_readConditions_23 : decode cX6_readConditions 23 = .ok (.aload_n 1, 1) := dk_at dkB02decX0_26 18 rfl
theorem dX6_readConditions_24 : decode cX6_readConditions 24 = .ok (.getfield 58, 3) := dk_at dkB02decX0_26 19 rfl
theorem dX6_readConditions_27 : decode cX6_readConditions 27 = .ok (.iload 5, 2) := dk_at dkB02decX0_26 20 rfl
theorem dX6_readConditions_29 : decode cX6_readConditions 29 = .ok (.aload_n 0, 1) := dk_at dkB02decX0_26 21 rfl
theorem dX6_readConditions_30 : decode cX6_readConditions 30 = .ok (.invokevirtual 35, 3) := dk_at dkB02decX0_26 22 rfl
theorem dX6_readConditions_33 : decode cX6_readConditions 33 = .ok (.iastore, 1) := dk_at dkB02decX0_26 23 rfl
theorem dX6_readConditions_34 : decode cX6_readConditions 34 = .ok (.aload_n 0, 1) := dk_at dkB02decX0_26 24 rfl
theorem dX6_readConditions_35 : decode cX6_readConditions 35 = .ok (.bipush 97, 2) := dk_at dkB02decX0_26 25 rfl
theorem dX6_readConditions_37 : decode cX6_readConditions 37 = .ok (.invokevirtual 31, 3) := dk_at dkB02decX0_26 26 rfl
theorem dX6_readConditions_40 : decode cX6_readConditions 40 = .ok (.ifCond .ne 30, 3) := dk_at dkB02decX0_26 27 rfl
theorem dX6_readConditions_43 : decode cX6_readConditions 43 = .ok (.aload_n 0, 1) := dk_at dkB02decX0_26 28 rfl
theorem dX6_readConditions_44 : decode cX6_readConditions 44 = .ok (.bipush 104, 2) := dk_at dkB02decX0_26 29 rfl
theorem dX6_readConditions_46 : decode cX6_readConditions 46 = .ok (.invokevirtual 31, 3) := dk_at dkB02decX0_26 30 rfl
theorem dX6_readConditions_49 : decode cX6_readConditions 49 = .ok (.ifCond .ne 21, 3) := dk_at dkB02decX0_26 31 rfl
theorem dX6_readConditions_52 : decode cX6_readConditions 52 = .ok (.aload_n 0, 1) := dk_at dkB02decX0_26 32 rfl
theorem dX6_readConditions_53 : decode cX6_readConditions 53 = .ok (.bipush 119, 2) := dk_at dkB02decX0_26 33 rfl
theorem dX6_readConditions_55 : decode cX6_readConditions 55 = .ok (.invokevirtual 31, 3) := dk_at dkB02decX0_26 34 rfl
theorem dX6_readConditions_58 : decode cX6_readConditions 58 = .ok (.ifCond .ne 12, 3) := dk_at dkB02decX0_26 35 rfl
theorem dX6_readConditions_61 : decode cX6_readConditions 61 = .ok (.aload_n 0, 1) := dk_at dkB02decX0_26 36 rfl
theorem dX6_readConditions_62 : decode cX6_readConditions 62 = .ok (.aload_n 0, 1) := dk_at dkB02decX0_26 37 rfl
theorem dX6_readConditions_63 : decode cX6_readConditions 63 = .ok (.getfield 15, 3) := dk_at dkB02decX0_26 38 rfl
theorem dX6_readConditions_66 : decode cX6_readConditions 66 = .ok (.invokevirtual 39, 3) := dk_at dkB02decX0_26 39 rfl
theorem dX6_readConditions_69 : decode cX6_readConditions 69 = .ok (.ireturn, 1) := dk_at dkB02decX0_26 40 rfl
theorem dX6_readConditions_70 : decode cX6_readConditions 70 = .ok (.aload_n 1, 1) := dk_at dkB02decX0_26 41 rfl
theorem dX6_readConditions_71 : decode cX6_readConditions 71 = .ok (.getfield 61, 3) := dk_at dkB02decX0_26 42 rfl
theorem dX6_readConditions_74 : decode cX6_readConditions 74 = .ok (.iload 5, 2) := dk_at dkB02decX0_26 43 rfl
theorem dX6_readConditions_76 : decode cX6_readConditions 76 = .ok (.aload_n 0, 1) := dk_at dkB02decX0_26 44 rfl
theorem dX6_readConditions_77 : decode cX6_readConditions 77 = .ok (.invokevirtual 35, 3) := dk_at dkB02decX0_26 45 rfl
theorem dX6_readConditions_80 : decode cX6_readConditions 80 = .ok (.iastore, 1) := dk_at dkB02decX0_26 46 rfl
theorem dX6_readConditions_81 : decode cX6_readConditions 81 = .ok (.aload_n 0, 1) := dk_at dkB02decX0_26 47 rfl
theorem dX6_readConditions_82 : decode cX6_readConditions 82 = .ok (.bipush 60, 2) := dk_at dkB02decX0_26 48 rfl
theorem dX6_readConditions_84 : decode cX6_readConditions 84 = .ok (.invokevirtual 31, 3) := dk_at dkB02decX0_26 49 rfl
theorem dX6_readConditions_87 : decode cX6_readConditions 87 = .ok (.ifCond .ne 30, 3) := dk_at dkB02decX0_26 50 rfl
theorem dX6_readConditions_90 : decode cX6_readConditions 90 = .ok (.aload_n 0, 1) := dk_at dkB02decX0_26 51 rfl
theorem dX6_readConditions_91 : decode cX6_readConditions 91 = .ok (.bipush 62, 2) := dk_at dkB02decX0_26 52 rfl
theorem dX6_readConditions_93 : decode cX6_readConditions 93 = .ok (.invokevirtual 31, 3) := dk_at dkB02decX0_26 53 rfl
theorem dX6_readConditions_96 : decode cX6_readConditions 96 = .ok (.ifCond .ne 21, 3) := dk_at dkB02decX0_26 54 rfl
theorem dX6_readConditions_99 : decode cX6_readConditions 99 = .ok (.aload_n 0, 1) := dk_at dkB02decX0_26 55 rfl
theorem dX6_readConditions_100 : decode cX6_readConditions 100 = .ok (.bipush 61, 2) := dk_at dkB02decX0_26 56 rfl
theorem dX6_readConditions_102 : decode cX6_readConditions 102 = .ok (.invokevirtual 31, 3) := dk_at dkB02decX0_26 57 rfl
theorem dX6_readConditions_105 : decode cX6_readConditions 105 = .ok (.ifCond .ne 12, 3) := dk_at dkB02decX0_26 58 rfl
theorem dX6_readConditions_108 : decode cX6_readConditions 108 = .ok (.aload_n 0, 1) := dk_at dkB02decX0_26 59 rfl
noncomputable def dkL02decX0_27 : List (ByteArray × Nat × Instr × Nat) := [(cX6_readConditions, 109, (.aload_n 0, 1)), (cX6_readConditions, 110, (.getfield 15, 3)), (cX6_readConditions, 113, (.invokevirtual 39, 3)), (cX6_readConditions, 116, (.ireturn, 1)), (cX6_readConditions, 117, (.aload_n 1, 1)), (cX6_readConditions, 118, (.getfield 64, 3)), (cX6_readConditions, 121, (.iload 5, 2)), (cX6_readConditions, 123, (.aload_n 0, 1)), (cX6_readConditions, 124, (.iconst 0, 1)), (cX6_readConditions, 125, (.bipush 99, 2)), (cX6_readConditions, 127, (.invokevirtual 67, 3)), (cX6_readConditions, 130, (.iastore, 1)), (cX6_readConditions, 131, (.aload_n 1, 1)), (cX6_readConditions, 132, (.getfield 64, 3)), (cX6_readConditions, 135, (.iload 5, 2)), (cX6_readConditions, 137, (.iaload, 1)), (cX6_readConditions, 138, (.ifCond .ge 5, 3)), (cX6_readConditions, 141, (.iconst 0, 1)), (cX6_readConditions, 142, (.ireturn, 1)), (cX6_readConditions, 143, (.aload_n 1, 1)), (cX6_readConditions, 144, (.getfield 42, 3)), (cX6_readConditions, 147, (.iload_n 2, 1)), (cX6_readConditions, 148, (.iload 4, 2)), (cX6_readConditions, 150, (.iconst 1, 1)), (cX6_readConditions, 151, (.iadd, 1)), (cX6_readConditions, 152, (.iastore, 1)), (cX6_readConditions, 153, (.iload 4, 2)), (cX6_readConditions, 155, (.iconst 1, 1)), (cX6_readConditions, 156, (.iadd, 1)), (cX6_readConditions, 157, (.iconst 3, 1)), (cX6_readConditions, 158, (.if_icmp .ge 16, 3)), (cX6_readConditions, 161, (.aload_n 0, 1)), (cX6_readConditions, 162, (.bipush 38, 2)), (cX6_readConditions, 164, (.invokevirtual 31, 3)), (cX6_readConditions, 167, (.ifCond .eq 7, 3)), (cX6_readConditions, 170, (.iconst 1, 1)), (cX6_readConditions, 171, (.goto 4, 3)), (cX6_readConditions, 174, (.iconst 0, 1)), (cX6_readConditions, 175, (.istore_n 3, 1)), (cX6_readConditions, 176, (.iinc 4 1, 3)), (cX6_readConditions, 179, (.goto (-174), 3)), (cX6_readConditions, 182, (.iconst 1, 1)), (cX6_readConditions, 183, (.ireturn, 1)), (cX6_readClaim, 0, (.aload_n 0, 1)), (cX6_readClaim, 1, (.iconst 0, 1)), (cX6_readClaim, 2, (.putfield 15, 3)), (cX6_readClaim, 5, (.aload_n 1, 1)), (cX6_readClaim, 6, (.iconst 0, 1)), (cX6_readClaim, 7, (.putfield 71, 3)), (cX6_readClaim, 10, (.iconst 1, 1)), (cX6_readClaim, 11, (.istore_n 2, 1)), (cX6_readClaim, 12, (.iconst 0, 1)), (cX6_readClaim, 13, (.istore_n 3, 1)), (cX6_readClaim, 14, (.iload_n 3, 1)), (cX6_readClaim, 15, (.iconst 2, 1)), (cX6_readClaim, 16, (.if_icmp .ge 91, 3)), (cX6_readClaim, 19, (.iload_n 2, 1)), (cX6_readClaim, 20, (.ifCond .eq 87, 3)), (cX6_readClaim, 23, (.aload_n 0, 1)), (cX6_readClaim, 24, (.aload_n 1, 1))]
theorem dkB02decX0_27 : dkL02decX0_27.all (fun q => decide (decode q.1 q.2.1 = .ok q.2.2)) = true := by decide +kernel
theorem dX6_readConditions_109 : decode cX6_readConditions 109 = .ok (.aload_n 0, 1) := dk_at dkB02decX0_27 0 rfl
theorem dX6_readConditions_110 : decode cX6_readConditions 110 = .ok (.getfield 15, 3) := dk_at dkB02decX0_27 1 rfl
theorem dX6_readConditions_113 : decode cX6_readConditions 113 = .ok (.invokevirtual 39, 3) := dk_at dkB02decX0_27 2 rfl
theorem dX6_readConditions_116 : decode cX6_readConditions 116 = .ok (.ireturn, 1) := dk_at dkB02decX0_27 3 rfl
theorem dX6_readConditions_117 : decode cX6_readConditions 117 = .ok (.aload_n 1, 1) := dk_at dkB02decX0_27 4 rfl
theorem dX6_readConditions_118 : decode cX6_readConditions 118 = .ok (.getfield 64, 3) := dk_at dkB02decX0_27 5 rfl
theorem dX6_readConditions_121 : decode cX6_readConditions 121 = .ok (.iload 5, 2) := dk_at dkB02decX0_27 6 rfl
theorem dX6_readConditions_123 : decode cX6_readConditions 123 = .ok (.aload_n 0, 1) := dk_at dkB02decX0_27 7 rfl
theorem dX6_readConditions_124 : decode cX6_readConditions 124 = .ok (.iconst 0, 1) := dk_at dkB02decX0_27 8 rfl
theorem dX6_readConditions_125 : decode cX6_readConditions 125 = .ok (.bipush 99, 2) := dk_at dkB02decX0_27 9 rfl
theorem dX6_readConditions_127 : decode cX6_readConditions 127 = .ok (.invokevirtual 67, 3) := dk_at dkB02decX0_27 10 rfl
theorem dX6_readConditions_130 : decode cX6_readConditions 130 = .ok (.iastore, 1) := dk_at dkB02decX0_27 11 rfl
theorem dX6_readConditions_131 : decode cX6_readConditions 131 = .ok (.aload_n 1, 1) := dk_at dkB02decX0_27 12 rfl
theorem dX6_readConditions_132 : decode cX6_readConditions 132 = .ok (.getfield 64, 3) := dk_at dkB02decX0_27 13 rfl
theorem dX6_readConditions_135 : decode cX6_readConditions 135 = .ok (.iload 5, 2) := dk_at dkB02decX0_27 14 rfl
theorem dX6_readConditions_137 : decode cX6_readConditions 137 = .ok (.iaload, 1) := dk_at dkB02decX0_27 15 rfl
theorem dX6_readConditions_138 : decode cX6_readConditions 138 = .ok (.ifCond .ge 5, 3) := dk_at dkB02decX0_27 16 rfl
theorem dX6_readConditions_141 : decode cX6_readConditions 141 = .ok (.iconst 0, 1) := dk_at dkB02decX0_27 17 rfl
theorem dX6_readConditions_142 : decode cX6_readConditions 142 = .ok (.ireturn, 1) := dk_at dkB02decX0_27 18 rfl
theorem dX6_readConditions_143 : decode cX6_readConditions 143 = .ok (.aload_n 1, 1) := dk_at dkB02decX0_27 19 rfl
theorem dX6_readConditions_144 : decode cX6_readConditions 144 = .ok (.getfield 42, 3) := dk_at dkB02decX0_27 20 rfl
theorem dX6_readConditions_147 : decode cX6_readConditions 147 = .ok (.iload_n 2, 1) := dk_at dkB02decX0_27 21 rfl
theorem dX6_readConditions_148 : decode cX6_readConditions 148 = .ok (.iload 4, 2) := dk_at dkB02decX0_27 22 rfl
theorem dX6_readConditions_150 : decode cX6_readConditions 150 = .ok (.iconst 1, 1) := dk_at dkB02decX0_27 23 rfl
theorem dX6_readConditions_151 : decode cX6_readConditions 151 = .ok (.iadd, 1) := dk_at dkB02decX0_27 24 rfl
theorem dX6_readConditions_152 : decode cX6_readConditions 152 = .ok (.iastore, 1) := dk_at dkB02decX0_27 25 rfl
theorem dX6_readConditions_153 : decode cX6_readConditions 153 = .ok (.iload 4, 2) := dk_at dkB02decX0_27 26 rfl
theorem dX6_readConditions_155 : decode cX6_readConditions 155 = .ok (.iconst 1, 1) := dk_at dkB02decX0_27 27 rfl
theorem dX6_readConditions_156 : decode cX6_readConditions 156 = .ok (.iadd, 1) := dk_at dkB02decX0_27 28 rfl
theorem dX6_readConditions_157 : decode cX6_readConditions 157 = .ok (.iconst 3, 1) := dk_at dkB02decX0_27 29 rfl
theorem dX6_readConditions_158 : decode cX6_readConditions 158 = .ok (.if_icmp .ge 16, 3) := dk_at dkB02decX0_27 30 rfl
theorem dX6_readConditions_161 : decode cX6_readConditions 161 = .ok (.aload_n 0, 1) := dk_at dkB02decX0_27 31 rfl
theorem dX6_readConditions_162 : decode cX6_readConditions 162 = .ok (.bipush 38, 2) := dk_at dkB02decX0_27 32 rfl
theorem dX6_readConditions_164 : decode cX6_readConditions 164 = .ok (.invokevirtual 31, 3) := dk_at dkB02decX0_27 33 rfl
theorem dX6_readConditions_167 : decode cX6_readConditions 167 = .ok (.ifCond .eq 7, 3) := dk_at dkB02decX0_27 34 rfl
theorem dX6_readConditions_170 : decode cX6_readConditions 170 = .ok (.iconst 1, 1) := dk_at dkB02decX0_27 35 rfl
theorem dX6_readConditions_171 : decode cX6_readConditions 171 = .ok (.goto 4, 3) := dk_at dkB02decX0_27 36 rfl
theorem dX6_readConditions_174 : decode cX6_readConditions 174 = .ok (.iconst 0, 1) := dk_at dkB02decX0_27 37 rfl
theorem dX6_readConditions_175 : decode cX6_readConditions 175 = .ok (.istore_n 3, 1) := dk_at dkB02decX0_27 38 rfl
theorem dX6_readConditions_176 : decode cX6_readConditions 176 = .ok (.iinc 4 1, 3) := dk_at dkB02decX0_27 39 rfl
theorem dX6_readConditions_179 : decode cX6_readConditions 179 = .ok (.goto (-174), 3) := dk_at dkB02decX0_27 40 rfl
theorem dX6_readConditions_182 : decode cX6_readConditions 182 = .ok (.iconst 1, 1) := dk_at dkB02decX0_27 41 rfl
theorem dX6_readConditions_183 : decode cX6_readConditions 183 = .ok (.ireturn, 1) := dk_at dkB02decX0_27 42 rfl
theorem dX6_readClaim_0 : decode cX6_readClaim 0 = .ok (.aload_n 0, 1) := dk_at dkB02decX0_27 43 rfl
theorem dX6_readClaim_1 : decode cX6_readClaim 1 = .ok (.iconst 0, 1) := dk_at dkB02decX0_27 44 rfl
theorem dX6_readClaim_2 : decode cX6_readClaim 2 = .ok (.putfield 15, 3) := dk_at dkB02decX0_27 45 rfl
theorem dX6_readClaim_5 : decode cX6_readClaim 5 = .ok (.aload_n 1, 1) := dk_at dkB02decX0_27 46 rfl
theorem dX6_readClaim_6 : decode cX6_readClaim 6 = .ok (.iconst 0, 1) := dk_at dkB02decX0_27 47 rfl
theorem dX6_readClaim_7 : decode cX6_readClaim 7 = .ok (.putfield 71, 3) := dk_at dkB02decX0_27 48 rfl
theorem dX6_readClaim_10 : decode cX6_readClaim 10 = .ok (.iconst 1, 1) := dk_at dkB02decX0_27 49 rfl
theorem dX6_readClaim_11 : decode cX6_readClaim 11 = .ok (.istore_n 2, 1) := dk_at dkB02decX0_27 50 rfl
theorem dX6_readClaim_12 : decode cX6_readClaim 12 = .ok (.iconst 0, 1) := dk_at dkB02decX0_27 51 rfl
theorem dX6_readClaim_13 : decode cX6_readClaim 13 = .ok (.istore_n 3, 1) := dk_at dkB02decX0_27 52 rfl
theorem dX6_readClaim_14 : decode cX6_readClaim 14 = .ok (.iload_n 3, 1) := dk_at dkB02decX0_27 53 rfl
theorem dX6_readClaim_15 : decode cX6_readClaim 15 = .ok (.iconst 2, 1) := dk_at dkB02decX0_27 54 rfl
theorem dX6_readClaim_16 : decode cX6_readClaim 16 = .ok (.if_icmp .ge 91, 3) := dk_at dkB02decX0_27 55 rfl
theorem dX6_readClaim_19 : decode cX6_readClaim 19 = .ok (.iload_n 2, 1) := dk_at dkB02decX0_27 56 rfl
theorem dX6_readClaim_20 : decode cX6_readClaim 20 = .ok (.ifCond .eq 87, 3) := dk_at dkB02decX0_27 57 rfl
theorem dX6_readClaim_23 : decode cX6_readClaim 23 = .ok (.aload_n 0, 1) := dk_at dkB02decX0_27 58 rfl
theorem dX6_readClaim_24 : decode cX6_readClaim 24 = .ok (.aload_n 1, 1) := dk_at dkB02decX0_27 59 rfl
noncomputable def dkL02decX0_28 : List (ByteArray × Nat × Instr × Nat) := [(cX6_readClaim, 25, (.iload_n 3, 1)), (cX6_readClaim, 26, (.invokevirtual 77, 3)), (cX6_readClaim, 29, (.ifCond .ne 8, 3)), (cX6_readClaim, 32, (.aload_n 0, 1)), (cX6_readClaim, 33, (.getfield 23, 3)), (cX6_readClaim, 36, (.ireturn, 1)), (cX6_readClaim, 37, (.aload_n 1, 1)), (cX6_readClaim, 38, (.iload_n 3, 1)), (cX6_readClaim, 39, (.iconst 1, 1)), (cX6_readClaim, 40, (.iadd, 1)), (cX6_readClaim, 41, (.putfield 81, 3)), (cX6_readClaim, 44, (.aload_n 1, 1)), (cX6_readClaim, 45, (.aload_n 1, 1)), (cX6_readClaim, 46, (.getfield 71, 3)), (cX6_readClaim, 49, (.ifCond .ne 12, 3)), (cX6_readClaim, 52, (.aload_n 0, 1)), (cX6_readClaim, 53, (.invokevirtual 35, 3)), (cX6_readClaim, 56, (.bipush 124, 2)), (cX6_readClaim, 58, (.if_icmp .ne 7, 3)), (cX6_readClaim, 61, (.iconst 1, 1)), (cX6_readClaim, 62, (.goto 4, 3)), (cX6_readClaim, 65, (.iconst 0, 1)), (cX6_readClaim, 66, (.putfield 71, 3)), (cX6_readClaim, 69, (.aload_n 1, 1)), (cX6_readClaim, 70, (.getfield 81, 3)), (cX6_readClaim, 73, (.iconst 2, 1)), (cX6_readClaim, 74, (.if_icmp .ge 25, 3)), (cX6_readClaim, 77, (.aload_n 0, 1)), (cX6_readClaim, 78, (.bipush 124, 2)), (cX6_readClaim, 80, (.invokevirtual 31, 3)), (cX6_readClaim, 83, (.ifCond .ne 12, 3)), (cX6_readClaim, 86, (.aload_n 0, 1)), (cX6_readClaim, 87, (.bipush 38, 2)), (cX6_readClaim, 89, (.invokevirtual 31, 3)), (cX6_readClaim, 92, (.ifCond .eq 7, 3)), (cX6_readClaim, 95, (.iconst 1, 1)), (cX6_readClaim, 96, (.goto 4, 3)), (cX6_readClaim, 99, (.iconst 0, 1)), (cX6_readClaim, 100, (.istore_n 2, 1)), (cX6_readClaim, 101, (.iinc 3 1, 3)), (cX6_readClaim, 104, (.goto (-90), 3)), (cX6_readClaim, 107, (.aload_n 0, 1)), (cX6_readClaim, 108, (.invokevirtual 35, 3)), (cX6_readClaim, 111, (.iconst (-1), 1)), (cX6_readClaim, 112, (.if_icmp .eq 14, 3)), (cX6_readClaim, 115, (.aload_n 0, 1)), (cX6_readClaim, 116, (.aload_n 0, 1)), (cX6_readClaim, 117, (.getfield 15, 3)), (cX6_readClaim, 120, (.invokevirtual 39, 3)), (cX6_readClaim, 123, (.ifCond .eq 7, 3)), (cX6_readClaim, 126, (.iconst 0, 1)), (cX6_readClaim, 127, (.goto 7, 3)), (cX6_readClaim, 130, (.aload_n 0, 1)), (cX6_readClaim, 131, (.getfield 23, 3)), (cX6_readClaim, 134, (.ireturn, 1)), (cX6_readAtom, 0, (.aload_n 1, 1)), (cX6_readAtom, 1, (.getfield 84, 3)), (cX6_readAtom, 4, (.iload_n 2, 1)), (cX6_readAtom, 5, (.aload_n 0, 1)), (cX6_readAtom, 6, (.bipush 33, 2))]
theorem dkB02decX0_28 : dkL02decX0_28.all (fun q => decide (decode q.1 q.2.1 = .ok q.2.2)) = true := by decide +kernel
theorem dX6_readClaim_25 : decode cX6_readClaim 25 = .ok (.iload_n 3, 1) := dk_at dkB02decX0_28 0 rfl
theorem dX6_readClaim_26 : decode cX6_readClaim 26 = .ok (.invokevirtual 77, 3) := dk_at dkB02decX0_28 1 rfl
theorem dX6_readClaim_29 : decode cX6_readClaim 29 = .ok (.ifCond .ne 8, 3) := dk_at dkB02decX0_28 2 rfl
theorem dX6_readClaim_32 : decode cX6_readClaim 32 = .ok (.aload_n 0, 1) := dk_at dkB02decX0_28 3 rfl
theorem dX6_readClaim_33 : decode cX6_readClaim 33 = .ok (.getfield 23, 3) := dk_at dkB02decX0_28 4 rfl
theorem dX6_readClaim_36 : decode cX6_readClaim 36 = .ok (.ireturn, 1) := dk_at dkB02decX0_28 5 rfl
theorem dX6_readClaim_37 : decode cX6_readClaim 37 = .ok (.aload_n 1, 1) := dk_at dkB02decX0_28 6 rfl
theorem dX6_readClaim_38 : decode cX6_readClaim 38 = .ok (.iload_n 3, 1) := dk_at dkB02decX0_28 7 rfl
theorem dX6_readClaim_39 : decode cX6_readClaim 39 = .ok (.iconst 1, 1) := dk_at dkB02decX0_28 8 rfl
theorem dX6_readClaim_40 : decode cX6_readClaim 40 = .ok (.iadd, 1) := dk_at dkB02decX0_28 9 rfl
theorem dX6_readClaim_41 : decode cX6_readClaim 41 = .ok (.putfield 81, 3) := dk_at dkB02decX0_28 10 rfl
theorem dX6_readClaim_44 : decode cX6_readClaim 44 = .ok (.aload_n 1, 1) := dk_at dkB02decX0_28 11 rfl
theorem dX6_readClaim_45 : decode cX6_readClaim 45 = .ok (.aload_n 1, 1) := dk_at dkB02decX0_28 12 rfl
theorem dX6_readClaim_46 : decode cX6_readClaim 46 = .ok (.getfield 71, 3) := dk_at dkB02decX0_28 13 rfl
theorem dX6_readClaim_49 : decode cX6_readClaim 49 = .ok (.ifCond .ne 12, 3) := dk_at dkB02decX0_28 14 rfl
theorem dX6_readClaim_52 : decode cX6_readClaim 52 = .ok (.aload_n 0, 1) := dk_at dkB02decX0_28 15 rfl
theorem dX6_readClaim_53 : decode cX6_readClaim 53 = .ok (.invokevirtual 35, 3) := dk_at dkB02decX0_28 16 rfl
theorem dX6_readClaim_56 : decode cX6_readClaim 56 = .ok (.bipush 124, 2) := dk_at dkB02decX0_28 17 rfl
theorem dX6_readClaim_58 : decode cX6_readClaim 58 = .ok (.if_icmp .ne 7, 3) := dk_at dkB02decX0_28 18 rfl
theorem dX6_readClaim_61 : decode cX6_readClaim 61 = .ok (.iconst 1, 1) := dk_at dkB02decX0_28 19 rfl
theorem dX6_readClaim_62 : decode cX6_readClaim 62 = .ok (.goto 4, 3) := dk_at dkB02decX0_28 20 rfl
theorem dX6_readClaim_65 : decode cX6_readClaim 65 = .ok (.iconst 0, 1) := dk_at dkB02decX0_28 21 rfl
theorem dX6_readClaim_66 : decode cX6_readClaim 66 = .ok (.putfield 71, 3) := dk_at dkB02decX0_28 22 rfl
theorem dX6_readClaim_69 : decode cX6_readClaim 69 = .ok (.aload_n 1, 1) := dk_at dkB02decX0_28 23 rfl
theorem dX6_readClaim_70 : decode cX6_readClaim 70 = .ok (.getfield 81, 3) := dk_at dkB02decX0_28 24 rfl
theorem dX6_readClaim_73 : decode cX6_readClaim 73 = .ok (.iconst 2, 1) := dk_at dkB02decX0_28 25 rfl
theorem dX6_readClaim_74 : decode cX6_readClaim 74 = .ok (.if_icmp .ge 25, 3) := dk_at dkB02decX0_28 26 rfl
theorem dX6_readClaim_77 : decode cX6_readClaim 77 = .ok (.aload_n 0, 1) := dk_at dkB02decX0_28 27 rfl
theorem dX6_readClaim_78 : decode cX6_readClaim 78 = .ok (.bipush 124, 2) := dk_at dkB02decX0_28 28 rfl
theorem dX6_readClaim_80 : decode cX6_readClaim 80 = .ok (.invokevirtual 31, 3) := dk_at dkB02decX0_28 29 rfl
theorem dX6_readClaim_83 : decode cX6_readClaim 83 = .ok (.ifCond .ne 12, 3) := dk_at dkB02decX0_28 30 rfl
theorem dX6_readClaim_86 : decode cX6_readClaim 86 = .ok (.aload_n 0, 1) := dk_at dkB02decX0_28 31 rfl
theorem dX6_readClaim_87 : decode cX6_readClaim 87 = .ok (.bipush 38, 2) := dk_at dkB02decX0_28 32 rfl
theorem dX6_readClaim_89 : decode cX6_readClaim 89 = .ok (.invokevirtual 31, 3) := dk_at dkB02decX0_28 33 rfl
theorem dX6_readClaim_92 : decode cX6_readClaim 92 = .ok (.ifCond .eq 7, 3) := dk_at dkB02decX0_28 34 rfl
theorem dX6_readClaim_95 : decode cX6_readClaim 95 = .ok (.iconst 1, 1) := dk_at dkB02decX0_28 35 rfl
theorem dX6_readClaim_96 : decode cX6_readClaim 96 = .ok (.goto 4, 3) := dk_at dkB02decX0_28 36 rfl
theorem dX6_readClaim_99 : decode cX6_readClaim 99 = .ok (.iconst 0, 1) := dk_at dkB02decX0_28 37 rfl
theorem dX6_readClaim_100 : decode cX6_readClaim 100 = .ok (.istore_n 2, 1) := dk_at dkB02decX0_28 38 rfl
theorem dX6_readClaim_101 : decode cX6_readClaim 101 = .ok (.iinc 3 1, 3) := dk_at dkB02decX0_28 39 rfl
theorem dX6_readClaim_104 : decode cX6_readClaim 104 = .ok (.goto (-90), 3) := dk_at dkB02decX0_28 40 rfl
theorem dX6_readClaim_107 : decode cX6_readClaim 107 = .ok (.aload_n 0, 1) := dk_at dkB02decX0_28 41 rfl
theorem dX6_readClaim_108 : decode cX6_readClaim 108 = .ok (.invokevirtual 35, 3) := dk_at dkB02decX0_28 42 rfl
theorem dX6_readClaim_111 : decode cX6_readClaim 111 = .ok (.iconst (-1), 1) := dk_at dkB02decX0_28 43 rfl
theorem dX6_readClaim_112 : decode cX6_readClaim 112 = .ok (.if_icmp .eq 14, 3) := dk_at dkB02decX0_28 44 rfl
theorem dX6_readClaim_115 : decode cX6_readClaim 115 = .ok (.aload_n 0, 1) := dk_at dkB02decX0_28 45 rfl
theorem dX6_readClaim_116 : decode cX6_readClaim 116 = .ok (.aload_n 0, 1) := dk_at dkB02decX0_28 46 rfl
theorem dX6_readClaim_117 : decode cX6_readClaim 117 = .ok (.getfield 15, 3) := dk_at dkB02decX0_28 47 rfl
theorem dX6_readClaim_120 : decode cX6_readClaim 120 = .ok (.invokevirtual 39, 3) := dk_at dkB02decX0_28 48 rfl
theorem dX6_readClaim_123 : decode cX6_readClaim 123 = .ok (.ifCond .eq 7, 3) := dk_at dkB02decX0_28 49 rfl
theorem dX6_readClaim_126 : decode cX6_readClaim 126 = .ok (.iconst 0, 1) := dk_at dkB02decX0_28 50 rfl
theorem dX6_readClaim_127 : decode cX6_readClaim 127 = .ok (.goto 7, 3) := dk_at dkB02decX0_28 51 rfl
theorem dX6_readClaim_130 : decode cX6_readClaim 130 = .ok (.aload_n 0, 1) := dk_at dkB02decX0_28 52 rfl
theorem dX6_readClaim_131 : decode cX6_readClaim 131 = .ok (.getfield 23, 3) := dk_at dkB02decX0_28 53 rfl
theorem dX6_readClaim_134 : decode cX6_readClaim 134 = .ok (.ireturn, 1) := dk_at dkB02decX0_28 54 rfl
theorem dX6_readAtom_0 : decode cX6_readAtom 0 = .ok (.aload_n 1, 1) := dk_at dkB02decX0_28 55 rfl
theorem dX6_readAtom_1 : decode cX6_readAtom 1 = .ok (.getfield 84, 3) := dk_at dkB02decX0_28 56 rfl
theorem dX6_readAtom_4 : decode cX6_readAtom 4 = .ok (.iload_n 2, 1) := dk_at dkB02decX0_28 57 rfl
theorem dX6_readAtom_5 : decode cX6_readAtom 5 = .ok (.aload_n 0, 1) := dk_at dkB02decX0_28 58 rfl
theorem dX6_readAtom_6 : decode cX6_readAtom 6 = .ok (.bipush 33, 2) := dk_at dkB02decX0_28 59 rfl
noncomputable def dkL02decX0_29 : List (ByteArray × Nat × Instr × Nat) := [(cX6_readAtom, 8, (.invokevirtual 31, 3)), (cX6_readAtom, 11, (.bastore, 1)), (cX6_readAtom, 12, (.aload_n 1, 1)), (cX6_readAtom, 13, (.getfield 88, 3)), (cX6_readAtom, 16, (.iload_n 2, 1)), (cX6_readAtom, 17, (.bipush 42, 2)), (cX6_readAtom, 19, (.iastore, 1)), (cX6_readAtom, 20, (.aload_n 0, 1)), (cX6_readAtom, 21, (.bipush 42, 2)), (cX6_readAtom, 23, (.invokevirtual 31, 3)), (cX6_readAtom, 26, (.ifCond .ne 14, 3)), (cX6_readAtom, 29, (.aload_n 0, 1)), (cX6_readAtom, 30, (.aload_n 1, 1)), (cX6_readAtom, 31, (.iload_n 2, 1)), (cX6_readAtom, 32, (.invokevirtual 91, 3)), (cX6_readAtom, 35, (.ifCond .ne 5, 3)), (cX6_readAtom, 38, (.iconst 0, 1)), (cX6_readAtom, 39, (.ireturn, 1)), (cX6_readAtom, 40, (.aload_n 0, 1)), (cX6_readAtom, 41, (.bipush 64, 2)), (cX6_readAtom, 43, (.invokevirtual 48, 3)), (cX6_readAtom, 46, (.ifCond .ne 5, 3)), (cX6_readAtom, 49, (.iconst 0, 1)), (cX6_readAtom, 50, (.ireturn, 1)), (cX6_readAtom, 51, (.aload_n 1, 1)), (cX6_readAtom, 52, (.getfield 94, 3)), (cX6_readAtom, 55, (.iload_n 2, 1)), (cX6_readAtom, 56, (.aload_n 0, 1)), (cX6_readAtom, 57, (.iconst 0, 1)), (cX6_readAtom, 58, (.bipush 23, 2)), (cX6_readAtom, 60, (.invokevirtual 67, 3)), (cX6_readAtom, 63, (.iastore, 1)), (cX6_readAtom, 64, (.aload_n 1, 1)), (cX6_readAtom, 65, (.getfield 94, 3)), (cX6_readAtom, 68, (.iload_n 2, 1)), (cX6_readAtom, 69, (.iaload, 1)), (cX6_readAtom, 70, (.ifCond .lt 12, 3)), (cX6_readAtom, 73, (.aload_n 0, 1)), (cX6_readAtom, 74, (.bipush 45, 2)), (cX6_readAtom, 76, (.invokevirtual 48, 3)), (cX6_readAtom, 79, (.ifCond .ne 5, 3)), (cX6_readAtom, 82, (.iconst 0, 1)), (cX6_readAtom, 83, (.ireturn, 1)), (cX6_readAtom, 84, (.aload_n 1, 1)), (cX6_readAtom, 85, (.getfield 97, 3)), (cX6_readAtom, 88, (.iload_n 2, 1)), (cX6_readAtom, 89, (.aload_n 0, 1)), (cX6_readAtom, 90, (.aload_n 1, 1)), (cX6_readAtom, 91, (.getfield 94, 3)), (cX6_readAtom, 94, (.iload_n 2, 1)), (cX6_readAtom, 95, (.iaload, 1)), (cX6_readAtom, 96, (.bipush 23, 2)), (cX6_readAtom, 98, (.invokevirtual 67, 3)), (cX6_readAtom, 101, (.iastore, 1)), (cX6_readAtom, 102, (.aload_n 1, 1)), (cX6_readAtom, 103, (.getfield 97, 3)), (cX6_readAtom, 106, (.iload_n 2, 1)), (cX6_readAtom, 107, (.iaload, 1)), (cX6_readAtom, 108, (.ifCond .lt 12, 3)), (cX6_readAtom, 111, (.aload_n 0, 1))]
theorem dkB02decX0_29 : dkL02decX0_29.all (fun q => decide (decode q.1 q.2.1 = .ok q.2.2)) = true := by decide +kernel
theorem dX6_readAtom_8 : decode cX6_readAtom 8 = .ok (.invokevirtual 31, 3) := dk_at dkB02decX0_29 0 rfl
theorem dX6_readAtom_11 : decode cX6_readAtom 11 = .ok (.bastore, 1) := dk_at dkB02decX0_29 1 rfl
theorem dX6_readAtom_12 : decode cX6_readAtom 12 = .ok (.aload_n 1, 1) := dk_at dkB02decX0_29 2 rfl
theorem dX6_readAtom_13 : decode cX6_readAtom 13 = .ok (.getfield 88, 3) := dk_at dkB02decX0_29 3 rfl
theorem dX6_readAtom_16 : decode cX6_readAtom 16 = .ok (.iload_n 2, 1) := dk_at dkB02decX0_29 4 rfl
theorem dX6_readAtom_17 : decode cX6_readAtom 17 = .ok (.bipush 42, 2) := dk_at dkB02decX0_29 5 rfl
theorem dX6_readAtom_19 : decode cX6_readAtom 19 = .ok (.iastore, 1) := dk_at dkB02decX0_29 6 rfl
theorem dX6_readAtom_20 : decode cX6_readAtom 20 = .ok (.aload_n 0, 1) := dk_at dkB02decX0_29 7 rfl
theorem dX6_readAtom_21 : decode cX6_readAtom 21 = .ok (.bipush 42, 2) := dk_at dkB02decX0_29 8 rfl
theorem dX6_readAtom_23 : decode cX6_readAtom 23 = .ok (.invokevirtual 31, 3) := dk_at dkB02decX0_29 9 rfl
theorem dX6_readAtom_26 : decode cX6_readAtom 26 = .ok (.ifCond .ne 14, 3) := dk_at dkB02decX0_29 10 rfl
theorem dX6_readAtom_29 : decode cX6_readAtom 29 = .ok (.aload_n 0, 1) := dk_at dkB02decX0_29 11 rfl
theorem dX6_readAtom_30 : decode cX6_readAtom 30 = .ok (.aload_n 1, 1) := dk_at dkB02decX0_29 12 rfl
theorem dX6_readAtom_31 : decode cX6_readAtom 31 = .ok (.iload_n 2, 1) := dk_at dkB02decX0_29 13 rfl
theorem dX6_readAtom_32 : decode cX6_readAtom 32 = .ok (.invokevirtual 91, 3) := dk_at dkB02decX0_29 14 rfl
theorem dX6_readAtom_35 : decode cX6_readAtom 35 = .ok (.ifCond .ne 5, 3) := dk_at dkB02decX0_29 15 rfl
theorem dX6_readAtom_38 : decode cX6_readAtom 38 = .ok (.iconst 0, 1) := dk_at dkB02decX0_29 16 rfl
theorem dX6_readAtom_39 : decode cX6_readAtom 39 = .ok (.ireturn, 1) := dk_at dkB02decX0_29 17 rfl
theorem dX6_readAtom_40 : decode cX6_readAtom 40 = .ok (.aload_n 0, 1) := dk_at dkB02decX0_29 18 rfl
theorem dX6_readAtom_41 : decode cX6_readAtom 41 = .ok (.bipush 64, 2) := dk_at dkB02decX0_29 19 rfl
theorem dX6_readAtom_43 : decode cX6_readAtom 43 = .ok (.invokevirtual 48, 3) := dk_at dkB02decX0_29 20 rfl
theorem dX6_readAtom_46 : decode cX6_readAtom 46 = .ok (.ifCond .ne 5, 3) := dk_at dkB02decX0_29 21 rfl
theorem dX6_readAtom_49 : decode cX6_readAtom 49 = .ok (.iconst 0, 1) := dk_at dkB02decX0_29 22 rfl
theorem dX6_readAtom_50 : decode cX6_readAtom 50 = .ok (.ireturn, 1) := dk_at dkB02decX0_29 23 rfl
theorem dX6_readAtom_51 : decode cX6_readAtom 51 = .ok (.aload_n 1, 1) := dk_at dkB02decX0_29 24 rfl
theorem dX6_readAtom_52 : decode cX6_readAtom 52 = .ok (.getfield 94, 3) := dk_at dkB02decX0_29 25 rfl
theorem dX6_readAtom_55 : decode cX6_readAtom 55 = .ok (.iload_n 2, 1) := dk_at dkB02decX0_29 26 rfl
theorem dX6_readAtom_56 : decode cX6_readAtom 56 = .ok (.aload_n 0, 1) := dk_at dkB02decX0_29 27 rfl
theorem dX6_readAtom_57 : decode cX6_readAtom 57 = .ok (.iconst 0, 1) := dk_at dkB02decX0_29 28 rfl
theorem dX6_readAtom_58 : decode cX6_readAtom 58 = .ok (.bipush 23, 2) := dk_at dkB02decX0_29 29 rfl
theorem dX6_readAtom_60 : decode cX6_readAtom 60 = .ok (.invokevirtual 67, 3) := dk_at dkB02decX0_29 30 rfl
theorem dX6_readAtom_63 : decode cX6_readAtom 63 = .ok (.iastore, 1) := dk_at dkB02decX0_29 31 rfl
theorem dX6_readAtom_64 : decode cX6_readAtom 64 = .ok (.aload_n 1, 1) := dk_at dkB02decX0_29 32 rfl
theorem dX6_readAtom_65 : decode cX6_readAtom 65 = .ok (.getfield 94, 3) := dk_at dkB02decX0_29 33 rfl
theorem dX6_readAtom_68 : decode cX6_readAtom 68 = .ok (.iload_n 2, 1) := dk_at dkB02decX0_29 34 rfl
theorem dX6_readAtom_69 : decode cX6_readAtom 69 = .ok (.iaload, 1) := dk_at dkB02decX0_29 35 rfl
theorem dX6_readAtom_70 : decode cX6_readAtom 70 = .ok (.ifCond .lt 12, 3) := dk_at dkB02decX0_29 36 rfl
theorem dX6_readAtom_73 : decode cX6_readAtom 73 = .ok (.aload_n 0, 1) := dk_at dkB02decX0_29 37 rfl
theorem dX6_readAtom_74 : decode cX6_readAtom 74 = .ok (.bipush 45, 2) := dk_at dkB02decX0_29 38 rfl
theorem dX6_readAtom_76 : decode cX6_readAtom 76 = .ok (.invokevirtual 48, 3) := dk_at dkB02decX0_29 39 rfl
theorem dX6_readAtom_79 : decode cX6_readAtom 79 = .ok (.ifCond .ne 5, 3) := dk_at dkB02decX0_29 40 rfl
theorem dX6_readAtom_82 : decode cX6_readAtom 82 = .ok (.iconst 0, 1) := dk_at dkB02decX0_29 41 rfl
theorem dX6_readAtom_83 : decode cX6_readAtom 83 = .ok (.ireturn, 1) := dk_at dkB02decX0_29 42 rfl
theorem dX6_readAtom_84 : decode cX6_readAtom 84 = .ok (.aload_n 1, 1) := dk_at dkB02decX0_29 43 rfl
theorem dX6_readAtom_85 : decode cX6_readAtom 85 = .ok (.getfield 97, 3) := dk_at dkB02decX0_29 44 rfl
theorem dX6_readAtom_88 : decode cX6_readAtom 88 = .ok (.iload_n 2, 1) := dk_at dkB02decX0_29 45 rfl
theorem dX6_readAtom_89 : decode cX6_readAtom 89 = .ok (.aload_n 0, 1) := dk_at dkB02decX0_29 46 rfl
theorem dX6_readAtom_90 : decode cX6_readAtom 90 = .ok (.aload_n 1, 1) := dk_at dkB02decX0_29 47 rfl
theorem dX6_readAtom_91 : decode cX6_readAtom 91 = .ok (.getfield 94, 3) := dk_at dkB02decX0_29 48 rfl
theorem dX6_readAtom_94 : decode cX6_readAtom 94 = .ok (.iload_n 2, 1) := dk_at dkB02decX0_29 49 rfl
theorem dX6_readAtom_95 : decode cX6_readAtom 95 = .ok (.iaload, 1) := dk_at dkB02decX0_29 50 rfl
theorem dX6_readAtom_96 : decode cX6_readAtom 96 = .ok (.bipush 23, 2) := dk_at dkB02decX0_29 51 rfl
theorem dX6_readAtom_98 : decode cX6_readAtom 98 = .ok (.invokevirtual 67, 3) := dk_at dkB02decX0_29 52 rfl
theorem dX6_readAtom_101 : decode cX6_readAtom 101 = .ok (.iastore, 1) := dk_at dkB02decX0_29 53 rfl
theorem dX6_readAtom_102 : decode cX6_readAtom 102 = .ok (.aload_n 1, 1) := dk_at dkB02decX0_29 54 rfl
theorem dX6_readAtom_103 : decode cX6_readAtom 103 = .ok (.getfield 97, 3) := dk_at dkB02decX0_29 55 rfl
theorem dX6_readAtom_106 : decode cX6_readAtom 106 = .ok (.iload_n 2, 1) := dk_at dkB02decX0_29 56 rfl
theorem dX6_readAtom_107 : decode cX6_readAtom 107 = .ok (.iaload, 1) := dk_at dkB02decX0_29 57 rfl
theorem dX6_readAtom_108 : decode cX6_readAtom 108 = .ok (.ifCond .lt 12, 3) := dk_at dkB02decX0_29 58 rfl
theorem dX6_readAtom_111 : decode cX6_readAtom 111 = .ok (.aload_n 0, 1) := dk_at dkB02decX0_29 59 rfl
