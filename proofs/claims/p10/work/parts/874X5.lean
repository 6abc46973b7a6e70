set_option maxHeartbeats 4000000 in
set_option maxRecDepth 100000 in
theorem c_X5_init (l : Launch) (dC : Nat → ClassId) (dI : Nat → Nat → Nat) (cy : Nat → ClassId) (sz : Nat) (zh : Nat)  : Met l yX5_init wsX5_init ({ frames := 1, cells := 7, slots := 16416, locals := 12 }) (va_Pc [.ref zh] (PRE dC dI cy [(zh, .inr (5, [.null, .null, .null, .null, .null, .null, .null, .int 0, .int 0]))] sz)) (va_Qv (fun (_ : (Nat → Nat) × (Nat → Nat → Nat)) => True) (fun u t => POST dC dI cy (va_A [(zh, .inr (5, [.null, .null, .null, .null, .null, .null, .null, .int 0, .int 0]))] sz) [(zh, .inr (5, [.ref (u.1 0), .ref (u.1 1), .ref (u.1 2), .ref (u.1 3), .ref (u.1 4), .ref (u.1 5), .ref (u.1 6), .int 0, .int 0])), ((u.1 0), .inl (cy 2, 12, .inl (fun _ => 0))), ((u.1 1), .inl (cy 2, 12, .inl (fun _ => 0))), ((u.1 2), .inl (cy 2, 24, .inl (fun _ => 0))), ((u.1 3), .inl (cy 2, 24, .inl (fun _ => 0))), ((u.1 4), .inl (cy 0, 24, .inl (fun _ => 0))), ((u.1 5), .inl (cy 1, 16224, .inr (.inl (fun _ => 0)))), ((u.1 6), .inl (cy 1, 96, .inr (.inl (fun _ => 0))))] t) (va_A [(zh, .inr (5, [.null, .null, .null, .null, .null, .null, .null, .int 0, .int 0]))] sz)) 7 16416 (va_A [(zh, .inr (5, [.null, .null, .null, .null, .null, .null, .null, .int 0, .int 0]))] sz) := by
  refine Met.ofW (cc := cX5_init) (maxL := 1) (ret := none) (by decide) rfl ?_
  intro p e s m args below meth c s₁ B hml hv
  obtain ⟨rfl, hsz, hP, hK, hD0, hN⟩ := hv
  have hx := B.exec
  have hb := B.bytes
  have hr := B.returns
  have hts := atoms_spec (ws := wsX5_init) B.pre
  have hown : s.vm.findClass RX5 = some m.cls := findClass_of_methodNamed B.named
  have hlocks := B.notSynchronized
  have hin : meth.name = "<init>" := (name_of_methodNamed B.named B.method).1
  subst hsz
  have hD := hD0.self (sz := s.heap.size)
  generalize hAe : va_A [(zh, .inr (5, [.null, .null, .null, .null, .null, .null, .null, .int 0, .int 0]))] s.heap.size = A at hD ⊢
  have hA : ∀ q : Nat, s.heap.size ≤ q → A q := fun q h => by rw [← hAe]; exact Or.inr h
  have hS : va_S A s.heap s.heap [] := va_S.rf
  have hP : va_P (dC, dI) vwCl [(zh, .inr (5, [.null, .null, .null, .null, .null, .null, .null, .int 0, .int 0]))] s.heap := hP
  have hl := lv_entry ([.ref zh] : List Value) (n := 1) (Nat.le_of_ble_eq_true rfl)
  rw [lg_entry_eq]
  generalize (lg_sl ([.ref zh] : List Value) ++ List.replicate (1 - (lg_sl ([.ref zh] : List Value)).length) Slot.unset).toArray = ls at hl ⊢
  have hl : lv_has ls 1 [(0, .ref zh)] := hl
  refine lv_aload_n hx hb dX5_init_0 rfl (lv_at hl 0 rfl) ?_
  refine W.objInit hx hb hown (hts (.methodLink RX5 3 objectInit) (by decide +kernel)) (hts (.instanceMethod objectInit) (by decide +kernel)) (hts (.code objectInit ⟨#[0xb1]⟩ 1 none) (List.mem_of_getElem? (i := 3) (by decide +kernel))) rfl (by rw [hml]; exact hl.1) rfl dX5_init_1 (Nat.le_of_ble_eq_true rfl) (Nat.le_of_ble_eq_true rfl) ?_
  refine W.eq (g2 := F0 m 4 ls []) rfl ?_
  refine lv_aload_n hx hb dX5_init_4 rfl (lv_at hl 0 rfl) ?_
  refine lv_bipush (v := 12) hx hb dX5_init_5 (by decide) ?_
  refine va_newa (atype := .boolean) (ty := .boolean) (N' := 12) (a0 := (12, .inl (fun _ => 0))) hx hb (hts (.arrayClass .boolean) (by decide +kernel)) rfl hK hP hD hS hA (fun _ => rfl) (by decide) (by decide) (by decide) (Nat.le_of_ble_eq_true rfl) (Nat.le_of_ble_eq_true rfl) dX5_init_7 (fun q_1 cA_2 H hK2 hP hD hS => ?_)
  obtain rfl : cA_2 = cy 2 := ka_eq hK2 (i := 9) (j := 2) rfl rfl
  obtain ⟨hP, hD⟩ := pd_ [(zh, .inr (5, [.null, .null, .null, .null, .null, .null, .null, .int 0, .int 0])), (q_1, .inl (cy 2, 12, .inl (fun _ => 0)))] hP hD
  refine W.widen (k := 1) (n := 12) (Nat.le_of_ble_eq_true rfl) (Nat.le_of_ble_eq_true rfl) ?_
  refine va_putF (D := (dC, dI)) (ci := 5) (v := .ref q_1) (ty := .array .boolean) (C := RX5) (T := TX5) (N := 9) hx hb hts (by decide +kernel) tyX5 tyX5_ok nmX5 hown hK hP hD hS 0 rfl rfl 0 (by decide) (hts (.fieldLink RX5 9 "DripStone$Marks" "places0" "[Z") (by decide +kernel)) (fun _ h9 => h9) rfl hin rfl (by decide +kernel) rfl rfl (Nat.le_of_ble_eq_true rfl) dX5_init_9 (fun H locs hP hD hS => ?_)
  obtain ⟨hP, hD⟩ := pd_ [(zh, .inr (5, [.ref q_1, .null, .null, .null, .null, .null, .null, .int 0, .int 0])), (q_1, .inl (cy 2, 12, .inl (fun _ => 0)))] hP hD
  refine lv_aload_n hx hb dX5_init_12 rfl (lv_at hl 0 rfl) ?_
  refine lv_bipush (v := 12) hx hb dX5_init_13 (by decide) ?_
  refine va_newa (atype := .boolean) (ty := .boolean) (N' := 12) (a0 := (12, .inl (fun _ => 0))) hx hb (hts (.arrayClass .boolean) (by decide +kernel)) rfl hK hP hD hS hA (fun _ => rfl) (by decide) (by decide) (by decide) (Nat.le_of_ble_eq_true rfl) (Nat.le_of_ble_eq_true rfl) dX5_init_15 (fun q_3 cA_4 H hK2 hP hD hS => ?_)
  obtain rfl : cA_4 = cy 2 := ka_eq hK2 (i := 9) (j := 2) rfl rfl
  obtain ⟨hP, hD⟩ := pd_ [(zh, .inr (5, [.ref q_1, .null, .null, .null, .null, .null, .null, .int 0, .int 0])), (q_1, .inl (cy 2, 12, .inl (fun _ => 0))), (q_3, .inl (cy 2, 12, .inl (fun _ => 0)))] hP hD
  refine W.widen (k := 2) (n := 24) (Nat.le_of_ble_eq_true rfl) (Nat.le_of_ble_eq_true rfl) ?_
  refine va_putF (D := (dC, dI)) (ci := 5) (v := .ref q_3) (ty := .array .boolean) (C := RX5) (T := TX5) (N := 9) hx hb hts (by decide +kernel) tyX5 tyX5_ok nmX5 hown hK hP hD hS 0 rfl rfl 1 (by decide) (hts (.fieldLink RX5 15 "DripStone$Marks" "places1" "[Z") (by decide +kernel)) (fun _ h9 => h9) rfl hin rfl (by decide +kernel) rfl rfl (Nat.le_of_ble_eq_true rfl) dX5_init_17 (fun H locs hP hD hS => ?_)
  obtain ⟨hP, hD⟩ := pd_ [(zh, .inr (5, [.ref q_1, .ref q_3, .null, .null, .null, .null, .null, .int 0, .int 0])), (q_1, .inl (cy 2, 12, .inl (fun _ => 0))), (q_3, .inl (cy 2, 12, .inl (fun _ => 0)))] hP hD
  refine lv_aload_n hx hb dX5_init_20 rfl (lv_at hl 0 rfl) ?_
  refine lv_bipush (v := 24) hx hb dX5_init_21 (by decide) ?_
  refine va_newa (atype := .boolean) (ty := .boolean) (N' := 24) (a0 := (24, .inl (fun _ => 0))) hx hb (hts (.arrayClass .boolean) (by decide +kernel)) rfl hK hP hD hS hA (fun _ => rfl) (by decide) (by decide) (by decide) (Nat.le_of_ble_eq_true rfl) (Nat.le_of_ble_eq_true rfl) dX5_init_23 (fun q_5 cA_6 H hK2 hP hD hS => ?_)
  obtain rfl : cA_6 = cy 2 := ka_eq hK2 (i := 9) (j := 2) rfl rfl
  obtain ⟨hP, hD⟩ := pd_ [(zh, .inr (5, [.ref q_1, .ref q_3, .null, .null, .null, .null, .null, .int 0, .int 0])), (q_1, .inl (cy 2, 12, .inl (fun _ => 0))), (q_3, .inl (cy 2, 12, .inl (fun _ => 0))), (q_5, .inl (cy 2, 24, .inl (fun _ => 0)))] hP hD
  refine W.widen (k := 3) (n := 48) (Nat.le_of_ble_eq_true rfl) (Nat.le_of_ble_eq_true rfl) ?_
  refine va_putF (D := (dC, dI)) (ci := 5) (v := .ref q_5) (ty := .array .boolean) (C := RX5) (T := TX5) (N := 9) hx hb hts (by decide +kernel) tyX5 tyX5_ok nmX5 hown hK hP hD hS 0 rfl rfl 2 (by decide) (hts (.fieldLink RX5 18 "DripStone$Marks" "years0" "[Z") (by decide +kernel)) (fun _ h9 => h9) rfl hin rfl (by decide +kernel) rfl rfl (Nat.le_of_ble_eq_true rfl) dX5_init_25 (fun H locs hP hD hS => ?_)
  obtain ⟨hP, hD⟩ := pd_ [(zh, .inr (5, [.ref q_1, .ref q_3, .ref q_5, .null, .null, .null, .null, .int 0, .int 0])), (q_1, .inl (cy 2, 12, .inl (fun _ => 0))), (q_3, .inl (cy 2, 12, .inl (fun _ => 0))), (q_5, .inl (cy 2, 24, .inl (fun _ => 0)))] hP hD
  refine lv_aload_n hx hb dX5_init_28 rfl (lv_at hl 0 rfl) ?_
  refine lv_bipush (v := 24) hx hb dX5_init_29 (by decide) ?_
  refine va_newa (atype := .boolean) (ty := .boolean) (N' := 24) (a0 := (24, .inl (fun _ => 0))) hx hb (hts (.arrayClass .boolean) (by decide +kernel)) rfl hK hP hD hS hA (fun _ => rfl) (by decide) (by decide) (by decide) (Nat.le_of_ble_eq_true rfl) (Nat.le_of_ble_eq_true rfl) dX5_init_31 (fun q_7 cA_8 H hK2 hP hD hS => ?_)
  obtain rfl : cA_8 = cy 2 := ka_eq hK2 (i := 9) (j := 2) rfl rfl
  obtain ⟨hP, hD⟩ := pd_ [(zh, .inr (5, [.ref q_1, .ref q_3, .ref q_5, .null, .null, .null, .null, .int 0, .int 0])), (q_1, .inl (cy 2, 12, .inl (fun _ => 0))), (q_3, .inl (cy 2, 12, .inl (fun _ => 0))), (q_5, .inl (cy 2, 24, .inl (fun _ => 0))), (q_7, .inl (cy 2, 24, .inl (fun _ => 0)))] hP hD
  refine W.widen (k := 4) (n := 72) (Nat.le_of_ble_eq_true rfl) (Nat.le_of_ble_eq_true rfl) ?_
  refine va_putF (D := (dC, dI)) (ci := 5) (v := .ref q_7) (ty := .array .boolean) (C := RX5) (T := TX5) (N := 9) hx hb hts (by decide +kernel) tyX5 tyX5_ok nmX5 hown hK hP hD hS 0 rfl rfl 3 (by decide) (hts (.fieldLink RX5 21 "DripStone$Marks" "years1" "[Z") (by decide +kernel)) (fun _ h9 => h9) rfl hin rfl (by decide +kernel) rfl rfl (Nat.le_of_ble_eq_true rfl) dX5_init_33 (fun H locs hP hD hS => ?_)
  obtain ⟨hP, hD⟩ := pd_ [(zh, .inr (5, [.ref q_1, .ref q_3, .ref q_5, .ref q_7, .null, .null, .null, .int 0, .int 0])), (q_1, .inl (cy 2, 12, .inl (fun _ => 0))), (q_3, .inl (cy 2, 12, .inl (fun _ => 0))), (q_5, .inl (cy 2, 24, .inl (fun _ => 0))), (q_7, .inl (cy 2, 24, .inl (fun _ => 0)))] hP hD
  refine lv_aload_n hx hb dX5_init_36 rfl (lv_at hl 0 rfl) ?_
  refine lv_bipush (v := 24) hx hb dX5_init_37 (by decide) ?_
  refine va_newa (atype := .int) (ty := .int) (N' := 24) (a0 := (24, .inl (fun _ => 0))) hx hb (hts (.arrayClass .int) (by decide +kernel)) rfl hK hP hD hS hA (fun _ => rfl) (by decide) (by decide) (by decide) (Nat.le_of_ble_eq_true rfl) (Nat.le_of_ble_eq_true rfl) dX5_init_39 (fun q_9 cA_10 H hK2 hP hD hS => ?_)
  obtain rfl : cA_10 = cy 0 := ka_eq hK2 (i := 9) (j := 0) rfl rfl
  obtain ⟨hP, hD⟩ := pd_ [(zh, .inr (5, [.ref q_1, .ref q_3, .ref q_5, .ref q_7, .null, .null, .null, .int 0, .int 0])), (q_1, .inl (cy 2, 12, .inl (fun _ => 0))), (q_3, .inl (cy 2, 12, .inl (fun _ => 0))), (q_5, .inl (cy 2, 24, .inl (fun _ => 0))), (q_7, .inl (cy 2, 24, .inl (fun _ => 0))), (q_9, .inl (cy 0, 24, .inl (fun _ => 0)))] hP hD
  refine W.widen (k := 5) (n := 96) (Nat.le_of_ble_eq_true rfl) (Nat.le_of_ble_eq_true rfl) ?_
  refine va_putF (D := (dC, dI)) (ci := 5) (v := .ref q_9) (ty := .array .int) (C := RX5) (T := TX5) (N := 9) hx hb hts (by decide +kernel) tyX5 tyX5_ok nmX5 hown hK hP hD hS 0 rfl rfl 4 (by decide) (hts (.fieldLink RX5 24 "DripStone$Marks" "into" "[I") (by decide +kernel)) (fun _ h9 => h9) rfl hin rfl (by decide +kernel) rfl rfl (Nat.le_of_ble_eq_true rfl) dX5_init_41 (fun H locs hP hD hS => ?_)
  obtain ⟨hP, hD⟩ := pd_ [(zh, .inr (5, [.ref q_1, .ref q_3, .ref q_5, .ref q_7, .ref q_9, .null, .null, .int 0, .int 0])), (q_1, .inl (cy 2, 12, .inl (fun _ => 0))), (q_3, .inl (cy 2, 12, .inl (fun _ => 0))), (q_5, .inl (cy 2, 24, .inl (fun _ => 0))), (q_7, .inl (cy 2, 24, .inl (fun _ => 0))), (q_9, .inl (cy 0, 24, .inl (fun _ => 0)))] hP hD
  refine lv_aload_n hx hb dX5_init_44 rfl (lv_at hl 0 rfl) ?_
  refine lv_sipush (v := 16224) hx hb dX5_init_45 (by decide) ?_
  refine va_newa (atype := .long) (ty := .long) (N' := 16224) (a0 := (16224, .inr (.inl (fun _ => 0)))) hx hb (hts (.arrayClass .long) (by decide +kernel)) rfl hK hP hD hS hA (fun _ => rfl) (by decide) (by decide) (by decide) (Nat.le_of_ble_eq_true rfl) (Nat.le_of_ble_eq_true rfl) dX5_init_48 (fun q_11 cA_12 H hK2 hP hD hS => ?_)
  obtain rfl : cA_12 = cy 1 := ka_eq hK2 (i := 9) (j := 1) rfl rfl
  obtain ⟨hP, hD⟩ := pd_ [(zh, .inr (5, [.ref q_1, .ref q_3, .ref q_5, .ref q_7, .ref q_9, .null, .null, .int 0, .int 0])), (q_1, .inl (cy 2, 12, .inl (fun _ => 0))), (q_3, .inl (cy 2, 12, .inl (fun _ => 0))), (q_5, .inl (cy 2, 24, .inl (fun _ => 0))), (q_7, .inl (cy 2, 24, .inl (fun _ => 0))), (q_9, .inl (cy 0, 24, .inl (fun _ => 0))), (q_11, .inl (cy 1, 16224, .inr (.inl (fun _ => 0))))] hP hD
  refine W.widen (k := 6) (n := 16320) (Nat.le_of_ble_eq_true rfl) (Nat.le_of_ble_eq_true rfl) ?_
  refine va_putF (D := (dC, dI)) (ci := 5) (v := .ref q_11) (ty := .array .long) (C := RX5) (T := TX5) (N := 9) hx hb hts (by decide +kernel) tyX5 tyX5_ok nmX5 hown hK hP hD hS 0 rfl rfl 5 (by decide) (hts (.fieldLink RX5 28 "DripStone$Marks" "blocks" "[J") (by decide +kernel)) (fun _ h9 => h9) rfl hin rfl (by decide +kernel) rfl rfl (Nat.le_of_ble_eq_true rfl) dX5_init_50 (fun H locs hP hD hS => ?_)
  obtain ⟨hP, hD⟩ := pd_ [(zh, .inr (5, [.ref q_1, .ref q_3, .ref q_5, .ref q_7, .ref q_9, .ref q_11, .null, .int 0, .int 0])), (q_1, .inl (cy 2, 12, .inl (fun _ => 0))), (q_3, .inl (cy 2, 12, .inl (fun _ => 0))), (q_5, .inl (cy 2, 24, .inl (fun _ => 0))), (q_7, .inl (cy 2, 24, .inl (fun _ => 0))), (q_9, .inl (cy 0, 24, .inl (fun _ => 0))), (q_11, .inl (cy 1, 16224, .inr (.inl (fun _ => 0))))] hP hD
  refine lv_aload_n hx hb dX5_init_53 rfl (lv_at hl 0 rfl) ?_
  refine lv_bipush (v := 96) hx hb dX5_init_54 (by decide) ?_
  refine va_newa (atype := .long) (ty := .long) (N' := 96) (a0 := (96, .inr (.inl (fun _ => 0)))) hx hb (hts (.arrayClass .long) (by decide +kernel)) rfl hK hP hD hS hA (fun _ => rfl) (by decide) (by decide) (by decide) (Nat.le_of_ble_eq_true rfl) (Nat.le_of_ble_eq_true rfl) dX5_init_56 (fun q_13 cA_14 H hK2 hP hD hS => ?_)
  obtain rfl : cA_14 = cy 1 := ka_eq hK2 (i := 9) (j := 1) rfl rfl
  obtain ⟨hP, hD⟩ := pd_ [(zh, .inr (5, [.ref q_1, .ref q_3, .ref q_5, .ref q_7, .ref q_9, .ref q_11, .null, .int 0, .int 0])), (q_1, .inl (cy 2, 12, .inl (fun _ => 0))), (q_3, .inl (cy 2, 12, .inl (fun _ => 0))), (q_5, .inl (cy 2, 24, .inl (fun _ => 0))), (q_7, .inl (cy 2, 24, .inl (fun _ => 0))), (q_9, .inl (cy 0, 24, .inl (fun _ => 0))), (q_11, .inl (cy 1, 16224, .inr (.inl (fun _ => 0)))), (q_13, .inl (cy 1, 96, .inr (.inl (fun _ => 0))))] hP hD
  refine W.widen (k := 7) (n := 16416) (Nat.le_of_ble_eq_true rfl) (Nat.le_of_ble_eq_true rfl) ?_
  refine va_putF (D := (dC, dI)) (ci := 5) (v := .ref q_13) (ty := .array .long) (C := RX5) (T := TX5) (N := 9) hx hb hts (by decide +kernel) tyX5 tyX5_ok nmX5 hown hK hP hD hS 0 rfl rfl 6 (by decide) (hts (.fieldLink RX5 32 "DripStone$Marks" "lifted" "[J") (by decide +kernel)) (fun _ h9 => h9) rfl hin rfl (by decide +kernel) rfl rfl (Nat.le_of_ble_eq_true rfl) dX5_init_58 (fun H locs hP hD hS => ?_)
  obtain ⟨hP, hD⟩ := pd_ [(zh, .inr (5, [.ref q_1, .ref q_3, .ref q_5, .ref q_7, .ref q_9, .ref q_11, .ref q_13, .int 0, .int 0])), (q_1, .inl (cy 2, 12, .inl (fun _ => 0))), (q_3, .inl (cy 2, 12, .inl (fun _ => 0))), (q_5, .inl (cy 2, 24, .inl (fun _ => 0))), (q_7, .inl (cy 2, 24, .inl (fun _ => 0))), (q_9, .inl (cy 0, 24, .inl (fun _ => 0))), (q_11, .inl (cy 1, 16224, .inr (.inl (fun _ => 0)))), (q_13, .inl (cy 1, 96, .inr (.inl (fun _ => 0))))] hP hD
  refine W.widen (k := 7) (n := 16416) (Nat.le_of_ble_eq_true rfl) (Nat.le_of_ble_eq_true rfl) ?_
  have hP9 := hP.sub (ws' := [(zh, .inr (5, [.ref q_1, .ref q_3, .ref q_5, .ref q_7, .ref q_9, .ref q_11, .ref q_13, .int 0, .int 0])), (q_1, .inl (cy 2, 12, .inl (fun _ => 0))), (q_3, .inl (cy 2, 12, .inl (fun _ => 0))), (q_5, .inl (cy 2, 24, .inl (fun _ => 0))), (q_7, .inl (cy 2, 24, .inl (fun _ => 0))), (q_9, .inl (cy 0, 24, .inl (fun _ => 0))), (q_11, .inl (cy 1, 16224, .inr (.inl (fun _ => 0)))), (q_13, .inl (cy 1, 96, .inr (.inl (fun _ => 0))))]) [0, 1, 2, 3, 4, 5, 6, 7] rfl
  have hD9 := hD.sub (ws' := [(zh, .inr (5, [.ref q_1, .ref q_3, .ref q_5, .ref q_7, .ref q_9, .ref q_11, .ref q_13, .int 0, .int 0])), (q_1, .inl (cy 2, 12, .inl (fun _ => 0))), (q_3, .inl (cy 2, 12, .inl (fun _ => 0))), (q_5, .inl (cy 2, 24, .inl (fun _ => 0))), (q_7, .inl (cy 2, 24, .inl (fun _ => 0))), (q_9, .inl (cy 0, 24, .inl (fun _ => 0))), (q_11, .inl (cy 1, 16224, .inr (.inl (fun _ => 0)))), (q_13, .inl (cy 1, 96, .inr (.inl (fun _ => 0))))]) [0, 1, 2, 3, 4, 5, 6, 7] (by decide) rfl
  exact W.vret hx hb hr (fun t ht hW => ⟨⟨((fun k => ([q_1, q_3, q_5, q_7, q_9, q_11, q_13] : List Nat).getD k 0), (fun _ _ => 0)), rfl, trivial, ⟨by rw [ht]; exact hP9, va_K.moved hW.alike hK, hD9⟩⟩, hS.F ht⟩) hS.2.2 dX5_init_61
