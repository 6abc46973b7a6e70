set_option maxHeartbeats 4000000 in
set_option maxRecDepth 100000 in
theorem c_X1_init (l : Launch) (dC : Nat → ClassId) (dI : Nat → Nat → Nat) (cy : Nat → ClassId) (sz : Nat) (zh : Nat)  : Met l yX1_init wsX1_init ({ frames := 1, cells := 6, slots := 12, locals := 12 }) (va_Pc [.ref zh] (PRE dC dI cy [(zh, .inr (1, [.null, .null, .null, .null, .null, .null, .int 0, .int 0]))] sz)) (va_Qv (fun (_ : (Nat → Nat) × (Nat → Nat → Nat)) => True) (fun u t => POST dC dI cy (va_A [(zh, .inr (1, [.null, .null, .null, .null, .null, .null, .int 0, .int 0]))] sz) [(zh, .inr (1, [.ref (u.1 0), .ref (u.1 1), .ref (u.1 2), .ref (u.1 3), .ref (u.1 4), .ref (u.1 5), .int 0, .int 0])), ((u.1 0), .inl (cy 0, 2, .inl (fun _ => 0))), ((u.1 1), .inl (cy 0, 2, .inl (fun _ => 0))), ((u.1 2), .inl (cy 0, 2, .inl (fun _ => 0))), ((u.1 3), .inl (cy 0, 2, .inl (fun _ => 0))), ((u.1 4), .inl (cy 0, 2, .inl (fun _ => 0))), ((u.1 5), .inl (cy 2, 2, .inl (fun _ => 0)))] t) (va_A [(zh, .inr (1, [.null, .null, .null, .null, .null, .null, .int 0, .int 0]))] sz)) 6 12 (va_A [(zh, .inr (1, [.null, .null, .null, .null, .null, .null, .int 0, .int 0]))] sz) := by
  refine Met.ofW (cc := cX1_init) (maxL := 1) (ret := none) (by decide) rfl ?_
  intro p e s m args below meth c s₁ B hml hv
  obtain ⟨rfl, hsz, hP, hK, hD0, hN⟩ := hv
  have hx := B.exec
  have hb := B.bytes
  have hr := B.returns
  have hts := atoms_spec (ws := wsX1_init) B.pre
  have hown : s.vm.findClass RX1 = some m.cls := findClass_of_methodNamed B.named
  have hlocks := B.notSynchronized
  have hin : meth.name = "<init>" := (name_of_methodNamed B.named B.method).1
  subst hsz
  have hD := hD0.self (sz := s.heap.size)
  generalize hAe : va_A [(zh, .inr (1, [.null, .null, .null, .null, .null, .null, .int 0, .int 0]))] s.heap.size = A at hD ⊢
  have hA : ∀ q : Nat, s.heap.size ≤ q → A q := fun q h => by rw [← hAe]; exact Or.inr h
  have hS : va_S A s.heap s.heap [] := va_S.rf
  have hP : va_P (dC, dI) vwCl [(zh, .inr (1, [.null, .null, .null, .null, .null, .null, .int 0, .int 0]))] s.heap := hP
  have hl := lv_entry ([.ref zh] : List Value) (n := 1) (Nat.le_of_ble_eq_true rfl)
  rw [lg_entry_eq]
  generalize (lg_sl ([.ref zh] : List Value) ++ List.replicate (1 - (lg_sl ([.ref zh] : List Value)).length) Slot.unset).toArray = ls at hl ⊢
  have hl : lv_has ls 1 [(0, .ref zh)] := hl
  refine lv_aload_n hx hb dX1_init_0 rfl (lv_at hl 0 rfl) ?_
  refine W.objInit hx hb hown (hts (.methodLink RX1 3 objectInit) (by decide +kernel)) (hts (.instanceMethod objectInit) (by decide +kernel)) (hts (.code objectInit ⟨#[0xb1]⟩ 1 none) (List.mem_of_getElem? (i := 3) (by decide +kernel))) rfl (by rw [hml]; exact hl.1) rfl dX1_init_1 (Nat.le_of_ble_eq_true rfl) (Nat.le_of_ble_eq_true rfl) ?_
  refine W.eq (g2 := F0 m 4 ls []) rfl ?_
  refine lv_aload_n hx hb dX1_init_4 rfl (lv_at hl 0 rfl) ?_
  refine lv_iconst (v := 2) hx hb dX1_init_5 (by decide) ?_
  refine va_newa (atype := .int) (ty := .int) (N' := 2) (a0 := (2, .inl (fun _ => 0))) hx hb (hts (.arrayClass .int) (by decide +kernel)) rfl hK hP hD hS hA (fun _ => rfl) (by decide) (by decide) (by decide) (Nat.le_of_ble_eq_true rfl) (Nat.le_of_ble_eq_true rfl) dX1_init_6 (fun q_1 cA_2 H hK2 hP hD hS => ?_)
  obtain rfl : cA_2 = cy 0 := ka_eq hK2 (i := 9) (j := 0) rfl rfl
  obtain ⟨hP, hD⟩ := pd_ [(zh, .inr (1, [.null, .null, .null, .null, .null, .null, .int 0, .int 0])), (q_1, .inl (cy 0, 2, .inl (fun _ => 0)))] hP hD
  refine W.widen (k := 1) (n := 2) (Nat.le_of_ble_eq_true rfl) (Nat.le_of_ble_eq_true rfl) ?_
  refine va_putF (D := (dC, dI)) (ci := 1) (v := .ref q_1) (ty := .array .int) (C := RX1) (T := TX1) (N := 8) hx hb hts (by decide +kernel) tyX1 tyX1_ok nmX1 hown hK hP hD hS 0 rfl rfl 0 (by decide) (hts (.fieldLink RX1 9 "DripStone$Claim" "tests" "[I") (by decide +kernel)) (fun _ h9 => h9) rfl hin rfl (by decide +kernel) rfl rfl (Nat.le_of_ble_eq_true rfl) dX1_init_8 (fun H locs hP hD hS => ?_)
  obtain ⟨hP, hD⟩ := pd_ [(zh, .inr (1, [.ref q_1, .null, .null, .null, .null, .null, .int 0, .int 0])), (q_1, .inl (cy 0, 2, .inl (fun _ => 0)))] hP hD
  refine lv_aload_n hx hb dX1_init_11 rfl (lv_at hl 0 rfl) ?_
  refine lv_iconst (v := 2) hx hb dX1_init_12 (by decide) ?_
  refine va_newa (atype := .int) (ty := .int) (N' := 2) (a0 := (2, .inl (fun _ => 0))) hx hb (hts (.arrayClass .int) (by decide +kernel)) rfl hK hP hD hS hA (fun _ => rfl) (by decide) (by decide) (by decide) (Nat.le_of_ble_eq_true rfl) (Nat.le_of_ble_eq_true rfl) dX1_init_13 (fun q_3 cA_4 H hK2 hP hD hS => ?_)
  obtain rfl : cA_4 = cy 0 := ka_eq hK2 (i := 9) (j := 0) rfl rfl
  obtain ⟨hP, hD⟩ := pd_ [(zh, .inr (1, [.ref q_1, .null, .null, .null, .null, .null, .int 0, .int 0])), (q_1, .inl (cy 0, 2, .inl (fun _ => 0))), (q_3, .inl (cy 0, 2, .inl (fun _ => 0)))] hP hD
  refine W.widen (k := 2) (n := 4) (Nat.le_of_ble_eq_true rfl) (Nat.le_of_ble_eq_true rfl) ?_
  refine va_putF (D := (dC, dI)) (ci := 1) (v := .ref q_3) (ty := .array .int) (C := RX1) (T := TX1) (N := 8) hx hb hts (by decide +kernel) tyX1 tyX1_ok nmX1 hown hK hP hD hS 0 rfl rfl 1 (by decide) (hts (.fieldLink RX1 15 "DripStone$Claim" "weights" "[I") (by decide +kernel)) (fun _ h9 => h9) rfl hin rfl (by decide +kernel) rfl rfl (Nat.le_of_ble_eq_true rfl) dX1_init_15 (fun H locs hP hD hS => ?_)
  obtain ⟨hP, hD⟩ := pd_ [(zh, .inr (1, [.ref q_1, .ref q_3, .null, .null, .null, .null, .int 0, .int 0])), (q_1, .inl (cy 0, 2, .inl (fun _ => 0))), (q_3, .inl (cy 0, 2, .inl (fun _ => 0)))] hP hD
  refine lv_aload_n hx hb dX1_init_18 rfl (lv_at hl 0 rfl) ?_
  refine lv_iconst (v := 2) hx hb dX1_init_19 (by decide) ?_
  refine va_newa (atype := .int) (ty := .int) (N' := 2) (a0 := (2, .inl (fun _ => 0))) hx hb (hts (.arrayClass .int) (by decide +kernel)) rfl hK hP hD hS hA (fun _ => rfl) (by decide) (by decide) (by decide) (Nat.le_of_ble_eq_true rfl) (Nat.le_of_ble_eq_true rfl) dX1_init_20 (fun q_5 cA_6 H hK2 hP hD hS => ?_)
  obtain rfl : cA_6 = cy 0 := ka_eq hK2 (i := 9) (j := 0) rfl rfl
  obtain ⟨hP, hD⟩ := pd_ [(zh, .inr (1, [.ref q_1, .ref q_3, .null, .null, .null, .null, .int 0, .int 0])), (q_1, .inl (cy 0, 2, .inl (fun _ => 0))), (q_3, .inl (cy 0, 2, .inl (fun _ => 0))), (q_5, .inl (cy 0, 2, .inl (fun _ => 0)))] hP hD
  refine W.widen (k := 3) (n := 6) (Nat.le_of_ble_eq_true rfl) (Nat.le_of_ble_eq_true rfl) ?_
  refine va_putF (D := (dC, dI)) (ci := 1) (v := .ref q_5) (ty := .array .int) (C := RX1) (T := TX1) (N := 8) hx hb hts (by decide +kernel) tyX1 tyX1_ok nmX1 hown hK hP hD hS 0 rfl rfl 2 (by decide) (hts (.fieldLink RX1 18 "DripStone$Claim" "firsts" "[I") (by decide +kernel)) (fun _ h9 => h9) rfl hin rfl (by decide +kernel) rfl rfl (Nat.le_of_ble_eq_true rfl) dX1_init_22 (fun H locs hP hD hS => ?_)
  obtain ⟨hP, hD⟩ := pd_ [(zh, .inr (1, [.ref q_1, .ref q_3, .ref q_5, .null, .null, .null, .int 0, .int 0])), (q_1, .inl (cy 0, 2, .inl (fun _ => 0))), (q_3, .inl (cy 0, 2, .inl (fun _ => 0))), (q_5, .inl (cy 0, 2, .inl (fun _ => 0)))] hP hD
  refine lv_aload_n hx hb dX1_init_25 rfl (lv_at hl 0 rfl) ?_
  refine lv_iconst (v := 2) hx hb dX1_init_26 (by decide) ?_
  refine va_newa (atype := .int) (ty := .int) (N' := 2) (a0 := (2, .inl (fun _ => 0))) hx hb (hts (.arrayClass .int) (by decide +kernel)) rfl hK hP hD hS hA (fun _ => rfl) (by decide) (by decide) (by decide) (Nat.le_of_ble_eq_true rfl) (Nat.le_of_ble_eq_true rfl) dX1_init_27 (fun q_7 cA_8 H hK2 hP hD hS => ?_)
  obtain rfl : cA_8 = cy 0 := ka_eq hK2 (i := 9) (j := 0) rfl rfl
  obtain ⟨hP, hD⟩ := pd_ [(zh, .inr (1, [.ref q_1, .ref q_3, .ref q_5, .null, .null, .null, .int 0, .int 0])), (q_1, .inl (cy 0, 2, .inl (fun _ => 0))), (q_3, .inl (cy 0, 2, .inl (fun _ => 0))), (q_5, .inl (cy 0, 2, .inl (fun _ => 0))), (q_7, .inl (cy 0, 2, .inl (fun _ => 0)))] hP hD
  refine W.widen (k := 4) (n := 8) (Nat.le_of_ble_eq_true rfl) (Nat.le_of_ble_eq_true rfl) ?_
  refine va_putF (D := (dC, dI)) (ci := 1) (v := .ref q_7) (ty := .array .int) (C := RX1) (T := TX1) (N := 8) hx hb hts (by decide +kernel) tyX1 tyX1_ok nmX1 hown hK hP hD hS 0 rfl rfl 3 (by decide) (hts (.fieldLink RX1 21 "DripStone$Claim" "lasts" "[I") (by decide +kernel)) (fun _ h9 => h9) rfl hin rfl (by decide +kernel) rfl rfl (Nat.le_of_ble_eq_true rfl) dX1_init_29 (fun H locs hP hD hS => ?_)
  obtain ⟨hP, hD⟩ := pd_ [(zh, .inr (1, [.ref q_1, .ref q_3, .ref q_5, .ref q_7, .null, .null, .int 0, .int 0])), (q_1, .inl (cy 0, 2, .inl (fun _ => 0))), (q_3, .inl (cy 0, 2, .inl (fun _ => 0))), (q_5, .inl (cy 0, 2, .inl (fun _ => 0))), (q_7, .inl (cy 0, 2, .inl (fun _ => 0)))] hP hD
  refine lv_aload_n hx hb dX1_init_32 rfl (lv_at hl 0 rfl) ?_
  refine lv_iconst (v := 2) hx hb dX1_init_33 (by decide) ?_
  refine va_newa (atype := .int) (ty := .int) (N' := 2) (a0 := (2, .inl (fun _ => 0))) hx hb (hts (.arrayClass .int) (by decide +kernel)) rfl hK hP hD hS hA (fun _ => rfl) (by decide) (by decide) (by decide) (Nat.le_of_ble_eq_true rfl) (Nat.le_of_ble_eq_true rfl) dX1_init_34 (fun q_9 cA_10 H hK2 hP hD hS => ?_)
  obtain rfl : cA_10 = cy 0 := ka_eq hK2 (i := 9) (j := 0) rfl rfl
  obtain ⟨hP, hD⟩ := pd_ [(zh, .inr (1, [.ref q_1, .ref q_3, .ref q_5, .ref q_7, .null, .null, .int 0, .int 0])), (q_1, .inl (cy 0, 2, .inl (fun _ => 0))), (q_3, .inl (cy 0, 2, .inl (fun _ => 0))), (q_5, .inl (cy 0, 2, .inl (fun _ => 0))), (q_7, .inl (cy 0, 2, .inl (fun _ => 0))), (q_9, .inl (cy 0, 2, .inl (fun _ => 0)))] hP hD
  refine W.widen (k := 5) (n := 10) (Nat.le_of_ble_eq_true rfl) (Nat.le_of_ble_eq_true rfl) ?_
  refine va_putF (D := (dC, dI)) (ci := 1) (v := .ref q_9) (ty := .array .int) (C := RX1) (T := TX1) (N := 8) hx hb hts (by decide +kernel) tyX1 tyX1_ok nmX1 hown hK hP hD hS 0 rfl rfl 4 (by decide) (hts (.fieldLink RX1 24 "DripStone$Claim" "goals" "[I") (by decide +kernel)) (fun _ h9 => h9) rfl hin rfl (by decide +kernel) rfl rfl (Nat.le_of_ble_eq_true rfl) dX1_init_36 (fun H locs hP hD hS => ?_)
  obtain ⟨hP, hD⟩ := pd_ [(zh, .inr (1, [.ref q_1, .ref q_3, .ref q_5, .ref q_7, .ref q_9, .null, .int 0, .int 0])), (q_1, .inl (cy 0, 2, .inl (fun _ => 0))), (q_3, .inl (cy 0, 2, .inl (fun _ => 0))), (q_5, .inl (cy 0, 2, .inl (fun _ => 0))), (q_7, .inl (cy 0, 2, .inl (fun _ => 0))), (q_9, .inl (cy 0, 2, .inl (fun _ => 0)))] hP hD
  refine lv_aload_n hx hb dX1_init_39 rfl (lv_at hl 0 rfl) ?_
  refine lv_iconst (v := 2) hx hb dX1_init_40 (by decide) ?_
  refine va_newa (atype := .boolean) (ty := .boolean) (N' := 2) (a0 := (2, .inl (fun _ => 0))) hx hb (hts (.arrayClass .boolean) (by decide +kernel)) rfl hK hP hD hS hA (fun _ => rfl) (by decide) (by decide) (by decide) (Nat.le_of_ble_eq_true rfl) (Nat.le_of_ble_eq_true rfl) dX1_init_41 (fun q_11 cA_12 H hK2 hP hD hS => ?_)
  obtain rfl : cA_12 = cy 2 := ka_eq hK2 (i := 9) (j := 2) rfl rfl
  obtain ⟨hP, hD⟩ := pd_ [(zh, .inr (1, [.ref q_1, .ref q_3, .ref q_5, .ref q_7, .ref q_9, .null, .int 0, .int 0])), (q_1, .inl (cy 0, 2, .inl (fun _ => 0))), (q_3, .inl (cy 0, 2, .inl (fun _ => 0))), (q_5, .inl (cy 0, 2, .inl (fun _ => 0))), (q_7, .inl (cy 0, 2, .inl (fun _ => 0))), (q_9, .inl (cy 0, 2, .inl (fun _ => 0))), (q_11, .inl (cy 2, 2, .inl (fun _ => 0)))] hP hD
  refine W.widen (k := 6) (n := 12) (Nat.le_of_ble_eq_true rfl) (Nat.le_of_ble_eq_true rfl) ?_
  refine va_putF (D := (dC, dI)) (ci := 1) (v := .ref q_11) (ty := .array .boolean) (C := RX1) (T := TX1) (N := 8) hx hb hts (by decide +kernel) tyX1 tyX1_ok nmX1 hown hK hP hD hS 0 rfl rfl 5 (by decide) (hts (.fieldLink RX1 27 "DripStone$Claim" "negated" "[Z") (by decide +kernel)) (fun _ h9 => h9) rfl hin rfl (by decide +kernel) rfl rfl (Nat.le_of_ble_eq_true rfl) dX1_init_43 (fun H locs hP hD hS => ?_)
  obtain ⟨hP, hD⟩ := pd_ [(zh, .inr (1, [.ref q_1, .ref q_3, .ref q_5, .ref q_7, .ref q_9, .ref q_11, .int 0, .int 0])), (q_1, .inl (cy 0, 2, .inl (fun _ => 0))), (q_3, .inl (cy 0, 2, .inl (fun _ => 0))), (q_5, .inl (cy 0, 2, .inl (fun _ => 0))), (q_7, .inl (cy 0, 2, .inl (fun _ => 0))), (q_9, .inl (cy 0, 2, .inl (fun _ => 0))), (q_11, .inl (cy 2, 2, .inl (fun _ => 0)))] hP hD
  refine W.widen (k := 6) (n := 12) (Nat.le_of_ble_eq_true rfl) (Nat.le_of_ble_eq_true rfl) ?_
  have hP9 := hP.sub (ws' := [(zh, .inr (1, [.ref q_1, .ref q_3, .ref q_5, .ref q_7, .ref q_9, .ref q_11, .int 0, .int 0])), (q_1, .inl (cy 0, 2, .inl (fun _ => 0))), (q_3, .inl (cy 0, 2, .inl (fun _ => 0))), (q_5, .inl (cy 0, 2, .inl (fun _ => 0))), (q_7, .inl (cy 0, 2, .inl (fun _ => 0))), (q_9, .inl (cy 0, 2, .inl (fun _ => 0))), (q_11, .inl (cy 2, 2, .inl (fun _ => 0)))]) [0, 1, 2, 3, 4, 5, 6] rfl
  have hD9 := hD.sub (ws' := [(zh, .inr (1, [.ref q_1, .ref q_3, .ref q_5, .ref q_7, .ref q_9, .ref q_11, .int 0, .int 0])), (q_1, .inl (cy 0, 2, .inl (fun _ => 0))), (q_3, .inl (cy 0, 2, .inl (fun _ => 0))), (q_5, .inl (cy 0, 2, .inl (fun _ => 0))), (q_7, .inl (cy 0, 2, .inl (fun _ => 0))), (q_9, .inl (cy 0, 2, .inl (fun _ => 0))), (q_11, .inl (cy 2, 2, .inl (fun _ => 0)))]) [0, 1, 2, 3, 4, 5, 6] (by decide) rfl
  exact W.vret hx hb hr (fun t ht hW => ⟨⟨((fun k => ([q_1, q_3, q_5, q_7, q_9, q_11] : List Nat).getD k 0), (fun _ _ => 0)), rfl, trivial, ⟨by rw [ht]; exact hP9, va_K.moved hW.alike hK, hD9⟩⟩, hS.F ht⟩) hS.2.2 dX1_init_46
