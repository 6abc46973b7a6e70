set_option maxHeartbeats 4000000 in
set_option maxRecDepth 100000 in
theorem c_X3_init (l : Launch) (dC : Nat → ClassId) (dI : Nat → Nat → Nat) (cy : Nat → ClassId) (sz : Nat) (zh : Nat)  : Met l yX3_init wsX3_init ({ frames := 1, cells := 4, slots := 75, locals := 12 }) (va_Pc [.ref zh] (PRE dC dI cy [(zh, .inr (3, [.null, .int 0, .int 0]))] sz)) (va_Qv (fun (_ : (Nat → Nat) × (Nat → Nat → Nat)) => True) (fun u t => POST dC dI cy (va_A [(zh, .inr (3, [.null, .int 0, .int 0]))] sz) [(zh, .inr (3, [.ref (u.1 0), .int 1, .int 3])), ((u.1 0), .inl (cy 7, 3, .inr (.inr (.inr (.inr (fun i => if i < 3 then some ((u.2 0) i) else none)))))), (((u.2 0) 0), .inl (cy 0, 24, .inl (fun _ => 0))), (((u.2 0) 1), .inl (cy 0, 24, .inl (fun _ => 0))), (((u.2 0) 2), .inl (cy 0, 24, .inl (fun _ => 0)))] t) (va_A [(zh, .inr (3, [.null, .int 0, .int 0]))] sz)) 4 75 (va_A [(zh, .inr (3, [.null, .int 0, .int 0]))] sz) := by
  refine Met.ofW (cc := cX3_init) (maxL := 1) (ret := none) (by decide) rfl ?_
  intro p e s m args below meth c s₁ B hml hv
  obtain ⟨rfl, hsz, hP, hK, hD0, hN⟩ := hv
  have hx := B.exec
  have hb := B.bytes
  have hr := B.returns
  have hts := atoms_spec (ws := wsX3_init) B.pre
  have hown : s.vm.findClass RX3 = some m.cls := findClass_of_methodNamed B.named
  have hlocks := B.notSynchronized
  have hin : meth.name = "<init>" := (name_of_methodNamed B.named B.method).1
  subst hsz
  have hD := hD0.self (sz := s.heap.size)
  generalize hAe : va_A [(zh, .inr (3, [.null, .int 0, .int 0]))] s.heap.size = A at hD ⊢
  have hA : ∀ q : Nat, s.heap.size ≤ q → A q := fun q h => by rw [← hAe]; exact Or.inr h
  have hS : va_S A s.heap s.heap [] := va_S.rf
  have hP : va_P (dC, dI) vwCl [(zh, .inr (3, [.null, .int 0, .int 0]))] s.heap := hP
  have hl := lv_entry ([.ref zh] : List Value) (n := 1) (Nat.le_of_ble_eq_true rfl)
  rw [lg_entry_eq]
  generalize (lg_sl ([.ref zh] : List Value) ++ List.replicate (1 - (lg_sl ([.ref zh] : List Value)).length) Slot.unset).toArray = ls at hl ⊢
  have hl : lv_has ls 1 [(0, .ref zh)] := hl
  refine lv_aload_n hx hb dX3_init_0 rfl (lv_at hl 0 rfl) ?_
  refine W.objInit hx hb hown (hts (.methodLink RX3 3 objectInit) (by decide +kernel)) (hts (.instanceMethod objectInit) (by decide +kernel)) (hts (.code objectInit ⟨#[0xb1]⟩ 1 none) (List.mem_of_getElem? (i := 3) (by decide +kernel))) rfl (by rw [hml]; exact hl.1) rfl dX3_init_1 (Nat.le_of_ble_eq_true rfl) (Nat.le_of_ble_eq_true rfl) ?_
  refine W.eq (g2 := F0 m 4 ls []) rfl ?_
  refine lv_aload_n hx hb dX3_init_4 rfl (lv_at hl 0 rfl) ?_
  refine lv_iconst (v := 3) hx hb dX3_init_5 (by decide) ?_
  refine lv_bipush (v := 24) hx hb dX3_init_6 (by decide) ?_
  refine va_mna (X := [(zh, .inr (3, [.null, .int 0, .int 0]))]) (L := []) (f := (fun _ => .inr (0, []) : Nat → va_E)) (ty := .int) (cy := cy 0) (N' := 3) (K' := 24) (z := (24, .inl (fun _ => 0))) hx hb hown (by rw [st_int]; exact hts (.classLink RX3 9 "[[I") (by decide +kernel)) (n0_ao7 hN) (hts (.arrayClass .int) (by decide +kernel)) (hK.2 0 _ rfl).2 hK (show va_P (dC, dI) vwCl ([(zh, .inr (3, [.null, .int 0, .int 0]))] ++ va_pl [] (fun _ => .inr (0, []) : Nat → va_E)) _ from hP) (show va_D A ([(zh, .inr (3, [.null, .int 0, .int 0]))] ++ va_pl [] (fun _ => .inr (0, []) : Nat → va_E)) from hD) hS hA (by decide) (by decide) (by decide) (by decide) (by decide) (by decide) (by decide) rfl rfl (Nat.le_of_ble_eq_true rfl) (Nat.le_of_ble_eq_true rfl) (fun _ => iz_int) dX3_init_8 (fun q_1 rw_2 cA_3 H hj9 hn9 hK2 hP hD hS => ?_)
  obtain rfl : cA_3 = cy 7 := ka_eq hK2 (i := 9) (j := 7) rfl rfl
  rw [← vr_rows (fun _ _ h => absurd h List.not_mem_nil)] at hP hD
  obtain ⟨hP, hD⟩ := pd_ [(zh, .inr (3, [.null, .int 0, .int 0])), (q_1, .inl (cy 7, 3, .inr (.inr (.inr (.inr (fun i => if i < 3 then some (rw_2 i) else none)))))), ((rw_2 0), .inl (cy 0, 24, .inl (fun _ => 0))), ((rw_2 1), .inl (cy 0, 24, .inl (fun _ => 0))), ((rw_2 2), .inl (cy 0, 24, .inl (fun _ => 0)))] hP hD
  refine W.widen (k := 4) (n := 75) (Nat.le_of_ble_eq_true rfl) (Nat.le_of_ble_eq_true rfl) ?_
  refine va_putF (D := (dC, dI)) (ci := 3) (v := .ref q_1) (ty := .array (.array .int)) (C := RX3) (T := TX3) (N := 3) hx hb hts (by decide +kernel) tyX3 tyX3_ok nmX3 hown hK hP hD hS 0 rfl rfl 0 (by decide) (hts (.fieldLink RX3 11 "DripStone$Hill" "rain" "[[I") (by decide +kernel)) (fun _ h9 => h9) rfl hin rfl (by decide +kernel) rfl rfl (Nat.le_of_ble_eq_true rfl) dX3_init_12 (fun H locs hP hD hS => ?_)
  obtain ⟨hP, hD⟩ := pd_ [(zh, .inr (3, [.ref q_1, .int 0, .int 0])), (q_1, .inl (cy 7, 3, .inr (.inr (.inr (.inr (fun i => if i < 3 then some (rw_2 i) else none)))))), ((rw_2 0), .inl (cy 0, 24, .inl (fun _ => 0))), ((rw_2 1), .inl (cy 0, 24, .inl (fun _ => 0))), ((rw_2 2), .inl (cy 0, 24, .inl (fun _ => 0)))] hP hD
  refine lv_aload_n hx hb dX3_init_15 rfl (lv_at hl 0 rfl) ?_
  refine lv_iconst (v := 1) hx hb dX3_init_16 (by decide) ?_
  refine va_put (D := (dC, dI)) (ci := 3) (v := .int 1) (ty := .int) (C := RX3) (T := TX3) (N := 3) hx hb hts (by decide +kernel) tyX3 tyX3_ok nmX3 hown hK hP hD hS 0 rfl rfl 1 (by decide) (hts (.fieldLink RX3 16 "DripStone$Hill" "keeps" "I") (by decide +kernel)) (fun _ h9 => h9) rfl (by decide +kernel) rfl rfl (Nat.le_of_ble_eq_true rfl) dX3_init_17 (fun H locs hP hD hS => ?_)
  obtain ⟨hP, hD⟩ := pd_ [(zh, .inr (3, [.ref q_1, .int 1, .int 0])), (q_1, .inl (cy 7, 3, .inr (.inr (.inr (.inr (fun i => if i < 3 then some (rw_2 i) else none)))))), ((rw_2 0), .inl (cy 0, 24, .inl (fun _ => 0))), ((rw_2 1), .inl (cy 0, 24, .inl (fun _ => 0))), ((rw_2 2), .inl (cy 0, 24, .inl (fun _ => 0)))] hP hD
  refine lv_aload_n hx hb dX3_init_20 rfl (lv_at hl 0 rfl) ?_
  refine lv_iconst (v := 3) hx hb dX3_init_21 (by decide) ?_
  refine va_put (D := (dC, dI)) (ci := 3) (v := .int 3) (ty := .int) (C := RX3) (T := TX3) (N := 3) hx hb hts (by decide +kernel) tyX3 tyX3_ok nmX3 hown hK hP hD hS 0 rfl rfl 2 (by decide) (hts (.fieldLink RX3 20 "DripStone$Hill" "seen" "I") (by decide +kernel)) (fun _ h9 => h9) rfl (by decide +kernel) rfl rfl (Nat.le_of_ble_eq_true rfl) dX3_init_22 (fun H locs hP hD hS => ?_)
  obtain ⟨hP, hD⟩ := pd_ [(zh, .inr (3, [.ref q_1, .int 1, .int 3])), (q_1, .inl (cy 7, 3, .inr (.inr (.inr (.inr (fun i => if i < 3 then some (rw_2 i) else none)))))), ((rw_2 0), .inl (cy 0, 24, .inl (fun _ => 0))), ((rw_2 1), .inl (cy 0, 24, .inl (fun _ => 0))), ((rw_2 2), .inl (cy 0, 24, .inl (fun _ => 0)))] hP hD
  refine W.widen (k := 4) (n := 75) (Nat.le_of_ble_eq_true rfl) (Nat.le_of_ble_eq_true rfl) ?_
  have hP9 := hP.sub (ws' := [(zh, .inr (3, [.ref q_1, .int 1, .int 3])), (q_1, .inl (cy 7, 3, .inr (.inr (.inr (.inr (fun i => if i < 3 then some (rw_2 i) else none)))))), ((rw_2 0), .inl (cy 0, 24, .inl (fun _ => 0))), ((rw_2 1), .inl (cy 0, 24, .inl (fun _ => 0))), ((rw_2 2), .inl (cy 0, 24, .inl (fun _ => 0)))]) [0, 1, 2, 3, 4] rfl
  have hD9 := hD.sub (ws' := [(zh, .inr (3, [.ref q_1, .int 1, .int 3])), (q_1, .inl (cy 7, 3, .inr (.inr (.inr (.inr (fun i => if i < 3 then some (rw_2 i) else none)))))), ((rw_2 0), .inl (cy 0, 24, .inl (fun _ => 0))), ((rw_2 1), .inl (cy 0, 24, .inl (fun _ => 0))), ((rw_2 2), .inl (cy 0, 24, .inl (fun _ => 0)))]) [0, 1, 2, 3, 4] (by decide) rfl
  exact W.vret hx hb hr (fun t ht hW => ⟨⟨((fun k => ([q_1] : List Nat).getD k 0), (fun _ => rw_2)), rfl, trivial, ⟨by rw [ht]; exact hP9, va_K.moved hW.alike hK, hD9⟩⟩, hS.F ht⟩) hS.2.2 dX3_init_25
