set_option maxHeartbeats 4000000 in
set_option maxRecDepth 100000 in
theorem c_X11_in (l : Launch) (dC : Nat → ClassId) (dI : Nat → Nat → Nat) (cy : Nat → ClassId) (sz : Nat) (zjv : Int64) (zjl : Int64) (zjh : Int64) (za : Int) (zb : Int) (zc : Int) (ea : zjl.toInt = za) (eb : zjh.toInt = zb) (ec : zjv.toInt = zc) : Met l yX11_in wsX11_in ({ frames := 0, cells := 0, slots := 0, locals := 0 }) (va_Pc [.long zjv, .long zjl, .long zjh] (PRE dC dI cy [] sz)) (va_Qi (fun (r : Int32) (_ : Unit) => r = if za ≤ zc ∧ zc ≤ zb then 1 else 0) (fun u t => POST dC dI cy (va_A [] sz) [] t) (va_A [] sz)) 0 0 (va_A [] sz) := by
  refine Met.ofW (cc := cX11_in) (maxL := 6) (ret := (some .boolean)) (by decide) rfl ?_
  intro p e s m args below meth c s₁ B hml hv
  obtain ⟨rfl, hsz, hP, hK, hD0, hN⟩ := hv
  have hx := B.exec
  have hb := B.bytes
  have hr := B.returns
  have hts := atoms_spec (ws := wsX11_in) B.pre
  have hown : s.vm.findClass RX11 = some m.cls := findClass_of_methodNamed B.named
  have hlocks := B.notSynchronized
  subst hsz
  have hD := hD0.self (sz := s.heap.size)
  generalize hAe : va_A [] s.heap.size = A at hD ⊢
  have hA : ∀ q : Nat, s.heap.size ≤ q → A q := fun q h => by rw [← hAe]; exact Or.inr h
  have hS : va_S A s.heap s.heap [] := va_S.rf
  have hP : va_P (dC, dI) vwCl [] s.heap := hP
  have hl := lv_entry ([.long zjv, .long zjl, .long zjh] : List Value) (n := 6) (Nat.le_of_ble_eq_true rfl)
  rw [lg_entry_eq]
  generalize (lg_sl ([.long zjv, .long zjl, .long zjh] : List Value) ++ List.replicate (6 - (lg_sl ([.long zjv, .long zjl, .long zjh] : List Value)).length) Slot.unset).toArray = ls at hl ⊢
  have hl : lv_has ls 6 [(0, .long zjv), (2, .long zjl), (4, .long zjh)] := hl
  refine lv_lload_n hx hb dX11_in_0 rfl (lv_at hl 0 rfl) ?_
  refine lv_lload_n hx hb dX11_in_1 rfl (lv_at hl 1 rfl) ?_
  refine W.lcmp hx hb dX11_in_2 ?_
  refine lv_topi (fun v_1 ev_1 => ?_)
  refine lv_if_lt (tgt := 17) hx hb dX11_in_3 (by decide) (fun c_2 => ?_) (fun c_2 => ?_)
  · have f_3 : zjv.toInt < zjl.toInt := lc_lt ev_1 c_2
    refine lv_iconst (v := 0) hx hb dX11_in_17 (by decide) ?_
    have hP9 := hP.sub (ws' := []) [] rfl
    have hD9 := hD.sub (ws' := []) [] (by decide) rfl
    exact W.zret (v := 0) hx hb hr rfl (fun t ht hW => ⟨⟨0, (), rfl, (if_neg (by omega)).symm, ⟨by rw [ht]; exact hP9, va_K.moved hW.alike hK, hD9⟩⟩, hS.F ht⟩) hS.2.2 dX11_in_18
  · have f_3 : ¬ (zjv.toInt < zjl.toInt) := lc_nlt ev_1 c_2
    refine lv_lload_n hx hb dX11_in_6 rfl (lv_at hl 0 rfl) ?_
    refine lv_lload hx hb dX11_in_7 (lv_at hl 2 rfl) ?_
    refine W.lcmp hx hb dX11_in_9 ?_
    refine lv_topi (fun v_4 ev_4 => ?_)
    refine lv_if_gt (tgt := 17) hx hb dX11_in_10 (by decide) (fun c_5 => ?_) (fun c_5 => ?_)
    · have f_6 : zjv.toInt > zjh.toInt := lc_gt ev_4 c_5
      refine lv_iconst (v := 0) hx hb dX11_in_17 (by decide) ?_
      have hP9 := hP.sub (ws' := []) [] rfl
      have hD9 := hD.sub (ws' := []) [] (by decide) rfl
      exact W.zret (v := 0) hx hb hr rfl (fun t ht hW => ⟨⟨0, (), rfl, (if_neg (by omega)).symm, ⟨by rw [ht]; exact hP9, va_K.moved hW.alike hK, hD9⟩⟩, hS.F ht⟩) hS.2.2 dX11_in_18
    · have f_6 : ¬ (zjv.toInt > zjh.toInt) := lc_ngt ev_4 c_5
      refine lv_iconst (v := 1) hx hb dX11_in_13 (by decide) ?_
      refine lv_goto (tgt := 18) hx hb dX11_in_14 (by decide) ?_
      have hP9 := hP.sub (ws' := []) [] rfl
      have hD9 := hD.sub (ws' := []) [] (by decide) rfl
      exact W.zret (v := 1) hx hb hr rfl (fun t ht hW => ⟨⟨1, (), rfl, (if_pos (by omega)).symm, ⟨by rw [ht]; exact hP9, va_K.moved hW.alike hK, hD9⟩⟩, hS.F ht⟩) hS.2.2 dX11_in_18
set_option maxHeartbeats 4000000 in
set_option maxRecDepth 100000 in
theorem c_X11_isYear (l : Launch) (dC : Nat → ClassId) (dI : Nat → Nat → Nat) (cy : Nat → ClassId) (sz : Nat) (ziv : Int32)  : Met l yX11_isYear wsX11_isYear ({ frames := 1, cells := 0, slots := 0, locals := 25 }) (va_Pc [.int ziv] (PRE dC dI cy [] sz)) (va_Qi (fun (r : Int32) (_ : Unit) => r = if 0 ≤ ziv.toInt ∧ ziv.toInt ≤ 23 then 1 else 0) (fun u t => POST dC dI cy (va_A [] sz) [] t) (va_A [] sz)) 0 0 (va_A [] sz) := by
  refine Met.ofW (cc := cX11_isYear) (maxL := 1) (ret := (some .boolean)) (by decide) rfl ?_
  intro p e s m args below meth c s₁ B hml hv
  obtain ⟨rfl, hsz, hP, hK, hD0, hN⟩ := hv
  have hx := B.exec
  have hb := B.bytes
  have hr := B.returns
  have hts := atoms_spec (ws := wsX11_isYear) B.pre
  have hown : s.vm.findClass RX11 = some m.cls := findClass_of_methodNamed B.named
  have hlocks := B.notSynchronized
  subst hsz
  have hD := hD0.self (sz := s.heap.size)
  generalize hAe : va_A [] s.heap.size = A at hD ⊢
  have hA : ∀ q : Nat, s.heap.size ≤ q → A q := fun q h => by rw [← hAe]; exact Or.inr h
  have hS : va_S A s.heap s.heap [] := va_S.rf
  have hP : va_P (dC, dI) vwCl [] s.heap := hP
  have hl := lv_entry ([.int ziv] : List Value) (n := 1) (Nat.le_of_ble_eq_true rfl)
  rw [lg_entry_eq]
  generalize (lg_sl ([.int ziv] : List Value) ++ List.replicate (1 - (lg_sl ([.int ziv] : List Value)).length) Slot.unset).toArray = ls at hl ⊢
  have hl : lv_has ls 1 [(0, .int ziv)] := hl
  refine lv_iload_n hx hb dX11_isYear_0 rfl (lv_at hl 0 rfl) ?_
  refine lv_i2l (v := ziv.toInt64) hx hb dX11_isYear_1 rfl ?_
  refine lv_lconst (v := 0) hx hb dX11_isYear_2 (by decide) ?_
  refine lv_ldc2 (v := 23) hx hb hown (hts (.constantLong RX11 68 23) (by decide +kernel)) dX11_isYear_3 ?_
  refine cj_i (wc := []) (wr := []) (w1 := fun (_ : Unit) => []) (va_runS (As := [.long ziv.toInt64, .long 0, .long 23]) (rest := []) ⟨hx, hb, hml, hown, hts⟩ (c_X11_in l dC dI cy s.heap.size ziv.toInt64 0 23 0 23 ziv.toInt (by first | rfl | decide | omega | exact Int32.toInt_toInt64 _) (by first | rfl | decide | omega | exact Int32.toInt_toInt64 _) (by first | rfl | decide | omega | exact Int32.toInt_toInt64 _)) (va_cwS 3 hts gX11_isYear_X11_in rfl rfl rfl (by decide +kernel) ⟨(Nat.le_of_ble_eq_true rfl), (Nat.le_of_ble_eq_true rfl)⟩) (PRE.s (hP.sub [] rfl) hK (hD.sub [] (by decide) rfl) hN) rfl rfl hl.1 rfl (lv_room (Nat.le_of_ble_eq_true rfl)) dX11_isYear_6 ⟨(Nat.le_of_ble_eq_true rfl), (Nat.le_of_ble_eq_true rfl)⟩) hP hD hS hA [] [] rfl rfl rfl (by decide) (fun r_2 u_1 H locs hw_3 hP hD hS => ?_)
  have hP : va_P (dC, dI) vwCl [] H := hP
  have hD : va_D A [] := hD
  have hw_3 : r_2 = if 0 ≤ ziv.toInt ∧ ziv.toInt ≤ 23 then 1 else 0 := hw_3
  have hP9 := hP.sub (ws' := []) [] rfl
  have hD9 := hD.sub (ws' := []) [] (by decide) rfl
  exact W.zret (v := r_2) hx hb hr (zb_n hw_3) (fun t ht hW => ⟨⟨r_2, (), rfl, hw_3, ⟨by rw [ht]; exact hP9, va_K.moved hW.alike hK, hD9⟩⟩, hS.F ht⟩) hS.2.2 dX11_isYear_9
set_option maxHeartbeats 4000000 in
set_option maxRecDepth 100000 in
theorem c_X11_isCandle (l : Launch) (dC : Nat → ClassId) (dI : Nat → Nat → Nat) (cy : Nat → ClassId) (sz : Nat) (ziv : Int32)  : Met l yX11_isCandle wsX11_isCandle ({ frames := 1, cells := 0, slots := 0, locals := 25 }) (va_Pc [.int ziv] (PRE dC dI cy [] sz)) (va_Qi (fun (r : Int32) (_ : Unit) => r = if 0 ≤ ziv.toInt ∧ ziv.toInt ≤ 1 then 1 else 0) (fun u t => POST dC dI cy (va_A [] sz) [] t) (va_A [] sz)) 0 0 (va_A [] sz) := by
  refine Met.ofW (cc := cX11_isCandle) (maxL := 1) (ret := (some .boolean)) (by decide) rfl ?_
  intro p e s m args below meth c s₁ B hml hv
  obtain ⟨rfl, hsz, hP, hK, hD0, hN⟩ := hv
  have hx := B.exec
  have hb := B.bytes
  have hr := B.returns
  have hts := atoms_spec (ws := wsX11_isCandle) B.pre
  have hown : s.vm.findClass RX11 = some m.cls := findClass_of_methodNamed B.named
  have hlocks := B.notSynchronized
  subst hsz
  have hD := hD0.self (sz := s.heap.size)
  generalize hAe : va_A [] s.heap.size = A at hD ⊢
  have hA : ∀ q : Nat, s.heap.size ≤ q → A q := fun q h => by rw [← hAe]; exact Or.inr h
  have hS : va_S A s.heap s.heap [] := va_S.rf
  have hP : va_P (dC, dI) vwCl [] s.heap := hP
  have hl := lv_entry ([.int ziv] : List Value) (n := 1) (Nat.le_of_ble_eq_true rfl)
  rw [lg_entry_eq]
  generalize (lg_sl ([.int ziv] : List Value) ++ List.replicate (1 - (lg_sl ([.int ziv] : List Value)).length) Slot.unset).toArray = ls at hl ⊢
  have hl : lv_has ls 1 [(0, .int ziv)] := hl
  refine lv_iload_n hx hb dX11_isCandle_0 rfl (lv_at hl 0 rfl) ?_
  refine lv_i2l (v := ziv.toInt64) hx hb dX11_isCandle_1 rfl ?_
  refine lv_lconst (v := 0) hx hb dX11_isCandle_2 (by decide) ?_
  refine lv_lconst (v := 1) hx hb dX11_isCandle_3 (by decide) ?_
  refine cj_i (wc := []) (wr := []) (w1 := fun (_ : Unit) => []) (va_runS (As := [.long ziv.toInt64, .long 0, .long 1]) (rest := []) ⟨hx, hb, hml, hown, hts⟩ (c_X11_in l dC dI cy s.heap.size ziv.toInt64 0 1 0 1 ziv.toInt (by first | rfl | decide | omega | exact Int32.toInt_toInt64 _) (by first | rfl | decide | omega | exact Int32.toInt_toInt64 _) (by first | rfl | decide | omega | exact Int32.toInt_toInt64 _)) (va_cwS 3 hts gX11_isCandle_X11_in rfl rfl rfl (by decide +kernel) ⟨(Nat.le_of_ble_eq_true rfl), (Nat.le_of_ble_eq_true rfl)⟩) (PRE.s (hP.sub [] rfl) hK (hD.sub [] (by decide) rfl) hN) rfl rfl hl.1 rfl (lv_room (Nat.le_of_ble_eq_true rfl)) dX11_isCandle_4 ⟨(Nat.le_of_ble_eq_true rfl), (Nat.le_of_ble_eq_true rfl)⟩) hP hD hS hA [] [] rfl rfl rfl (by decide) (fun r_2 u_1 H locs hw_3 hP hD hS => ?_)
  have hP : va_P (dC, dI) vwCl [] H := hP
  have hD : va_D A [] := hD
  have hw_3 : r_2 = if 0 ≤ ziv.toInt ∧ ziv.toInt ≤ 1 then 1 else 0 := hw_3
  have hP9 := hP.sub (ws' := []) [] rfl
  have hD9 := hD.sub (ws' := []) [] (by decide) rfl
  exact W.zret (v := r_2) hx hb hr (zb_n hw_3) (fun t ht hW => ⟨⟨r_2, (), rfl, hw_3, ⟨by rw [ht]; exact hP9, va_K.moved hW.alike hK, hD9⟩⟩, hS.F ht⟩) hS.2.2 dX11_isCandle_7
set_option maxHeartbeats 4000000 in
set_option maxRecDepth 100000 in
theorem c_X11_isSheet (l : Launch) (dC : Nat → ClassId) (dI : Nat → Nat → Nat) (cy : Nat → ClassId) (sz : Nat) (ziv : Int32) (ziw : Int32)  : Met l yX11_isSheet wsX11_isSheet ({ frames := 1, cells := 0, slots := 0, locals := 25 }) (va_Pc [.int ziv, .int ziw] (PRE dC dI cy [] sz)) (va_Qi (fun (r : Int32) (_ : Unit) => r = if (0 ≤ ziv.toInt ∧ ziv.toInt ≤ 3) ∧ 0 ≤ ziw.toInt ∧ ziw.toInt ≤ 2 then 1 else 0) (fun u t => POST dC dI cy (va_A [] sz) [] t) (va_A [] sz)) 0 0 (va_A [] sz) := by
  refine Met.ofW (cc := cX11_isSheet) (maxL := 2) (ret := (some .boolean)) (by decide) rfl ?_
  intro p e s m args below meth c s₁ B hml hv
  obtain ⟨rfl, hsz, hP, hK, hD0, hN⟩ := hv
  have hx := B.exec
  have hb := B.bytes
  have hr := B.returns
  have hts := atoms_spec (ws := wsX11_isSheet) B.pre
  have hown : s.vm.findClass RX11 = some m.cls := findClass_of_methodNamed B.named
  have hlocks := B.notSynchronized
  subst hsz
  have hD := hD0.self (sz := s.heap.size)
  generalize hAe : va_A [] s.heap.size = A at hD ⊢
  have hA : ∀ q : Nat, s.heap.size ≤ q → A q := fun q h => by rw [← hAe]; exact Or.inr h
  have hS : va_S A s.heap s.heap [] := va_S.rf
  have hP : va_P (dC, dI) vwCl [] s.heap := hP
  have hl := lv_entry ([.int ziv, .int ziw] : List Value) (n := 2) (Nat.le_of_ble_eq_true rfl)
  rw [lg_entry_eq]
  generalize (lg_sl ([.int ziv, .int ziw] : List Value) ++ List.replicate (2 - (lg_sl ([.int ziv, .int ziw] : List Value)).length) Slot.unset).toArray = ls at hl ⊢
  have hl : lv_has ls 2 [(0, .int ziv), (1, .int ziw)] := hl
  refine lv_iload_n hx hb dX11_isSheet_0 rfl (lv_at hl 0 rfl) ?_
  refine lv_i2l (v := ziv.toInt64) hx hb dX11_isSheet_1 rfl ?_
  refine lv_lconst (v := 0) hx hb dX11_isSheet_2 (by decide) ?_
  refine lv_ldc2 (v := 3) hx hb hown (hts (.constantLong RX11 346 3) (by decide +kernel)) dX11_isSheet_3 ?_
  refine cj_i (wc := []) (wr := []) (w1 := fun (_ : Unit) => []) (va_runS (As := [.long ziv.toInt64, .long 0, .long 3]) (rest := []) ⟨hx, hb, hml, hown, hts⟩ (c_X11_in l dC dI cy s.heap.size ziv.toInt64 0 3 0 3 ziv.toInt (by first | rfl | decide | omega | exact Int32.toInt_toInt64 _) (by first | rfl | decide | omega | exact Int32.toInt_toInt64 _) (by first | rfl | decide | omega | exact Int32.toInt_toInt64 _)) (va_cwS 3 hts gX11_isSheet_X11_in rfl rfl rfl (by decide +kernel) ⟨(Nat.le_of_ble_eq_true rfl), (Nat.le_of_ble_eq_true rfl)⟩) (PRE.s (hP.sub [] rfl) hK (hD.sub [] (by decide) rfl) hN) rfl rfl hl.1 rfl (lv_room (Nat.le_of_ble_eq_true rfl)) dX11_isSheet_6 ⟨(Nat.le_of_ble_eq_true rfl), (Nat.le_of_ble_eq_true rfl)⟩) hP hD hS hA [] [] rfl rfl rfl (by decide) (fun r_2 u_1 H locs hw_3 hP hD hS => ?_)
  have hP : va_P (dC, dI) vwCl [] H := hP
  have hD : va_D A [] := hD
  have hw_3 : r_2 = if 0 ≤ ziv.toInt ∧ ziv.toInt ≤ 3 then 1 else 0 := hw_3
  refine lv_if_eq (tgt := 28) hx hb dX11_isSheet_9 (by decide) (fun c_4 => ?_) (fun c_4 => ?_)
  · have f_5 : ¬ (0 ≤ ziv.toInt ∧ ziv.toInt ≤ 3) := bz_0 hw_3 c_4
    refine lv_iconst (v := 0) hx hb dX11_isSheet_28 (by decide) ?_
    have hP9 := hP.sub (ws' := []) [] rfl
    have hD9 := hD.sub (ws' := []) [] (by decide) rfl
    exact W.zret (v := 0) hx hb hr rfl (fun t ht hW => ⟨⟨0, (), rfl, (if_neg (by omega)).symm, ⟨by rw [ht]; exact hP9, va_K.moved hW.alike hK, hD9⟩⟩, hS.F ht⟩) hS.2.2 dX11_isSheet_29
  · have f_5 : 0 ≤ ziv.toInt ∧ ziv.toInt ≤ 3 := bz_1 hw_3 c_4
    refine lv_iload_n hx hb dX11_isSheet_12 rfl (lv_at hl 1 rfl) ?_
    refine lv_i2l (v := ziw.toInt64) hx hb dX11_isSheet_13 rfl ?_
    refine lv_lconst (v := 0) hx hb dX11_isSheet_14 (by decide) ?_
    refine lv_ldc2 (v := 2) hx hb hown (hts (.constantLong RX11 180 2) (by decide +kernel)) dX11_isSheet_15 ?_
    refine cj_i (wc := []) (wr := []) (w1 := fun (_ : Unit) => []) (va_runS (As := [.long ziw.toInt64, .long 0, .long 2]) (rest := []) ⟨hx, hb, hml, hown, hts⟩ (c_X11_in l dC dI cy H.size ziw.toInt64 0 2 0 2 ziw.toInt (by first | rfl | decide | omega | exact Int32.toInt_toInt64 _) (by first | rfl | decide | omega | exact Int32.toInt_toInt64 _) (by first | rfl | decide | omega | exact Int32.toInt_toInt64 _)) (va_cwS 3 hts gX11_isSheet_X11_in rfl rfl rfl (by decide +kernel) ⟨(Nat.le_of_ble_eq_true rfl), (Nat.le_of_ble_eq_true rfl)⟩) (PRE.s (hP.sub [] rfl) hK (hD.sub [] (by decide) rfl) hN) rfl rfl hl.1 rfl (lv_room (Nat.le_of_ble_eq_true rfl)) dX11_isSheet_18 ⟨(Nat.le_of_ble_eq_true rfl), (Nat.le_of_ble_eq_true rfl)⟩) hP hD hS hA [] [] rfl rfl rfl (by decide) (fun r_7 u_6 H locs hw_8 hP hD hS => ?_)
    have hP : va_P (dC, dI) vwCl [] H := hP
    have hD : va_D A [] := hD
    have hw_8 : r_7 = if 0 ≤ ziw.toInt ∧ ziw.toInt ≤ 2 then 1 else 0 := hw_8
    refine lv_if_eq (tgt := 28) hx hb dX11_isSheet_21 (by decide) (fun c_9 => ?_) (fun c_9 => ?_)
    · have f_10 : ¬ (0 ≤ ziw.toInt ∧ ziw.toInt ≤ 2) := bz_0 hw_8 c_9
      refine lv_iconst (v := 0) hx hb dX11_isSheet_28 (by decide) ?_
      have hP9 := hP.sub (ws' := []) [] rfl
      have hD9 := hD.sub (ws' := []) [] (by decide) rfl
      exact W.zret (v := 0) hx hb hr rfl (fun t ht hW => ⟨⟨0, (), rfl, (if_neg (by omega)).symm, ⟨by rw [ht]; exact hP9, va_K.moved hW.alike hK, hD9⟩⟩, hS.F ht⟩) hS.2.2 dX11_isSheet_29
    · have f_10 : 0 ≤ ziw.toInt ∧ ziw.toInt ≤ 2 := bz_1 hw_8 c_9
      refine lv_iconst (v := 1) hx hb dX11_isSheet_24 (by decide) ?_
      refine lv_goto (tgt := 29) hx hb dX11_isSheet_25 (by decide) ?_
      have hP9 := hP.sub (ws' := []) [] rfl
      have hD9 := hD.sub (ws' := []) [] (by decide) rfl
      exact W.zret (v := 1) hx hb hr rfl (fun t ht hW => ⟨⟨1, (), rfl, (if_pos (by omega)).symm, ⟨by rw [ht]; exact hP9, va_K.moved hW.alike hK, hD9⟩⟩, hS.F ht⟩) hS.2.2 dX11_isSheet_29
set_option maxHeartbeats 4000000 in
set_option maxRecDepth 100000 in
theorem c_X11_mayRain (l : Launch) (dC : Nat → ClassId) (dI : Nat → Nat → Nat) (cy : Nat → ClassId) (sz : Nat) (ziv : Int32) (ziw : Int32)  : Met l yX11_mayRain wsX11_mayRain ({ frames := 1, cells := 0, slots := 0, locals := 25 }) (va_Pc [.int ziv, .int ziw] (PRE dC dI cy [] sz)) (va_Qi (fun (r : Int32) (_ : Unit) => r = if (0 ≤ ziv.toInt ∧ ziv.toInt ≤ 2) ∧ ((ziv.toInt = 1 ∧ -20 ≤ ziw.toInt ∧ ziw.toInt ≤ 20) ∨ (¬ ziv.toInt = 1 ∧ 0 ≤ ziw.toInt ∧ ziw.toInt ≤ 9)) then 1 else 0) (fun u t => POST dC dI cy (va_A [] sz) [] t) (va_A [] sz)) 0 0 (va_A [] sz) := by
  refine Met.ofW (cc := cX11_mayRain) (maxL := 2) (ret := (some .boolean)) (by decide) rfl ?_
  intro p e s m args below meth c s₁ B hml hv
  obtain ⟨rfl, hsz, hP, hK, hD0, hN⟩ := hv
  have hx := B.exec
  have hb := B.bytes
  have hr := B.returns
  have hts := atoms_spec (ws := wsX11_mayRain) B.pre
  have hown : s.vm.findClass RX11 = some m.cls := findClass_of_methodNamed B.named
  have hlocks := B.notSynchronized
  subst hsz
  have hD := hD0.self (sz := s.heap.size)
  generalize hAe : va_A [] s.heap.size = A at hD ⊢
  have hA : ∀ q : Nat, s.heap.size ≤ q → A q := fun q h => by rw [← hAe]; exact Or.inr h
  have hS : va_S A s.heap s.heap [] := va_S.rf
  have hP : va_P (dC, dI) vwCl [] s.heap := hP
  have hl := lv_entry ([.int ziv, .int ziw] : List Value) (n := 2) (Nat.le_of_ble_eq_true rfl)
  rw [lg_entry_eq]
  generalize (lg_sl ([.int ziv, .int ziw] : List Value) ++ List.replicate (2 - (lg_sl ([.int ziv, .int ziw] : List Value)).length) Slot.unset).toArray = ls at hl ⊢
  have hl : lv_has ls 2 [(0, .int ziv), (1, .int ziw)] := hl
  refine lv_iload_n hx hb dX11_mayRain_0 rfl (lv_at hl 0 rfl) ?_
  refine lv_if_eq (tgt := 9) hx hb dX11_mayRain_1 (by decide) (fun c_1 => ?_) (fun c_1 => ?_)
  · have f_2 : ziv.toInt = 0 := ic_eq (rfl) (by decide) c_1
    refine lv_iload_n hx hb dX11_mayRain_9 rfl (lv_at hl 1 rfl) ?_
    refine lv_i2l (v := ziw.toInt64) hx hb dX11_mayRain_10 rfl ?_
    refine lv_lconst (v := 0) hx hb dX11_mayRain_11 (by decide) ?_
    refine lv_ldc2 (v := 9) hx hb hown (hts (.constantLong RX11 74 9) (by decide +kernel)) dX11_mayRain_12 ?_
    refine cj_i (wc := []) (wr := []) (w1 := fun (_ : Unit) => []) (va_runS (As := [.long ziw.toInt64, .long 0, .long 9]) (rest := []) ⟨hx, hb, hml, hown, hts⟩ (c_X11_in l dC dI cy s.heap.size ziw.toInt64 0 9 0 9 ziw.toInt (by first | rfl | decide | omega | exact Int32.toInt_toInt64 _) (by first | rfl | decide | omega | exact Int32.toInt_toInt64 _) (by first | rfl | decide | omega | exact Int32.toInt_toInt64 _)) (va_cwS 3 hts gX11_mayRain_X11_in rfl rfl rfl (by decide +kernel) ⟨(Nat.le_of_ble_eq_true rfl), (Nat.le_of_ble_eq_true rfl)⟩) (PRE.s (hP.sub [] rfl) hK (hD.sub [] (by decide) rfl) hN) rfl rfl hl.1 rfl (lv_room (Nat.le_of_ble_eq_true rfl)) dX11_mayRain_15 ⟨(Nat.le_of_ble_eq_true rfl), (Nat.le_of_ble_eq_true rfl)⟩) hP hD hS hA [] [] rfl rfl rfl (by decide) (fun r_4 u_3 H locs hw_5 hP hD hS => ?_)
    have hP : va_P (dC, dI) vwCl [] H := hP
    have hD : va_D A [] := hD
    have hw_5 : r_4 = if 0 ≤ ziw.toInt ∧ ziw.toInt ≤ 9 then 1 else 0 := hw_5
    refine lv_goto (tgt := 45) hx hb dX11_mayRain_18 (by decide) ?_
    have hP9 := hP.sub (ws' := []) [] rfl
    have hD9 := hD.sub (ws' := []) [] (by decide) rfl
    exact W.zret (v := r_4) hx hb hr (zb_n hw_5) (fun t ht hW => ⟨⟨r_4, (), rfl, (bz_2 hw_5 (by omega)), ⟨by rw [ht]; exact hP9, va_K.moved hW.alike hK, hD9⟩⟩, hS.F ht⟩) hS.2.2 dX11_mayRain_45
  · have f_2 : ¬ (ziv.toInt = 0) := ic_neq (rfl) (by decide) c_1
    refine lv_iload_n hx hb dX11_mayRain_4 rfl (lv_at hl 0 rfl) ?_
    refine lv_iconst (v := 2) hx hb dX11_mayRain_5 (by decide) ?_
    refine lv_icmp_ne (tgt := 21) hx hb dX11_mayRain_6 (by decide) (fun c_6 => ?_) (fun c_6 => ?_)
    · have f_7 : ziv.toInt ≠ (2 : Int) := ic_ne (rfl) (show (2 : Int32).toInt = 2 by decide) c_6
      refine lv_iload_n hx hb dX11_mayRain_21 rfl (lv_at hl 0 rfl) ?_
      refine lv_iconst (v := 1) hx hb dX11_mayRain_22 (by decide) ?_
      refine lv_icmp_ne (tgt := 44) hx hb dX11_mayRain_23 (by decide) (fun c_8 => ?_) (fun c_8 => ?_)
      · have f_9 : ziv.toInt ≠ (1 : Int) := ic_ne (rfl) (show (1 : Int32).toInt = 1 by decide) c_8
        refine lv_iconst (v := 0) hx hb dX11_mayRain_44 (by decide) ?_
        have hP9 := hP.sub (ws' := []) [] rfl
        have hD9 := hD.sub (ws' := []) [] (by decide) rfl
        exact W.zret (v := 0) hx hb hr rfl (fun t ht hW => ⟨⟨0, (), rfl, (if_neg (by omega)).symm, ⟨by rw [ht]; exact hP9, va_K.moved hW.alike hK, hD9⟩⟩, hS.F ht⟩) hS.2.2 dX11_mayRain_45
      · have f_9 : ¬ (ziv.toInt ≠ (1 : Int)) := ic_nne (rfl) (show (1 : Int32).toInt = 1 by decide) c_8
        refine lv_iload_n hx hb dX11_mayRain_26 rfl (lv_at hl 1 rfl) ?_
        refine lv_i2l (v := ziw.toInt64) hx hb dX11_mayRain_27 rfl ?_
        refine lv_ldc2 (v := (-20)) hx hb hown (hts (.constantLong RX11 76 (-20)) (by decide +kernel)) dX11_mayRain_28 ?_
        refine lv_ldc2 (v := 20) hx hb hown (hts (.constantLong RX11 78 20) (by decide +kernel)) dX11_mayRain_31 ?_
        refine cj_i (wc := []) (wr := []) (w1 := fun (_ : Unit) => []) (va_runS (As := [.long ziw.toInt64, .long (-20), .long 20]) (rest := []) ⟨hx, hb, hml, hown, hts⟩ (c_X11_in l dC dI cy s.heap.size ziw.toInt64 (-20) 20 (-20) 20 ziw.toInt (by first | rfl | decide | omega | exact Int32.toInt_toInt64 _) (by first | rfl | decide | omega | exact Int32.toInt_toInt64 _) (by first | rfl | decide | omega | exact Int32.toInt_toInt64 _)) (va_cwS 3 hts gX11_mayRain_X11_in rfl rfl rfl (by decide +kernel) ⟨(Nat.le_of_ble_eq_true rfl), (Nat.le_of_ble_eq_true rfl)⟩) (PRE.s (hP.sub [] rfl) hK (hD.sub [] (by decide) rfl) hN) rfl rfl hl.1 rfl (lv_room (Nat.le_of_ble_eq_true rfl)) dX11_mayRain_34 ⟨(Nat.le_of_ble_eq_true rfl), (Nat.le_of_ble_eq_true rfl)⟩) hP hD hS hA [] [] rfl rfl rfl (by decide) (fun r_11 u_10 H locs hw_12 hP hD hS => ?_)
        have hP : va_P (dC, dI) vwCl [] H := hP
        have hD : va_D A [] := hD
        have hw_12 : r_11 = if (-20) ≤ ziw.toInt ∧ ziw.toInt ≤ 20 then 1 else 0 := hw_12
        refine lv_if_eq (tgt := 44) hx hb dX11_mayRain_37 (by decide) (fun c_13 => ?_) (fun c_13 => ?_)
        · have f_14 : ¬ ((-20) ≤ ziw.toInt ∧ ziw.toInt ≤ 20) := bz_0 hw_12 c_13
          refine lv_iconst (v := 0) hx hb dX11_mayRain_44 (by decide) ?_
          have hP9 := hP.sub (ws' := []) [] rfl
          have hD9 := hD.sub (ws' := []) [] (by decide) rfl
          exact W.zret (v := 0) hx hb hr rfl (fun t ht hW => ⟨⟨0, (), rfl, (if_neg (by omega)).symm, ⟨by rw [ht]; exact hP9, va_K.moved hW.alike hK, hD9⟩⟩, hS.F ht⟩) hS.2.2 dX11_mayRain_45
        · have f_14 : (-20) ≤ ziw.toInt ∧ ziw.toInt ≤ 20 := bz_1 hw_12 c_13
          refine lv_iconst (v := 1) hx hb dX11_mayRain_40 (by decide) ?_
          refine lv_goto (tgt := 45) hx hb dX11_mayRain_41 (by decide) ?_
          have hP9 := hP.sub (ws' := []) [] rfl
          have hD9 := hD.sub (ws' := []) [] (by decide) rfl
          exact W.zret (v := 1) hx hb hr rfl (fun t ht hW => ⟨⟨1, (), rfl, (if_pos (by omega)).symm, ⟨by rw [ht]; exact hP9, va_K.moved hW.alike hK, hD9⟩⟩, hS.F ht⟩) hS.2.2 dX11_mayRain_45
    · have f_7 : ¬ (ziv.toInt ≠ (2 : Int)) := ic_nne (rfl) (show (2 : Int32).toInt = 2 by decide) c_6
      refine lv_iload_n hx hb dX11_mayRain_9 rfl (lv_at hl 1 rfl) ?_
      refine lv_i2l (v := ziw.toInt64) hx hb dX11_mayRain_10 rfl ?_
      refine lv_lconst (v := 0) hx hb dX11_mayRain_11 (by decide) ?_
      refine lv_ldc2 (v := 9) hx hb hown (hts (.constantLong RX11 74 9) (by decide +kernel)) dX11_mayRain_12 ?_
      refine cj_i (wc := []) (wr := []) (w1 := fun (_ : Unit) => []) (va_runS (As := [.long ziw.toInt64, .long 0, .long 9]) (rest := []) ⟨hx, hb, hml, hown, hts⟩ (c_X11_in l dC dI cy s.heap.size ziw.toInt64 0 9 0 9 ziw.toInt (by first | rfl | decide | omega | exact Int32.toInt_toInt64 _) (by first | rfl | decide | omega | exact Int32.toInt_toInt64 _) (by first | rfl | decide | omega | exact Int32.toInt_toInt64 _)) (va_cwS 3 hts gX11_mayRain_X11_in rfl rfl rfl (by decide +kernel) ⟨(Nat.le_of_ble_eq_true rfl), (Nat.le_of_ble_eq_true rfl)⟩) (PRE.s (hP.sub [] rfl) hK (hD.sub [] (by decide) rfl) hN) rfl rfl hl.1 rfl (lv_room (Nat.le_of_ble_eq_true rfl)) dX11_mayRain_15 ⟨(Nat.le_of_ble_eq_true rfl), (Nat.le_of_ble_eq_true rfl)⟩) hP hD hS hA [] [] rfl rfl rfl (by decide) (fun r_16 u_15 H locs hw_17 hP hD hS => ?_)
      have hP : va_P (dC, dI) vwCl [] H := hP
      have hD : va_D A [] := hD
      have hw_17 : r_16 = if 0 ≤ ziw.toInt ∧ ziw.toInt ≤ 9 then 1 else 0 := hw_17
      refine lv_goto (tgt := 45) hx hb dX11_mayRain_18 (by decide) ?_
      have hP9 := hP.sub (ws' := []) [] rfl
      have hD9 := hD.sub (ws' := []) [] (by decide) rfl
      exact W.zret (v := r_16) hx hb hr (zb_n hw_17) (fun t ht hW => ⟨⟨r_16, (), rfl, (bz_2 hw_17 (by omega)), ⟨by rw [ht]; exact hP9, va_K.moved hW.alike hK, hD9⟩⟩, hS.F ht⟩) hS.2.2 dX11_mayRain_45
