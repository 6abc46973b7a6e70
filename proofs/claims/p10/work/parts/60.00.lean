set_option maxHeartbeats 4000000 in
set_option maxRecDepth 100000 in
theorem c_X11_in (l : Launch) (dC : Nat → ClassId) (dI : Nat → Nat → Nat) (cy : Nat → ClassId) (sz : Nat) (zjv : Int64) (zjl : Int64) (zjh : Int64) (za : Int) (zb : Int) (zc : Int) (ea : zjl.toInt = za) (eb : zjh.toInt = zb) (ec : zjv.toInt = zc) : Met l yX11_in wsX11_in ({ frames := 0, cells := 0, slots := 0, locals := 0 }) (va_Pc [.long zjv, .long zjl, .long zjh] (PRE dC dI cy [] sz)) (va_Qi (fun (r : Int32) (_ : Unit) => r = if za ≤ zc ∧ zc ≤ zb then 1 else 0) (fun u t => POST dC dI cy (va_A [] sz) [] t) (va_A [] sz)) 0 0 (va_A [] sz) := by
  refine Met.ofW (cc := cX11_in) (maxL := 6) (ret := (some .boolean)) (by decide) rfl ?_
  intro p e s m args below meth c s₁ B hml hv
  obtain ⟨rfl, hsz, hP, hK, hD0, hN⟩ := hv
  have hx := B.exec
  have hb := B.bytes
  have hr := B.returns
  have hts := atoms_spec (ws := wsX11_in) B.pre
  have hown : s.vm.findClass RX11 = some m.cls := findClass_of_methodNamed B.named
  have hlocks := B.notSynchronized
  subst hsz
  have hD := hD0.self (sz := s.heap.size)
  generalize hAe : va_A [] s.heap.size = A at hD ⊢
  have hA : ∀ q : Nat, s.heap.size ≤ q → A q := fun q h => by rw [← hAe]; exact Or.inr h
  have hS : va_S A s.heap s.heap [] := va_S.rf
  have hP : va_P (dC, dI) vwCl [] s.heap := hP
  have hl := lv_entry ([.long zjv, .long zjl, .long zjh] : List Value) (n := 6) (Nat.le_of_ble_eq_true rfl)
  rw [lg_entry_eq]
  generalize (lg_sl ([.long zjv, .long zjl, .long zjh] : List Value) ++ List.replicate (6 - (lg_sl ([.long zjv, .long zjl, .long zjh] : List Value)).length) Slot.unset).toArray = ls at hl ⊢
  have hl : lv_has ls 6 [(0, .long zjv), (2, .long zjl), (4, .long zjh)] := hl
  refine lv_lload_n hx hb dX11_in_0 rfl (lv_at hl 0 rfl) ?_
  refine lv_lload_n hx hb dX11_in_1 rfl (lv_at hl 1 rfl) ?_
  refine W.lcmp hx hb dX11_in_2 ?_
  refine lv_topi (fun v_1 ev_1 => ?_)
  refine lv_if_lt (tgt := 17) hx hb dX11_in_3 (by decide) (fun c_2 => ?_) (fun c_2 => ?_)
  · have f_3 : zjv.toInt < zjl.toInt := lc_lt ev_1 c_2
    refine lv_iconst (v := 0) hx hb dX11_in_17 (by decide) ?_
    have hP9 := hP.sub (ws' := []) [] rfl
    have hD9 := hD.sub (ws' := []) [] (by decide) rfl
    exact W.zret (v := 0) hx hb hr rfl (fun t ht hW => ⟨⟨0, (), rfl, (if_neg (by omega)).symm, ⟨by rw [ht]; exact hP9, va_K.moved hW.alike hK, hD9⟩⟩, hS.F ht⟩) hS.2.2 dX11_in_18
  · have f_3 : ¬ (zjv.toInt < zjl.toInt) := lc_nlt ev_1 c_2
    refine lv_lload_n hx hb dX11_in_6 rfl (lv_at hl 0 rfl) ?_
    refine lv_lload hx hb dX11_in_7 (lv_at hl 2 rfl) ?_
    refine W.lcmp hx hb dX11_in_9 ?_
    refine lv_topi (fun v_4 ev_4 => ?_)
    refine lv_if_gt (tgt := 17) hx hb dX11_in_10 (by decide) (fun c_5 => ?_) (fun c_5 => ?_)
    · have f_6 : zjv.toInt > zjh.toInt := lc_gt ev_4 c_5
      refine lv_iconst (v := 0) hx hb dX11_in_17 (by decide) ?_
      have hP9 := hP.sub (ws' := []) [] rfl
      have hD9 := hD.sub (ws' := []) [] (by decide) rfl
      exact W.zret (v := 0) hx hb hr rfl (fun t ht hW => ⟨⟨0, (), rfl, (if_neg (by omega)).symm, ⟨by rw [ht]; exact hP9, va_K.moved hW.alike hK, hD9⟩⟩, hS.F ht⟩) hS.2.2 dX11_in_18
    · have f_6 : ¬ (zjv.toInt > zjh.toInt) := lc_ngt ev_4 c_5
      refine lv_iconst (v := 1) hx hb dX11_in_13 (by decide) ?_
      refine lv_goto (tgt := 18) hx hb dX11_in_14 (by decide) ?_
      have hP9 := hP.sub (ws' := []) [] rfl
      have hD9 := hD.sub (ws' := []) [] (by decide) rfl
      exact W.zret (v := 1) hx hb hr rfl (fun t ht hW => ⟨⟨1, (), rfl, (if_pos (by omega)).symm, ⟨by rw [ht]; exact hP9, va_K.moved hW.alike hK, hD9⟩⟩, hS.F ht⟩) hS.2.2 dX11_in_18
set_option maxHeartbeats 4000000 in
set_option maxRecDepth 100000 in
theorem c_X11_isYear (l : Launch) (dC : Nat → ClassId) (dI : Nat → Nat → Nat) (cy : Nat → ClassId) (sz : Nat) (ziv : Int32)  : Met l yX11_isYear wsX11_isYear ({ frames := 1, cells := 0, slots := 0, locals := 25 }) (va_Pc [.int ziv] (PRE dC dI cy [] sz)) (va_Qi (fun (r : Int32) (_ : Unit) => r = if 0 ≤ ziv.toInt ∧ ziv.toInt ≤ 23 then 1 else 0) (fun u t => POST dC dI cy (va_A [] sz) [] t) (va_A [] sz)) 0 0 (va_A [] sz) := by
  refine Met.ofW (cc := cX11_isYear) (maxL := 1) (ret := (some .boolean)) (by decide) rfl ?_
  intro p e s m args below meth c s₁ B hml hv
  obtain ⟨rfl, hsz, hP, hK, hD0, hN⟩ := hv
  have hx := B.exec
  have hb := B.bytes
  have hr := B.returns
  have hts := atoms_spec (ws := wsX11_isYear) B.pre
  have hown : s.vm.findClass RX11 = some m.cls := findClass_of_methodNamed B.named
  have hlocks := B.notSynchronized
  subst hsz
  have hD := hD0.self (sz := s.heap.size)
  generalize hAe : va_A [] s.heap.size = A at hD ⊢
  have hA : ∀ q : Nat, s.heap.size ≤ q → A q := fun q h => by rw [← hAe]; exact Or.inr h
  have hS : va_S A s.heap s.heap [] := va_S.rf
  have hP : va_P (dC, dI) vwCl [] s.heap := hP
  have hl := lv_entry ([.int ziv] : List Value) (n := 1) (Nat.le_of_ble_eq_true rfl)
  rw [lg_entry_eq]
  generalize (lg_sl ([.int ziv] : List Value) ++ List.replicate (1 - (lg_sl ([.int ziv] : List Value)).length) Slot.unset).toArray = ls at hl ⊢
  have hl : lv_has ls 1 [(0, .int ziv)] := hl
  refine lv_iload_n hx hb dX11_isYear_0 rfl (lv_at hl 0 rfl) ?_
  refine lv_i2l (v := ziv.toInt64) hx hb dX11_isYear_1 rfl ?_
  refine lv_lconst (v := 0) hx hb dX11_isYear_2 (by decide) ?_
  refine lv_ldc2 (v := 23) hx hb hown (hts (.constantLong RX11 68 23) (by decide +kernel)) dX11_isYear_3 ?_
  refine cj_i (wc := []) (wr := []) (w1 := fun (_ : Unit) => []) (va_runS (As := [.long ziv.toInt64, .long 0, .long 23]) (rest := []) ⟨hx, hb, hml, hown, hts⟩ (c_X11_in l dC dI cy s.heap.size ziv.toInt64 0 23 0 23 ziv.toInt (by first | rfl | decide | omega | exact Int32.toInt_toInt64 _) (by first | rfl | decide | omega | exact Int32.toInt_toInt64 _) (by first | rfl | decide | omega | exact Int32.toInt_toInt64 _)) (va_cwS 3 hts gX11_isYear_X11_in rfl rfl rfl (by decide +kernel) ⟨(Nat.le_of_ble_eq_true rfl), (Nat.le_of_ble_eq_true rfl)⟩) (PRE.s (hP.sub [] rfl) hK (hD.sub [] (by decide) rfl) hN) rfl rfl hl.1 rfl (lv_room (Nat.le_of_ble_eq_true rfl)) dX11_isYear_6 ⟨(Nat.le_of_ble_eq_true rfl), (Nat.le_of_ble_eq_true rfl)⟩) hP hD hS hA [] [] rfl rfl rfl (by decide) (fun r_2 u_1 H locs hw_3 hP hD hS => ?_)
  have hP : va_P (dC, dI) vwCl [] H := hP
  have hD : va_D A [] := hD
  have hw_3 : r_2 = if 0 ≤ ziv.toInt ∧ ziv.toInt ≤ 23 then 1 else 0 := hw_3
  have hP9 := hP.sub (ws' := []) [] rfl
  have hD9 := hD.sub (ws' := []) [] (by decide) rfl
  exact W.zret (v := r_2) hx hb hr (zb_n hw_3) (fun t ht hW => ⟨⟨r_2, (), rfl, hw_3, ⟨by rw [ht]; exact hP9, va_K.moved hW.alike hK, hD9⟩⟩, hS.F ht⟩) hS.2.2 dX11_isYear_9
set_option maxHeartbeats 4000000 in
set_option maxRecDepth 100000 in
theorem c_X11_isCandle (l : Launch) (dC : Nat → ClassId) (dI : Nat → Nat → Nat) (cy : Nat → ClassId) (sz : Nat) (ziv : Int32)  : Met l yX11_isCandle wsX11_isCandle ({ frames := 1, cells := 0, slots := 0, locals := 25 }) (va_Pc [.int ziv] (PRE dC dI cy [] sz)) (va_Qi (fun (r : Int32) (_ : Unit) => r = if 0 ≤ ziv.toInt ∧ ziv.toInt ≤ 1 then 1 else 0) (fun u t => POST dC dI cy (va_A [] sz) [] t) (va_A [] sz)) 0 0 (va_A [] sz) := by
  refine Met.ofW (cc := cX11_isCandle) (maxL := 1) (ret := (some .boolean)) (by decide) rfl ?_
  intro p e s m args below meth c s₁ B hml hv
  obtain ⟨rfl, hsz, hP, hK, hD0, hN⟩ := hv
  have hx := B.exec
  have hb := B.bytes
  have hr := B.returns
  have hts := atoms_spec (ws := wsX11_isCandle) B.pre
  have hown : s.vm.findClass RX11 = some m.cls := findClass_of_methodNamed B.named
  have hlocks := B.notSynchronized
  subst hsz
  have hD := hD0.self (sz := s.heap.size)
  generalize hAe : va_A [] s.heap.size = A at hD ⊢
  have hA : ∀ q : Nat, s.heap.size ≤ q → A q := fun q h => by rw [← hAe]; exact Or.inr h
  have hS : va_S A s.heap s.heap [] := va_S.rf
  have hP : va_P (dC, dI) vwCl [] s.heap := hP
  have hl := lv_entry ([.int ziv] : List Value) (n := 1) (Nat.le_of_ble_eq_true rfl)
  rw [lg_entry_eq]
  generalize (lg_sl ([.int ziv] : List Value) ++ List.replicate (1 - (lg_sl ([.int ziv] : List Value)).length) Slot.unset).toArray = ls at hl ⊢
  have hl : lv_has ls 1 [(0, .int ziv)] := hl
  refine lv_iload_n hx hb dX11_isCandle_0 rfl (lv_at hl 0 rfl) ?_
  refine lv_i2l (v := ziv.toInt64) hx hb dX11_isCandle_1 rfl ?_
  refine lv_lconst (v := 0) hx hb dX11_isCandle_2 (by decide) ?_
  refine lv_lconst (v := 1) hx hb dX11_isCandle_3 (by decide) ?_
  refine cj_i (wc := []) (wr := []) (w1 := fun (_ : Unit) => []) (va_runS (As := [.long ziv.toInt64, .long 0, .long 1]) (rest := []) ⟨hx, hb, hml, hown, hts⟩ (c_X11_in l dC dI cy s.heap.size ziv.toInt64 0 1 0 1 ziv.toInt (by first | rfl | decide | omega | exact Int32.toInt_toInt64 _) (by first | rfl | decide | omega | exact Int32.toInt_toInt64 _) (by first | rfl | decide | omega | exact Int32.toInt_toInt64 _)) (va_cwS 3 hts gX11_isCandle_X11_in rfl rfl rfl (by decide +kernel) ⟨(Nat.le_of_ble_eq_true rfl), (Nat.le_of_ble_eq_true rfl)⟩) (PRE.s (hP.sub [] rfl) hK (hD.sub [] (by decide) rfl) hN) rfl rfl hl.1 rfl (lv_room (Nat.le_of_ble_eq_true rfl)) dX11_isCandle_4 ⟨(Nat.le_of_ble_eq_true rfl), (Nat.le_of_ble_eq_true rfl)⟩) hP hD hS hA [] [] rfl rfl rfl (by decide) (fun r_2 u_1 H locs hw_3 hP hD hS => ?_)
  have hP : va_P (dC, dI) vwCl [] H := hP
  have hD : va_D A [] := hD
  have hw_3 : r_2 = if 0 ≤ ziv.toInt ∧ ziv.toInt ≤ 1 then 1 else 0 := hw_3
  have hP9 := hP.sub (ws' := []) [] rfl
  have hD9 := hD.sub (ws' := []) [] (by decide) rfl
  exact W.zret (v := r_2) hx hb hr (zb_n hw_3) (fun t ht hW => ⟨⟨r_2, (), rfl, hw_3, ⟨by rw [ht]; exact hP9, va_K.moved hW.alike hK, hD9⟩⟩, hS.F ht⟩) hS.2.2 dX11_isCandle_7
set_option maxHeartbeats 4000000 in
set_option maxRecDepth 100000 in
theorem c_X11_isSheet (l : Launch) (dC : Nat → ClassId) (dI : Nat → Nat → Nat) (cy : Nat → ClassId) (sz : Nat) (ziv : Int32) (ziw : Int32)  : Met l yX11_isSheet wsX11_isSheet ({ frames := 1, cells := 0, slots := 0, locals := 25 }) (va_Pc [.int ziv, .int ziw] (PRE dC dI cy [] sz)) (va_Qi (fun (r : Int32) (_ : Unit) => r = if (0 ≤ ziv.toInt ∧ ziv.toInt ≤ 3) ∧ 0 ≤ ziw.toInt ∧ ziw.toInt ≤ 2 then 1 else 0) (fun u t => POST dC dI cy (va_A [] sz) [] t) (va_A [] sz)) 0 0 (va_A [] sz) := by
  refine Met.ofW (cc := cX11_isSheet) (maxL := 2) (ret := (some .boolean)) (by decide) rfl ?_
  intro p e s m args below meth c s₁ B hml hv
  obtain ⟨rfl, hsz, hP, hK, hD0, hN⟩ := hv
  have hx := B.exec
  have hb := B.bytes
  have hr := B.returns
  have hts := atoms_spec (ws := wsX11_isSheet) B.pre
  have hown : s.vm.findClass RX11 = some m.cls := findClass_of_methodNamed B.named
  have hlocks := B.notSynchronized
  subst hsz
  have hD := hD0.self (sz := s.heap.size)
  generalize hAe : va_A [] s.heap.size = A at hD ⊢
  have hA : ∀ q : Nat, s.heap.size ≤ q → A q := fun q h => by rw [← hAe]; exact Or.inr h
  have hS : va_S A s.heap s.heap [] := va_S.rf
  have hP : va_P (dC, dI) vwCl [] s.heap := hP
  have hl := lv_entry ([.int ziv, .int ziw] : List Value) (n := 2) (Nat.le_of_ble_eq_true rfl)
  rw [lg_entry_eq]
  generalize (lg_sl ([.int ziv, .int ziw] : List Value) ++ List.replicate (2 - (lg_sl ([.int ziv, .int ziw] : List Value)).length) Slot.unset).toArray = ls at hl ⊢
  have hl : lv_has ls 2 [(0, .int ziv), (1, .int ziw)] := hl
  refine lv_iload_n hx hb dX11_isSheet_0 rfl (lv_at hl 0 rfl) ?_
  refine lv_i2l (v := ziv.toInt64) hx hb dX11_isSheet_1 rfl ?_
  refine lv_lconst (v := 0) hx hb dX11_isSheet_2 (by decide) ?_
  refine lv_ldc2 (v := 3) hx hb hown (hts (.constantLong RX11 346 3) (by decide +kernel)) dX11_isSheet_3 ?_
  refine cj_i (wc := []) (wr := []) (w1 := fun (_ : Unit) => []) (va_runS (As := [.long ziv.toInt64, .long 0, .long 3]) (rest := []) ⟨hx, hb, hml, hown, hts⟩ (c_X11_in l dC dI cy s.heap.size ziv.toInt64 0 3 0 3 ziv.toInt (by first | rfl | decide | omega | exact Int32.toInt_toInt64 _) (by first | rfl | decide | omega | exact Int32.toInt_toInt64 _) (by first | rfl | decide | omega | exact Int32.toInt_toInt64 _)) (va_cwS 3 hts gX11_isSheet_X11_in rfl rfl rfl (by decide +kernel) ⟨(Nat.le_of_ble_eq_true rfl), (Nat.le_of_ble_eq_true rfl)⟩) (PRE.s (hP.sub [] rfl) hK (hD.sub [] (by decide) rfl) hN) rfl rfl hl.1 rfl (lv_room (Nat.le_of_ble_eq_true rfl)) dX11_isSheet_6 ⟨(Nat.le_of_ble_eq_true rfl), (Nat.le_of_ble_eq_true rfl)⟩) hP hD hS hA [] [] rfl rfl rfl (by decide) (fun r_2 u_1 H locs hw_3 hP hD hS => ?_)
  have hP : va_P (dC, dI) vwCl [] H := hP
  have hD : va_D A [] := hD
  have hw_3 : r_2 = if 0 ≤ ziv.toInt ∧ ziv.toInt ≤ 3 then 1 else 0 := hw_3
  refine lv_if_eq (tgt := 28) hx hb dX11_isSheet_9 (by decide) (fun c_4 => ?_) (fun c_4 => ?_)
  · have f_5 : ¬ (0 ≤ ziv.toInt ∧ ziv.toInt ≤ 3) := bz_0 hw_3 c_4
    refine lv_iconst (v := 0) hx hb dX11_isSheet_28 (by decide) ?_
    have hP9 := hP.sub (ws' := []) [] rfl
    have hD9 := hD.sub (ws' := []) [] (by decide) rfl
    exact W.zret (v := 0) hx hb hr rfl (fun t ht hW => ⟨⟨0, (), rfl, (if_neg (by omega)).symm, ⟨by rw [ht]; exact hP9, va_K.moved hW.alike hK, hD9⟩⟩, hS.F ht⟩) hS.2.2 dX11_isSheet_29
  · have f_5 : 0 ≤ ziv.toInt ∧ ziv.toInt ≤ 3 := bz_1 hw_3 c_4
    refine lv_iload_n hx hb dX11_isSheet_12 rfl (lv_at hl 1 rfl) ?_
    refine lv_i2l (v := ziw.toInt64) hx hb dX11_isSheet_13 rfl ?_
    refine lv_lconst (v := 0) hx hb dX11_isSheet_14 (by decide) ?_
    refine lv_ldc2 (v := 2) hx hb hown (hts (.constantLong RX11 180 2) (by decide +kernel)) dX11_isSheet_15 ?_
    refine cj_i (wc := []) (wr := []) (w1 := fun (_ : Unit) => []) (va_runS (As := [.long ziw.toInt64, .long 0, .long 2]) (rest := []) ⟨hx, hb, hml, hown, hts⟩ (c_X11_in l dC dI cy H.size ziw.toInt64 0 2 0 2 ziw.toInt (by first | rfl | decide | omega | exact Int32.toInt_toInt64 _) (by first | rfl | decide | omega | exact Int32.toInt_toInt64 _) (by first | rfl | decide | omega | exact Int32.toInt_toInt64 _)) (va_cwS 3 hts gX11_isSheet_X11_in rfl rfl rfl (by decide +kernel) ⟨(Nat.le_of_ble_eq_true rfl), (Nat.le_of_ble_eq_true rfl)⟩) (PRE.s (hP.sub [] rfl) hK (hD.sub [] (by decide) rfl) hN) rfl rfl hl.1 rfl (lv_room (Nat.le_of_ble_eq_true rfl)) dX11_isSheet_18 ⟨(Nat.le_of_ble_eq_true rfl), (Nat.le_of_ble_eq_true rfl)⟩) hP hD hS hA [] [] rfl rfl rfl (by decide) (fun r_7 u_6 H locs hw_8 hP hD hS => ?_)
    have hP : va_P (dC, dI) vwCl [] H := hP
    have hD : va_D A [] := hD
    have hw_8 : r_7 = if 0 ≤ ziw.toInt ∧ ziw.toInt ≤ 2 then 1 else 0 := hw_8
    refine lv_if_eq (tgt := 28) hx hb dX11_isSheet_21 (by decide) (fun c_9 => ?_) (fun c_9 => ?_)
    · have f_10 : ¬ (0 ≤ ziw.toInt ∧ ziw.toInt ≤ 2) := bz_0 hw_8 c_9
      refine lv_iconst (v := 0) hx hb dX11_isSheet_28 (by decide) ?_
      have hP9 := hP.sub (ws' := []) [] rfl
      have hD9 := hD.sub (ws' := []) [] (by decide) rfl
      exact W.zret (v := 0) hx hb hr rfl (fun t ht hW => ⟨⟨0, (), rfl, (if_neg (by omega)).symm, ⟨by rw [ht]; exact hP9, va_K.moved hW.alike hK, hD9⟩⟩, hS.F ht⟩) hS.2.2 dX11_isSheet_29
    · have f_10 : 0 ≤ ziw.toInt ∧ ziw.toInt ≤ 2 := bz_1 hw_8 c_9
      refine lv_iconst (v := 1) hx hb dX11_isSheet_24 (by decide) ?_
      refine lv_goto (tgt := 29) hx hb dX11_isSheet_25 (by decide) ?_
      have hP9 := hP.sub (ws' := []) [] rfl
      have hD9 := hD.sub (ws' := []) [] (by decide) rfl
      exact W.zret (v := 1) hx hb hr rfl (fun t ht hW => ⟨⟨1, (), rfl, (if_pos (by omega)).symm, ⟨by rw [ht]; exact hP9, va_K.moved hW.alike hK, hD9⟩⟩, hS.F ht⟩) hS.2.2 dX11_isSheet_29
set_option maxHeartbeats 4000000 in
set_option maxRecDepth 100000 in
theorem c_X11_mayRain (l : Launch) (dC : Nat → ClassId) (dI : Nat → Nat → Nat) (cy : Nat → ClassId) (sz : Nat) (ziv : Int32) (ziw : Int32)  : Met l yX11_mayRain wsX11_mayRain ({ frames := 1, cells := 0, slots := 0, locals := 25 }) (va_Pc [.int ziv, .int ziw] (PRE dC dI cy [] sz)) (va_Qi (fun (r : Int32) (_ : Unit) => r = if (0 ≤ ziv.toInt ∧ ziv.toInt ≤ 2) ∧ ((ziv.toInt = 1 ∧ -20 ≤ ziw.toInt ∧ ziw.toInt ≤ 20) ∨ (¬ ziv.toInt = 1 ∧ 0 ≤ ziw.toInt ∧ ziw.toInt ≤ 9)) then 1 else 0) (fun u t => POST dC dI cy (va_A [] sz) [] t) (va_A [] sz)) 0 0 (va_A [] sz) := by
  refine Met.ofW (cc := cX11_mayRain) (maxL := 2) (ret := (some .boolean)) (by decide) rfl ?_
  intro p e s m args below meth c s₁ B hml hv
  obtain ⟨rfl, hsz, hP, hK, hD0, hN⟩ := hv
  have hx := B.exec
  have hb := B.bytes
  have hr := B.returns
  have hts := atoms_spec (ws := wsX11_mayRain) B.pre
  have hown : s.vm.findClass RX11 = some m.cls := findClass_of_methodNamed B.named
  have hlocks := B.notSynchronized
  subst hsz
  have hD := hD0.self (sz := s.heap.size)
  generalize hAe : va_A [] s.heap.size = A at hD ⊢
  have hA : ∀ q : Nat, s.heap.size ≤ q → A q := fun q h => by rw [← hAe]; exact Or.inr h
  have hS : va_S A s.heap s.heap [] := va_S.rf
  have hP : va_P (dC, dI) vwCl [] s.heap := hP
  have hl := lv_entry ([.int ziv, .int ziw] : List Value) (n := 2) (Nat.le_of_ble_eq_true rfl)
  rw [lg_entry_eq]
  generalize (lg_sl ([.int ziv, .int ziw] : List Value) ++ List.replicate (2 - (lg_sl ([.int ziv, .int ziw] : List Value)).length) Slot.unset).toArray = ls at hl ⊢
  have hl : lv_has ls 2 [(0, .int ziv), (1, .int ziw)] := hl
  refine lv_iload_n hx hb dX11_mayRain_0 rfl (lv_at hl 0 rfl) ?_
  refine lv_if_eq (tgt := 9) hx hb dX11_mayRain_1 (by decide) (fun c_1 => ?_) (fun c_1 => ?_)
  · have f_2 : ziv.toInt = 0 := ic_eq (rfl) (by decide) c_1
    refine lv_iload_n hx hb dX11_mayRain_9 rfl (lv_at hl 1 rfl) ?_
    refine lv_i2l (v := ziw.toInt64) hx hb dX11_mayRain_10 rfl ?_
    refine lv_lconst (v := 0) hx hb dX11_mayRain_11 (by decide) ?_
    refine lv_ldc2 (v := 9) hx hb hown (hts (.constantLong RX11 74 9) (by decide +kernel)) dX11_mayRain_12 ?_
    refine cj_i (wc := []) (wr := []) (w1 := fun (_ : Unit) => []) (va_runS (As := [.long ziw.toInt64, .long 0, .long 9]) (rest := []) ⟨hx, hb, hml, hown, hts⟩ (c_X11_in l dC dI cy s.heap.size ziw.toInt64 0 9 0 9 ziw.toInt (by first | rfl | decide | omega | exact Int32.toInt_toInt64 _) (by first | rfl | decide | omega | exact Int32.toInt_toInt64 _) (by first | rfl | decide | omega | exact Int32.toInt_toInt64 _)) (va_cwS 3 hts gX11_mayRain_X11_in rfl rfl rfl (by decide +kernel) ⟨(Nat.le_of_ble_eq_true rfl), (Nat.le_of_ble_eq_true rfl)⟩) (PRE.s (hP.sub [] rfl) hK (hD.sub [] (by decide) rfl) hN) rfl rfl hl.1 rfl (lv_room (Nat.le_of_ble_eq_true rfl)) dX11_mayRain_15 ⟨(Nat.le_of_ble_eq_true rfl), (Nat.le_of_ble_eq_true rfl)⟩) hP hD hS hA [] [] rfl rfl rfl (by decide) (fun r_4 u_3 H locs hw_5 hP hD hS => ?_)
    have hP : va_P (dC, dI) vwCl [] H := hP
    have hD : va_D A [] := hD
    have hw_5 : r_4 = if 0 ≤ ziw.toInt ∧ ziw.toInt ≤ 9 then 1 else 0 := hw_5
    refine lv_goto (tgt := 45) hx hb dX11_mayRain_18 (by decide) ?_
    have hP9 := hP.sub (ws' := []) [] rfl
    have hD9 := hD.sub (ws' := []) [] (by decide) rfl
    exact W.zret (v := r_4) hx hb hr (zb_n hw_5) (fun t ht hW => ⟨⟨r_4, (), rfl, (bz_2 hw_5 (by omega)), ⟨by rw [ht]; exact hP9, va_K.moved hW.alike hK, hD9⟩⟩, hS.F ht⟩) hS.2.2 dX11_mayRain_45
  · have f_2 : ¬ (ziv.toInt = 0) := ic_neq (rfl) (by decide) c_1
    refine lv_iload_n hx hb dX11_mayRain_4 rfl (lv_at hl 0 rfl) ?_
    refine lv_iconst (v := 2) hx hb dX11_mayRain_5 (by decide) ?_
    refine lv_icmp_ne (tgt := 21) hx hb dX11_mayRain_6 (by decide) (fun c_6 => ?_) (fun c_6 => ?_)
    · have f_7 : ziv.toInt ≠ (2 : Int) := ic_ne (rfl) (show (2 : Int32).toInt = 2 by decide) c_6
      refine lv_iload_n hx hb dX11_mayRain_21 rfl (lv_at hl 0 rfl) ?_
      refine lv_iconst (v := 1) hx hb dX11_mayRain_22 (by decide) ?_
      refine lv_icmp_ne (tgt := 44) hx hb dX11_mayRain_23 (by decide) (fun c_8 => ?_) (fun c_8 => ?_)
      · have f_9 : ziv.toInt ≠ (1 : Int) := ic_ne (rfl) (show (1 : Int32).toInt = 1 by decide) c_8
        refine lv_iconst (v := 0) hx hb dX11_mayRain_44 (by decide) ?_
        have hP9 := hP.sub (ws' := []) [] rfl
        have hD9 := hD.sub (ws' := []) [] (by decide) rfl
        exact W.zret (v := 0) hx hb hr rfl (fun t ht hW => ⟨⟨0, (), rfl, (if_neg (by omega)).symm, ⟨by rw [ht]; exact hP9, va_K.moved hW.alike hK, hD9⟩⟩, hS.F ht⟩) hS.2.2 dX11_mayRain_45
      · have f_9 : ¬ (ziv.toInt ≠ (1 : Int)) := ic_nne (rfl) (show (1 : Int32).toInt = 1 by decide) c_8
        refine lv_iload_n hx hb dX11_mayRain_26 rfl (lv_at hl 1 rfl) ?_
        refine lv_i2l (v := ziw.toInt64) hx hb dX11_mayRain_27 rfl ?_
        refine lv_ldc2 (v := (-20)) hx hb hown (hts (.constantLong RX11 76 (-20)) (by decide +kernel)) dX11_mayRain_28 ?_
        refine lv_ldc2 (v := 20) hx hb hown (hts (.constantLong RX11 78 20) (by decide +kernel)) dX11_mayRain_31 ?_
        refine cj_i (wc := []) (wr := []) (w1 := fun (_ : Unit) => []) (va_runS (As := [.long ziw.toInt64, .long (-20), .long 20]) (rest := []) ⟨hx, hb, hml, hown, hts⟩ (c_X11_in l dC dI cy s.heap.size ziw.toInt64 (-20) 20 (-20) 20 ziw.toInt (by first | rfl | decide | omega | exact Int32.toInt_toInt64 _) (by first | rfl | decide | omega | exact Int32.toInt_toInt64 _) (by first | rfl | decide | omega | exact Int32.toInt_toInt64 _)) (va_cwS 3 hts gX11_mayRain_X11_in rfl rfl rfl (by decide +kernel) ⟨(Nat.le_of_ble_eq_true rfl), (Nat.le_of_ble_eq_true rfl)⟩) (PRE.s (hP.sub [] rfl) hK (hD.sub [] (by decide) rfl) hN) rfl rfl hl.1 rfl (lv_room (Nat.le_of_ble_eq_true rfl)) dX11_mayRain_34 ⟨(Nat.le_of_ble_eq_true rfl), (Nat.le_of_ble_eq_true rfl)⟩) hP hD hS hA [] [] rfl rfl rfl (by decide) (fun r_11 u_10 H locs hw_12 hP hD hS => ?_)
        have hP : va_P (dC, dI) vwCl [] H := hP
        have hD : va_D A [] := hD
        have hw_12 : r_11 = if (-20) ≤ ziw.toInt ∧ ziw.toInt ≤ 20 then 1 else 0 := hw_12
        refine lv_if_eq (tgt := 44) hx hb dX11_mayRain_37 (by decide) (fun c_13 => ?_) (fun c_13 => ?_)
        · have f_14 : ¬ ((-20) ≤ ziw.toInt ∧ ziw.toInt ≤ 20) := bz_0 hw_12 c_13
          refine lv_iconst (v := 0) hx hb dX11_mayRain_44 (by decide) ?_
          have hP9 := hP.sub (ws' := []) [] rfl
          have hD9 := hD.sub (ws' := []) [] (by decide) rfl
          exact W.zret (v := 0) hx hb hr rfl (fun t ht hW => ⟨⟨0, (), rfl, (if_neg (by omega)).symm, ⟨by rw [ht]; exact hP9, va_K.moved hW.alike hK, hD9⟩⟩, hS.F ht⟩) hS.2.2 dX11_mayRain_45
        · have f_14 : (-20) ≤ ziw.toInt ∧ ziw.toInt ≤ 20 := bz_1 hw_12 c_13
          refine lv_iconst (v := 1) hx hb dX11_mayRain_40 (by decide) ?_
          refine lv_goto (tgt := 45) hx hb dX11_mayRain_41 (by decide) ?_
          have hP9 := hP.sub (ws' := []) [] rfl
          have hD9 := hD.sub (ws' := []) [] (by decide) rfl
          exact W.zret (v := 1) hx hb hr rfl (fun t ht hW => ⟨⟨1, (), rfl, (if_pos (by omega)).symm, ⟨by rw [ht]; exact hP9, va_K.moved hW.alike hK, hD9⟩⟩, hS.F ht⟩) hS.2.2 dX11_mayRain_45
    · have f_7 : ¬ (ziv.toInt ≠ (2 : Int)) := ic_nne (rfl) (show (2 : Int32).toInt = 2 by decide) c_6
      refine lv_iload_n hx hb dX11_mayRain_9 rfl (lv_at hl 1 rfl) ?_
      refine lv_i2l (v := ziw.toInt64) hx hb dX11_mayRain_10 rfl ?_
      refine lv_lconst (v := 0) hx hb dX11_mayRain_11 (by decide) ?_
      refine lv_ldc2 (v := 9) hx hb hown (hts (.constantLong RX11 74 9) (by decide +kernel)) dX11_mayRain_12 ?_
      refine cj_i (wc := []) (wr := []) (w1 := fun (_ : Unit) => []) (va_runS (As := [.long ziw.toInt64, .long 0, .long 9]) (rest := []) ⟨hx, hb, hml, hown, hts⟩ (c_X11_in l dC dI cy s.heap.size ziw.toInt64 0 9 0 9 ziw.toInt (by first | rfl | decide | omega | exact Int32.toInt_toInt64 _) (by first | rfl | decide | omega | exact Int32.toInt_toInt64 _) (by first | rfl | decide | omega | exact Int32.toInt_toInt64 _)) (va_cwS 3 hts gX11_mayRain_X11_in rfl rfl rfl (by decide +kernel) ⟨(Nat.le_of_ble_eq_true rfl), (Nat.le_of_ble_eq_true rfl)⟩) (PRE.s (hP.sub [] rfl) hK (hD.sub [] (by decide) rfl) hN) rfl rfl hl.1 rfl (lv_room (Nat.le_of_ble_eq_true rfl)) dX11_mayRain_15 ⟨(Nat.le_of_ble_eq_true rfl), (Nat.le_of_ble_eq_true rfl)⟩) hP hD hS hA [] [] rfl rfl rfl (by decide) (fun r_16 u_15 H locs hw_17 hP hD hS => ?_)
      have hP : va_P (dC, dI) vwCl [] H := hP
      have hD : va_D A [] := hD
      have hw_17 : r_16 = if 0 ≤ ziw.toInt ∧ ziw.toInt ≤ 9 then 1 else 0 := hw_17
      refine lv_goto (tgt := 45) hx hb dX11_mayRain_18 (by decide) ?_
      have hP9 := hP.sub (ws' := []) [] rfl
      have hD9 := hD.sub (ws' := []) [] (by decide) rfl
      exact W.zret (v := r_16) hx hb hr (zb_n hw_17) (fun t ht hW => ⟨⟨r_16, (), rfl, (bz_2 hw_17 (by omega)), ⟨by rw [ht]; exact hP9, va_K.moved hW.alike hK, hD9⟩⟩, hS.F ht⟩) hS.2.2 dX11_mayRain_45
set_option maxHeartbeats 8000000 in
set_option maxRecDepth 100000 in
theorem c_X11_cellOf (l : Launch) (dC : Nat → ClassId) (dI : Nat → Nat → Nat) (cy : Nat → ClassId) (sz : Nat) (zip : Int32) (ziq : Int32) (zir : Int32) (b_zip : 0 ≤ zip.toInt ∧ zip.toInt ≤ 11) (b_ziq : 0 ≤ ziq.toInt ∧ ziq.toInt ≤ 23) (b_zir : 0 ≤ zir.toInt ∧ zir.toInt ≤ 4) : Met l yX11_cellOf wsX11_cellOf ({ frames := 0, cells := 0, slots := 0, locals := 0 } : Room) (va_Pc [.int zip, .int ziq, .int zir] (PRE dC dI cy [] sz)) (va_Qi (fun (r : Int32) (u : Unit) => (0 ≤ r.toInt ∧ r.toInt ≤ 1439) ∧ (r.toInt = 120 * zip.toInt + 5 * ziq.toInt + zir.toInt)) (fun u t => POST dC dI cy (va_A [] sz) [] t) (va_A [] sz)) 0 0 (va_A [] sz) := by
  refine Met.ofW (cc := cX11_cellOf) (maxL := 3) (ret := (some .int)) (by decide) rfl ?_
  intro p e s m args below meth c s₁ B hml hv
  obtain ⟨rfl, hsz, hP, hK, hD0, hN⟩ := hv
  have hx := B.exec
  have hb := B.bytes
  have hr := B.returns
  have hts := atoms_spec (ws := wsX11_cellOf) B.pre
  have hown : s.vm.findClass RX11 = some m.cls := findClass_of_methodNamed B.named
  have hlocks := B.notSynchronized
  subst hsz
  have hD := hD0.self (sz := s.heap.size)
  generalize hAe : va_A [] s.heap.size = A at hD ⊢
  have hA : ∀ q : Nat, s.heap.size ≤ q → A q := fun q h => by rw [← hAe]; exact Or.inr h
  have hS : va_S A s.heap s.heap [] := va_S.rf
  have hP : va_P (dC, dI) vwCl [] s.heap := hP
  have hl := lv_entry ([.int zip, .int ziq, .int zir] : List Value) (n := 3) (Nat.le_of_ble_eq_true rfl)
  rw [lg_entry_eq]
  generalize (lg_sl ([.int zip, .int ziq, .int zir] : List Value) ++ List.replicate (3 - (lg_sl ([.int zip, .int ziq, .int zir] : List Value)).length) Slot.unset).toArray = ls at hl ⊢
  have hl : lv_has ls 3 [(0, .int zip), (1, .int ziq), (2, .int zir)] := hl
  refine w_q (fun Q hQ => ?_)
  refine lv_bipush (v := 24) hx hb dX11_cellOf_0 (by decide) ?_
  refine lv_iload_n hx hb dX11_cellOf_2 rfl (lv_at hl 0 rfl) ?_
  refine lv_imul hx hb dX11_cellOf_3 ?_
  refine lv_topi (fun zi_1 ezi_1 => ?_)
  have tzi_1 : zi_1.toInt = (24 : Int) * zip.toInt := by rw [ezi_1]; exact timul (show (24 : Int32).toInt = 24 by decide) (rfl) (by omega) (by omega)
  refine lv_iload_n hx hb dX11_cellOf_4 rfl (lv_at hl 1 rfl) ?_
  refine lv_iadd hx hb dX11_cellOf_5 ?_
  refine lv_topi (fun zi_2 ezi_2 => ?_)
  have tzi_2 : zi_2.toInt = zi_1.toInt + ziq.toInt := by rw [ezi_2]; exact tiadd (rfl) (rfl) (by omega) (by omega)
  refine lv_iconst (v := 5) hx hb dX11_cellOf_6 (by decide) ?_
  refine lv_imul hx hb dX11_cellOf_7 ?_
  refine lv_topi (fun zi_3 ezi_3 => ?_)
  have tzi_3 : zi_3.toInt = zi_2.toInt * (5 : Int) := by rw [ezi_3]; exact timul (rfl) (show (5 : Int32).toInt = 5 by decide) (by omega) (by omega)
  refine lv_iload_n hx hb dX11_cellOf_8 rfl (lv_at hl 2 rfl) ?_
  refine lv_iadd hx hb dX11_cellOf_9 ?_
  refine lv_topi (fun zi_4 ezi_4 => ?_)
  have tzi_4 : zi_4.toInt = zi_3.toInt + zir.toInt := by rw [ezi_4]; exact tiadd (rfl) (rfl) (by omega) (by omega)
  subst hQ
  have hP9 := hP.sub (ws' := []) [] rfl
  have hD9 := hD.sub (ws' := []) [] (by decide) rfl
  exact W.iret (v := zi_4) hx hb hr (fun t ht hW => ⟨⟨zi_4, (), rfl, ⟨(show 0 ≤ zi_4.toInt ∧ zi_4.toInt ≤ 1439 from by omega), (show zi_4.toInt = 120 * zip.toInt + 5 * ziq.toInt + zir.toInt from by omega)⟩, ⟨by rw [ht]; exact hP9, va_K.moved hW.alike hK, hD9⟩⟩, hS.F ht⟩) hS.2.2 dX11_cellOf_10
set_option maxHeartbeats 8000000 in
set_option maxRecDepth 100000 in
theorem c_X11_stateOf (l : Launch) (dC : Nat → ClassId) (dI : Nat → Nat → Nat) (cy : Nat → ClassId) (sz : Nat) (ziq : Int32) (zir : Int32) (zia : Int32) (zib : Int32) (b_ziq : 0 ≤ ziq.toInt ∧ ziq.toInt ≤ 23) (b_zir : 0 ≤ zir.toInt ∧ zir.toInt ≤ 4) (b_zia : 0 ≤ zia.toInt ∧ zia.toInt ≤ 12) (b_zib : 0 ≤ zib.toInt ∧ zib.toInt ≤ 12) : Met l yX11_stateOf wsX11_stateOf ({ frames := 0, cells := 0, slots := 0, locals := 0 } : Room) (va_Pc [.int ziq, .int zir, .int zia, .int zib] (PRE dC dI cy [] sz)) (va_Qi (fun (r : Int32) (u : Unit) => (0 ≤ r.toInt ∧ r.toInt ≤ 20279)) (fun u t => POST dC dI cy (va_A [] sz) [] t) (va_A [] sz)) 0 0 (va_A [] sz) := by
  refine Met.ofW (cc := cX11_stateOf) (maxL := 4) (ret := (some .int)) (by decide) rfl ?_
  intro p e s m args below meth c s₁ B hml hv
  obtain ⟨rfl, hsz, hP, hK, hD0, hN⟩ := hv
  have hx := B.exec
  have hb := B.bytes
  have hr := B.returns
  have hts := atoms_spec (ws := wsX11_stateOf) B.pre
  have hown : s.vm.findClass RX11 = some m.cls := findClass_of_methodNamed B.named
  have hlocks := B.notSynchronized
  subst hsz
  have hD := hD0.self (sz := s.heap.size)
  generalize hAe : va_A [] s.heap.size = A at hD ⊢
  have hA : ∀ q : Nat, s.heap.size ≤ q → A q := fun q h => by rw [← hAe]; exact Or.inr h
  have hS : va_S A s.heap s.heap [] := va_S.rf
  have hP : va_P (dC, dI) vwCl [] s.heap := hP
  have hl := lv_entry ([.int ziq, .int zir, .int zia, .int zib] : List Value) (n := 4) (Nat.le_of_ble_eq_true rfl)
  rw [lg_entry_eq]
  generalize (lg_sl ([.int ziq, .int zir, .int zia, .int zib] : List Value) ++ List.replicate (4 - (lg_sl ([.int ziq, .int zir, .int zia, .int zib] : List Value)).length) Slot.unset).toArray = ls at hl ⊢
  have hl : lv_has ls 4 [(0, .int ziq), (1, .int zir), (2, .int zia), (3, .int zib)] := hl
  refine w_q (fun Q hQ => ?_)
  refine lv_iconst (v := 5) hx hb dX11_stateOf_0 (by decide) ?_
  refine lv_iload_n hx hb dX11_stateOf_1 rfl (lv_at hl 0 rfl) ?_
  refine lv_imul hx hb dX11_stateOf_2 ?_
  refine lv_topi (fun zi_1 ezi_1 => ?_)
  have tzi_1 : zi_1.toInt = (5 : Int) * ziq.toInt := by rw [ezi_1]; exact timul (show (5 : Int32).toInt = 5 by decide) (rfl) (by omega) (by omega)
  refine lv_iload_n hx hb dX11_stateOf_3 rfl (lv_at hl 1 rfl) ?_
  refine lv_iadd hx hb dX11_stateOf_4 ?_
  refine lv_topi (fun zi_2 ezi_2 => ?_)
  have tzi_2 : zi_2.toInt = zi_1.toInt + zir.toInt := by rw [ezi_2]; exact tiadd (rfl) (rfl) (by omega) (by omega)
  refine lv_bipush (v := 13) hx hb dX11_stateOf_5 (by decide) ?_
  refine lv_imul hx hb dX11_stateOf_7 ?_
  refine lv_topi (fun zi_3 ezi_3 => ?_)
  have tzi_3 : zi_3.toInt = zi_2.toInt * (13 : Int) := by rw [ezi_3]; exact timul (rfl) (show (13 : Int32).toInt = 13 by decide) (by omega) (by omega)
  refine lv_iload_n hx hb dX11_stateOf_8 rfl (lv_at hl 2 rfl) ?_
  refine lv_iadd hx hb dX11_stateOf_9 ?_
  refine lv_topi (fun zi_4 ezi_4 => ?_)
  have tzi_4 : zi_4.toInt = zi_3.toInt + zia.toInt := by rw [ezi_4]; exact tiadd (rfl) (rfl) (by omega) (by omega)
  refine lv_bipush (v := 13) hx hb dX11_stateOf_10 (by decide) ?_
  refine lv_imul hx hb dX11_stateOf_12 ?_
  refine lv_topi (fun zi_5 ezi_5 => ?_)
  have tzi_5 : zi_5.toInt = zi_4.toInt * (13 : Int) := by rw [ezi_5]; exact timul (rfl) (show (13 : Int32).toInt = 13 by decide) (by omega) (by omega)
  refine lv_iload_n hx hb dX11_stateOf_13 rfl (lv_at hl 3 rfl) ?_
  refine lv_iadd hx hb dX11_stateOf_14 ?_
  refine lv_topi (fun zi_6 ezi_6 => ?_)
  have tzi_6 : zi_6.toInt = zi_5.toInt + zib.toInt := by rw [ezi_6]; exact tiadd (rfl) (rfl) (by omega) (by omega)
  subst hQ
  have hP9 := hP.sub (ws' := []) [] rfl
  have hD9 := hD.sub (ws' := []) [] (by decide) rfl
  exact W.iret (v := zi_6) hx hb hr (fun t ht hW => ⟨⟨zi_6, (), rfl, (show 0 ≤ zi_6.toInt ∧ zi_6.toInt ≤ 20279 from by omega), ⟨by rw [ht]; exact hP9, va_K.moved hW.alike hK, hD9⟩⟩, hS.F ht⟩) hS.2.2 dX11_stateOf_15
set_option maxHeartbeats 8000000 in
set_option maxRecDepth 100000 in
theorem c_X11_common (l : Launch) (dC : Nat → ClassId) (dI : Nat → Nat → Nat) (cy : Nat → ClassId) (sz : Nat) (zja : Int64) (zjb : Int64) (hx1 : zjb.toInt ≠ 0) : Met l yX11_common wsX11_common ({ frames := 0, cells := 0, slots := 0, locals := 0 } : Room) (va_Pc [.long zja, .long zjb] (PRE dC dI cy [] sz)) (va_Ql (fun (r : Int64) (u : Unit) => (r.toInt ≠ 0)) (fun u t => POST dC dI cy (va_A [] sz) [] t) (va_A [] sz)) 0 0 (va_A [] sz) := by
  refine Met.ofW (cc := cX11_common) (maxL := 10) (ret := (some .long)) (by decide) rfl ?_
  intro p e s m args below meth c s₁ B hml hv
  obtain ⟨rfl, hsz, hP, hK, hD0, hN⟩ := hv
  have hx := B.exec
  have hb := B.bytes
  have hr := B.returns
  have hts := atoms_spec (ws := wsX11_common) B.pre
  have hown : s.vm.findClass RX11 = some m.cls := findClass_of_methodNamed B.named
  have hlocks := B.notSynchronized
  subst hsz
  have hD := hD0.self (sz := s.heap.size)
  generalize hAe : va_A [] s.heap.size = A at hD ⊢
  have hA : ∀ q : Nat, s.heap.size ≤ q → A q := fun q h => by rw [← hAe]; exact Or.inr h
  have hS : va_S A s.heap s.heap [] := va_S.rf
  have hP : va_P (dC, dI) vwCl [] s.heap := hP
  have hl := lv_entry ([.long zja, .long zjb] : List Value) (n := 10) (Nat.le_of_ble_eq_true rfl)
  rw [lg_entry_eq]
  generalize (lg_sl ([.long zja, .long zjb] : List Value) ++ List.replicate (10 - (lg_sl ([.long zja, .long zjb] : List Value)).length) Slot.unset).toArray = ls at hl ⊢
  have hl : lv_has ls 10 [(0, .long zja), (2, .long zjb)] := hl
  refine w_q (fun Q hQ => ?_)
  refine lv_lload_n hx hb dX11_common_0 rfl (lv_at hl 0 rfl) ?_
  refine lv_lstore (lv' := [(4, .long zja), (0, .long zja), (2, .long zjb)]) hx hb dX11_common_1 hl (by decide) rfl (fun ls hl => ?_)
  refine lv_lload_n hx hb dX11_common_3 rfl (lv_at hl 2 rfl) ?_
  refine lv_lstore (lv' := [(6, .long zjb), (4, .long zja), (0, .long zja), (2, .long zjb)]) hx hb dX11_common_4 hl (by decide) rfl (fun ls hl => ?_)
  have lp_15 : ∀ (n : Nat) (zj_5 : Int64) (zj_6 : Int64) (H : Heap) (locs : List Loc) (ls : Array Slot), ((zj_6.toInt.natAbs : Int)).toNat = n → (zj_5.toInt ≠ 0 ∨ zj_6.toInt ≠ 0) → va_P (dC, dI) vwCl [] H → va_D A [] → va_S A s.heap H locs → lv_has ls 10 [(0, .long zja), (2, .long zjb), (4, .long zj_5), (6, .long zj_6)] → W p l e ({ frames := 0, cells := 0, slots := 0, locals := 0 } : Room) s m ([.long zja, .long zjb] : List Value).toArray below meth c H locs 0 0 Q (F0 m 6 ls []) := by
    intro n
    induction n using Nat.strongRecOn with
    | _ n ih_15 =>
      intro zj_5 zj_6 H locs ls hn e_lp_15_0 hP hD hS hl
      refine lv_lload hx hb dX11_common_6 (lv_at hl 3 rfl) ?_
      refine lv_lconst (v := 0) hx hb dX11_common_8 (by decide) ?_
      refine W.lcmp hx hb dX11_common_9 ?_
      refine lv_topi (fun zi_16 ezi_16 => ?_)
      refine lv_if_eq (tgt := 31) hx hb dX11_common_10 (by decide) (fun c_17 => ?_) (fun c_17 => ?_)
      · have f_18 : zj_6.toInt = (0 : Int) := lk_eq ezi_16 (rfl) (show (0 : Int64).toInt = 0 by decide) c_17
        refine lv_lload hx hb dX11_common_31 (lv_at hl 2 rfl) ?_
        subst hQ
        have hP9 := hP.sub (ws' := []) [] rfl
        have hD9 := hD.sub (ws' := []) [] (by decide) rfl
        exact W.lret (v := zj_5) hx hb hr (fun t ht hW => ⟨⟨zj_5, (), rfl, (show zj_5.toInt ≠ 0 from by omega), ⟨by rw [ht]; exact hP9, va_K.moved hW.alike hK, hD9⟩⟩, hS.F ht⟩) hS.2.2 dX11_common_33
      · have f_18 : ¬ (zj_6.toInt = (0 : Int)) := lk_neq ezi_16 (rfl) (show (0 : Int64).toInt = 0 by decide) c_17
        refine lv_lload hx hb dX11_common_13 (lv_at hl 2 rfl) ?_
        refine lv_lload hx hb dX11_common_15 (lv_at hl 3 rfl) ?_
        refine lv_lrem hx hb dX11_common_17 (nzl (by omega)) ?_
        refine lv_topl (fun zj_19 ezj_19 => ?_)
        refine lv_lstore (lv' := [(8, .long zj_19), (0, .long zja), (2, .long zjb), (4, .long zj_5), (6, .long zj_6)]) hx hb dX11_common_18 hl (by decide) rfl (fun ls hl => ?_)
        refine lv_lload hx hb dX11_common_20 (lv_at hl 4 rfl) ?_
        refine lv_lstore (lv' := [(4, .long zj_6), (8, .long zj_19), (0, .long zja), (2, .long zjb), (6, .long zj_6)]) hx hb dX11_common_22 hl (by decide) rfl (fun ls hl => ?_)
        refine lv_lload hx hb dX11_common_24 (lv_at hl 1 rfl) ?_
        refine lv_lstore (lv' := [(6, .long zj_19), (4, .long zj_6), (8, .long zj_19), (0, .long zja), (2, .long zjb)]) hx hb dX11_common_26 hl (by decide) rfl (fun ls hl => ?_)
        refine lv_goto (tgt := 6) hx hb dX11_common_28 (by decide) ?_
        exact ih_15 ((zj_19.toInt.natAbs : Int)).toNat (by have q9 := lrem_dec ezj_19 (by omega); omega) zj_6 zj_19 _ _ _ rfl (by omega) hP hD hS (lv_sub hl [3, 4, 1, 0] rfl)
  exact lp_15 _ zja zjb _ _ _ rfl (by omega) hP hD hS (lv_sub hl [2, 3, 1, 0] rfl)
set_option maxHeartbeats 8000000 in
set_option maxRecDepth 100000 in
theorem c_X11_part (l : Launch) (dC : Nat → ClassId) (dI : Nat → Nat → Nat) (cy : Nat → ClassId) (sz : Nat) (zja : Int64) (zjb : Int64) (zic : Int32) (hx1 : zjb.toInt ≠ 0) : Met l yX11_part wsX11_part ({ frames := 1, cells := 0, slots := 0, locals := 29 } : Room) (va_Pc [.long zja, .long zjb, .int zic] (PRE dC dI cy [] sz)) (va_Ql (fun (r : Int64) (u : Unit) => True) (fun u t => POST dC dI cy (va_A [] sz) [] t) (va_A [] sz)) 0 0 (va_A [] sz) := by
  refine Met.ofW (cc := cX11_part) (maxL := 7) (ret := (some .long)) (by decide) rfl ?_
  intro p e s m args below meth c s₁ B hml hv
  obtain ⟨rfl, hsz, hP, hK, hD0, hN⟩ := hv
  have hx := B.exec
  have hb := B.bytes
  have hr := B.returns
  have hts := atoms_spec (ws := wsX11_part) B.pre
  have hown : s.vm.findClass RX11 = some m.cls := findClass_of_methodNamed B.named
  have hlocks := B.notSynchronized
  subst hsz
  have hD := hD0.self (sz := s.heap.size)
  generalize hAe : va_A [] s.heap.size = A at hD ⊢
  have hA : ∀ q : Nat, s.heap.size ≤ q → A q := fun q h => by rw [← hAe]; exact Or.inr h
  have hS : va_S A s.heap s.heap [] := va_S.rf
  have hP : va_P (dC, dI) vwCl [] s.heap := hP
  have hl := lv_entry ([.long zja, .long zjb, .int zic] : List Value) (n := 7) (Nat.le_of_ble_eq_true rfl)
  rw [lg_entry_eq]
  generalize (lg_sl ([.long zja, .long zjb, .int zic] : List Value) ++ List.replicate (7 - (lg_sl ([.long zja, .long zjb, .int zic] : List Value)).length) Slot.unset).toArray = ls at hl ⊢
  have hl : lv_has ls 7 [(0, .long zja), (2, .long zjb), (4, .int zic)] := hl
  refine w_q (fun Q hQ => ?_)
  refine lv_lload_n hx hb dX11_part_0 rfl (lv_at hl 0 rfl) ?_
  refine lv_lload_n hx hb dX11_part_1 rfl (lv_at hl 1 rfl) ?_
  refine cj_l (wc := []) (wr := []) (w1 := fun (u : Unit) => []) (va_runS (As := [.long zja, .long zjb]) (rest := []) ⟨hx, hb, hml, hown, hts⟩ (c_X11_common l dC dI cy s.heap.size zja zjb (by omega)) (va_cwS 2 hts gX11_part_X11_common rfl rfl rfl (by decide +kernel) ⟨(Nat.le_of_ble_eq_true rfl), (Nat.le_of_ble_eq_true rfl)⟩) (PRE.s (hP.sub [] rfl) hK (hD.sub [] (by decide) rfl) hN) rfl rfl hl.1 rfl (lv_room (Nat.le_of_ble_eq_true rfl)) dX11_part_2 ⟨(Nat.le_of_ble_eq_true rfl), (Nat.le_of_ble_eq_true rfl)⟩) hP hD hS hA [] [] rfl rfl rfl (by decide) (fun zj_2 u_1 H locs hw_3 hP hD hS => ?_)
  have hP : va_P (dC, dI) vwCl [] H := hP
  have hD : va_D A [] := hD
  have ps_4 : zj_2.toInt ≠ 0 := hw_3
  refine lv_lstore (lv' := [(5, .long zj_2), (0, .long zja), (2, .long zjb), (4, .int zic)]) hx hb dX11_part_5 hl (by decide) rfl (fun ls hl => ?_)
  refine lv_iload hx hb dX11_part_7 (lv_at hl 3 rfl) ?_
  refine lv_if_ne (tgt := 19) hx hb dX11_part_9 (by decide) (fun c_5 => ?_) (fun c_5 => ?_)
  · have f_6 : zic.toInt ≠ 0 := ic_ne (rfl) (by decide) c_5
    refine lv_lload_n hx hb dX11_part_19 rfl (lv_at hl 2 rfl) ?_
    refine lv_lload hx hb dX11_part_20 (lv_at hl 0 rfl) ?_
    refine lv_ldiv hx hb dX11_part_22 (nzl (by omega)) ?_
    refine lv_topl (fun zj_7 ezj_7 => ?_)
    subst hQ
    have hP9 := hP.sub (ws' := []) [] rfl
    have hD9 := hD.sub (ws' := []) [] (by decide) rfl
    exact W.lret (v := zj_7) hx hb hr (fun t ht hW => ⟨⟨zj_7, (), rfl, trivial, ⟨by rw [ht]; exact hP9, va_K.moved hW.alike hK, hD9⟩⟩, hS.F ht⟩) hS.2.2 dX11_part_23
  · have f_6 : ¬ (zic.toInt ≠ 0) := ic_nne (rfl) (by decide) c_5
    refine lv_lload_n hx hb dX11_part_12 rfl (lv_at hl 1 rfl) ?_
    refine lv_lload hx hb dX11_part_13 (lv_at hl 0 rfl) ?_
    refine lv_ldiv hx hb dX11_part_15 (nzl (by omega)) ?_
    refine lv_topl (fun zj_8 ezj_8 => ?_)
    refine lv_goto (tgt := 23) hx hb dX11_part_16 (by decide) ?_
    subst hQ
    have hP9 := hP.sub (ws' := []) [] rfl
    have hD9 := hD.sub (ws' := []) [] (by decide) rfl
    exact W.lret (v := zj_8) hx hb hr (fun t ht hW => ⟨⟨zj_8, (), rfl, trivial, ⟨by rw [ht]; exact hP9, va_K.moved hW.alike hK, hD9⟩⟩, hS.F ht⟩) hS.2.2 dX11_part_23
set_option maxHeartbeats 8000000 in
set_option maxRecDepth 100000 in
theorem c_X11_ones (l : Launch) (dC : Nat → ClassId) (dI : Nat → Nat → Nat) (cy : Nat → ClassId) (sz : Nat) (zia : Int32) (b_zia : 0 ≤ zia.toInt ∧ zia.toInt ≤ 2147483646) : Met l yX11_ones wsX11_ones ({ frames := 0, cells := 0, slots := 0, locals := 0 } : Room) (va_Pc [.int zia] (PRE dC dI cy [] sz)) (va_Qi (fun (r : Int32) (u : Unit) => True) (fun u t => POST dC dI cy (va_A [] sz) [] t) (va_A [] sz)) 0 0 (va_A [] sz) := by
  refine Met.ofW (cc := cX11_ones) (maxL := 3) (ret := (some .int)) (by decide) rfl ?_
  intro p e s m args below meth c s₁ B hml hv
  obtain ⟨rfl, hsz, hP, hK, hD0, hN⟩ := hv
  have hx := B.exec
  have hb := B.bytes
  have hr := B.returns
  have hts := atoms_spec (ws := wsX11_ones) B.pre
  have hown : s.vm.findClass RX11 = some m.cls := findClass_of_methodNamed B.named
  have hlocks := B.notSynchronized
  subst hsz
  have hD := hD0.self (sz := s.heap.size)
  generalize hAe : va_A [] s.heap.size = A at hD ⊢
  have hA : ∀ q : Nat, s.heap.size ≤ q → A q := fun q h => by rw [← hAe]; exact Or.inr h
  have hS : va_S A s.heap s.heap [] := va_S.rf
  have hP : va_P (dC, dI) vwCl [] s.heap := hP
  have hl := lv_entry ([.int zia] : List Value) (n := 3) (Nat.le_of_ble_eq_true rfl)
  rw [lg_entry_eq]
  generalize (lg_sl ([.int zia] : List Value) ++ List.replicate (3 - (lg_sl ([.int zia] : List Value)).length) Slot.unset).toArray = ls at hl ⊢
  have hl : lv_has ls 3 [(0, .int zia)] := hl
  refine w_q (fun Q hQ => ?_)
  refine lv_iconst (v := 0) hx hb dX11_ones_0 (by decide) ?_
  refine lv_istore_n (lv' := [(1, .int 0), (0, .int zia)]) hx hb dX11_ones_1 rfl hl (by decide) rfl (fun ls hl => ?_)
  refine lv_iload_n hx hb dX11_ones_2 rfl (lv_at hl 1 rfl) ?_
  refine lv_istore_n (lv' := [(2, .int zia), (1, .int 0), (0, .int zia)]) hx hb dX11_ones_3 rfl hl (by decide) rfl (fun ls hl => ?_)
  have lp_143 : ∀ (n : Nat) (zi_19 : Int32) (zi_20 : Int32) (H : Heap) (locs : List Loc) (ls : Array Slot), (zi_20.toInt).toNat = n → (0 ≤ zi_20.toInt ∧ zi_20.toInt ≤ 2147483646) → (0 ≤ zi_20.toInt) → va_P (dC, dI) vwCl [] H → va_D A [] → va_S A s.heap H locs → lv_has ls 3 [(0, .int zia), (1, .int zi_19), (2, .int zi_20)] → W p l e ({ frames := 0, cells := 0, slots := 0, locals := 0 } : Room) s m ([.int zia] : List Value).toArray below meth c H locs 0 0 Q (F0 m 4 ls []) := by
    intro n
    induction n using Nat.strongRecOn with
    | _ n ih_143 =>
      intro zi_19 zi_20 H locs ls hn b_zi_20 e_lp_143_0 hP hD hS hl
      refine lv_iload_n hx hb dX11_ones_4 rfl (lv_at hl 2 rfl) ?_
      refine lv_if_eq (tgt := 20) hx hb dX11_ones_5 (by decide) (fun c_144 => ?_) (fun c_144 => ?_)
      · have f_145 : zi_20.toInt = 0 := ic_eq (rfl) (by decide) c_144
        refine lv_iload_n hx hb dX11_ones_20 rfl (lv_at hl 1 rfl) ?_
        subst hQ
        have hP9 := hP.sub (ws' := []) [] rfl
        have hD9 := hD.sub (ws' := []) [] (by decide) rfl
        exact W.iret (v := zi_19) hx hb hr (fun t ht hW => ⟨⟨zi_19, (), rfl, trivial, ⟨by rw [ht]; exact hP9, va_K.moved hW.alike hK, hD9⟩⟩, hS.F ht⟩) hS.2.2 dX11_ones_21
      · have f_145 : ¬ (zi_20.toInt = 0) := ic_neq (rfl) (by decide) c_144
        obtain ⟨zi_146, ezi_146⟩ : ∃ y : Int32, y = zi_19 + 1 := ⟨_, rfl⟩
        refine lv_iinc (v := zi_146) (lv' := [(1, .int zi_146), (0, .int zia), (2, .int zi_20)]) hx hb dX11_ones_8 hl (k := 1) rfl (by rw [ezi_146]; rfl) (by decide) rfl (fun ls hl => ?_)
        refine lv_iload_n hx hb dX11_ones_11 rfl (lv_at hl 2 rfl) ?_
        refine lv_iload_n hx hb dX11_ones_12 rfl (lv_at hl 2 rfl) ?_
        refine lv_iconst (v := 1) hx hb dX11_ones_13 (by decide) ?_
        refine lv_isub hx hb dX11_ones_14 ?_
        refine lv_topi (fun zi_147 ezi_147 => ?_)
        have tzi_147 : zi_147.toInt = zi_20.toInt - (1 : Int) := by rw [ezi_147]; exact tisub (rfl) (show (1 : Int32).toInt = 1 by decide) (by omega) (by omega)
        refine lv_iand hx hb dX11_ones_15 ?_
        refine lv_topi (fun zi_148 ezi_148 => ?_)
        have tzi_148 : 0 ≤ zi_148.toInt ∧ zi_148.toInt ≤ zi_147.toInt := andm ezi_148 (by omega) (by omega)
        refine lv_istore_n (lv' := [(2, .int zi_148), (1, .int zi_146), (0, .int zia)]) hx hb dX11_ones_16 rfl hl (by decide) rfl (fun ls hl => ?_)
        refine lv_goto (tgt := 4) hx hb dX11_ones_17 (by decide) ?_
        exact ih_143 (zi_148.toInt).toNat (by omega) zi_146 zi_148 _ _ _ rfl (by omega) (by omega) hP hD hS (lv_sub hl [2, 1, 0] rfl)
  have qc_0 : (0 : Int32).toInt = 0 := by decide
  exact lp_143 _ (0 : Int32) zia _ _ _ rfl (by omega) (by omega) hP hD hS (lv_sub hl [2, 1, 0] rfl)
