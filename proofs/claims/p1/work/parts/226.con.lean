set_option maxHeartbeats 4000000 in
set_option maxRecDepth 100000 in
theorem c_byteOf_0 (l : Launch) (dC : Nat → ClassId) (dI : Nat → Nat → Nat) (cy : Nat → ClassId) (sz : Nat) (zjw : Int64)  : Met l yX10_byteOf wsX10_byteOf ({ frames := 0, cells := 0, slots := 0, locals := 0 }) (va_Pc [.long zjw, .int 0] (PRE dC dI cy [] sz)) (va_Qi (fun (r : Int32) (_ : Unit) => r.toInt = by8 zjw 0) (fun u t => POST dC dI cy (va_A [] sz) [] t) (va_A [] sz)) 0 0 (va_A [] sz) := by
  refine Met.ofW (cc := cX10_byteOf) (maxL := 3) (ret := (some .int)) (by decide) rfl ?_
  intro p e s m args below meth c s₁ B hml hv
  obtain ⟨rfl, hsz, hP, hK, hD0, hN⟩ := hv
  have hx := B.exec
  have hb := B.bytes
  have hr := B.returns
  have hts := atoms_spec (ws := wsX10_byteOf) B.pre
  have hown : s.vm.findClass RX10 = some m.cls := findClass_of_methodNamed B.named
  have hlocks := B.notSynchronized
  subst hsz
  have hD := hD0.self (sz := s.heap.size)
  generalize hAe : va_A [] s.heap.size = A at hD ⊢
  have hA : ∀ q : Nat, s.heap.size ≤ q → A q := fun q h => by rw [← hAe]; exact Or.inr h
  have hS : va_S A s.heap s.heap [] := va_S.rf
  have hP : va_P (dC, dI) vwCl [] s.heap := hP
  have hl := lv_entry ([.long zjw, .int 0] : List Value) (n := 3) (Nat.le_of_ble_eq_true rfl)
  rw [lg_entry_eq]
  generalize (lg_sl ([.long zjw, .int 0] : List Value) ++ List.replicate (3 - (lg_sl ([.long zjw, .int 0] : List Value)).length) Slot.unset).toArray = ls at hl ⊢
  have hl : lv_has ls 3 [(0, .long zjw), (2, .int 0)] := hl
  refine lv_lload_n hx hb dX10_byteOf_0 rfl (lv_at hl 0 rfl) ?_
  refine lv_bipush (v := 8) hx hb dX10_byteOf_1 (by decide) ?_
  refine lv_iload_n hx hb dX10_byteOf_3 rfl (lv_at hl 1 rfl) ?_
  refine lv_imul hx hb dX10_byteOf_4 ?_
  refine lv_topi (fun v_1 ev_1 => ?_)
  obtain rfl : v_1 = (0 : Int32) := ev_1.trans (by decide)
  refine lv_lushr (v := (zjw.toUInt64 >>> ((0 : Int32).toInt64.toUInt64 &&& Int64.toUInt64 63)).toInt64) hx hb dX10_byteOf_5 rfl ?_
  refine lv_l2i (v := ((zjw.toUInt64 >>> ((0 : Int32).toInt64.toUInt64 &&& Int64.toUInt64 63)).toInt64).toInt32) hx hb dX10_byteOf_6 rfl ?_
  refine lv_sipush (v := 255) hx hb dX10_byteOf_7 (by decide) ?_
  refine lv_iand hx hb dX10_byteOf_10 ?_
  refine lv_topi (fun v_2 ev_2 => ?_)
  have tv_2 : v_2.toInt = by8 zjw 0 := by rw [ev_2]; exact by8_i0 zjw
  have hP9 := hP.sub (ws' := []) [] rfl
  have hD9 := hD.sub (ws' := []) [] (by decide) rfl
  exact W.iret (v := v_2) hx hb hr (fun t ht hW => ⟨⟨v_2, (), rfl, tv_2, ⟨by rw [ht]; exact hP9, va_K.moved hW.alike hK, hD9⟩⟩, hS.F ht⟩) hS.2.2 dX10_byteOf_11
set_option maxHeartbeats 4000000 in
set_option maxRecDepth 100000 in
theorem c_byteOf_1 (l : Launch) (dC : Nat → ClassId) (dI : Nat → Nat → Nat) (cy : Nat → ClassId) (sz : Nat) (zjw : Int64)  : Met l yX10_byteOf wsX10_byteOf ({ frames := 0, cells := 0, slots := 0, locals := 0 }) (va_Pc [.long zjw, .int 1] (PRE dC dI cy [] sz)) (va_Qi (fun (r : Int32) (_ : Unit) => r.toInt = by8 zjw 1) (fun u t => POST dC dI cy (va_A [] sz) [] t) (va_A [] sz)) 0 0 (va_A [] sz) := by
  refine Met.ofW (cc := cX10_byteOf) (maxL := 3) (ret := (some .int)) (by decide) rfl ?_
  intro p e s m args below meth c s₁ B hml hv
  obtain ⟨rfl, hsz, hP, hK, hD0, hN⟩ := hv
  have hx := B.exec
  have hb := B.bytes
  have hr := B.returns
  have hts := atoms_spec (ws := wsX10_byteOf) B.pre
  have hown : s.vm.findClass RX10 = some m.cls := findClass_of_methodNamed B.named
  have hlocks := B.notSynchronized
  subst hsz
  have hD := hD0.self (sz := s.heap.size)
  generalize hAe : va_A [] s.heap.size = A at hD ⊢
  have hA : ∀ q : Nat, s.heap.size ≤ q → A q := fun q h => by rw [← hAe]; exact Or.inr h
  have hS : va_S A s.heap s.heap [] := va_S.rf
  have hP : va_P (dC, dI) vwCl [] s.heap := hP
  have hl := lv_entry ([.long zjw, .int 1] : List Value) (n := 3) (Nat.le_of_ble_eq_true rfl)
  rw [lg_entry_eq]
  generalize (lg_sl ([.long zjw, .int 1] : List Value) ++ List.replicate (3 - (lg_sl ([.long zjw, .int 1] : List Value)).length) Slot.unset).toArray = ls at hl ⊢
  have hl : lv_has ls 3 [(0, .long zjw), (2, .int 1)] := hl
  refine lv_lload_n hx hb dX10_byteOf_0 rfl (lv_at hl 0 rfl) ?_
  refine lv_bipush (v := 8) hx hb dX10_byteOf_1 (by decide) ?_
  refine lv_iload_n hx hb dX10_byteOf_3 rfl (lv_at hl 1 rfl) ?_
  refine lv_imul hx hb dX10_byteOf_4 ?_
  refine lv_topi (fun v_1 ev_1 => ?_)
  obtain rfl : v_1 = (8 : Int32) := ev_1.trans (by decide)
  refine lv_lushr (v := (zjw.toUInt64 >>> ((8 : Int32).toInt64.toUInt64 &&& Int64.toUInt64 63)).toInt64) hx hb dX10_byteOf_5 rfl ?_
  refine lv_l2i (v := ((zjw.toUInt64 >>> ((8 : Int32).toInt64.toUInt64 &&& Int64.toUInt64 63)).toInt64).toInt32) hx hb dX10_byteOf_6 rfl ?_
  refine lv_sipush (v := 255) hx hb dX10_byteOf_7 (by decide) ?_
  refine lv_iand hx hb dX10_byteOf_10 ?_
  refine lv_topi (fun v_2 ev_2 => ?_)
  have tv_2 : v_2.toInt = by8 zjw 1 := by rw [ev_2]; exact by8_i1 zjw
  have hP9 := hP.sub (ws' := []) [] rfl
  have hD9 := hD.sub (ws' := []) [] (by decide) rfl
  exact W.iret (v := v_2) hx hb hr (fun t ht hW => ⟨⟨v_2, (), rfl, tv_2, ⟨by rw [ht]; exact hP9, va_K.moved hW.alike hK, hD9⟩⟩, hS.F ht⟩) hS.2.2 dX10_byteOf_11
set_option maxHeartbeats 4000000 in
set_option maxRecDepth 100000 in
theorem c_byteOf_2 (l : Launch) (dC : Nat → ClassId) (dI : Nat → Nat → Nat) (cy : Nat → ClassId) (sz : Nat) (zjw : Int64)  : Met l yX10_byteOf wsX10_byteOf ({ frames := 0, cells := 0, slots := 0, locals := 0 }) (va_Pc [.long zjw, .int 2] (PRE dC dI cy [] sz)) (va_Qi (fun (r : Int32) (_ : Unit) => r.toInt = by8 zjw 2) (fun u t => POST dC dI cy (va_A [] sz) [] t) (va_A [] sz)) 0 0 (va_A [] sz) := by
  refine Met.ofW (cc := cX10_byteOf) (maxL := 3) (ret := (some .int)) (by decide) rfl ?_
  intro p e s m args below meth c s₁ B hml hv
  obtain ⟨rfl, hsz, hP, hK, hD0, hN⟩ := hv
  have hx := B.exec
  have hb := B.bytes
  have hr := B.returns
  have hts := atoms_spec (ws := wsX10_byteOf) B.pre
  have hown : s.vm.findClass RX10 = some m.cls := findClass_of_methodNamed B.named
  have hlocks := B.notSynchronized
  subst hsz
  have hD := hD0.self (sz := s.heap.size)
  generalize hAe : va_A [] s.heap.size = A at hD ⊢
  have hA : ∀ q : Nat, s.heap.size ≤ q → A q := fun q h => by rw [← hAe]; exact Or.inr h
  have hS : va_S A s.heap s.heap [] := va_S.rf
  have hP : va_P (dC, dI) vwCl [] s.heap := hP
  have hl := lv_entry ([.long zjw, .int 2] : List Value) (n := 3) (Nat.le_of_ble_eq_true rfl)
  rw [lg_entry_eq]
  generalize (lg_sl ([.long zjw, .int 2] : List Value) ++ List.replicate (3 - (lg_sl ([.long zjw, .int 2] : List Value)).length) Slot.unset).toArray = ls at hl ⊢
  have hl : lv_has ls 3 [(0, .long zjw), (2, .int 2)] := hl
  refine lv_lload_n hx hb dX10_byteOf_0 rfl (lv_at hl 0 rfl) ?_
  refine lv_bipush (v := 8) hx hb dX10_byteOf_1 (by decide) ?_
  refine lv_iload_n hx hb dX10_byteOf_3 rfl (lv_at hl 1 rfl) ?_
  refine lv_imul hx hb dX10_byteOf_4 ?_
  refine lv_topi (fun v_1 ev_1 => ?_)
  obtain rfl : v_1 = (16 : Int32) := ev_1.trans (by decide)
  refine lv_lushr (v := (zjw.toUInt64 >>> ((16 : Int32).toInt64.toUInt64 &&& Int64.toUInt64 63)).toInt64) hx hb dX10_byteOf_5 rfl ?_
  refine lv_l2i (v := ((zjw.toUInt64 >>> ((16 : Int32).toInt64.toUInt64 &&& Int64.toUInt64 63)).toInt64).toInt32) hx hb dX10_byteOf_6 rfl ?_
  refine lv_sipush (v := 255) hx hb dX10_byteOf_7 (by decide) ?_
  refine lv_iand hx hb dX10_byteOf_10 ?_
  refine lv_topi (fun v_2 ev_2 => ?_)
  have tv_2 : v_2.toInt = by8 zjw 2 := by rw [ev_2]; exact by8_i2 zjw
  have hP9 := hP.sub (ws' := []) [] rfl
  have hD9 := hD.sub (ws' := []) [] (by decide) rfl
  exact W.iret (v := v_2) hx hb hr (fun t ht hW => ⟨⟨v_2, (), rfl, tv_2, ⟨by rw [ht]; exact hP9, va_K.moved hW.alike hK, hD9⟩⟩, hS.F ht⟩) hS.2.2 dX10_byteOf_11
set_option maxHeartbeats 4000000 in
set_option maxRecDepth 100000 in
theorem c_byteOf_3 (l : Launch) (dC : Nat → ClassId) (dI : Nat → Nat → Nat) (cy : Nat → ClassId) (sz : Nat) (zjw : Int64)  : Met l yX10_byteOf wsX10_byteOf ({ frames := 0, cells := 0, slots := 0, locals := 0 }) (va_Pc [.long zjw, .int 3] (PRE dC dI cy [] sz)) (va_Qi (fun (r : Int32) (_ : Unit) => r.toInt = by8 zjw 3) (fun u t => POST dC dI cy (va_A [] sz) [] t) (va_A [] sz)) 0 0 (va_A [] sz) := by
  refine Met.ofW (cc := cX10_byteOf) (maxL := 3) (ret := (some .int)) (by decide) rfl ?_
  intro p e s m args below meth c s₁ B hml hv
  obtain ⟨rfl, hsz, hP, hK, hD0, hN⟩ := hv
  have hx := B.exec
  have hb := B.bytes
  have hr := B.returns
  have hts := atoms_spec (ws := wsX10_byteOf) B.pre
  have hown : s.vm.findClass RX10 = some m.cls := findClass_of_methodNamed B.named
  have hlocks := B.notSynchronized
  subst hsz
  have hD := hD0.self (sz := s.heap.size)
  generalize hAe : va_A [] s.heap.size = A at hD ⊢
  have hA : ∀ q : Nat, s.heap.size ≤ q → A q := fun q h => by rw [← hAe]; exact Or.inr h
  have hS : va_S A s.heap s.heap [] := va_S.rf
  have hP : va_P (dC, dI) vwCl [] s.heap := hP
  have hl := lv_entry ([.long zjw, .int 3] : List Value) (n := 3) (Nat.le_of_ble_eq_true rfl)
  rw [lg_entry_eq]
  generalize (lg_sl ([.long zjw, .int 3] : List Value) ++ List.replicate (3 - (lg_sl ([.long zjw, .int 3] : List Value)).length) Slot.unset).toArray = ls at hl ⊢
  have hl : lv_has ls 3 [(0, .long zjw), (2, .int 3)] := hl
  refine lv_lload_n hx hb dX10_byteOf_0 rfl (lv_at hl 0 rfl) ?_
  refine lv_bipush (v := 8) hx hb dX10_byteOf_1 (by decide) ?_
  refine lv_iload_n hx hb dX10_byteOf_3 rfl (lv_at hl 1 rfl) ?_
  refine lv_imul hx hb dX10_byteOf_4 ?_
  refine lv_topi (fun v_1 ev_1 => ?_)
  obtain rfl : v_1 = (24 : Int32) := ev_1.trans (by decide)
  refine lv_lushr (v := (zjw.toUInt64 >>> ((24 : Int32).toInt64.toUInt64 &&& Int64.toUInt64 63)).toInt64) hx hb dX10_byteOf_5 rfl ?_
  refine lv_l2i (v := ((zjw.toUInt64 >>> ((24 : Int32).toInt64.toUInt64 &&& Int64.toUInt64 63)).toInt64).toInt32) hx hb dX10_byteOf_6 rfl ?_
  refine lv_sipush (v := 255) hx hb dX10_byteOf_7 (by decide) ?_
  refine lv_iand hx hb dX10_byteOf_10 ?_
  refine lv_topi (fun v_2 ev_2 => ?_)
  have tv_2 : v_2.toInt = by8 zjw 3 := by rw [ev_2]; exact by8_i3 zjw
  have hP9 := hP.sub (ws' := []) [] rfl
  have hD9 := hD.sub (ws' := []) [] (by decide) rfl
  exact W.iret (v := v_2) hx hb hr (fun t ht hW => ⟨⟨v_2, (), rfl, tv_2, ⟨by rw [ht]; exact hP9, va_K.moved hW.alike hK, hD9⟩⟩, hS.F ht⟩) hS.2.2 dX10_byteOf_11
set_option maxHeartbeats 4000000 in
set_option maxRecDepth 100000 in
theorem c_byteOf_4 (l : Launch) (dC : Nat → ClassId) (dI : Nat → Nat → Nat) (cy : Nat → ClassId) (sz : Nat) (zjw : Int64)  : Met l yX10_byteOf wsX10_byteOf ({ frames := 0, cells := 0, slots := 0, locals := 0 }) (va_Pc [.long zjw, .int 4] (PRE dC dI cy [] sz)) (va_Qi (fun (r : Int32) (_ : Unit) => r.toInt = by8 zjw 4) (fun u t => POST dC dI cy (va_A [] sz) [] t) (va_A [] sz)) 0 0 (va_A [] sz) := by
  refine Met.ofW (cc := cX10_byteOf) (maxL := 3) (ret := (some .int)) (by decide) rfl ?_
  intro p e s m args below meth c s₁ B hml hv
  obtain ⟨rfl, hsz, hP, hK, hD0, hN⟩ := hv
  have hx := B.exec
  have hb := B.bytes
  have hr := B.returns
  have hts := atoms_spec (ws := wsX10_byteOf) B.pre
  have hown : s.vm.findClass RX10 = some m.cls := findClass_of_methodNamed B.named
  have hlocks := B.notSynchronized
  subst hsz
  have hD := hD0.self (sz := s.heap.size)
  generalize hAe : va_A [] s.heap.size = A at hD ⊢
  have hA : ∀ q : Nat, s.heap.size ≤ q → A q := fun q h => by rw [← hAe]; exact Or.inr h
  have hS : va_S A s.heap s.heap [] := va_S.rf
  have hP : va_P (dC, dI) vwCl [] s.heap := hP
  have hl := lv_entry ([.long zjw, .int 4] : List Value) (n := 3) (Nat.le_of_ble_eq_true rfl)
  rw [lg_entry_eq]
  generalize (lg_sl ([.long zjw, .int 4] : List Value) ++ List.replicate (3 - (lg_sl ([.long zjw, .int 4] : List Value)).length) Slot.unset).toArray = ls at hl ⊢
  have hl : lv_has ls 3 [(0, .long zjw), (2, .int 4)] := hl
  refine lv_lload_n hx hb dX10_byteOf_0 rfl (lv_at hl 0 rfl) ?_
  refine lv_bipush (v := 8) hx hb dX10_byteOf_1 (by decide) ?_
  refine lv_iload_n hx hb dX10_byteOf_3 rfl (lv_at hl 1 rfl) ?_
  refine lv_imul hx hb dX10_byteOf_4 ?_
  refine lv_topi (fun v_1 ev_1 => ?_)
  obtain rfl : v_1 = (32 : Int32) := ev_1.trans (by decide)
  refine lv_lushr (v := (zjw.toUInt64 >>> ((32 : Int32).toInt64.toUInt64 &&& Int64.toUInt64 63)).toInt64) hx hb dX10_byteOf_5 rfl ?_
  refine lv_l2i (v := ((zjw.toUInt64 >>> ((32 : Int32).toInt64.toUInt64 &&& Int64.toUInt64 63)).toInt64).toInt32) hx hb dX10_byteOf_6 rfl ?_
  refine lv_sipush (v := 255) hx hb dX10_byteOf_7 (by decide) ?_
  refine lv_iand hx hb dX10_byteOf_10 ?_
  refine lv_topi (fun v_2 ev_2 => ?_)
  have tv_2 : v_2.toInt = by8 zjw 4 := by rw [ev_2]; exact by8_i4 zjw
  have hP9 := hP.sub (ws' := []) [] rfl
  have hD9 := hD.sub (ws' := []) [] (by decide) rfl
  exact W.iret (v := v_2) hx hb hr (fun t ht hW => ⟨⟨v_2, (), rfl, tv_2, ⟨by rw [ht]; exact hP9, va_K.moved hW.alike hK, hD9⟩⟩, hS.F ht⟩) hS.2.2 dX10_byteOf_11
set_option maxHeartbeats 4000000 in
set_option maxRecDepth 100000 in
theorem c_byteOf_5 (l : Launch) (dC : Nat → ClassId) (dI : Nat → Nat → Nat) (cy : Nat → ClassId) (sz : Nat) (zjw : Int64)  : Met l yX10_byteOf wsX10_byteOf ({ frames := 0, cells := 0, slots := 0, locals := 0 }) (va_Pc [.long zjw, .int 5] (PRE dC dI cy [] sz)) (va_Qi (fun (r : Int32) (_ : Unit) => r.toInt = by8 zjw 5) (fun u t => POST dC dI cy (va_A [] sz) [] t) (va_A [] sz)) 0 0 (va_A [] sz) := by
  refine Met.ofW (cc := cX10_byteOf) (maxL := 3) (ret := (some .int)) (by decide) rfl ?_
  intro p e s m args below meth c s₁ B hml hv
  obtain ⟨rfl, hsz, hP, hK, hD0, hN⟩ := hv
  have hx := B.exec
  have hb := B.bytes
  have hr := B.returns
  have hts := atoms_spec (ws := wsX10_byteOf) B.pre
  have hown : s.vm.findClass RX10 = some m.cls := findClass_of_methodNamed B.named
  have hlocks := B.notSynchronized
  subst hsz
  have hD := hD0.self (sz := s.heap.size)
  generalize hAe : va_A [] s.heap.size = A at hD ⊢
  have hA : ∀ q : Nat, s.heap.size ≤ q → A q := fun q h => by rw [← hAe]; exact Or.inr h
  have hS : va_S A s.heap s.heap [] := va_S.rf
  have hP : va_P (dC, dI) vwCl [] s.heap := hP
  have hl := lv_entry ([.long zjw, .int 5] : List Value) (n := 3) (Nat.le_of_ble_eq_true rfl)
  rw [lg_entry_eq]
  generalize (lg_sl ([.long zjw, .int 5] : List Value) ++ List.replicate (3 - (lg_sl ([.long zjw, .int 5] : List Value)).length) Slot.unset).toArray = ls at hl ⊢
  have hl : lv_has ls 3 [(0, .long zjw), (2, .int 5)] := hl
  refine lv_lload_n hx hb dX10_byteOf_0 rfl (lv_at hl 0 rfl) ?_
  refine lv_bipush (v := 8) hx hb dX10_byteOf_1 (by decide) ?_
  refine lv_iload_n hx hb dX10_byteOf_3 rfl (lv_at hl 1 rfl) ?_
  refine lv_imul hx hb dX10_byteOf_4 ?_
  refine lv_topi (fun v_1 ev_1 => ?_)
  obtain rfl : v_1 = (40 : Int32) := ev_1.trans (by decide)
  refine lv_lushr (v := (zjw.toUInt64 >>> ((40 : Int32).toInt64.toUInt64 &&& Int64.toUInt64 63)).toInt64) hx hb dX10_byteOf_5 rfl ?_
  refine lv_l2i (v := ((zjw.toUInt64 >>> ((40 : Int32).toInt64.toUInt64 &&& Int64.toUInt64 63)).toInt64).toInt32) hx hb dX10_byteOf_6 rfl ?_
  refine lv_sipush (v := 255) hx hb dX10_byteOf_7 (by decide) ?_
  refine lv_iand hx hb dX10_byteOf_10 ?_
  refine lv_topi (fun v_2 ev_2 => ?_)
  have tv_2 : v_2.toInt = by8 zjw 5 := by rw [ev_2]; exact by8_i5 zjw
  have hP9 := hP.sub (ws' := []) [] rfl
  have hD9 := hD.sub (ws' := []) [] (by decide) rfl
  exact W.iret (v := v_2) hx hb hr (fun t ht hW => ⟨⟨v_2, (), rfl, tv_2, ⟨by rw [ht]; exact hP9, va_K.moved hW.alike hK, hD9⟩⟩, hS.F ht⟩) hS.2.2 dX10_byteOf_11
set_option maxHeartbeats 4000000 in
set_option maxRecDepth 100000 in
theorem c_byteOf_6 (l : Launch) (dC : Nat → ClassId) (dI : Nat → Nat → Nat) (cy : Nat → ClassId) (sz : Nat) (zjw : Int64)  : Met l yX10_byteOf wsX10_byteOf ({ frames := 0, cells := 0, slots := 0, locals := 0 }) (va_Pc [.long zjw, .int 6] (PRE dC dI cy [] sz)) (va_Qi (fun (r : Int32) (_ : Unit) => r.toInt = by8 zjw 6) (fun u t => POST dC dI cy (va_A [] sz) [] t) (va_A [] sz)) 0 0 (va_A [] sz) := by
  refine Met.ofW (cc := cX10_byteOf) (maxL := 3) (ret := (some .int)) (by decide) rfl ?_
  intro p e s m args below meth c s₁ B hml hv
  obtain ⟨rfl, hsz, hP, hK, hD0, hN⟩ := hv
  have hx := B.exec
  have hb := B.bytes
  have hr := B.returns
  have hts := atoms_spec (ws := wsX10_byteOf) B.pre
  have hown : s.vm.findClass RX10 = some m.cls := findClass_of_methodNamed B.named
  have hlocks := B.notSynchronized
  subst hsz
  have hD := hD0.self (sz := s.heap.size)
  generalize hAe : va_A [] s.heap.size = A at hD ⊢
  have hA : ∀ q : Nat, s.heap.size ≤ q → A q := fun q h => by rw [← hAe]; exact Or.inr h
  have hS : va_S A s.heap s.heap [] := va_S.rf
  have hP : va_P (dC, dI) vwCl [] s.heap := hP
  have hl := lv_entry ([.long zjw, .int 6] : List Value) (n := 3) (Nat.le_of_ble_eq_true rfl)
  rw [lg_entry_eq]
  generalize (lg_sl ([.long zjw, .int 6] : List Value) ++ List.replicate (3 - (lg_sl ([.long zjw, .int 6] : List Value)).length) Slot.unset).toArray = ls at hl ⊢
  have hl : lv_has ls 3 [(0, .long zjw), (2, .int 6)] := hl
  refine lv_lload_n hx hb dX10_byteOf_0 rfl (lv_at hl 0 rfl) ?_
  refine lv_bipush (v := 8) hx hb dX10_byteOf_1 (by decide) ?_
  refine lv_iload_n hx hb dX10_byteOf_3 rfl (lv_at hl 1 rfl) ?_
  refine lv_imul hx hb dX10_byteOf_4 ?_
  refine lv_topi (fun v_1 ev_1 => ?_)
  obtain rfl : v_1 = (48 : Int32) := ev_1.trans (by decide)
  refine lv_lushr (v := (zjw.toUInt64 >>> ((48 : Int32).toInt64.toUInt64 &&& Int64.toUInt64 63)).toInt64) hx hb dX10_byteOf_5 rfl ?_
  refine lv_l2i (v := ((zjw.toUInt64 >>> ((48 : Int32).toInt64.toUInt64 &&& Int64.toUInt64 63)).toInt64).toInt32) hx hb dX10_byteOf_6 rfl ?_
  refine lv_sipush (v := 255) hx hb dX10_byteOf_7 (by decide) ?_
  refine lv_iand hx hb dX10_byteOf_10 ?_
  refine lv_topi (fun v_2 ev_2 => ?_)
  have tv_2 : v_2.toInt = by8 zjw 6 := by rw [ev_2]; exact by8_i6 zjw
  have hP9 := hP.sub (ws' := []) [] rfl
  have hD9 := hD.sub (ws' := []) [] (by decide) rfl
  exact W.iret (v := v_2) hx hb hr (fun t ht hW => ⟨⟨v_2, (), rfl, tv_2, ⟨by rw [ht]; exact hP9, va_K.moved hW.alike hK, hD9⟩⟩, hS.F ht⟩) hS.2.2 dX10_byteOf_11
set_option maxHeartbeats 4000000 in
set_option maxRecDepth 100000 in
theorem c_byteOf_7 (l : Launch) (dC : Nat → ClassId) (dI : Nat → Nat → Nat) (cy : Nat → ClassId) (sz : Nat) (zjw : Int64)  : Met l yX10_byteOf wsX10_byteOf ({ frames := 0, cells := 0, slots := 0, locals := 0 }) (va_Pc [.long zjw, .int 7] (PRE dC dI cy [] sz)) (va_Qi (fun (r : Int32) (_ : Unit) => r.toInt = by8 zjw 7) (fun u t => POST dC dI cy (va_A [] sz) [] t) (va_A [] sz)) 0 0 (va_A [] sz) := by
  refine Met.ofW (cc := cX10_byteOf) (maxL := 3) (ret := (some .int)) (by decide) rfl ?_
  intro p e s m args below meth c s₁ B hml hv
  obtain ⟨rfl, hsz, hP, hK, hD0, hN⟩ := hv
  have hx := B.exec
  have hb := B.bytes
  have hr := B.returns
  have hts := atoms_spec (ws := wsX10_byteOf) B.pre
  have hown : s.vm.findClass RX10 = some m.cls := findClass_of_methodNamed B.named
  have hlocks := B.notSynchronized
  subst hsz
  have hD := hD0.self (sz := s.heap.size)
  generalize hAe : va_A [] s.heap.size = A at hD ⊢
  have hA : ∀ q : Nat, s.heap.size ≤ q → A q := fun q h => by rw [← hAe]; exact Or.inr h
  have hS : va_S A s.heap s.heap [] := va_S.rf
  have hP : va_P (dC, dI) vwCl [] s.heap := hP
  have hl := lv_entry ([.long zjw, .int 7] : List Value) (n := 3) (Nat.le_of_ble_eq_true rfl)
  rw [lg_entry_eq]
  generalize (lg_sl ([.long zjw, .int 7] : List Value) ++ List.replicate (3 - (lg_sl ([.long zjw, .int 7] : List Value)).length) Slot.unset).toArray = ls at hl ⊢
  have hl : lv_has ls 3 [(0, .long zjw), (2, .int 7)] := hl
  refine lv_lload_n hx hb dX10_byteOf_0 rfl (lv_at hl 0 rfl) ?_
  refine lv_bipush (v := 8) hx hb dX10_byteOf_1 (by decide) ?_
  refine lv_iload_n hx hb dX10_byteOf_3 rfl (lv_at hl 1 rfl) ?_
  refine lv_imul hx hb dX10_byteOf_4 ?_
  refine lv_topi (fun v_1 ev_1 => ?_)
  obtain rfl : v_1 = (56 : Int32) := ev_1.trans (by decide)
  refine lv_lushr (v := (zjw.toUInt64 >>> ((56 : Int32).toInt64.toUInt64 &&& Int64.toUInt64 63)).toInt64) hx hb dX10_byteOf_5 rfl ?_
  refine lv_l2i (v := ((zjw.toUInt64 >>> ((56 : Int32).toInt64.toUInt64 &&& Int64.toUInt64 63)).toInt64).toInt32) hx hb dX10_byteOf_6 rfl ?_
  refine lv_sipush (v := 255) hx hb dX10_byteOf_7 (by decide) ?_
  refine lv_iand hx hb dX10_byteOf_10 ?_
  refine lv_topi (fun v_2 ev_2 => ?_)
  have tv_2 : v_2.toInt = by8 zjw 7 := by rw [ev_2]; exact by8_i7 zjw
  have hP9 := hP.sub (ws' := []) [] rfl
  have hD9 := hD.sub (ws' := []) [] (by decide) rfl
  exact W.iret (v := v_2) hx hb hr (fun t ht hW => ⟨⟨v_2, (), rfl, tv_2, ⟨by rw [ht]; exact hP9, va_K.moved hW.alike hK, hD9⟩⟩, hS.F ht⟩) hS.2.2 dX10_byteOf_11
set_option maxHeartbeats 4000000 in
set_option maxRecDepth 100000 in
theorem c_X10_type (l : Launch) (dC : Nat → ClassId) (dI : Nat → Nat → Nat) (cy : Nat → ClassId) (sz : Nat) (zx : Nat) (zja : Int64) (zib : Int32) (zn : Nat) (zk : Nat) (zr : Nat) (zl : Nat) (zc : Nat) (zs : Nat) (zw : Nat) (zt : Nat) (zm : Nat) (zrt : Nat)  : Met l yX10_type wsX10_type ({ frames := 1, cells := 0, slots := 0, locals := 22 }) (va_Pc [.ref zx, .long zja, .int zib] (PRE dC dI cy [(zx, .inr (10, [.ref zn, .ref zk, .ref zr, .ref zl, .ref zc, .ref zs, .ref zw, .ref zt, .ref zm, .int 0])), (zr, .inr (6, [.ref zrt, .int 0, .int 0, .int 0])), (zrt, .inl (cy 0, 80, .inl (fun _ => 0)))] sz)) (va_Qi (fun (r : Int32) (_ : Unit) => r = an_type zja zib) (fun u t => POST dC dI cy (va_A [(zx, .inr (10, [.ref zn, .ref zk, .ref zr, .ref zl, .ref zc, .ref zs, .ref zw, .ref zt, .ref zm, .int 0])), (zr, .inr (6, [.ref zrt, .int 0, .int 0, .int 0])), (zrt, .inl (cy 0, 80, .inl (fun _ => 0)))] sz) [] t) (va_A [(zx, .inr (10, [.ref zn, .ref zk, .ref zr, .ref zl, .ref zc, .ref zs, .ref zw, .ref zt, .ref zm, .int 0])), (zr, .inr (6, [.ref zrt, .int 0, .int 0, .int 0])), (zrt, .inl (cy 0, 80, .inl (fun _ => 0)))] sz)) 0 0 (va_A [(zx, .inr (10, [.ref zn, .ref zk, .ref zr, .ref zl, .ref zc, .ref zs, .ref zw, .ref zt, .ref zm, .int 0])), (zr, .inr (6, [.ref zrt, .int 0, .int 0, .int 0])), (zrt, .inl (cy 0, 80, .inl (fun _ => 0)))] sz) := by
  refine Met.ofW (cc := cX10_type) (maxL := 5) (ret := (some .int)) (by decide) rfl ?_
  intro p e s m args below meth c s₁ B hml hv
  obtain ⟨rfl, hsz, hP, hK, hD0, hN⟩ := hv
  have hx := B.exec
  have hb := B.bytes
  have hr := B.returns
  have hts := atoms_spec (ws := wsX10_type) B.pre
  have hown : s.vm.findClass RX10 = some m.cls := findClass_of_methodNamed B.named
  have hlocks := B.notSynchronized
  subst hsz
  have hD := hD0.self (sz := s.heap.size)
  generalize hAe : va_A [(zx, .inr (10, [.ref zn, .ref zk, .ref zr, .ref zl, .ref zc, .ref zs, .ref zw, .ref zt, .ref zm, .int 0])), (zr, .inr (6, [.ref zrt, .int 0, .int 0, .int 0])), (zrt, .inl (cy 0, 80, .inl (fun _ => 0)))] s.heap.size = A at hD ⊢
  have hA : ∀ q : Nat, s.heap.size ≤ q → A q := fun q h => by rw [← hAe]; exact Or.inr h
  have hS : va_S A s.heap s.heap [] := va_S.rf
  have hP : va_P (dC, dI) vwCl [(zx, .inr (10, [.ref zn, .ref zk, .ref zr, .ref zl, .ref zc, .ref zs, .ref zw, .ref zt, .ref zm, .int 0])), (zr, .inr (6, [.ref zrt, .int 0, .int 0, .int 0])), (zrt, .inl (cy 0, 80, .inl (fun _ => 0)))] s.heap := hP
  have hl := lv_entry ([.ref zx, .long zja, .int zib] : List Value) (n := 5) (Nat.le_of_ble_eq_true rfl)
  rw [lg_entry_eq]
  generalize (lg_sl ([.ref zx, .long zja, .int zib] : List Value) ++ List.replicate (5 - (lg_sl ([.ref zx, .long zja, .int zib] : List Value)).length) Slot.unset).toArray = ls at hl ⊢
  have hl : lv_has ls 5 [(0, .ref zx), (1, .long zja), (3, .int zib)] := hl
  refine lv_iload_n hx hb dX10_type_0 rfl (lv_at hl 2 rfl) ?_
  refine lv_iconst (v := 1) hx hb dX10_type_1 (by decide) ?_
  refine lv_bipush (v := 8) hx hb dX10_type_2 (by decide) ?_
  refine cj_i (wc := []) (wr := [(zx, .inr (10, [.ref zn, .ref zk, .ref zr, .ref zl, .ref zc, .ref zs, .ref zw, .ref zt, .ref zm, .int 0])), (zr, .inr (6, [.ref zrt, .int 0, .int 0, .int 0])), (zrt, .inl (cy 0, 80, .inl (fun _ => 0)))]) (w1 := fun (_ : Unit) => []) (va_runS (As := [.int zib, .int 1, .int 8]) (rest := []) ⟨hx, hb, hml, hown, hts⟩ (c_X10_isWithin l dC dI cy s.heap.size zib 1 8 1 8 (by first | rfl | decide | omega | exact Int32.toInt_toInt64 _) (by first | rfl | decide | omega | exact Int32.toInt_toInt64 _)) (va_cwS 3 hts gX10_type_X10_isWithin rfl rfl rfl (by decide +kernel) ⟨(Nat.le_of_ble_eq_true rfl), (Nat.le_of_ble_eq_true rfl)⟩) (PRE.s (hP.sub [] rfl) hK (hD.sub [] (by decide) rfl) hN) rfl rfl hl.1 rfl (lv_room (Nat.le_of_ble_eq_true rfl)) dX10_type_4 ⟨(Nat.le_of_ble_eq_true rfl), (Nat.le_of_ble_eq_true rfl)⟩) hP hD hS hA [] [0, 1, 2] rfl rfl rfl (by decide) (fun r_2 u_1 H locs hw_3 hP hD hS => ?_)
  have hP : va_P (dC, dI) vwCl [(zx, .inr (10, [.ref zn, .ref zk, .ref zr, .ref zl, .ref zc, .ref zs, .ref zw, .ref zt, .ref zm, .int 0])), (zr, .inr (6, [.ref zrt, .int 0, .int 0, .int 0])), (zrt, .inl (cy 0, 80, .inl (fun _ => 0)))] H := hP
  have hD : va_D A [(zx, .inr (10, [.ref zn, .ref zk, .ref zr, .ref zl, .ref zc, .ref zs, .ref zw, .ref zt, .ref zm, .int 0])), (zr, .inr (6, [.ref zrt, .int 0, .int 0, .int 0])), (zrt, .inl (cy 0, 80, .inl (fun _ => 0)))] := hD
  have hw_3 : r_2 = if 1 ≤ zib.toInt ∧ zib.toInt ≤ 8 then 1 else 0 := hw_3
  refine lv_if_ne (tgt := 12) hx hb dX10_type_7 (by decide) (fun c_4 => ?_) (fun c_4 => ?_)
  · have f_5 : 1 ≤ zib.toInt ∧ zib.toInt ≤ 8 := bz_1 hw_3 c_4
    have k_6 : zib = 1 ∨ zib = 2 ∨ zib = 3 ∨ zib = 4 ∨ zib = 5 ∨ zib = 6 ∨ zib = 7 ∨ zib = 8 := ixn_8 (by omega) (by omega)
    rcases k_6 with rfl | rfl | rfl | rfl | rfl | rfl | rfl | rfl
    · have zk_6_1 : (1 : Int32).toInt = 1 := by decide
      refine lv_iconst (v := 0) hx hb dX10_type_12 (by decide) ?_
      refine lv_istore (lv' := [(4, .int 0), (0, .ref zx), (1, .long zja), (3, .int 1)]) hx hb dX10_type_13 hl (by decide) rfl (fun ls hl => ?_)
      refine lv_iload hx hb dX10_type_15 (lv_at hl 0 rfl) ?_
      refine lv_iload_n hx hb dX10_type_17 rfl (lv_at hl 3 rfl) ?_
      refine lv_icmp_ge (tgt := 45) hx hb dX10_type_18 (by decide) (fun c_7 => absurd c_7 (by decide)) (fun c_7 => ?_)
      refine lv_lload_n hx hb dX10_type_21 rfl (lv_at hl 2 rfl) ?_
      refine lv_iload hx hb dX10_type_22 (lv_at hl 0 rfl) ?_
      refine cj_i (wc := []) (wr := [(zx, .inr (10, [.ref zn, .ref zk, .ref zr, .ref zl, .ref zc, .ref zs, .ref zw, .ref zt, .ref zm, .int 0])), (zr, .inr (6, [.ref zrt, .int 0, .int 0, .int 0])), (zrt, .inl (cy 0, 80, .inl (fun _ => 0)))]) (w1 := fun (_ : Unit) => []) (va_runS (As := [.long zja, .int 0]) (rest := []) ⟨hx, hb, hml, hown, hts⟩ (c_byteOf_0 l dC dI cy H.size zja) (va_cwS 2 hts gX10_type_X10_byteOf rfl rfl rfl (by decide +kernel) ⟨(Nat.le_of_ble_eq_true rfl), (Nat.le_of_ble_eq_true rfl)⟩) (PRE.s (hP.sub [] rfl) hK (hD.sub [] (by decide) rfl) hN) rfl rfl hl.1 rfl (lv_room (Nat.le_of_ble_eq_true rfl)) dX10_type_24 ⟨(Nat.le_of_ble_eq_true rfl), (Nat.le_of_ble_eq_true rfl)⟩) hP hD hS hA [] [0, 1, 2] rfl rfl rfl (by decide) (fun r_9 u_8 H locs hw_10 hP hD hS => ?_)
      have hP : va_P (dC, dI) vwCl [(zx, .inr (10, [.ref zn, .ref zk, .ref zr, .ref zl, .ref zc, .ref zs, .ref zw, .ref zt, .ref zm, .int 0])), (zr, .inr (6, [.ref zrt, .int 0, .int 0, .int 0])), (zrt, .inl (cy 0, 80, .inl (fun _ => 0)))] H := hP
      have hD : va_D A [(zx, .inr (10, [.ref zn, .ref zk, .ref zr, .ref zl, .ref zc, .ref zs, .ref zw, .ref zt, .ref zm, .int 0])), (zr, .inr (6, [.ref zrt, .int 0, .int 0, .int 0])), (zrt, .inl (cy 0, 80, .inl (fun _ => 0)))] := hD
      have hw_10 : r_9.toInt = by8 zja 0 := hw_10
      refine lv_bipush (v := 32) hx hb dX10_type_27 (by decide) ?_
      refine lv_bipush (v := 126) hx hb dX10_type_29 (by decide) ?_
      refine cj_i (wc := []) (wr := [(zx, .inr (10, [.ref zn, .ref zk, .ref zr, .ref zl, .ref zc, .ref zs, .ref zw, .ref zt, .ref zm, .int 0])), (zr, .inr (6, [.ref zrt, .int 0, .int 0, .int 0])), (zrt, .inl (cy 0, 80, .inl (fun _ => 0)))]) (w1 := fun (_ : Unit) => []) (va_runS (As := [.int r_9, .int 32, .int 126]) (rest := []) ⟨hx, hb, hml, hown, hts⟩ (c_X10_isWithin l dC dI cy H.size r_9 32 126 32 126 (by first | rfl | decide | omega | exact Int32.toInt_toInt64 _) (by first | rfl | decide | omega | exact Int32.toInt_toInt64 _)) (va_cwS 3 hts gX10_type_X10_isWithin rfl rfl rfl (by decide +kernel) ⟨(Nat.le_of_ble_eq_true rfl), (Nat.le_of_ble_eq_true rfl)⟩) (PRE.s (hP.sub [] rfl) hK (hD.sub [] (by decide) rfl) hN) rfl rfl hl.1 rfl (lv_room (Nat.le_of_ble_eq_true rfl)) dX10_type_31 ⟨(Nat.le_of_ble_eq_true rfl), (Nat.le_of_ble_eq_true rfl)⟩) hP hD hS hA [] [0, 1, 2] rfl rfl rfl (by decide) (fun r_12 u_11 H locs hw_13 hP hD hS => ?_)
      have hP : va_P (dC, dI) vwCl [(zx, .inr (10, [.ref zn, .ref zk, .ref zr, .ref zl, .ref zc, .ref zs, .ref zw, .ref zt, .ref zm, .int 0])), (zr, .inr (6, [.ref zrt, .int 0, .int 0, .int 0])), (zrt, .inl (cy 0, 80, .inl (fun _ => 0)))] H := hP
      have hD : va_D A [(zx, .inr (10, [.ref zn, .ref zk, .ref zr, .ref zl, .ref zc, .ref zs, .ref zw, .ref zt, .ref zm, .int 0])), (zr, .inr (6, [.ref zrt, .int 0, .int 0, .int 0])), (zrt, .inl (cy 0, 80, .inl (fun _ => 0)))] := hD
      have hw_13 : r_12 = if 32 ≤ r_9.toInt ∧ r_9.toInt ≤ 126 then 1 else 0 := hw_13
      refine lv_if_ne (tgt := 39) hx hb dX10_type_34 (by decide) (fun c_14 => ?_) (fun c_14 => ?_)
      · have f_15 : 32 ≤ r_9.toInt ∧ r_9.toInt ≤ 126 := bz_1 hw_13 c_14
        have g_16 : okb zja 0 := by unfold okb; rw [← hw_10]; exact f_15
        refine lv_iinc (v := 1) (lv' := [(4, .int 1), (0, .ref zx), (1, .long zja), (3, .int 1)]) hx hb dX10_type_39 hl (k := 0) rfl (by decide) (by decide) rfl (fun ls hl => ?_)
        refine lv_goto (tgt := 15) hx hb dX10_type_42 (by decide) ?_
        refine lv_iload hx hb dX10_type_15 (lv_at hl 0 rfl) ?_
        refine lv_iload_n hx hb dX10_type_17 rfl (lv_at hl 3 rfl) ?_
        refine lv_icmp_ge (tgt := 45) hx hb dX10_type_18 (by decide) (fun c_17 => ?_) (fun c_17 => absurd (by decide) c_17)
        refine lv_aload_n hx hb dX10_type_45 rfl (lv_at hl 1 rfl) ?_
        refine va_get (D := (dC, dI)) (ci := 10) (v := .ref zr) (C := RX10) (T := TX10) (N := 10) hx hb hts (by decide +kernel) hown hK hP 0 rfl rfl 2 (by decide) (hts (.fieldLink RX10 22 "DripStone" "reader" "LDripStone$Reader;") (by decide +kernel)) (fun _ h9 => h9) rfl dX10_type_46 ?_
        refine va_get (D := (dC, dI)) (ci := 6) (v := .int 0) (C := RX6) (T := TX6) (N := 4) hx hb hts (by decide +kernel) hown hK hP 1 rfl rfl 1 (by decide) (hts (.fieldLink RX10 116 "DripStone$Reader" "typed" "I") (by decide +kernel)) (fun _ h9 => h9) rfl dX10_type_49 ?_
        refine lv_iload_n hx hb dX10_type_52 rfl (lv_at hl 3 rfl) ?_
        refine lv_iadd hx hb dX10_type_53 ?_
        refine lv_topi (fun v_18 ev_18 => ?_)
        obtain rfl : v_18 = (1 : Int32) := ev_18.trans (by decide)
        refine lv_bipush (v := 80) hx hb dX10_type_54 (by decide) ?_
        refine lv_icmp_le (tgt := 62) hx hb dX10_type_56 (by decide) (fun c_19 => ?_) (fun c_19 => absurd (by decide) c_19)
        refine lv_iload_n hx hb dX10_type_62 rfl (lv_at hl 3 rfl) ?_
        refine lv_iconst (v := 1) hx hb dX10_type_63 (by decide) ?_
        refine lv_isub hx hb dX10_type_64 ?_
        refine lv_topi (fun v_20 ev_20 => ?_)
        obtain rfl : v_20 = (0 : Int32) := ev_20.trans (by decide)
        refine lv_istore (lv' := [(4, .int 0), (0, .ref zx), (1, .long zja), (3, .int 1)]) hx hb dX10_type_65 hl (by decide) rfl (fun ls hl => ?_)
        refine lv_iload hx hb dX10_type_67 (lv_at hl 0 rfl) ?_
        refine lv_if_lt (tgt := 112) hx hb dX10_type_69 (by decide) (fun c_21 => absurd c_21 (by decide)) (fun c_21 => ?_)
        refine lv_aload_n hx hb dX10_type_72 rfl (lv_at hl 1 rfl) ?_
        refine va_get (D := (dC, dI)) (ci := 10) (v := .ref zr) (C := RX10) (T := TX10) (N := 10) hx hb hts (by decide +kernel) hown hK hP 0 rfl rfl 2 (by decide) (hts (.fieldLink RX10 22 "DripStone" "reader" "LDripStone$Reader;") (by decide +kernel)) (fun _ h9 => h9) rfl dX10_type_73 ?_
        refine va_get (D := (dC, dI)) (ci := 6) (v := .ref zrt) (C := RX6) (T := TX6) (N := 4) hx hb hts (by decide +kernel) hown hK hP 1 rfl rfl 0 (by decide) (hts (.fieldLink RX10 119 "DripStone$Reader" "tape" "[I") (by decide +kernel)) (fun _ h9 => h9) rfl dX10_type_76 ?_
        refine lv_aload_n hx hb dX10_type_79 rfl (lv_at hl 1 rfl) ?_
        refine va_get (D := (dC, dI)) (ci := 10) (v := .ref zr) (C := RX10) (T := TX10) (N := 10) hx hb hts (by decide +kernel) hown hK hP 0 rfl rfl 2 (by decide) (hts (.fieldLink RX10 22 "DripStone" "reader" "LDripStone$Reader;") (by decide +kernel)) (fun _ h9 => h9) rfl dX10_type_80 ?_
        refine va_get (D := (dC, dI)) (ci := 6) (v := .int 0) (C := RX6) (T := TX6) (N := 4) hx hb hts (by decide +kernel) hown hK hP 1 rfl rfl 1 (by decide) (hts (.fieldLink RX10 116 "DripStone$Reader" "typed" "I") (by decide +kernel)) (fun _ h9 => h9) rfl dX10_type_83 ?_
        refine lv_lload_n hx hb dX10_type_86 rfl (lv_at hl 2 rfl) ?_
        refine lv_iload hx hb dX10_type_87 (lv_at hl 0 rfl) ?_
        refine cj_i (wc := []) (wr := [(zx, .inr (10, [.ref zn, .ref zk, .ref zr, .ref zl, .ref zc, .ref zs, .ref zw, .ref zt, .ref zm, .int 0])), (zr, .inr (6, [.ref zrt, .int 0, .int 0, .int 0])), (zrt, .inl (cy 0, 80, .inl (fun _ => 0)))]) (w1 := fun (_ : Unit) => []) (va_runS (As := [.long zja, .int 0]) (rest := [.int 0, .ref zrt]) ⟨hx, hb, hml, hown, hts⟩ (c_byteOf_0 l dC dI cy H.size zja) (va_cwS 2 hts gX10_type_X10_byteOf rfl rfl rfl (by decide +kernel) ⟨(Nat.le_of_ble_eq_true rfl), (Nat.le_of_ble_eq_true rfl)⟩) (PRE.s (hP.sub [] rfl) hK (hD.sub [] (by decide) rfl) hN) rfl rfl hl.1 rfl (lv_room (Nat.le_of_ble_eq_true rfl)) dX10_type_89 ⟨(Nat.le_of_ble_eq_true rfl), (Nat.le_of_ble_eq_true rfl)⟩) hP hD hS hA [] [0, 1, 2] rfl rfl rfl (by decide) (fun r_23 u_22 H locs hw_24 hP hD hS => ?_)
        have hP : va_P (dC, dI) vwCl [(zx, .inr (10, [.ref zn, .ref zk, .ref zr, .ref zl, .ref zc, .ref zs, .ref zw, .ref zt, .ref zm, .int 0])), (zr, .inr (6, [.ref zrt, .int 0, .int 0, .int 0])), (zrt, .inl (cy 0, 80, .inl (fun _ => 0)))] H := hP
        have hD : va_D A [(zx, .inr (10, [.ref zn, .ref zk, .ref zr, .ref zl, .ref zc, .ref zs, .ref zw, .ref zt, .ref zm, .int 0])), (zr, .inr (6, [.ref zrt, .int 0, .int 0, .int 0])), (zrt, .inl (cy 0, 80, .inl (fun _ => 0)))] := hD
        have hw_24 : r_23.toInt = by8 zja 0 := hw_24
        refine va_iast hx hb hK hP hD hS 2 0 rfl rfl (vp_in_iff.mpr ⟨by decide, by decide⟩) dX10_type_92 (fun H locs hP hD hS => ?_)
        have hP : va_P (dC, dI) vwCl [(zx, .inr (10, [.ref zn, .ref zk, .ref zr, .ref zl, .ref zc, .ref zs, .ref zw, .ref zt, .ref zm, .int 0])), (zr, .inr (6, [.ref zrt, .int 0, .int 0, .int 0])), (zrt, .inl (cy 0, 80, .inl (upd (fun _ => 0) (0 : Int32).toNatClampNeg r_23)))] H := hP
        have hD : va_D A [(zx, .inr (10, [.ref zn, .ref zk, .ref zr, .ref zl, .ref zc, .ref zs, .ref zw, .ref zt, .ref zm, .int 0])), (zr, .inr (6, [.ref zrt, .int 0, .int 0, .int 0])), (zrt, .inl (cy 0, 80, .inl (upd (fun _ => 0) (0 : Int32).toNatClampNeg r_23)))] := hD
        refine lv_aload_n hx hb dX10_type_93 rfl (lv_at hl 1 rfl) ?_
        refine va_get (D := (dC, dI)) (ci := 10) (v := .ref zr) (C := RX10) (T := TX10) (N := 10) hx hb hts (by decide +kernel) hown hK hP 0 rfl rfl 2 (by decide) (hts (.fieldLink RX10 22 "DripStone" "reader" "LDripStone$Reader;") (by decide +kernel)) (fun _ h9 => h9) rfl dX10_type_94 ?_
        refine lv_dup hx hb dX10_type_97 rfl ?_
        refine va_get (D := (dC, dI)) (ci := 6) (v := .int 0) (C := RX6) (T := TX6) (N := 4) hx hb hts (by decide +kernel) hown hK hP 1 rfl rfl 1 (by decide) (hts (.fieldLink RX10 116 "DripStone$Reader" "typed" "I") (by decide +kernel)) (fun _ h9 => h9) rfl dX10_type_98 ?_
        refine lv_iconst (v := 1) hx hb dX10_type_101 (by decide) ?_
        refine lv_iadd hx hb dX10_type_102 ?_
        refine lv_topi (fun v_25 ev_25 => ?_)
        obtain rfl : v_25 = (1 : Int32) := ev_25.trans (by decide)
        refine va_put (D := (dC, dI)) (ci := 6) (v := .int 1) (ty := .int) (C := RX6) (T := TX6) (N := 4) hx hb hts (by decide +kernel) tyX6 tyX6_ok nmX6 hown hK hP hD hS 1 rfl rfl 1 (by decide) (hts (.fieldLink RX10 116 "DripStone$Reader" "typed" "I") (by decide +kernel)) (fun _ h9 => h9) rfl (by decide +kernel) rfl rfl (Nat.le_of_ble_eq_true rfl) dX10_type_103 (fun H locs hP hD hS => ?_)
        have hP : va_P (dC, dI) vwCl [(zx, .inr (10, [.ref zn, .ref zk, .ref zr, .ref zl, .ref zc, .ref zs, .ref zw, .ref zt, .ref zm, .int 0])), (zr, .inr (6, [.ref zrt, .int 1, .int 0, .int 0])), (zrt, .inl (cy 0, 80, .inl (upd (fun _ => 0) (0 : Int32).toNatClampNeg r_23)))] H := hP
        have hD : va_D A [(zx, .inr (10, [.ref zn, .ref zk, .ref zr, .ref zl, .ref zc, .ref zs, .ref zw, .ref zt, .ref zm, .int 0])), (zr, .inr (6, [.ref zrt, .int 1, .int 0, .int 0])), (zrt, .inl (cy 0, 80, .inl (upd (fun _ => 0) (0 : Int32).toNatClampNeg r_23)))] := hD
        refine lv_iinc (v := (-1)) (lv' := [(4, .int (-1)), (0, .ref zx), (1, .long zja), (3, .int 1)]) hx hb dX10_type_106 hl (k := 0) rfl (by decide) (by decide) rfl (fun ls hl => ?_)
        refine lv_goto (tgt := 67) hx hb dX10_type_109 (by decide) ?_
        refine lv_iload hx hb dX10_type_67 (lv_at hl 0 rfl) ?_
        refine lv_if_lt (tgt := 112) hx hb dX10_type_69 (by decide) (fun c_26 => ?_) (fun c_26 => absurd (by decide) c_26)
        refine lv_aload_n hx hb dX10_type_112 rfl (lv_at hl 1 rfl) ?_
        refine va_get (D := (dC, dI)) (ci := 10) (v := .ref zr) (C := RX10) (T := TX10) (N := 10) hx hb hts (by decide +kernel) hown hK hP 0 rfl rfl 2 (by decide) (hts (.fieldLink RX10 22 "DripStone" "reader" "LDripStone$Reader;") (by decide +kernel)) (fun _ h9 => h9) rfl dX10_type_113 ?_
        refine va_get (D := (dC, dI)) (ci := 6) (v := .int 1) (C := RX6) (T := TX6) (N := 4) hx hb hts (by decide +kernel) hown hK hP 1 rfl rfl 1 (by decide) (hts (.fieldLink RX10 116 "DripStone$Reader" "typed" "I") (by decide +kernel)) (fun _ h9 => h9) rfl dX10_type_116 ?_
        have hP9 := hP.sub (ws' := []) [] rfl
        have hD9 := hD.sub (ws' := []) [] (by decide) rfl
        exact W.iret (v := 1) hx hb hr (fun t ht hW => ⟨⟨1, (), rfl, ((an_type_1 _).trans (if_pos g_16)).symm, ⟨by rw [ht]; exact hP9, va_K.moved hW.alike hK, hD9⟩⟩, hS.F ht⟩) hS.2.2 dX10_type_119
      · have f_15 : ¬ (32 ≤ r_9.toInt ∧ r_9.toInt ≤ 126) := bz_0 hw_13 c_14
        have g_27 : ¬ okb zja 0 := by unfold okb; rw [← hw_10]; exact f_15
        refine lv_iconst (v := (-1)) hx hb dX10_type_37 (by decide) ?_
        have hP9 := hP.sub (ws' := []) [] rfl
        have hD9 := hD.sub (ws' := []) [] (by decide) rfl
        exact W.iret (v := (-1)) hx hb hr (fun t ht hW => ⟨⟨(-1), (), rfl, ((an_type_1 _).trans (if_neg (fun h => g_27 (h)))).symm, ⟨by rw [ht]; exact hP9, va_K.moved hW.alike hK, hD9⟩⟩, hS.F ht⟩) hS.2.2 dX10_type_38
    · have zk_6_2 : (2 : Int32).toInt = 2 := by decide
      refine lv_iconst (v := 0) hx hb dX10_type_12 (by decide) ?_
      refine lv_istore (lv' := [(4, .int 0), (0, .ref zx), (1, .long zja), (3, .int 2)]) hx hb dX10_type_13 hl (by decide) rfl (fun ls hl => ?_)
      refine lv_iload hx hb dX10_type_15 (lv_at hl 0 rfl) ?_
      refine lv_iload_n hx hb dX10_type_17 rfl (lv_at hl 3 rfl) ?_
      refine lv_icmp_ge (tgt := 45) hx hb dX10_type_18 (by decide) (fun c_28 => absurd c_28 (by decide)) (fun c_28 => ?_)
      refine lv_lload_n hx hb dX10_type_21 rfl (lv_at hl 2 rfl) ?_
      refine lv_iload hx hb dX10_type_22 (lv_at hl 0 rfl) ?_
      refine cj_i (wc := []) (wr := [(zx, .inr (10, [.ref zn, .ref zk, .ref zr, .ref zl, .ref zc, .ref zs, .ref zw, .ref zt, .ref zm, .int 0])), (zr, .inr (6, [.ref zrt, .int 0, .int 0, .int 0])), (zrt, .inl (cy 0, 80, .inl (fun _ => 0)))]) (w1 := fun (_ : Unit) => []) (va_runS (As := [.long zja, .int 0]) (rest := []) ⟨hx, hb, hml, hown, hts⟩ (c_byteOf_0 l dC dI cy H.size zja) (va_cwS 2 hts gX10_type_X10_byteOf rfl rfl rfl (by decide +kernel) ⟨(Nat.le_of_ble_eq_true rfl), (Nat.le_of_ble_eq_true rfl)⟩) (PRE.s (hP.sub [] rfl) hK (hD.sub [] (by decide) rfl) hN) rfl rfl hl.1 rfl (lv_room (Nat.le_of_ble_eq_true rfl)) dX10_type_24 ⟨(Nat.le_of_ble_eq_true rfl), (Nat.le_of_ble_eq_true rfl)⟩) hP hD hS hA [] [0, 1, 2] rfl rfl rfl (by decide) (fun r_30 u_29 H locs hw_31 hP hD hS => ?_)
      have hP : va_P (dC, dI) vwCl [(zx, .inr (10, [.ref zn, .ref zk, .ref zr, .ref zl, .ref zc, .ref zs, .ref zw, .ref zt, .ref zm, .int 0])), (zr, .inr (6, [.ref zrt, .int 0, .int 0, .int 0])), (zrt, .inl (cy 0, 80, .inl (fun _ => 0)))] H := hP
      have hD : va_D A [(zx, .inr (10, [.ref zn, .ref zk, .ref zr, .ref zl, .ref zc, .ref zs, .ref zw, .ref zt, .ref zm, .int 0])), (zr, .inr (6, [.ref zrt, .int 0, .int 0, .int 0])), (zrt, .inl (cy 0, 80, .inl (fun _ => 0)))] := hD
      have hw_31 : r_30.toInt = by8 zja 0 := hw_31
      refine lv_bipush (v := 32) hx hb dX10_type_27 (by decide) ?_
      refine lv_bipush (v := 126) hx hb dX10_type_29 (by decide) ?_
      refine cj_i (wc := []) (wr := [(zx, .inr (10, [.ref zn, .ref zk, .ref zr, .ref zl, .ref zc, .ref zs, .ref zw, .ref zt, .ref zm, .int 0])), (zr, .inr (6, [.ref zrt, .int 0, .int 0, .int 0])), (zrt, .inl (cy 0, 80, .inl (fun _ => 0)))]) (w1 := fun (_ : Unit) => []) (va_runS (As := [.int r_30, .int 32, .int 126]) (rest := []) ⟨hx, hb, hml, hown, hts⟩ (c_X10_isWithin l dC dI cy H.size r_30 32 126 32 126 (by first | rfl | decide | omega | exact Int32.toInt_toInt64 _) (by first | rfl | decide | omega | exact Int32.toInt_toInt64 _)) (va_cwS 3 hts gX10_type_X10_isWithin rfl rfl rfl (by decide +kernel) ⟨(Nat.le_of_ble_eq_true rfl), (Nat.le_of_ble_eq_true rfl)⟩) (PRE.s (hP.sub [] rfl) hK (hD.sub [] (by decide) rfl) hN) rfl rfl hl.1 rfl (lv_room (Nat.le_of_ble_eq_true rfl)) dX10_type_31 ⟨(Nat.le_of_ble_eq_true rfl), (Nat.le_of_ble_eq_true rfl)⟩) hP hD hS hA [] [0, 1, 2] rfl rfl rfl (by decide) (fun r_33 u_32 H locs hw_34 hP hD hS => ?_)
      have hP : va_P (dC, dI) vwCl [(zx, .inr (10, [.ref zn, .ref zk, .ref zr, .ref zl, .ref zc, .ref zs, .ref zw, .ref zt, .ref zm, .int 0])), (zr, .inr (6, [.ref zrt, .int 0, .int 0, .int 0])), (zrt, .inl (cy 0, 80, .inl (fun _ => 0)))] H := hP
      have hD : va_D A [(zx, .inr (10, [.ref zn, .ref zk, .ref zr, .ref zl, .ref zc, .ref zs, .ref zw, .ref zt, .ref zm, .int 0])), (zr, .inr (6, [.ref zrt, .int 0, .int 0, .int 0])), (zrt, .inl (cy 0, 80, .inl (fun _ => 0)))] := hD
      have hw_34 : r_33 = if 32 ≤ r_30.toInt ∧ r_30.toInt ≤ 126 then 1 else 0 := hw_34
      refine lv_if_ne (tgt := 39) hx hb dX10_type_34 (by decide) (fun c_35 => ?_) (fun c_35 => ?_)
      · have f_36 : 32 ≤ r_30.toInt ∧ r_30.toInt ≤ 126 := bz_1 hw_34 c_35
        have g_37 : okb zja 0 := by unfold okb; rw [← hw_31]; exact f_36
        refine lv_iinc (v := 1) (lv' := [(4, .int 1), (0, .ref zx), (1, .long zja), (3, .int 2)]) hx hb dX10_type_39 hl (k := 0) rfl (by decide) (by decide) rfl (fun ls hl => ?_)
        refine lv_goto (tgt := 15) hx hb dX10_type_42 (by decide) ?_
        refine lv_iload hx hb dX10_type_15 (lv_at hl 0 rfl) ?_
        refine lv_iload_n hx hb dX10_type_17 rfl (lv_at hl 3 rfl) ?_
        refine lv_icmp_ge (tgt := 45) hx hb dX10_type_18 (by decide) (fun c_38 => absurd c_38 (by decide)) (fun c_38 => ?_)
        refine lv_lload_n hx hb dX10_type_21 rfl (lv_at hl 2 rfl) ?_
        refine lv_iload hx hb dX10_type_22 (lv_at hl 0 rfl) ?_
        refine cj_i (wc := []) (wr := [(zx, .inr (10, [.ref zn, .ref zk, .ref zr, .ref zl, .ref zc, .ref zs, .ref zw, .ref zt, .ref zm, .int 0])), (zr, .inr (6, [.ref zrt, .int 0, .int 0, .int 0])), (zrt, .inl (cy 0, 80, .inl (fun _ => 0)))]) (w1 := fun (_ : Unit) => []) (va_runS (As := [.long zja, .int 1]) (rest := []) ⟨hx, hb, hml, hown, hts⟩ (c_byteOf_1 l dC dI cy H.size zja) (va_cwS 2 hts gX10_type_X10_byteOf rfl rfl rfl (by decide +kernel) ⟨(Nat.le_of_ble_eq_true rfl), (Nat.le_of_ble_eq_true rfl)⟩) (PRE.s (hP.sub [] rfl) hK (hD.sub [] (by decide) rfl) hN) rfl rfl hl.1 rfl (lv_room (Nat.le_of_ble_eq_true rfl)) dX10_type_24 ⟨(Nat.le_of_ble_eq_true rfl), (Nat.le_of_ble_eq_true rfl)⟩) hP hD hS hA [] [0, 1, 2] rfl rfl rfl (by decide) (fun r_40 u_39 H locs hw_41 hP hD hS => ?_)
        have hP : va_P (dC, dI) vwCl [(zx, .inr (10, [.ref zn, .ref zk, .ref zr, .ref zl, .ref zc, .ref zs, .ref zw, .ref zt, .ref zm, .int 0])), (zr, .inr (6, [.ref zrt, .int 0, .int 0, .int 0])), (zrt, .inl (cy 0, 80, .inl (fun _ => 0)))] H := hP
        have hD : va_D A [(zx, .inr (10, [.ref zn, .ref zk, .ref zr, .ref zl, .ref zc, .ref zs, .ref zw, .ref zt, .ref zm, .int 0])), (zr, .inr (6, [.ref zrt, .int 0, .int 0, .int 0])), (zrt, .inl (cy 0, 80, .inl (fun _ => 0)))] := hD
        have hw_41 : r_40.toInt = by8 zja 1 := hw_41
        refine lv_bipush (v := 32) hx hb dX10_type_27 (by decide) ?_
        refine lv_bipush (v := 126) hx hb dX10_type_29 (by decide) ?_
        refine cj_i (wc := []) (wr := [(zx, .inr (10, [.ref zn, .ref zk, .ref zr, .ref zl, .ref zc, .ref zs, .ref zw, .ref zt, .ref zm, .int 0])), (zr, .inr (6, [.ref zrt, .int 0, .int 0, .int 0])), (zrt, .inl (cy 0, 80, .inl (fun _ => 0)))]) (w1 := fun (_ : Unit) => []) (va_runS (As := [.int r_40, .int 32, .int 126]) (rest := []) ⟨hx, hb, hml, hown, hts⟩ (c_X10_isWithin l dC dI cy H.size r_40 32 126 32 126 (by first | rfl | decide | omega | exact Int32.toInt_toInt64 _) (by first | rfl | decide | omega | exact Int32.toInt_toInt64 _)) (va_cwS 3 hts gX10_type_X10_isWithin rfl rfl rfl (by decide +kernel) ⟨(Nat.le_of_ble_eq_true rfl), (Nat.le_of_ble_eq_true rfl)⟩) (PRE.s (hP.sub [] rfl) hK (hD.sub [] (by decide) rfl) hN) rfl rfl hl.1 rfl (lv_room (Nat.le_of_ble_eq_true rfl)) dX10_type_31 ⟨(Nat.le_of_ble_eq_true rfl), (Nat.le_of_ble_eq_true rfl)⟩) hP hD hS hA [] [0, 1, 2] rfl rfl rfl (by decide) (fun r_43 u_42 H locs hw_44 hP hD hS => ?_)
        have hP : va_P (dC, dI) vwCl [(zx, .inr (10, [.ref zn, .ref zk, .ref zr, .ref zl, .ref zc, .ref zs, .ref zw, .ref zt, .ref zm, .int 0])), (zr, .inr (6, [.ref zrt, .int 0, .int 0, .int 0])), (zrt, .inl (cy 0, 80, .inl (fun _ => 0)))] H := hP
        have hD : va_D A [(zx, .inr (10, [.ref zn, .ref zk, .ref zr, .ref zl, .ref zc, .ref zs, .ref zw, .ref zt, .ref zm, .int 0])), (zr, .inr (6, [.ref zrt, .int 0, .int 0, .int 0])), (zrt, .inl (cy 0, 80, .inl (fun _ => 0)))] := hD
        have hw_44 : r_43 = if 32 ≤ r_40.toInt ∧ r_40.toInt ≤ 126 then 1 else 0 := hw_44
        refine lv_if_ne (tgt := 39) hx hb dX10_type_34 (by decide) (fun c_45 => ?_) (fun c_45 => ?_)
        · have f_46 : 32 ≤ r_40.toInt ∧ r_40.toInt ≤ 126 := bz_1 hw_44 c_45
          have g_47 : okb zja 1 := by unfold okb; rw [← hw_41]; exact f_46
          refine lv_iinc (v := 2) (lv' := [(4, .int 2), (0, .ref zx), (1, .long zja), (3, .int 2)]) hx hb dX10_type_39 hl (k := 0) rfl (by decide) (by decide) rfl (fun ls hl => ?_)
          refine lv_goto (tgt := 15) hx hb dX10_type_42 (by decide) ?_
          refine lv_iload hx hb dX10_type_15 (lv_at hl 0 rfl) ?_
          refine lv_iload_n hx hb dX10_type_17 rfl (lv_at hl 3 rfl) ?_
          refine lv_icmp_ge (tgt := 45) hx hb dX10_type_18 (by decide) (fun c_48 => ?_) (fun c_48 => absurd (by decide) c_48)
          refine lv_aload_n hx hb dX10_type_45 rfl (lv_at hl 1 rfl) ?_
          refine va_get (D := (dC, dI)) (ci := 10) (v := .ref zr) (C := RX10) (T := TX10) (N := 10) hx hb hts (by decide +kernel) hown hK hP 0 rfl rfl 2 (by decide) (hts (.fieldLink RX10 22 "DripStone" "reader" "LDripStone$Reader;") (by decide +kernel)) (fun _ h9 => h9) rfl dX10_type_46 ?_
          refine va_get (D := (dC, dI)) (ci := 6) (v := .int 0) (C := RX6) (T := TX6) (N := 4) hx hb hts (by decide +kernel) hown hK hP 1 rfl rfl 1 (by decide) (hts (.fieldLink RX10 116 "DripStone$Reader" "typed" "I") (by decide +kernel)) (fun _ h9 => h9) rfl dX10_type_49 ?_
          refine lv_iload_n hx hb dX10_type_52 rfl (lv_at hl 3 rfl) ?_
          refine lv_iadd hx hb dX10_type_53 ?_
          refine lv_topi (fun v_49 ev_49 => ?_)
          obtain rfl : v_49 = (2 : Int32) := ev_49.trans (by decide)
          refine lv_bipush (v := 80) hx hb dX10_type_54 (by decide) ?_
          refine lv_icmp_le (tgt := 62) hx hb dX10_type_56 (by decide) (fun c_50 => ?_) (fun c_50 => absurd (by decide) c_50)
          refine lv_iload_n hx hb dX10_type_62 rfl (lv_at hl 3 rfl) ?_
          refine lv_iconst (v := 1) hx hb dX10_type_63 (by decide) ?_
          refine lv_isub hx hb dX10_type_64 ?_
          refine lv_topi (fun v_51 ev_51 => ?_)
          obtain rfl : v_51 = (1 : Int32) := ev_51.trans (by decide)
          refine lv_istore (lv' := [(4, .int 1), (0, .ref zx), (1, .long zja), (3, .int 2)]) hx hb dX10_type_65 hl (by decide) rfl (fun ls hl => ?_)
          refine lv_iload hx hb dX10_type_67 (lv_at hl 0 rfl) ?_
          refine lv_if_lt (tgt := 112) hx hb dX10_type_69 (by decide) (fun c_52 => absurd c_52 (by decide)) (fun c_52 => ?_)
          refine lv_aload_n hx hb dX10_type_72 rfl (lv_at hl 1 rfl) ?_
          refine va_get (D := (dC, dI)) (ci := 10) (v := .ref zr) (C := RX10) (T := TX10) (N := 10) hx hb hts (by decide +kernel) hown hK hP 0 rfl rfl 2 (by decide) (hts (.fieldLink RX10 22 "DripStone" "reader" "LDripStone$Reader;") (by decide +kernel)) (fun _ h9 => h9) rfl dX10_type_73 ?_
          refine va_get (D := (dC, dI)) (ci := 6) (v := .ref zrt) (C := RX6) (T := TX6) (N := 4) hx hb hts (by decide +kernel) hown hK hP 1 rfl rfl 0 (by decide) (hts (.fieldLink RX10 119 "DripStone$Reader" "tape" "[I") (by decide +kernel)) (fun _ h9 => h9) rfl dX10_type_76 ?_
          refine lv_aload_n hx hb dX10_type_79 rfl (lv_at hl 1 rfl) ?_
          refine va_get (D := (dC, dI)) (ci := 10) (v := .ref zr) (C := RX10) (T := TX10) (N := 10) hx hb hts (by decide +kernel) hown hK hP 0 rfl rfl 2 (by decide) (hts (.fieldLink RX10 22 "DripStone" "reader" "LDripStone$Reader;") (by decide +kernel)) (fun _ h9 => h9) rfl dX10_type_80 ?_
          refine va_get (D := (dC, dI)) (ci := 6) (v := .int 0) (C := RX6) (T := TX6) (N := 4) hx hb hts (by decide +kernel) hown hK hP 1 rfl rfl 1 (by decide) (hts (.fieldLink RX10 116 "DripStone$Reader" "typed" "I") (by decide +kernel)) (fun _ h9 => h9) rfl dX10_type_83 ?_
          refine lv_lload_n hx hb dX10_type_86 rfl (lv_at hl 2 rfl) ?_
          refine lv_iload hx hb dX10_type_87 (lv_at hl 0 rfl) ?_
          refine cj_i (wc := []) (wr := [(zx, .inr (10, [.ref zn, .ref zk, .ref zr, .ref zl, .ref zc, .ref zs, .ref zw, .ref zt, .ref zm, .int 0])), (zr, .inr (6, [.ref zrt, .int 0, .int 0, .int 0])), (zrt, .inl (cy 0, 80, .inl (fun _ => 0)))]) (w1 := fun (_ : Unit) => []) (va_runS (As := [.long zja, .int 1]) (rest := [.int 0, .ref zrt]) ⟨hx, hb, hml, hown, hts⟩ (c_byteOf_1 l dC dI cy H.size zja) (va_cwS 2 hts gX10_type_X10_byteOf rfl rfl rfl (by decide +kernel) ⟨(Nat.le_of_ble_eq_true rfl), (Nat.le_of_ble_eq_true rfl)⟩) (PRE.s (hP.sub [] rfl) hK (hD.sub [] (by decide) rfl) hN) rfl rfl hl.1 rfl (lv_room (Nat.le_of_ble_eq_true rfl)) dX10_type_89 ⟨(Nat.le_of_ble_eq_true rfl), (Nat.le_of_ble_eq_true rfl)⟩) hP hD hS hA [] [0, 1, 2] rfl rfl rfl (by decide) (fun r_54 u_53 H locs hw_55 hP hD hS => ?_)
          have hP : va_P (dC, dI) vwCl [(zx, .inr (10, [.ref zn, .ref zk, .ref zr, .ref zl, .ref zc, .ref zs, .ref zw, .ref zt, .ref zm, .int 0])), (zr, .inr (6, [.ref zrt, .int 0, .int 0, .int 0])), (zrt, .inl (cy 0, 80, .inl (fun _ => 0)))] H := hP
          have hD : va_D A [(zx, .inr (10, [.ref zn, .ref zk, .ref zr, .ref zl, .ref zc, .ref zs, .ref zw, .ref zt, .ref zm, .int 0])), (zr, .inr (6, [.ref zrt, .int 0, .int 0, .int 0])), (zrt, .inl (cy 0, 80, .inl (fun _ => 0)))] := hD
          have hw_55 : r_54.toInt = by8 zja 1 := hw_55
          refine va_iast hx hb hK hP hD hS 2 0 rfl rfl (vp_in_iff.mpr ⟨by decide, by decide⟩) dX10_type_92 (fun H locs hP hD hS => ?_)
          have hP : va_P (dC, dI) vwCl [(zx, .inr (10, [.ref zn, .ref zk, .ref zr, .ref zl, .ref zc, .ref zs, .ref zw, .ref zt, .ref zm, .int 0])), (zr, .inr (6, [.ref zrt, .int 0, .int 0, .int 0])), (zrt, .inl (cy 0, 80, .inl (upd (fun _ => 0) (0 : Int32).toNatClampNeg r_54)))] H := hP
          have hD : va_D A [(zx, .inr (10, [.ref zn, .ref zk, .ref zr, .ref zl, .ref zc, .ref zs, .ref zw, .ref zt, .ref zm, .int 0])), (zr, .inr (6, [.ref zrt, .int 0, .int 0, .int 0])), (zrt, .inl (cy 0, 80, .inl (upd (fun _ => 0) (0 : Int32).toNatClampNeg r_54)))] := hD
          refine lv_aload_n hx hb dX10_type_93 rfl (lv_at hl 1 rfl) ?_
          refine va_get (D := (dC, dI)) (ci := 10) (v := .ref zr) (C := RX10) (T := TX10) (N := 10) hx hb hts (by decide +kernel) hown hK hP 0 rfl rfl 2 (by decide) (hts (.fieldLink RX10 22 "DripStone" "reader" "LDripStone$Reader;") (by decide +kernel)) (fun _ h9 => h9) rfl dX10_type_94 ?_
          refine lv_dup hx hb dX10_type_97 rfl ?_
          refine va_get (D := (dC, dI)) (ci := 6) (v := .int 0) (C := RX6) (T := TX6) (N := 4) hx hb hts (by decide +kernel) hown hK hP 1 rfl rfl 1 (by decide) (hts (.fieldLink RX10 116 "DripStone$Reader" "typed" "I") (by decide +kernel)) (fun _ h9 => h9) rfl dX10_type_98 ?_
          refine lv_iconst (v := 1) hx hb dX10_type_101 (by decide) ?_
          refine lv_iadd hx hb dX10_type_102 ?_
          refine lv_topi (fun v_56 ev_56 => ?_)
          obtain rfl : v_56 = (1 : Int32) := ev_56.trans (by decide)
          refine va_put (D := (dC, dI)) (ci := 6) (v := .int 1) (ty := .int) (C := RX6) (T := TX6) (N := 4) hx hb hts (by decide +kernel) tyX6 tyX6_ok nmX6 hown hK hP hD hS 1 rfl rfl 1 (by decide) (hts (.fieldLink RX10 116 "DripStone$Reader" "typed" "I") (by decide +kernel)) (fun _ h9 => h9) rfl (by decide +kernel) rfl rfl (Nat.le_of_ble_eq_true rfl) dX10_type_103 (fun H locs hP hD hS => ?_)
          have hP : va_P (dC, dI) vwCl [(zx, .inr (10, [.ref zn, .ref zk, .ref zr, .ref zl, .ref zc, .ref zs, .ref zw, .ref zt, .ref zm, .int 0])), (zr, .inr (6, [.ref zrt, .int 1, .int 0, .int 0])), (zrt, .inl (cy 0, 80, .inl (upd (fun _ => 0) (0 : Int32).toNatClampNeg r_54)))] H := hP
          have hD : va_D A [(zx, .inr (10, [.ref zn, .ref zk, .ref zr, .ref zl, .ref zc, .ref zs, .ref zw, .ref zt, .ref zm, .int 0])), (zr, .inr (6, [.ref zrt, .int 1, .int 0, .int 0])), (zrt, .inl (cy 0, 80, .inl (upd (fun _ => 0) (0 : Int32).toNatClampNeg r_54)))] := hD
          refine lv_iinc (v := 0) (lv' := [(4, .int 0), (0, .ref zx), (1, .long zja), (3, .int 2)]) hx hb dX10_type_106 hl (k := 0) rfl (by decide) (by decide) rfl (fun ls hl => ?_)
          refine lv_goto (tgt := 67) hx hb dX10_type_109 (by decide) ?_
          refine lv_iload hx hb dX10_type_67 (lv_at hl 0 rfl) ?_
          refine lv_if_lt (tgt := 112) hx hb dX10_type_69 (by decide) (fun c_57 => absurd c_57 (by decide)) (fun c_57 => ?_)
          refine lv_aload_n hx hb dX10_type_72 rfl (lv_at hl 1 rfl) ?_
          refine va_get (D := (dC, dI)) (ci := 10) (v := .ref zr) (C := RX10) (T := TX10) (N := 10) hx hb hts (by decide +kernel) hown hK hP 0 rfl rfl 2 (by decide) (hts (.fieldLink RX10 22 "DripStone" "reader" "LDripStone$Reader;") (by decide +kernel)) (fun _ h9 => h9) rfl dX10_type_73 ?_
          refine va_get (D := (dC, dI)) (ci := 6) (v := .ref zrt) (C := RX6) (T := TX6) (N := 4) hx hb hts (by decide +kernel) hown hK hP 1 rfl rfl 0 (by decide) (hts (.fieldLink RX10 119 "DripStone$Reader" "tape" "[I") (by decide +kernel)) (fun _ h9 => h9) rfl dX10_type_76 ?_
          refine lv_aload_n hx hb dX10_type_79 rfl (lv_at hl 1 rfl) ?_
          refine va_get (D := (dC, dI)) (ci := 10) (v := .ref zr) (C := RX10) (T := TX10) (N := 10) hx hb hts (by decide +kernel) hown hK hP 0 rfl rfl 2 (by decide) (hts (.fieldLink RX10 22 "DripStone" "reader" "LDripStone$Reader;") (by decide +kernel)) (fun _ h9 => h9) rfl dX10_type_80 ?_
          refine va_get (D := (dC, dI)) (ci := 6) (v := .int 1) (C := RX6) (T := TX6) (N := 4) hx hb hts (by decide +kernel) hown hK hP 1 rfl rfl 1 (by decide) (hts (.fieldLink RX10 116 "DripStone$Reader" "typed" "I") (by decide +kernel)) (fun _ h9 => h9) rfl dX10_type_83 ?_
          refine lv_lload_n hx hb dX10_type_86 rfl (lv_at hl 2 rfl) ?_
          refine lv_iload hx hb dX10_type_87 (lv_at hl 0 rfl) ?_
          refine cj_i (wc := []) (wr := [(zx, .inr (10, [.ref zn, .ref zk, .ref zr, .ref zl, .ref zc, .ref zs, .ref zw, .ref zt, .ref zm, .int 0])), (zr, .inr (6, [.ref zrt, .int 1, .int 0, .int 0])), (zrt, .inl (cy 0, 80, .inl (upd (fun _ => 0) (0 : Int32).toNatClampNeg r_54)))]) (w1 := fun (_ : Unit) => []) (va_runS (As := [.long zja, .int 0]) (rest := [.int 1, .ref zrt]) ⟨hx, hb, hml, hown, hts⟩ (c_byteOf_0 l dC dI cy H.size zja) (va_cwS 2 hts gX10_type_X10_byteOf rfl rfl rfl (by decide +kernel) ⟨(Nat.le_of_ble_eq_true rfl), (Nat.le_of_ble_eq_true rfl)⟩) (PRE.s (hP.sub [] rfl) hK (hD.sub [] (by decide) rfl) hN) rfl rfl hl.1 rfl (lv_room (Nat.le_of_ble_eq_true rfl)) dX10_type_89 ⟨(Nat.le_of_ble_eq_true rfl), (Nat.le_of_ble_eq_true rfl)⟩) hP hD hS hA [] [0, 1, 2] rfl rfl rfl (by decide) (fun r_59 u_58 H locs hw_60 hP hD hS => ?_)
          have hP : va_P (dC, dI) vwCl [(zx, .inr (10, [.ref zn, .ref zk, .ref zr, .ref zl, .ref zc, .ref zs, .ref zw, .ref zt, .ref zm, .int 0])), (zr, .inr (6, [.ref zrt, .int 1, .int 0, .int 0])), (zrt, .inl (cy 0, 80, .inl (upd (fun _ => 0) (0 : Int32).toNatClampNeg r_54)))] H := hP
          have hD : va_D A [(zx, .inr (10, [.ref zn, .ref zk, .ref zr, .ref zl, .ref zc, .ref zs, .ref zw, .ref zt, .ref zm, .int 0])), (zr, .inr (6, [.ref zrt, .int 1, .int 0, .int 0])), (zrt, .inl (cy 0, 80, .inl (upd (fun _ => 0) (0 : Int32).toNatClampNeg r_54)))] := hD
          have hw_60 : r_59.toInt = by8 zja 0 := hw_60
          refine va_iast hx hb hK hP hD hS 2 0 rfl rfl (vp_in_iff.mpr ⟨by decide, by decide⟩) dX10_type_92 (fun H locs hP hD hS => ?_)
          have hP : va_P (dC, dI) vwCl [(zx, .inr (10, [.ref zn, .ref zk, .ref zr, .ref zl, .ref zc, .ref zs, .ref zw, .ref zt, .ref zm, .int 0])), (zr, .inr (6, [.ref zrt, .int 1, .int 0, .int 0])), (zrt, .inl (cy 0, 80, .inl (upd (upd (fun _ => 0) (0 : Int32).toNatClampNeg r_54) (1 : Int32).toNatClampNeg r_59)))] H := hP
          have hD : va_D A [(zx, .inr (10, [.ref zn, .ref zk, .ref zr, .ref zl, .ref zc, .ref zs, .ref zw, .ref zt, .ref zm, .int 0])), (zr, .inr (6, [.ref zrt, .int 1, .int 0, .int 0])), (zrt, .inl (cy 0, 80, .inl (upd (upd (fun _ => 0) (0 : Int32).toNatClampNeg r_54) (1 : Int32).toNatClampNeg r_59)))] := hD
          refine lv_aload_n hx hb dX10_type_93 rfl (lv_at hl 1 rfl) ?_
          refine va_get (D := (dC, dI)) (ci := 10) (v := .ref zr) (C := RX10) (T := TX10) (N := 10) hx hb hts (by decide +kernel) hown hK hP 0 rfl rfl 2 (by decide) (hts (.fieldLink RX10 22 "DripStone" "reader" "LDripStone$Reader;") (by decide +kernel)) (fun _ h9 => h9) rfl dX10_type_94 ?_
          refine lv_dup hx hb dX10_type_97 rfl ?_
          refine va_get (D := (dC, dI)) (ci := 6) (v := .int 1) (C := RX6) (T := TX6) (N := 4) hx hb hts (by decide +kernel) hown hK hP 1 rfl rfl 1 (by decide) (hts (.fieldLink RX10 116 "DripStone$Reader" "typed" "I") (by decide +kernel)) (fun _ h9 => h9) rfl dX10_type_98 ?_
          refine lv_iconst (v := 1) hx hb dX10_type_101 (by decide) ?_
          refine lv_iadd hx hb dX10_type_102 ?_
          refine lv_topi (fun v_61 ev_61 => ?_)
          obtain rfl : v_61 = (2 : Int32) := ev_61.trans (by decide)
          refine va_put (D := (dC, dI)) (ci := 6) (v := .int 2) (ty := .int) (C := RX6) (T := TX6) (N := 4) hx hb hts (by decide +kernel) tyX6 tyX6_ok nmX6 hown hK hP hD hS 1 rfl rfl 1 (by decide) (hts (.fieldLink RX10 116 "DripStone$Reader" "typed" "I") (by decide +kernel)) (fun _ h9 => h9) rfl (by decide +kernel) rfl rfl (Nat.le_of_ble_eq_true rfl) dX10_type_103 (fun H locs hP hD hS => ?_)
          have hP : va_P (dC, dI) vwCl [(zx, .inr (10, [.ref zn, .ref zk, .ref zr, .ref zl, .ref zc, .ref zs, .ref zw, .ref zt, .ref zm, .int 0])), (zr, .inr (6, [.ref zrt, .int 2, .int 0, .int 0])), (zrt, .inl (cy 0, 80, .inl (upd (upd (fun _ => 0) (0 : Int32).toNatClampNeg r_54) (1 : Int32).toNatClampNeg r_59)))] H := hP
          have hD : va_D A [(zx, .inr (10, [.ref zn, .ref zk, .ref zr, .ref zl, .ref zc, .ref zs, .ref zw, .ref zt, .ref zm, .int 0])), (zr, .inr (6, [.ref zrt, .int 2, .int 0, .int 0])), (zrt, .inl (cy 0, 80, .inl (upd (upd (fun _ => 0) (0 : Int32).toNatClampNeg r_54) (1 : Int32).toNatClampNeg r_59)))] := hD
          refine lv_iinc (v := (-1)) (lv' := [(4, .int (-1)), (0, .ref zx), (1, .long zja), (3, .int 2)]) hx hb dX10_type_106 hl (k := 0) rfl (by decide) (by decide) rfl (fun ls hl => ?_)
          refine lv_goto (tgt := 67) hx hb dX10_type_109 (by decide) ?_
          refine lv_iload hx hb dX10_type_67 (lv_at hl 0 rfl) ?_
          refine lv_if_lt (tgt := 112) hx hb dX10_type_69 (by decide) (fun c_62 => ?_) (fun c_62 => absurd (by decide) c_62)
          refine lv_aload_n hx hb dX10_type_112 rfl (lv_at hl 1 rfl) ?_
          refine va_get (D := (dC, dI)) (ci := 10) (v := .ref zr) (C := RX10) (T := TX10) (N := 10) hx hb hts (by decide +kernel) hown hK hP 0 rfl rfl 2 (by decide) (hts (.fieldLink RX10 22 "DripStone" "reader" "LDripStone$Reader;") (by decide +kernel)) (fun _ h9 => h9) rfl dX10_type_113 ?_
          refine va_get (D := (dC, dI)) (ci := 6) (v := .int 2) (C := RX6) (T := TX6) (N := 4) hx hb hts (by decide +kernel) hown hK hP 1 rfl rfl 1 (by decide) (hts (.fieldLink RX10 116 "DripStone$Reader" "typed" "I") (by decide +kernel)) (fun _ h9 => h9) rfl dX10_type_116 ?_
          have hP9 := hP.sub (ws' := []) [] rfl
          have hD9 := hD.sub (ws' := []) [] (by decide) rfl
          exact W.iret (v := 2) hx hb hr (fun t ht hW => ⟨⟨2, (), rfl, ((an_type_2 _).trans (if_pos ⟨g_37, g_47⟩)).symm, ⟨by rw [ht]; exact hP9, va_K.moved hW.alike hK, hD9⟩⟩, hS.F ht⟩) hS.2.2 dX10_type_119
        · have f_46 : ¬ (32 ≤ r_40.toInt ∧ r_40.toInt ≤ 126) := bz_0 hw_44 c_45
          have g_63 : ¬ okb zja 1 := by unfold okb; rw [← hw_41]; exact f_46
          refine lv_iconst (v := (-1)) hx hb dX10_type_37 (by decide) ?_
          have hP9 := hP.sub (ws' := []) [] rfl
          have hD9 := hD.sub (ws' := []) [] (by decide) rfl
          exact W.iret (v := (-1)) hx hb hr (fun t ht hW => ⟨⟨(-1), (), rfl, ((an_type_2 _).trans (if_neg (fun h => g_63 (h.2)))).symm, ⟨by rw [ht]; exact hP9, va_K.moved hW.alike hK, hD9⟩⟩, hS.F ht⟩) hS.2.2 dX10_type_38
      · have f_36 : ¬ (32 ≤ r_30.toInt ∧ r_30.toInt ≤ 126) := bz_0 hw_34 c_35
        have g_64 : ¬ okb zja 0 := by unfold okb; rw [← hw_31]; exact f_36
        refine lv_iconst (v := (-1)) hx hb dX10_type_37 (by decide) ?_
        have hP9 := hP.sub (ws' := []) [] rfl
        have hD9 := hD.sub (ws' := []) [] (by decide) rfl
        exact W.iret (v := (-1)) hx hb hr (fun t ht hW => ⟨⟨(-1), (), rfl, ((an_type_2 _).trans (if_neg (fun h => g_64 (h.1)))).symm, ⟨by rw [ht]; exact hP9, va_K.moved hW.alike hK, hD9⟩⟩, hS.F ht⟩) hS.2.2 dX10_type_38
    · have zk_6_3 : (3 : Int32).toInt = 3 := by decide
      refine lv_iconst (v := 0) hx hb dX10_type_12 (by decide) ?_
      refine lv_istore (lv' := [(4, .int 0), (0, .ref zx), (1, .long zja), (3, .int 3)]) hx hb dX10_type_13 hl (by decide) rfl (fun ls hl => ?_)
      refine lv_iload hx hb dX10_type_15 (lv_at hl 0 rfl) ?_
      refine lv_iload_n hx hb dX10_type_17 rfl (lv_at hl 3 rfl) ?_
      refine lv_icmp_ge (tgt := 45) hx hb dX10_type_18 (by decide) (fun c_65 => absurd c_65 (by decide)) (fun c_65 => ?_)
      refine lv_lload_n hx hb dX10_type_21 rfl (lv_at hl 2 rfl) ?_
      refine lv_iload hx hb dX10_type_22 (lv_at hl 0 rfl) ?_
      refine cj_i (wc := []) (wr := [(zx, .inr (10, [.ref zn, .ref zk, .ref zr, .ref zl, .ref zc, .ref zs, .ref zw, .ref zt, .ref zm, .int 0])), (zr, .inr (6, [.ref zrt, .int 0, .int 0, .int 0])), (zrt, .inl (cy 0, 80, .inl (fun _ => 0)))]) (w1 := fun (_ : Unit) => []) (va_runS (As := [.long zja, .int 0]) (rest := []) ⟨hx, hb, hml, hown, hts⟩ (c_byteOf_0 l dC dI cy H.size zja) (va_cwS 2 hts gX10_type_X10_byteOf rfl rfl rfl (by decide +kernel) ⟨(Nat.le_of_ble_eq_true rfl), (Nat.le_of_ble_eq_true rfl)⟩) (PRE.s (hP.sub [] rfl) hK (hD.sub [] (by decide) rfl) hN) rfl rfl hl.1 rfl (lv_room (Nat.le_of_ble_eq_true rfl)) dX10_type_24 ⟨(Nat.le_of_ble_eq_true rfl), (Nat.le_of_ble_eq_true rfl)⟩) hP hD hS hA [] [0, 1, 2] rfl rfl rfl (by decide) (fun r_67 u_66 H locs hw_68 hP hD hS => ?_)
      have hP : va_P (dC, dI) vwCl [(zx, .inr (10, [.ref zn, .ref zk, .ref zr, .ref zl, .ref zc, .ref zs, .ref zw, .ref zt, .ref zm, .int 0])), (zr, .inr (6, [.ref zrt, .int 0, .int 0, .int 0])), (zrt, .inl (cy 0, 80, .inl (fun _ => 0)))] H := hP
      have hD : va_D A [(zx, .inr (10, [.ref zn, .ref zk, .ref zr, .ref zl, .ref zc, .ref zs, .ref zw, .ref zt, .ref zm, .int 0])), (zr, .inr (6, [.ref zrt, .int 0, .int 0, .int 0])), (zrt, .inl (cy 0, 80, .inl (fun _ => 0)))] := hD
      have hw_68 : r_67.toInt = by8 zja 0 := hw_68
      refine lv_bipush (v := 32) hx hb dX10_type_27 (by decide) ?_
      refine lv_bipush (v := 126) hx hb dX10_type_29 (by decide) ?_
      refine cj_i (wc := []) (wr := [(zx, .inr (10, [.ref zn, .ref zk, .ref zr, .ref zl, .ref zc, .ref zs, .ref zw, .ref zt, .ref zm, .int 0])), (zr, .inr (6, [.ref zrt, .int 0, .int 0, .int 0])), (zrt, .inl (cy 0, 80, .inl (fun _ => 0)))]) (w1 := fun (_ : Unit) => []) (va_runS (As := [.int r_67, .int 32, .int 126]) (rest := []) ⟨hx, hb, hml, hown, hts⟩ (c_X10_isWithin l dC dI cy H.size r_67 32 126 32 126 (by first | rfl | decide | omega | exact Int32.toInt_toInt64 _) (by first | rfl | decide | omega | exact Int32.toInt_toInt64 _)) (va_cwS 3 hts gX10_type_X10_isWithin rfl rfl rfl (by decide +kernel) ⟨(Nat.le_of_ble_eq_true rfl), (Nat.le_of_ble_eq_true rfl)⟩) (PRE.s (hP.sub [] rfl) hK (hD.sub [] (by decide) rfl) hN) rfl rfl hl.1 rfl (lv_room (Nat.le_of_ble_eq_true rfl)) dX10_type_31 ⟨(Nat.le_of_ble_eq_true rfl), (Nat.le_of_ble_eq_true rfl)⟩) hP hD hS hA [] [0, 1, 2] rfl rfl rfl (by decide) (fun r_70 u_69 H locs hw_71 hP hD hS => ?_)
      have hP : va_P (dC, dI) vwCl [(zx, .inr (10, [.ref zn, .ref zk, .ref zr, .ref zl, .ref zc, .ref zs, .ref zw, .ref zt, .ref zm, .int 0])), (zr, .inr (6, [.ref zrt, .int 0, .int 0, .int 0])), (zrt, .inl (cy 0, 80, .inl (fun _ => 0)))] H := hP
      have hD : va_D A [(zx, .inr (10, [.ref zn, .ref zk, .ref zr, .ref zl, .ref zc, .ref zs, .ref zw, .ref zt, .ref zm, .int 0])), (zr, .inr (6, [.ref zrt, .int 0, .int 0, .int 0])), (zrt, .inl (cy 0, 80, .inl (fun _ => 0)))] := hD
      have hw_71 : r_70 = if 32 ≤ r_67.toInt ∧ r_67.toInt ≤ 126 then 1 else 0 := hw_71
      refine lv_if_ne (tgt := 39) hx hb dX10_type_34 (by decide) (fun c_72 => ?_) (fun c_72 => ?_)
      · have f_73 : 32 ≤ r_67.toInt ∧ r_67.toInt ≤ 126 := bz_1 hw_71 c_72
        have g_74 : okb zja 0 := by unfold okb; rw [← hw_68]; exact f_73
        refine lv_iinc (v := 1) (lv' := [(4, .int 1), (0, .ref zx), (1, .long zja), (3, .int 3)]) hx hb dX10_type_39 hl (k := 0) rfl (by decide) (by decide) rfl (fun ls hl => ?_)
        refine lv_goto (tgt := 15) hx hb dX10_type_42 (by decide) ?_
        refine lv_iload hx hb dX10_type_15 (lv_at hl 0 rfl) ?_
        refine lv_iload_n hx hb dX10_type_17 rfl (lv_at hl 3 rfl) ?_
        refine lv_icmp_ge (tgt := 45) hx hb dX10_type_18 (by decide) (fun c_75 => absurd c_75 (by decide)) (fun c_75 => ?_)
        refine lv_lload_n hx hb dX10_type_21 rfl (lv_at hl 2 rfl) ?_
        refine lv_iload hx hb dX10_type_22 (lv_at hl 0 rfl) ?_
        refine cj_i (wc := []) (wr := [(zx, .inr (10, [.ref zn, .ref zk, .ref zr, .ref zl, .ref zc, .ref zs, .ref zw, .ref zt, .ref zm, .int 0])), (zr, .inr (6, [.ref zrt, .int 0, .int 0, .int 0])), (zrt, .inl (cy 0, 80, .inl (fun _ => 0)))]) (w1 := fun (_ : Unit) => []) (va_runS (As := [.long zja, .int 1]) (rest := []) ⟨hx, hb, hml, hown, hts⟩ (c_byteOf_1 l dC dI cy H.size zja) (va_cwS 2 hts gX10_type_X10_byteOf rfl rfl rfl (by decide +kernel) ⟨(Nat.le_of_ble_eq_true rfl), (Nat.le_of_ble_eq_true rfl)⟩) (PRE.s (hP.sub [] rfl) hK (hD.sub [] (by decide) rfl) hN) rfl rfl hl.1 rfl (lv_room (Nat.le_of_ble_eq_true rfl)) dX10_type_24 ⟨(Nat.le_of_ble_eq_true rfl), (Nat.le_of_ble_eq_true rfl)⟩) hP hD hS hA [] [0, 1, 2] rfl rfl rfl (by decide) (fun r_77 u_76 H locs hw_78 hP hD hS => ?_)
        have hP : va_P (dC, dI) vwCl [(zx, .inr (10, [.ref zn, .ref zk, .ref zr, .ref zl, .ref zc, .ref zs, .ref zw, .ref zt, .ref zm, .int 0])), (zr, .inr (6, [.ref zrt, .int 0, .int 0, .int 0])), (zrt, .inl (cy 0, 80, .inl (fun _ => 0)))] H := hP
        have hD : va_D A [(zx, .inr (10, [.ref zn, .ref zk, .ref zr, .ref zl, .ref zc, .ref zs, .ref zw, .ref zt, .ref zm, .int 0])), (zr, .inr (6, [.ref zrt, .int 0, .int 0, .int 0])), (zrt, .inl (cy 0, 80, .inl (fun _ => 0)))] := hD
        have hw_78 : r_77.toInt = by8 zja 1 := hw_78
        refine lv_bipush (v := 32) hx hb dX10_type_27 (by decide) ?_
        refine lv_bipush (v := 126) hx hb dX10_type_29 (by decide) ?_
        refine cj_i (wc := []) (wr := [(zx, .inr (10, [.ref zn, .ref zk, .ref zr, .ref zl, .ref zc, .ref zs, .ref zw, .ref zt, .ref zm, .int 0])), (zr, .inr (6, [.ref zrt, .int 0, .int 0, .int 0])), (zrt, .inl (cy 0, 80, .inl (fun _ => 0)))]) (w1 := fun (_ : Unit) => []) (va_runS (As := [.int r_77, .int 32, .int 126]) (rest := []) ⟨hx, hb, hml, hown, hts⟩ (c_X10_isWithin l dC dI cy H.size r_77 32 126 32 126 (by first | rfl | decide | omega | exact Int32.toInt_toInt64 _) (by first | rfl | decide | omega | exact Int32.toInt_toInt64 _)) (va_cwS 3 hts gX10_type_X10_isWithin rfl rfl rfl (by decide +kernel) ⟨(Nat.le_of_ble_eq_true rfl), (Nat.le_of_ble_eq_true rfl)⟩) (PRE.s (hP.sub [] rfl) hK (hD.sub [] (by decide) rfl) hN) rfl rfl hl.1 rfl (lv_room (Nat.le_of_ble_eq_true rfl)) dX10_type_31 ⟨(Nat.le_of_ble_eq_true rfl), (Nat.le_of_ble_eq_true rfl)⟩) hP hD hS hA [] [0, 1, 2] rfl rfl rfl (by decide) (fun r_80 u_79 H locs hw_81 hP hD hS => ?_)
        have hP : va_P (dC, dI) vwCl [(zx, .inr (10, [.ref zn, .ref zk, .ref zr, .ref zl, .ref zc, .ref zs, .ref zw, .ref zt, .ref zm, .int 0])), (zr, .inr (6, [.ref zrt, .int 0, .int 0, .int 0])), (zrt, .inl (cy 0, 80, .inl (fun _ => 0)))] H := hP
        have hD : va_D A [(zx, .inr (10, [.ref zn, .ref zk, .ref zr, .ref zl, .ref zc, .ref zs, .ref zw, .ref zt, .ref zm, .int 0])), (zr, .inr (6, [.ref zrt, .int 0, .int 0, .int 0])), (zrt, .inl (cy 0, 80, .inl (fun _ => 0)))] := hD
        have hw_81 : r_80 = if 32 ≤ r_77.toInt ∧ r_77.toInt ≤ 126 then 1 else 0 := hw_81
        refine lv_if_ne (tgt := 39) hx hb dX10_type_34 (by decide) (fun c_82 => ?_) (fun c_82 => ?_)
        · have f_83 : 32 ≤ r_77.toInt ∧ r_77.toInt ≤ 126 := bz_1 hw_81 c_82
          have g_84 : okb zja 1 := by unfold okb; rw [← hw_78]; exact f_83
          refine lv_iinc (v := 2) (lv' := [(4, .int 2), (0, .ref zx), (1, .long zja), (3, .int 3)]) hx hb dX10_type_39 hl (k := 0) rfl (by decide) (by decide) rfl (fun ls hl => ?_)
          refine lv_goto (tgt := 15) hx hb dX10_type_42 (by decide) ?_
          refine lv_iload hx hb dX10_type_15 (lv_at hl 0 rfl) ?_
          refine lv_iload_n hx hb dX10_type_17 rfl (lv_at hl 3 rfl) ?_
          refine lv_icmp_ge (tgt := 45) hx hb dX10_type_18 (by decide) (fun c_85 => absurd c_85 (by decide)) (fun c_85 => ?_)
          refine lv_lload_n hx hb dX10_type_21 rfl (lv_at hl 2 rfl) ?_
          refine lv_iload hx hb dX10_type_22 (lv_at hl 0 rfl) ?_
          refine cj_i (wc := []) (wr := [(zx, .inr (10, [.ref zn, .ref zk, .ref zr, .ref zl, .ref zc, .ref zs, .ref zw, .ref zt, .ref zm, .int 0])), (zr, .inr (6, [.ref zrt, .int 0, .int 0, .int 0])), (zrt, .inl (cy 0, 80, .inl (fun _ => 0)))]) (w1 := fun (_ : Unit) => []) (va_runS (As := [.long zja, .int 2]) (rest := []) ⟨hx, hb, hml, hown, hts⟩ (c_byteOf_2 l dC dI cy H.size zja) (va_cwS 2 hts gX10_type_X10_byteOf rfl rfl rfl (by decide +kernel) ⟨(Nat.le_of_ble_eq_true rfl), (Nat.le_of_ble_eq_true rfl)⟩) (PRE.s (hP.sub [] rfl) hK (hD.sub [] (by decide) rfl) hN) rfl rfl hl.1 rfl (lv_room (Nat.le_of_ble_eq_true rfl)) dX10_type_24 ⟨(Nat.le_of_ble_eq_true rfl), (Nat.le_of_ble_eq_true rfl)⟩) hP hD hS hA [] [0, 1, 2] rfl rfl rfl (by decide) (fun r_87 u_86 H locs hw_88 hP hD hS => ?_)
          have hP : va_P (dC, dI) vwCl [(zx, .inr (10, [.ref zn, .ref zk, .ref zr, .ref zl, .ref zc, .ref zs, .ref zw, .ref zt, .ref zm, .int 0])), (zr, .inr (6, [.ref zrt, .int 0, .int 0, .int 0])), (zrt, .inl (cy 0, 80, .inl (fun _ => 0)))] H := hP
          have hD : va_D A [(zx, .inr (10, [.ref zn, .ref zk, .ref zr, .ref zl, .ref zc, .ref zs, .ref zw, .ref zt, .ref zm, .int 0])), (zr, .inr (6, [.ref zrt, .int 0, .int 0, .int 0])), (zrt, .inl (cy 0, 80, .inl (fun _ => 0)))] := hD
          have hw_88 : r_87.toInt = by8 zja 2 := hw_88
          refine lv_bipush (v := 32) hx hb dX10_type_27 (by decide) ?_
          refine lv_bipush (v := 126) hx hb dX10_type_29 (by decide) ?_
          refine cj_i (wc := []) (wr := [(zx, .inr (10, [.ref zn, .ref zk, .ref zr, .ref zl, .ref zc, .ref zs, .ref zw, .ref zt, .ref zm, .int 0])), (zr, .inr (6, [.ref zrt, .int 0, .int 0, .int 0])), (zrt, .inl (cy 0, 80, .inl (fun _ => 0)))]) (w1 := fun (_ : Unit) => []) (va_runS (As := [.int r_87, .int 32, .int 126]) (rest := []) ⟨hx, hb, hml, hown, hts⟩ (c_X10_isWithin l dC dI cy H.size r_87 32 126 32 126 (by first | rfl | decide | omega | exact Int32.toInt_toInt64 _) (by first | rfl | decide | omega | exact Int32.toInt_toInt64 _)) (va_cwS 3 hts gX10_type_X10_isWithin rfl rfl rfl (by decide +kernel) ⟨(Nat.le_of_ble_eq_true rfl), (Nat.le_of_ble_eq_true rfl)⟩) (PRE.s (hP.sub [] rfl) hK (hD.sub [] (by decide) rfl) hN) rfl rfl hl.1 rfl (lv_room (Nat.le_of_ble_eq_true rfl)) dX10_type_31 ⟨(Nat.le_of_ble_eq_true rfl), (Nat.le_of_ble_eq_true rfl)⟩) hP hD hS hA [] [0, 1, 2] rfl rfl rfl (by decide) (fun r_90 u_89 H locs hw_91 hP hD hS => ?_)
          have hP : va_P (dC, dI) vwCl [(zx, .inr (10, [.ref zn, .ref zk, .ref zr, .ref zl, .ref zc, .ref zs, .ref zw, .ref zt, .ref zm, .int 0])), (zr, .inr (6, [.ref zrt, .int 0, .int 0, .int 0])), (zrt, .inl (cy 0, 80, .inl (fun _ => 0)))] H := hP
          have hD : va_D A [(zx, .inr (10, [.ref zn, .ref zk, .ref zr, .ref zl, .ref zc, .ref zs, .ref zw, .ref zt, .ref zm, .int 0])), (zr, .inr (6, [.ref zrt, .int 0, .int 0, .int 0])), (zrt, .inl (cy 0, 80, .inl (fun _ => 0)))] := hD
          have hw_91 : r_90 = if 32 ≤ r_87.toInt ∧ r_87.toInt ≤ 126 then 1 else 0 := hw_91
          refine lv_if_ne (tgt := 39) hx hb dX10_type_34 (by decide) (fun c_92 => ?_) (fun c_92 => ?_)
          · have f_93 : 32 ≤ r_87.toInt ∧ r_87.toInt ≤ 126 := bz_1 hw_91 c_92
            have g_94 : okb zja 2 := by unfold okb; rw [← hw_88]; exact f_93
            refine lv_iinc (v := 3) (lv' := [(4, .int 3), (0, .ref zx), (1, .long zja), (3, .int 3)]) hx hb dX10_type_39 hl (k := 0) rfl (by decide) (by decide) rfl (fun ls hl => ?_)
            refine lv_goto (tgt := 15) hx hb dX10_type_42 (by decide) ?_
            refine lv_iload hx hb dX10_type_15 (lv_at hl 0 rfl) ?_
            refine lv_iload_n hx hb dX10_type_17 rfl (lv_at hl 3 rfl) ?_
            refine lv_icmp_ge (tgt := 45) hx hb dX10_type_18 (by decide) (fun c_95 => ?_) (fun c_95 => absurd (by decide) c_95)
            refine lv_aload_n hx hb dX10_type_45 rfl (lv_at hl 1 rfl) ?_
            refine va_get (D := (dC, dI)) (ci := 10) (v := .ref zr) (C := RX10) (T := TX10) (N := 10) hx hb hts (by decide +kernel) hown hK hP 0 rfl rfl 2 (by decide) (hts (.fieldLink RX10 22 "DripStone" "reader" "LDripStone$Reader;") (by decide +kernel)) (fun _ h9 => h9) rfl dX10_type_46 ?_
            refine va_get (D := (dC, dI)) (ci := 6) (v := .int 0) (C := RX6) (T := TX6) (N := 4) hx hb hts (by decide +kernel) hown hK hP 1 rfl rfl 1 (by decide) (hts (.fieldLink RX10 116 "DripStone$Reader" "typed" "I") (by decide +kernel)) (fun _ h9 => h9) rfl dX10_type_49 ?_
            refine lv_iload_n hx hb dX10_type_52 rfl (lv_at hl 3 rfl) ?_
            refine lv_iadd hx hb dX10_type_53 ?_
            refine lv_topi (fun v_96 ev_96 => ?_)
            obtain rfl : v_96 = (3 : Int32) := ev_96.trans (by decide)
            refine lv_bipush (v := 80) hx hb dX10_type_54 (by decide) ?_
            refine lv_icmp_le (tgt := 62) hx hb dX10_type_56 (by decide) (fun c_97 => ?_) (fun c_97 => absurd (by decide) c_97)
            refine lv_iload_n hx hb dX10_type_62 rfl (lv_at hl 3 rfl) ?_
            refine lv_iconst (v := 1) hx hb dX10_type_63 (by decide) ?_
            refine lv_isub hx hb dX10_type_64 ?_
            refine lv_topi (fun v_98 ev_98 => ?_)
            obtain rfl : v_98 = (2 : Int32) := ev_98.trans (by decide)
            refine lv_istore (lv' := [(4, .int 2), (0, .ref zx), (1, .long zja), (3, .int 3)]) hx hb dX10_type_65 hl (by decide) rfl (fun ls hl => ?_)
            refine lv_iload hx hb dX10_type_67 (lv_at hl 0 rfl) ?_
            refine lv_if_lt (tgt := 112) hx hb dX10_type_69 (by decide) (fun c_99 => absurd c_99 (by decide)) (fun c_99 => ?_)
            refine lv_aload_n hx hb dX10_type_72 rfl (lv_at hl 1 rfl) ?_
            refine va_get (D := (dC, dI)) (ci := 10) (v := .ref zr) (C := RX10) (T := TX10) (N := 10) hx hb hts (by decide +kernel) hown hK hP 0 rfl rfl 2 (by decide) (hts (.fieldLink RX10 22 "DripStone" "reader" "LDripStone$Reader;") (by decide +kernel)) (fun _ h9 => h9) rfl dX10_type_73 ?_
            refine va_get (D := (dC, dI)) (ci := 6) (v := .ref zrt) (C := RX6) (T := TX6) (N := 4) hx hb hts (by decide +kernel) hown hK hP 1 rfl rfl 0 (by decide) (hts (.fieldLink RX10 119 "DripStone$Reader" "tape" "[I") (by decide +kernel)) (fun _ h9 => h9) rfl dX10_type_76 ?_
            refine lv_aload_n hx hb dX10_type_79 rfl (lv_at hl 1 rfl) ?_
            refine va_get (D := (dC, dI)) (ci := 10) (v := .ref zr) (C := RX10) (T := TX10) (N := 10) hx hb hts (by decide +kernel) hown hK hP 0 rfl rfl 2 (by decide) (hts (.fieldLink RX10 22 "DripStone" "reader" "LDripStone$Reader;") (by decide +kernel)) (fun _ h9 => h9) rfl dX10_type_80 ?_
            refine va_get (D := (dC, dI)) (ci := 6) (v := .int 0) (C := RX6) (T := TX6) (N := 4) hx hb hts (by decide +kernel) hown hK hP 1 rfl rfl 1 (by decide) (hts (.fieldLink RX10 116 "DripStone$Reader" "typed" "I") (by decide +kernel)) (fun _ h9 => h9) rfl dX10_type_83 ?_
            refine lv_lload_n hx hb dX10_type_86 rfl (lv_at hl 2 rfl) ?_
            refine lv_iload hx hb dX10_type_87 (lv_at hl 0 rfl) ?_
            refine cj_i (wc := []) (wr := [(zx, .inr (10, [.ref zn, .ref zk, .ref zr, .ref zl, .ref zc, .ref zs, .ref zw, .ref zt, .ref zm, .int 0])), (zr, .inr (6, [.ref zrt, .int 0, .int 0, .int 0])), (zrt, .inl (cy 0, 80, .inl (fun _ => 0)))]) (w1 := fun (_ : Unit) => []) (va_runS (As := [.long zja, .int 2]) (rest := [.int 0, .ref zrt]) ⟨hx, hb, hml, hown, hts⟩ (c_byteOf_2 l dC dI cy H.size zja) (va_cwS 2 hts gX10_type_X10_byteOf rfl rfl rfl (by decide +kernel) ⟨(Nat.le_of_ble_eq_true rfl), (Nat.le_of_ble_eq_true rfl)⟩) (PRE.s (hP.sub [] rfl) hK (hD.sub [] (by decide) rfl) hN) rfl rfl hl.1 rfl (lv_room (Nat.le_of_ble_eq_true rfl)) dX10_type_89 ⟨(Nat.le_of_ble_eq_true rfl), (Nat.le_of_ble_eq_true rfl)⟩) hP hD hS hA [] [0, 1, 2] rfl rfl rfl (by decide) (fun r_101 u_100 H locs hw_102 hP hD hS => ?_)
            have hP : va_P (dC, dI) vwCl [(zx, .inr (10, [.ref zn, .ref zk, .ref zr, .ref zl, .ref zc, .ref zs, .ref zw, .ref zt, .ref zm, .int 0])), (zr, .inr (6, [.ref zrt, .int 0, .int 0, .int 0])), (zrt, .inl (cy 0, 80, .inl (fun _ => 0)))] H := hP
            have hD : va_D A [(zx, .inr (10, [.ref zn, .ref zk, .ref zr, .ref zl, .ref zc, .ref zs, .ref zw, .ref zt, .ref zm, .int 0])), (zr, .inr (6, [.ref zrt, .int 0, .int 0, .int 0])), (zrt, .inl (cy 0, 80, .inl (fun _ => 0)))] := hD
            have hw_102 : r_101.toInt = by8 zja 2 := hw_102
            refine va_iast hx hb hK hP hD hS 2 0 rfl rfl (vp_in_iff.mpr ⟨by decide, by decide⟩) dX10_type_92 (fun H locs hP hD hS => ?_)
            have hP : va_P (dC, dI) vwCl [(zx, .inr (10, [.ref zn, .ref zk, .ref zr, .ref zl, .ref zc, .ref zs, .ref zw, .ref zt, .ref zm, .int 0])), (zr, .inr (6, [.ref zrt, .int 0, .int 0, .int 0])), (zrt, .inl (cy 0, 80, .inl (upd (fun _ => 0) (0 : Int32).toNatClampNeg r_101)))] H := hP
            have hD : va_D A [(zx, .inr (10, [.ref zn, .ref zk, .ref zr, .ref zl, .ref zc, .ref zs, .ref zw, .ref zt, .ref zm, .int 0])), (zr, .inr (6, [.ref zrt, .int 0, .int 0, .int 0])), (zrt, .inl (cy 0, 80, .inl (upd (fun _ => 0) (0 : Int32).toNatClampNeg r_101)))] := hD
            refine lv_aload_n hx hb dX10_type_93 rfl (lv_at hl 1 rfl) ?_
            refine va_get (D := (dC, dI)) (ci := 10) (v := .ref zr) (C := RX10) (T := TX10) (N := 10) hx hb hts (by decide +kernel) hown hK hP 0 rfl rfl 2 (by decide) (hts (.fieldLink RX10 22 "DripStone" "reader" "LDripStone$Reader;") (by decide +kernel)) (fun _ h9 => h9) rfl dX10_type_94 ?_
            refine lv_dup hx hb dX10_type_97 rfl ?_
            refine va_get (D := (dC, dI)) (ci := 6) (v := .int 0) (C := RX6) (T := TX6) (N := 4) hx hb hts (by decide +kernel) hown hK hP 1 rfl rfl 1 (by decide) (hts (.fieldLink RX10 116 "DripStone$Reader" "typed" "I") (by decide +kernel)) (fun _ h9 => h9) rfl dX10_type_98 ?_
            refine lv_iconst (v := 1) hx hb dX10_type_101 (by decide) ?_
            refine lv_iadd hx hb dX10_type_102 ?_
            refine lv_topi (fun v_103 ev_103 => ?_)
            obtain rfl : v_103 = (1 : Int32) := ev_103.trans (by decide)
            refine va_put (D := (dC, dI)) (ci := 6) (v := .int 1) (ty := .int) (C := RX6) (T := TX6) (N := 4) hx hb hts (by decide +kernel) tyX6 tyX6_ok nmX6 hown hK hP hD hS 1 rfl rfl 1 (by decide) (hts (.fieldLink RX10 116 "DripStone$Reader" "typed" "I") (by decide +kernel)) (fun _ h9 => h9) rfl (by decide +kernel) rfl rfl (Nat.le_of_ble_eq_true rfl) dX10_type_103 (fun H locs hP hD hS => ?_)
            have hP : va_P (dC, dI) vwCl [(zx, .inr (10, [.ref zn, .ref zk, .ref zr, .ref zl, .ref zc, .ref zs, .ref zw, .ref zt, .ref zm, .int 0])), (zr, .inr (6, [.ref zrt, .int 1, .int 0, .int 0])), (zrt, .inl (cy 0, 80, .inl (upd (fun _ => 0) (0 : Int32).toNatClampNeg r_101)))] H := hP
            have hD : va_D A [(zx, .inr (10, [.ref zn, .ref zk, .ref zr, .ref zl, .ref zc, .ref zs, .ref zw, .ref zt, .ref zm, .int 0])), (zr, .inr (6, [.ref zrt, .int 1, .int 0, .int 0])), (zrt, .inl (cy 0, 80, .inl (upd (fun _ => 0) (0 : Int32).toNatClampNeg r_101)))] := hD
            refine lv_iinc (v := 1) (lv' := [(4, .int 1), (0, .ref zx), (1, .long zja), (3, .int 3)]) hx hb dX10_type_106 hl (k := 0) rfl (by decide) (by decide) rfl (fun ls hl => ?_)
            refine lv_goto (tgt := 67) hx hb dX10_type_109 (by decide) ?_
            refine lv_iload hx hb dX10_type_67 (lv_at hl 0 rfl) ?_
            refine lv_if_lt (tgt := 112) hx hb dX10_type_69 (by decide) (fun c_104 => absurd c_104 (by decide)) (fun c_104 => ?_)
            refine lv_aload_n hx hb dX10_type_72 rfl (lv_at hl 1 rfl) ?_
            refine va_get (D := (dC, dI)) (ci := 10) (v := .ref zr) (C := RX10) (T := TX10) (N := 10) hx hb hts (by decide +kernel) hown hK hP 0 rfl rfl 2 (by decide) (hts (.fieldLink RX10 22 "DripStone" "reader" "LDripStone$Reader;") (by decide +kernel)) (fun _ h9 => h9) rfl dX10_type_73 ?_
            refine va_get (D := (dC, dI)) (ci := 6) (v := .ref zrt) (C := RX6) (T := TX6) (N := 4) hx hb hts (by decide +kernel) hown hK hP 1 rfl rfl 0 (by decide) (hts (.fieldLink RX10 119 "DripStone$Reader" "tape" "[I") (by decide +kernel)) (fun _ h9 => h9) rfl dX10_type_76 ?_
            refine lv_aload_n hx hb dX10_type_79 rfl (lv_at hl 1 rfl) ?_
            refine va_get (D := (dC, dI)) (ci := 10) (v := .ref zr) (C := RX10) (T := TX10) (N := 10) hx hb hts (by decide +kernel) hown hK hP 0 rfl rfl 2 (by decide) (hts (.fieldLink RX10 22 "DripStone" "reader" "LDripStone$Reader;") (by decide +kernel)) (fun _ h9 => h9) rfl dX10_type_80 ?_
            refine va_get (D := (dC, dI)) (ci := 6) (v := .int 1) (C := RX6) (T := TX6) (N := 4) hx hb hts (by decide +kernel) hown hK hP 1 rfl rfl 1 (by decide) (hts (.fieldLink RX10 116 "DripStone$Reader" "typed" "I") (by decide +kernel)) (fun _ h9 => h9) rfl dX10_type_83 ?_
            refine lv_lload_n hx hb dX10_type_86 rfl (lv_at hl 2 rfl) ?_
            refine lv_iload hx hb dX10_type_87 (lv_at hl 0 rfl) ?_
            refine cj_i (wc := []) (wr := [(zx, .inr (10, [.ref zn, .ref zk, .ref zr, .ref zl, .ref zc, .ref zs, .ref zw, .ref zt, .ref zm, .int 0])), (zr, .inr (6, [.ref zrt, .int 1, .int 0, .int 0])), (zrt, .inl (cy 0, 80, .inl (upd (fun _ => 0) (0 : Int32).toNatClampNeg r_101)))]) (w1 := fun (_ : Unit) => []) (va_runS (As := [.long zja, .int 1]) (rest := [.int 1, .ref zrt]) ⟨hx, hb, hml, hown, hts⟩ (c_byteOf_1 l dC dI cy H.size zja) (va_cwS 2 hts gX10_type_X10_byteOf rfl rfl rfl (by decide +kernel) ⟨(Nat.le_of_ble_eq_true rfl), (Nat.le_of_ble_eq_true rfl)⟩) (PRE.s (hP.sub [] rfl) hK (hD.sub [] (by decide) rfl) hN) rfl rfl hl.1 rfl (lv_room (Nat.le_of_ble_eq_true rfl)) dX10_type_89 ⟨(Nat.le_of_ble_eq_true rfl), (Nat.le_of_ble_eq_true rfl)⟩) hP hD hS hA [] [0, 1, 2] rfl rfl rfl (by decide) (fun r_106 u_105 H locs hw_107 hP hD hS => ?_)
            have hP : va_P (dC, dI) vwCl [(zx, .inr (10, [.ref zn, .ref zk, .ref zr, .ref zl, .ref zc, .ref zs, .ref zw, .ref zt, .ref zm, .int 0])), (zr, .inr (6, [.ref zrt, .int 1, .int 0, .int 0])), (zrt, .inl (cy 0, 80, .inl (upd (fun _ => 0) (0 : Int32).toNatClampNeg r_101)))] H := hP
            have hD : va_D A [(zx, .inr (10, [.ref zn, .ref zk, .ref zr, .ref zl, .ref zc, .ref zs, .ref zw, .ref zt, .ref zm, .int 0])), (zr, .inr (6, [.ref zrt, .int 1, .int 0, .int 0])), (zrt, .inl (cy 0, 80, .inl (upd (fun _ => 0) (0 : Int32).toNatClampNeg r_101)))] := hD
            have hw_107 : r_106.toInt = by8 zja 1 := hw_107
            refine va_iast hx hb hK hP hD hS 2 0 rfl rfl (vp_in_iff.mpr ⟨by decide, by decide⟩) dX10_type_92 (fun H locs hP hD hS => ?_)
            have hP : va_P (dC, dI) vwCl [(zx, .inr (10, [.ref zn, .ref zk, .ref zr, .ref zl, .ref zc, .ref zs, .ref zw, .ref zt, .ref zm, .int 0])), (zr, .inr (6, [.ref zrt, .int 1, .int 0, .int 0])), (zrt, .inl (cy 0, 80, .inl (upd (upd (fun _ => 0) (0 : Int32).toNatClampNeg r_101) (1 : Int32).toNatClampNeg r_106)))] H := hP
            have hD : va_D A [(zx, .inr (10, [.ref zn, .ref zk, .ref zr, .ref zl, .ref zc, .ref zs, .ref zw, .ref zt, .ref zm, .int 0])), (zr, .inr (6, [.ref zrt, .int 1, .int 0, .int 0])), (zrt, .inl (cy 0, 80, .inl (upd (upd (fun _ => 0) (0 : Int32).toNatClampNeg r_101) (1 : Int32).toNatClampNeg r_106)))] := hD
            refine lv_aload_n hx hb dX10_type_93 rfl (lv_at hl 1 rfl) ?_
            refine va_get (D := (dC, dI)) (ci := 10) (v := .ref zr) (C := RX10) (T := TX10) (N := 10) hx hb hts (by decide +kernel) hown hK hP 0 rfl rfl 2 (by decide) (hts (.fieldLink RX10 22 "DripStone" "reader" "LDripStone$Reader;") (by decide +kernel)) (fun _ h9 => h9) rfl dX10_type_94 ?_
            refine lv_dup hx hb dX10_type_97 rfl ?_
            refine va_get (D := (dC, dI)) (ci := 6) (v := .int 1) (C := RX6) (T := TX6) (N := 4) hx hb hts (by decide +kernel) hown hK hP 1 rfl rfl 1 (by decide) (hts (.fieldLink RX10 116 "DripStone$Reader" "typed" "I") (by decide +kernel)) (fun _ h9 => h9) rfl dX10_type_98 ?_
            refine lv_iconst (v := 1) hx hb dX10_type_101 (by decide) ?_
            refine lv_iadd hx hb dX10_type_102 ?_
            refine lv_topi (fun v_108 ev_108 => ?_)
            obtain rfl : v_108 = (2 : Int32) := ev_108.trans (by decide)
            refine va_put (D := (dC, dI)) (ci := 6) (v := .int 2) (ty := .int) (C := RX6) (T := TX6) (N := 4) hx hb hts (by decide +kernel) tyX6 tyX6_ok nmX6 hown hK hP hD hS 1 rfl rfl 1 (by decide) (hts (.fieldLink RX10 116 "DripStone$Reader" "typed" "I") (by decide +kernel)) (fun _ h9 => h9) rfl (by decide +kernel) rfl rfl (Nat.le_of_ble_eq_true rfl) dX10_type_103 (fun H locs hP hD hS => ?_)
            have hP : va_P (dC, dI) vwCl [(zx, .inr (10, [.ref zn, .ref zk, .ref zr, .ref zl, .ref zc, .ref zs, .ref zw, .ref zt, .ref zm, .int 0])), (zr, .inr (6, [.ref zrt, .int 2, .int 0, .int 0])), (zrt, .inl (cy 0, 80, .inl (upd (upd (fun _ => 0) (0 : Int32).toNatClampNeg r_101) (1 : Int32).toNatClampNeg r_106)))] H := hP
            have hD : va_D A [(zx, .inr (10, [.ref zn, .ref zk, .ref zr, .ref zl, .ref zc, .ref zs, .ref zw, .ref zt, .ref zm, .int 0])), (zr, .inr (6, [.ref zrt, .int 2, .int 0, .int 0])), (zrt, .inl (cy 0, 80, .inl (upd (upd (fun _ => 0) (0 : Int32).toNatClampNeg r_101) (1 : Int32).toNatClampNeg r_106)))] := hD
            refine lv_iinc (v := 0) (lv' := [(4, .int 0), (0, .ref zx), (1, .long zja), (3, .int 3)]) hx hb dX10_type_106 hl (k := 0) rfl (by decide) (by decide) rfl (fun ls hl => ?_)
            refine lv_goto (tgt := 67) hx hb dX10_type_109 (by decide) ?_
            refine lv_iload hx hb dX10_type_67 (lv_at hl 0 rfl) ?_
            refine lv_if_lt (tgt := 112) hx hb dX10_type_69 (by decide) (fun c_109 => absurd c_109 (by decide)) (fun c_109 => ?_)
            refine lv_aload_n hx hb dX10_type_72 rfl (lv_at hl 1 rfl) ?_
            refine va_get (D := (dC, dI)) (ci := 10) (v := .ref zr) (C := RX10) (T := TX10) (N := 10) hx hb hts (by decide +kernel) hown hK hP 0 rfl rfl 2 (by decide) (hts (.fieldLink RX10 22 "DripStone" "reader" "LDripStone$Reader;") (by decide +kernel)) (fun _ h9 => h9) rfl dX10_type_73 ?_
            refine va_get (D := (dC, dI)) (ci := 6) (v := .ref zrt) (C := RX6) (T := TX6) (N := 4) hx hb hts (by decide +kernel) hown hK hP 1 rfl rfl 0 (by decide) (hts (.fieldLink RX10 119 "DripStone$Reader" "tape" "[I") (by decide +kernel)) (fun _ h9 => h9) rfl dX10_type_76 ?_
            refine lv_aload_n hx hb dX10_type_79 rfl (lv_at hl 1 rfl) ?_
            refine va_get (D := (dC, dI)) (ci := 10) (v := .ref zr) (C := RX10) (T := TX10) (N := 10) hx hb hts (by decide +kernel) hown hK hP 0 rfl rfl 2 (by decide) (hts (.fieldLink RX10 22 "DripStone" "reader" "LDripStone$Reader;") (by decide +kernel)) (fun _ h9 => h9) rfl dX10_type_80 ?_
            refine va_get (D := (dC, dI)) (ci := 6) (v := .int 2) (C := RX6) (T := TX6) (N := 4) hx hb hts (by decide +kernel) hown hK hP 1 rfl rfl 1 (by decide) (hts (.fieldLink RX10 116 "DripStone$Reader" "typed" "I") (by decide +kernel)) (fun _ h9 => h9) rfl dX10_type_83 ?_
            refine lv_lload_n hx hb dX10_type_86 rfl (lv_at hl 2 rfl) ?_
            refine lv_iload hx hb dX10_type_87 (lv_at hl 0 rfl) ?_
            refine cj_i (wc := []) (wr := [(zx, .inr (10, [.ref zn, .ref zk, .ref zr, .ref zl, .ref zc, .ref zs, .ref zw, .ref zt, .ref zm, .int 0])), (zr, .inr (6, [.ref zrt, .int 2, .int 0, .int 0])), (zrt, .inl (cy 0, 80, .inl (upd (upd (fun _ => 0) (0 : Int32).toNatClampNeg r_101) (1 : Int32).toNatClampNeg r_106)))]) (w1 := fun (_ : Unit) => []) (va_runS (As := [.long zja, .int 0]) (rest := [.int 2, .ref zrt]) ⟨hx, hb, hml, hown, hts⟩ (c_byteOf_0 l dC dI cy H.size zja) (va_cwS 2 hts gX10_type_X10_byteOf rfl rfl rfl (by decide +kernel) ⟨(Nat.le_of_ble_eq_true rfl), (Nat.le_of_ble_eq_true rfl)⟩) (PRE.s (hP.sub [] rfl) hK (hD.sub [] (by decide) rfl) hN) rfl rfl hl.1 rfl (lv_room (Nat.le_of_ble_eq_true rfl)) dX10_type_89 ⟨(Nat.le_of_ble_eq_true rfl), (Nat.le_of_ble_eq_true rfl)⟩) hP hD hS hA [] [0, 1, 2] rfl rfl rfl (by decide) (fun r_111 u_110 H locs hw_112 hP hD hS => ?_)
            have hP : va_P (dC, dI) vwCl [(zx, .inr (10, [.ref zn, .ref zk, .ref zr, .ref zl, .ref zc, .ref zs, .ref zw, .ref zt, .ref zm, .int 0])), (zr, .inr (6, [.ref zrt, .int 2, .int 0, .int 0])), (zrt, .inl (cy 0, 80, .inl (upd (upd (fun _ => 0) (0 : Int32).toNatClampNeg r_101) (1 : Int32).toNatClampNeg r_106)))] H := hP
            have hD : va_D A [(zx, .inr (10, [.ref zn, .ref zk, .ref zr, .ref zl, .ref zc, .ref zs, .ref zw, .ref zt, .ref zm, .int 0])), (zr, .inr (6, [.ref zrt, .int 2, .int 0, .int 0])), (zrt, .inl (cy 0, 80, .inl (upd (upd (fun _ => 0) (0 : Int32).toNatClampNeg r_101) (1 : Int32).toNatClampNeg r_106)))] := hD
            have hw_112 : r_111.toInt = by8 zja 0 := hw_112
            refine va_iast hx hb hK hP hD hS 2 0 rfl rfl (vp_in_iff.mpr ⟨by decide, by decide⟩) dX10_type_92 (fun H locs hP hD hS => ?_)
            have hP : va_P (dC, dI) vwCl [(zx, .inr (10, [.ref zn, .ref zk, .ref zr, .ref zl, .ref zc, .ref zs, .ref zw, .ref zt, .ref zm, .int 0])), (zr, .inr (6, [.ref zrt, .int 2, .int 0, .int 0])), (zrt, .inl (cy 0, 80, .inl (upd (upd (upd (fun _ => 0) (0 : Int32).toNatClampNeg r_101) (1 : Int32).toNatClampNeg r_106) (2 : Int32).toNatClampNeg r_111)))] H := hP
            have hD : va_D A [(zx, .inr (10, [.ref zn, .ref zk, .ref zr, .ref zl, .ref zc, .ref zs, .ref zw, .ref zt, .ref zm, .int 0])), (zr, .inr (6, [.ref zrt, .int 2, .int 0, .int 0])), (zrt, .inl (cy 0, 80, .inl (upd (upd (upd (fun _ => 0) (0 : Int32).toNatClampNeg r_101) (1 : Int32).toNatClampNeg r_106) (2 : Int32).toNatClampNeg r_111)))] := hD
            refine lv_aload_n hx hb dX10_type_93 rfl (lv_at hl 1 rfl) ?_
            refine va_get (D := (dC, dI)) (ci := 10) (v := .ref zr) (C := RX10) (T := TX10) (N := 10) hx hb hts (by decide +kernel) hown hK hP 0 rfl rfl 2 (by decide) (hts (.fieldLink RX10 22 "DripStone" "reader" "LDripStone$Reader;") (by decide +kernel)) (fun _ h9 => h9) rfl dX10_type_94 ?_
            refine lv_dup hx hb dX10_type_97 rfl ?_
            refine va_get (D := (dC, dI)) (ci := 6) (v := .int 2) (C := RX6) (T := TX6) (N := 4) hx hb hts (by decide +kernel) hown hK hP 1 rfl rfl 1 (by decide) (hts (.fieldLink RX10 116 "DripStone$Reader" "typed" "I") (by decide +kernel)) (fun _ h9 => h9) rfl dX10_type_98 ?_
            refine lv_iconst (v := 1) hx hb dX10_type_101 (by decide) ?_
            refine lv_iadd hx hb dX10_type_102 ?_
            refine lv_topi (fun v_113 ev_113 => ?_)
            obtain rfl : v_113 = (3 : Int32) := ev_113.trans (by decide)
            refine va_put (D := (dC, dI)) (ci := 6) (v := .int 3) (ty := .int) (C := RX6) (T := TX6) (N := 4) hx hb hts (by decide +kernel) tyX6 tyX6_ok nmX6 hown hK hP hD hS 1 rfl rfl 1 (by decide) (hts (.fieldLink RX10 116 "DripStone$Reader" "typed" "I") (by decide +kernel)) (fun _ h9 => h9) rfl (by decide +kernel) rfl rfl (Nat.le_of_ble_eq_true rfl) dX10_type_103 (fun H locs hP hD hS => ?_)
            have hP : va_P (dC, dI) vwCl [(zx, .inr (10, [.ref zn, .ref zk, .ref zr, .ref zl, .ref zc, .ref zs, .ref zw, .ref zt, .ref zm, .int 0])), (zr, .inr (6, [.ref zrt, .int 3, .int 0, .int 0])), (zrt, .inl (cy 0, 80, .inl (upd (upd (upd (fun _ => 0) (0 : Int32).toNatClampNeg r_101) (1 : Int32).toNatClampNeg r_106) (2 : Int32).toNatClampNeg r_111)))] H := hP
            have hD : va_D A [(zx, .inr (10, [.ref zn, .ref zk, .ref zr, .ref zl, .ref zc, .ref zs, .ref zw, .ref zt, .ref zm, .int 0])), (zr, .inr (6, [.ref zrt, .int 3, .int 0, .int 0])), (zrt, .inl (cy 0, 80, .inl (upd (upd (upd (fun _ => 0) (0 : Int32).toNatClampNeg r_101) (1 : Int32).toNatClampNeg r_106) (2 : Int32).toNatClampNeg r_111)))] := hD
            refine lv_iinc (v := (-1)) (lv' := [(4, .int (-1)), (0, .ref zx), (1, .long zja), (3, .int 3)]) hx hb dX10_type_106 hl (k := 0) rfl (by decide) (by decide) rfl (fun ls hl => ?_)
            refine lv_goto (tgt := 67) hx hb dX10_type_109 (by decide) ?_
            refine lv_iload hx hb dX10_type_67 (lv_at hl 0 rfl) ?_
            refine lv_if_lt (tgt := 112) hx hb dX10_type_69 (by decide) (fun c_114 => ?_) (fun c_114 => absurd (by decide) c_114)
            refine lv_aload_n hx hb dX10_type_112 rfl (lv_at hl 1 rfl) ?_
            refine va_get (D := (dC, dI)) (ci := 10) (v := .ref zr) (C := RX10) (T := TX10) (N := 10) hx hb hts (by decide +kernel) hown hK hP 0 rfl rfl 2 (by decide) (hts (.fieldLink RX10 22 "DripStone" "reader" "LDripStone$Reader;") (by decide +kernel)) (fun _ h9 => h9) rfl dX10_type_113 ?_
            refine va_get (D := (dC, dI)) (ci := 6) (v := .int 3) (C := RX6) (T := TX6) (N := 4) hx hb hts (by decide +kernel) hown hK hP 1 rfl rfl 1 (by decide) (hts (.fieldLink RX10 116 "DripStone$Reader" "typed" "I") (by decide +kernel)) (fun _ h9 => h9) rfl dX10_type_116 ?_
            have hP9 := hP.sub (ws' := []) [] rfl
            have hD9 := hD.sub (ws' := []) [] (by decide) rfl
            exact W.iret (v := 3) hx hb hr (fun t ht hW => ⟨⟨3, (), rfl, ((an_type_3 _).trans (if_pos ⟨g_74, g_84, g_94⟩)).symm, ⟨by rw [ht]; exact hP9, va_K.moved hW.alike hK, hD9⟩⟩, hS.F ht⟩) hS.2.2 dX10_type_119
          · have f_93 : ¬ (32 ≤ r_87.toInt ∧ r_87.toInt ≤ 126) := bz_0 hw_91 c_92
            have g_115 : ¬ okb zja 2 := by unfold okb; rw [← hw_88]; exact f_93
            refine lv_iconst (v := (-1)) hx hb dX10_type_37 (by decide) ?_
            have hP9 := hP.sub (ws' := []) [] rfl
            have hD9 := hD.sub (ws' := []) [] (by decide) rfl
            exact W.iret (v := (-1)) hx hb hr (fun t ht hW => ⟨⟨(-1), (), rfl, ((an_type_3 _).trans (if_neg (fun h => g_115 (h.2.2)))).symm, ⟨by rw [ht]; exact hP9, va_K.moved hW.alike hK, hD9⟩⟩, hS.F ht⟩) hS.2.2 dX10_type_38
        · have f_83 : ¬ (32 ≤ r_77.toInt ∧ r_77.toInt ≤ 126) := bz_0 hw_81 c_82
          have g_116 : ¬ okb zja 1 := by unfold okb; rw [← hw_78]; exact f_83
          refine lv_iconst (v := (-1)) hx hb dX10_type_37 (by decide) ?_
          have hP9 := hP.sub (ws' := []) [] rfl
          have hD9 := hD.sub (ws' := []) [] (by decide) rfl
          exact W.iret (v := (-1)) hx hb hr (fun t ht hW => ⟨⟨(-1), (), rfl, ((an_type_3 _).trans (if_neg (fun h => g_116 (h.2.1)))).symm, ⟨by rw [ht]; exact hP9, va_K.moved hW.alike hK, hD9⟩⟩, hS.F ht⟩) hS.2.2 dX10_type_38
      · have f_73 : ¬ (32 ≤ r_67.toInt ∧ r_67.toInt ≤ 126) := bz_0 hw_71 c_72
        have g_117 : ¬ okb zja 0 := by unfold okb; rw [← hw_68]; exact f_73
        refine lv_iconst (v := (-1)) hx hb dX10_type_37 (by decide) ?_
        have hP9 := hP.sub (ws' := []) [] rfl
        have hD9 := hD.sub (ws' := []) [] (by decide) rfl
        exact W.iret (v := (-1)) hx hb hr (fun t ht hW => ⟨⟨(-1), (), rfl, ((an_type_3 _).trans (if_neg (fun h => g_117 (h.1)))).symm, ⟨by rw [ht]; exact hP9, va_K.moved hW.alike hK, hD9⟩⟩, hS.F ht⟩) hS.2.2 dX10_type_38
    · have zk_6_4 : (4 : Int32).toInt = 4 := by decide
      refine lv_iconst (v := 0) hx hb dX10_type_12 (by decide) ?_
      refine lv_istore (lv' := [(4, .int 0), (0, .ref zx), (1, .long zja), (3, .int 4)]) hx hb dX10_type_13 hl (by decide) rfl (fun ls hl => ?_)
      refine lv_iload hx hb dX10_type_15 (lv_at hl 0 rfl) ?_
      refine lv_iload_n hx hb dX10_type_17 rfl (lv_at hl 3 rfl) ?_
      refine lv_icmp_ge (tgt := 45) hx hb dX10_type_18 (by decide) (fun c_118 => absurd c_118 (by decide)) (fun c_118 => ?_)
      refine lv_lload_n hx hb dX10_type_21 rfl (lv_at hl 2 rfl) ?_
      refine lv_iload hx hb dX10_type_22 (lv_at hl 0 rfl) ?_
      refine cj_i (wc := []) (wr := [(zx, .inr (10, [.ref zn, .ref zk, .ref zr, .ref zl, .ref zc, .ref zs, .ref zw, .ref zt, .ref zm, .int 0])), (zr, .inr (6, [.ref zrt, .int 0, .int 0, .int 0])), (zrt, .inl (cy 0, 80, .inl (fun _ => 0)))]) (w1 := fun (_ : Unit) => []) (va_runS (As := [.long zja, .int 0]) (rest := []) ⟨hx, hb, hml, hown, hts⟩ (c_byteOf_0 l dC dI cy H.size zja) (va_cwS 2 hts gX10_type_X10_byteOf rfl rfl rfl (by decide +kernel) ⟨(Nat.le_of_ble_eq_true rfl), (Nat.le_of_ble_eq_true rfl)⟩) (PRE.s (hP.sub [] rfl) hK (hD.sub [] (by decide) rfl) hN) rfl rfl hl.1 rfl (lv_room (Nat.le_of_ble_eq_true rfl)) dX10_type_24 ⟨(Nat.le_of_ble_eq_true rfl), (Nat.le_of_ble_eq_true rfl)⟩) hP hD hS hA [] [0, 1, 2] rfl rfl rfl (by decide) (fun r_120 u_119 H locs hw_121 hP hD hS => ?_)
      have hP : va_P (dC, dI) vwCl [(zx, .inr (10, [.ref zn, .ref zk, .ref zr, .ref zl, .ref zc, .ref zs, .ref zw, .ref zt, .ref zm, .int 0])), (zr, .inr (6, [.ref zrt, .int 0, .int 0, .int 0])), (zrt, .inl (cy 0, 80, .inl (fun _ => 0)))] H := hP
      have hD : va_D A [(zx, .inr (10, [.ref zn, .ref zk, .ref zr, .ref zl, .ref zc, .ref zs, .ref zw, .ref zt, .ref zm, .int 0])), (zr, .inr (6, [.ref zrt, .int 0, .int 0, .int 0])), (zrt, .inl (cy 0, 80, .inl (fun _ => 0)))] := hD
      have hw_121 : r_120.toInt = by8 zja 0 := hw_121
      refine lv_bipush (v := 32) hx hb dX10_type_27 (by decide) ?_
      refine lv_bipush (v := 126) hx hb dX10_type_29 (by decide) ?_
      refine cj_i (wc := []) (wr := [(zx, .inr (10, [.ref zn, .ref zk, .ref zr, .ref zl, .ref zc, .ref zs, .ref zw, .ref zt, .ref zm, .int 0])), (zr, .inr (6, [.ref zrt, .int 0, .int 0, .int 0])), (zrt, .inl (cy 0, 80, .inl (fun _ => 0)))]) (w1 := fun (_ : Unit) => []) (va_runS (As := [.int r_120, .int 32, .int 126]) (rest := []) ⟨hx, hb, hml, hown, hts⟩ (c_X10_isWithin l dC dI cy H.size r_120 32 126 32 126 (by first | rfl | decide | omega | exact Int32.toInt_toInt64 _) (by first | rfl | decide | omega | exact Int32.toInt_toInt64 _)) (va_cwS 3 hts gX10_type_X10_isWithin rfl rfl rfl (by decide +kernel) ⟨(Nat.le_of_ble_eq_true rfl), (Nat.le_of_ble_eq_true rfl)⟩) (PRE.s (hP.sub [] rfl) hK (hD.sub [] (by decide) rfl) hN) rfl rfl hl.1 rfl (lv_room (Nat.le_of_ble_eq_true rfl)) dX10_type_31 ⟨(Nat.le_of_ble_eq_true rfl), (Nat.le_of_ble_eq_true rfl)⟩) hP hD hS hA [] [0, 1, 2] rfl rfl rfl (by decide) (fun r_123 u_122 H locs hw_124 hP hD hS => ?_)
      have hP : va_P (dC, dI) vwCl [(zx, .inr (10, [.ref zn, .ref zk, .ref zr, .ref zl, .ref zc, .ref zs, .ref zw, .ref zt, .ref zm, .int 0])), (zr, .inr (6, [.ref zrt, .int 0, .int 0, .int 0])), (zrt, .inl (cy 0, 80, .inl (fun _ => 0)))] H := hP
      have hD : va_D A [(zx, .inr (10, [.ref zn, .ref zk, .ref zr, .ref zl, .ref zc, .ref zs, .ref zw, .ref zt, .ref zm, .int 0])), (zr, .inr (6, [.ref zrt, .int 0, .int 0, .int 0])), (zrt, .inl (cy 0, 80, .inl (fun _ => 0)))] := hD
      have hw_124 : r_123 = if 32 ≤ r_120.toInt ∧ r_120.toInt ≤ 126 then 1 else 0 := hw_124
      refine lv_if_ne (tgt := 39) hx hb dX10_type_34 (by decide) (fun c_125 => ?_) (fun c_125 => ?_)
      · have f_126 : 32 ≤ r_120.toInt ∧ r_120.toInt ≤ 126 := bz_1 hw_124 c_125
        have g_127 : okb zja 0 := by unfold okb; rw [← hw_121]; exact f_126
        refine lv_iinc (v := 1) (lv' := [(4, .int 1), (0, .ref zx), (1, .long zja), (3, .int 4)]) hx hb dX10_type_39 hl (k := 0) rfl (by decide) (by decide) rfl (fun ls hl => ?_)
        refine lv_goto (tgt := 15) hx hb dX10_type_42 (by decide) ?_
        refine lv_iload hx hb dX10_type_15 (lv_at hl 0 rfl) ?_
        refine lv_iload_n hx hb dX10_type_17 rfl (lv_at hl 3 rfl) ?_
        refine lv_icmp_ge (tgt := 45) hx hb dX10_type_18 (by decide) (fun c_128 => absurd c_128 (by decide)) (fun c_128 => ?_)
        refine lv_lload_n hx hb dX10_type_21 rfl (lv_at hl 2 rfl) ?_
        refine lv_iload hx hb dX10_type_22 (lv_at hl 0 rfl) ?_
        refine cj_i (wc := []) (wr := [(zx, .inr (10, [.ref zn, .ref zk, .ref zr, .ref zl, .ref zc, .ref zs, .ref zw, .ref zt, .ref zm, .int 0])), (zr, .inr (6, [.ref zrt, .int 0, .int 0, .int 0])), (zrt, .inl (cy 0, 80, .inl (fun _ => 0)))]) (w1 := fun (_ : Unit) => []) (va_runS (As := [.long zja, .int 1]) (rest := []) ⟨hx, hb, hml, hown, hts⟩ (c_byteOf_1 l dC dI cy H.size zja) (va_cwS 2 hts gX10_type_X10_byteOf rfl rfl rfl (by decide +kernel) ⟨(Nat.le_of_ble_eq_true rfl), (Nat.le_of_ble_eq_true rfl)⟩) (PRE.s (hP.sub [] rfl) hK (hD.sub [] (by decide) rfl) hN) rfl rfl hl.1 rfl (lv_room (Nat.le_of_ble_eq_true rfl)) dX10_type_24 ⟨(Nat.le_of_ble_eq_true rfl), (Nat.le_of_ble_eq_true rfl)⟩) hP hD hS hA [] [0, 1, 2] rfl rfl rfl (by decide) (fun r_130 u_129 H locs hw_131 hP hD hS => ?_)
        have hP : va_P (dC, dI) vwCl [(zx, .inr (10, [.ref zn, .ref zk, .ref zr, .ref zl, .ref zc, .ref zs, .ref zw, .ref zt, .ref zm, .int 0])), (zr, .inr (6, [.ref zrt, .int 0, .int 0, .int 0])), (zrt, .inl (cy 0, 80, .inl (fun _ => 0)))] H := hP
        have hD : va_D A [(zx, .inr (10, [.ref zn, .ref zk, .ref zr, .ref zl, .ref zc, .ref zs, .ref zw, .ref zt, .ref zm, .int 0])), (zr, .inr (6, [.ref zrt, .int 0, .int 0, .int 0])), (zrt, .inl (cy 0, 80, .inl (fun _ => 0)))] := hD
        have hw_131 : r_130.toInt = by8 zja 1 := hw_131
        refine lv_bipush (v := 32) hx hb dX10_type_27 (by decide) ?_
        refine lv_bipush (v := 126) hx hb dX10_type_29 (by decide) ?_
        refine cj_i (wc := []) (wr := [(zx, .inr (10, [.ref zn, .ref zk, .ref zr, .ref zl, .ref zc, .ref zs, .ref zw, .ref zt, .ref zm, .int 0])), (zr, .inr (6, [.ref zrt, .int 0, .int 0, .int 0])), (zrt, .inl (cy 0, 80, .inl (fun _ => 0)))]) (w1 := fun (_ : Unit) => []) (va_runS (As := [.int r_130, .int 32, .int 126]) (rest := []) ⟨hx, hb, hml, hown, hts⟩ (c_X10_isWithin l dC dI cy H.size r_130 32 126 32 126 (by first | rfl | decide | omega | exact Int32.toInt_toInt64 _) (by first | rfl | decide | omega | exact Int32.toInt_toInt64 _)) (va_cwS 3 hts gX10_type_X10_isWithin rfl rfl rfl (by decide +kernel) ⟨(Nat.le_of_ble_eq_true rfl), (Nat.le_of_ble_eq_true rfl)⟩) (PRE.s (hP.sub [] rfl) hK (hD.sub [] (by decide) rfl) hN) rfl rfl hl.1 rfl (lv_room (Nat.le_of_ble_eq_true rfl)) dX10_type_31 ⟨(Nat.le_of_ble_eq_true rfl), (Nat.le_of_ble_eq_true rfl)⟩) hP hD hS hA [] [0, 1, 2] rfl rfl rfl (by decide) (fun r_133 u_132 H locs hw_134 hP hD hS => ?_)
        have hP : va_P (dC, dI) vwCl [(zx, .inr (10, [.ref zn, .ref zk, .ref zr, .ref zl, .ref zc, .ref zs, .ref zw, .ref zt, .ref zm, .int 0])), (zr, .inr (6, [.ref zrt, .int 0, .int 0, .int 0])), (zrt, .inl (cy 0, 80, .inl (fun _ => 0)))] H := hP
        have hD : va_D A [(zx, .inr (10, [.ref zn, .ref zk, .ref zr, .ref zl, .ref zc, .ref zs, .ref zw, .ref zt, .ref zm, .int 0])), (zr, .inr (6, [.ref zrt, .int 0, .int 0, .int 0])), (zrt, .inl (cy 0, 80, .inl (fun _ => 0)))] := hD
        have hw_134 : r_133 = if 32 ≤ r_130.toInt ∧ r_130.toInt ≤ 126 then 1 else 0 := hw_134
        refine lv_if_ne (tgt := 39) hx hb dX10_type_34 (by decide) (fun c_135 => ?_) (fun c_135 => ?_)
        · have f_136 : 32 ≤ r_130.toInt ∧ r_130.toInt ≤ 126 := bz_1 hw_134 c_135
          have g_137 : okb zja 1 := by unfold okb; rw [← hw_131]; exact f_136
          refine lv_iinc (v := 2) (lv' := [(4, .int 2), (0, .ref zx), (1, .long zja), (3, .int 4)]) hx hb dX10_type_39 hl (k := 0) rfl (by decide) (by decide) rfl (fun ls hl => ?_)
          refine lv_goto (tgt := 15) hx hb dX10_type_42 (by decide) ?_
          refine lv_iload hx hb dX10_type_15 (lv_at hl 0 rfl) ?_
          refine lv_iload_n hx hb dX10_type_17 rfl (lv_at hl 3 rfl) ?_
          refine lv_icmp_ge (tgt := 45) hx hb dX10_type_18 (by decide) (fun c_138 => absurd c_138 (by decide)) (fun c_138 => ?_)
          refine lv_lload_n hx hb dX10_type_21 rfl (lv_at hl 2 rfl) ?_
          refine lv_iload hx hb dX10_type_22 (lv_at hl 0 rfl) ?_
          refine cj_i (wc := []) (wr := [(zx, .inr (10, [.ref zn, .ref zk, .ref zr, .ref zl, .ref zc, .ref zs, .ref zw, .ref zt, .ref zm, .int 0])), (zr, .inr (6, [.ref zrt, .int 0, .int 0, .int 0])), (zrt, .inl (cy 0, 80, .inl (fun _ => 0)))]) (w1 := fun (_ : Unit) => []) (va_runS (As := [.long zja, .int 2]) (rest := []) ⟨hx, hb, hml, hown, hts⟩ (c_byteOf_2 l dC dI cy H.size zja) (va_cwS 2 hts gX10_type_X10_byteOf rfl rfl rfl (by decide +kernel) ⟨(Nat.le_of_ble_eq_true rfl), (Nat.le_of_ble_eq_true rfl)⟩) (PRE.s (hP.sub [] rfl) hK (hD.sub [] (by decide) rfl) hN) rfl rfl hl.1 rfl (lv_room (Nat.le_of_ble_eq_true rfl)) dX10_type_24 ⟨(Nat.le_of_ble_eq_true rfl), (Nat.le_of_ble_eq_true rfl)⟩) hP hD hS hA [] [0, 1, 2] rfl rfl rfl (by decide) (fun r_140 u_139 H locs hw_141 hP hD hS => ?_)
          have hP : va_P (dC, dI) vwCl [(zx, .inr (10, [.ref zn, .ref zk, .ref zr, .ref zl, .ref zc, .ref zs, .ref zw, .ref zt, .ref zm, .int 0])), (zr, .inr (6, [.ref zrt, .int 0, .int 0, .int 0])), (zrt, .inl (cy 0, 80, .inl (fun _ => 0)))] H := hP
          have hD : va_D A [(zx, .inr (10, [.ref zn, .ref zk, .ref zr, .ref zl, .ref zc, .ref zs, .ref zw, .ref zt, .ref zm, .int 0])), (zr, .inr (6, [.ref zrt, .int 0, .int 0, .int 0])), (zrt, .inl (cy 0, 80, .inl (fun _ => 0)))] := hD
          have hw_141 : r_140.toInt = by8 zja 2 := hw_141
          refine lv_bipush (v := 32) hx hb dX10_type_27 (by decide) ?_
          refine lv_bipush (v := 126) hx hb dX10_type_29 (by decide) ?_
          refine cj_i (wc := []) (wr := [(zx, .inr (10, [.ref zn, .ref zk, .ref zr, .ref zl, .ref zc, .ref zs, .ref zw, .ref zt, .ref zm, .int 0])), (zr, .inr (6, [.ref zrt, .int 0, .int 0, .int 0])), (zrt, .inl (cy 0, 80, .inl (fun _ => 0)))]) (w1 := fun (_ : Unit) => []) (va_runS (As := [.int r_140, .int 32, .int 126]) (rest := []) ⟨hx, hb, hml, hown, hts⟩ (c_X10_isWithin l dC dI cy H.size r_140 32 126 32 126 (by first | rfl | decide | omega | exact Int32.toInt_toInt64 _) (by first | rfl | decide | omega | exact Int32.toInt_toInt64 _)) (va_cwS 3 hts gX10_type_X10_isWithin rfl rfl rfl (by decide +kernel) ⟨(Nat.le_of_ble_eq_true rfl), (Nat.le_of_ble_eq_true rfl)⟩) (PRE.s (hP.sub [] rfl) hK (hD.sub [] (by decide) rfl) hN) rfl rfl hl.1 rfl (lv_room (Nat.le_of_ble_eq_true rfl)) dX10_type_31 ⟨(Nat.le_of_ble_eq_true rfl), (Nat.le_of_ble_eq_true rfl)⟩) hP hD hS hA [] [0, 1, 2] rfl rfl rfl (by decide) (fun r_143 u_142 H locs hw_144 hP hD hS => ?_)
          have hP : va_P (dC, dI) vwCl [(zx, .inr (10, [.ref zn, .ref zk, .ref zr, .ref zl, .ref zc, .ref zs, .ref zw, .ref zt, .ref zm, .int 0])), (zr, .inr (6, [.ref zrt, .int 0, .int 0, .int 0])), (zrt, .inl (cy 0, 80, .inl (fun _ => 0)))] H := hP
          have hD : va_D A [(zx, .inr (10, [.ref zn, .ref zk, .ref zr, .ref zl, .ref zc, .ref zs, .ref zw, .ref zt, .ref zm, .int 0])), (zr, .inr (6, [.ref zrt, .int 0, .int 0, .int 0])), (zrt, .inl (cy 0, 80, .inl (fun _ => 0)))] := hD
          have hw_144 : r_143 = if 32 ≤ r_140.toInt ∧ r_140.toInt ≤ 126 then 1 else 0 := hw_144
          refine lv_if_ne (tgt := 39) hx hb dX10_type_34 (by decide) (fun c_145 => ?_) (fun c_145 => ?_)
          · have f_146 : 32 ≤ r_140.toInt ∧ r_140.toInt ≤ 126 := bz_1 hw_144 c_145
            have g_147 : okb zja 2 := by unfold okb; rw [← hw_141]; exact f_146
            refine lv_iinc (v := 3) (lv' := [(4, .int 3), (0, .ref zx), (1, .long zja), (3, .int 4)]) hx hb dX10_type_39 hl (k := 0) rfl (by decide) (by decide) rfl (fun ls hl => ?_)
            refine lv_goto (tgt := 15) hx hb dX10_type_42 (by decide) ?_
            refine lv_iload hx hb dX10_type_15 (lv_at hl 0 rfl) ?_
            refine lv_iload_n hx hb dX10_type_17 rfl (lv_at hl 3 rfl) ?_
            refine lv_icmp_ge (tgt := 45) hx hb dX10_type_18 (by decide) (fun c_148 => absurd c_148 (by decide)) (fun c_148 => ?_)
            refine lv_lload_n hx hb dX10_type_21 rfl (lv_at hl 2 rfl) ?_
            refine lv_iload hx hb dX10_type_22 (lv_at hl 0 rfl) ?_
            refine cj_i (wc := []) (wr := [(zx, .inr (10, [.ref zn, .ref zk, .ref zr, .ref zl, .ref zc, .ref zs, .ref zw, .ref zt, .ref zm, .int 0])), (zr, .inr (6, [.ref zrt, .int 0, .int 0, .int 0])), (zrt, .inl (cy 0, 80, .inl (fun _ => 0)))]) (w1 := fun (_ : Unit) => []) (va_runS (As := [.long zja, .int 3]) (rest := []) ⟨hx, hb, hml, hown, hts⟩ (c_byteOf_3 l dC dI cy H.size zja) (va_cwS 2 hts gX10_type_X10_byteOf rfl rfl rfl (by decide +kernel) ⟨(Nat.le_of_ble_eq_true rfl), (Nat.le_of_ble_eq_true rfl)⟩) (PRE.s (hP.sub [] rfl) hK (hD.sub [] (by decide) rfl) hN) rfl rfl hl.1 rfl (lv_room (Nat.le_of_ble_eq_true rfl)) dX10_type_24 ⟨(Nat.le_of_ble_eq_true rfl), (Nat.le_of_ble_eq_true rfl)⟩) hP hD hS hA [] [0, 1, 2] rfl rfl rfl (by decide) (fun r_150 u_149 H locs hw_151 hP hD hS => ?_)
            have hP : va_P (dC, dI) vwCl [(zx, .inr (10, [.ref zn, .ref zk, .ref zr, .ref zl, .ref zc, .ref zs, .ref zw, .ref zt, .ref zm, .int 0])), (zr, .inr (6, [.ref zrt, .int 0, .int 0, .int 0])), (zrt, .inl (cy 0, 80, .inl (fun _ => 0)))] H := hP
            have hD : va_D A [(zx, .inr (10, [.ref zn, .ref zk, .ref zr, .ref zl, .ref zc, .ref zs, .ref zw, .ref zt, .ref zm, .int 0])), (zr, .inr (6, [.ref zrt, .int 0, .int 0, .int 0])), (zrt, .inl (cy 0, 80, .inl (fun _ => 0)))] := hD
            have hw_151 : r_150.toInt = by8 zja 3 := hw_151
            refine lv_bipush (v := 32) hx hb dX10_type_27 (by decide) ?_
            refine lv_bipush (v := 126) hx hb dX10_type_29 (by decide) ?_
            refine cj_i (wc := []) (wr := [(zx, .inr (10, [.ref zn, .ref zk, .ref zr, .ref zl, .ref zc, .ref zs, .ref zw, .ref zt, .ref zm, .int 0])), (zr, .inr (6, [.ref zrt, .int 0, .int 0, .int 0])), (zrt, .inl (cy 0, 80, .inl (fun _ => 0)))]) (w1 := fun (_ : Unit) => []) (va_runS (As := [.int r_150, .int 32, .int 126]) (rest := []) ⟨hx, hb, hml, hown, hts⟩ (c_X10_isWithin l dC dI cy H.size r_150 32 126 32 126 (by first | rfl | decide | omega | exact Int32.toInt_toInt64 _) (by first | rfl | decide | omega | exact Int32.toInt_toInt64 _)) (va_cwS 3 hts gX10_type_X10_isWithin rfl rfl rfl (by decide +kernel) ⟨(Nat.le_of_ble_eq_true rfl), (Nat.le_of_ble_eq_true rfl)⟩) (PRE.s (hP.sub [] rfl) hK (hD.sub [] (by decide) rfl) hN) rfl rfl hl.1 rfl (lv_room (Nat.le_of_ble_eq_true rfl)) dX10_type_31 ⟨(Nat.le_of_ble_eq_true rfl), (Nat.le_of_ble_eq_true rfl)⟩) hP hD hS hA [] [0, 1, 2] rfl rfl rfl (by decide) (fun r_153 u_152 H locs hw_154 hP hD hS => ?_)
            have hP : va_P (dC, dI) vwCl [(zx, .inr (10, [.ref zn, .ref zk, .ref zr, .ref zl, .ref zc, .ref zs, .ref zw, .ref zt, .ref zm, .int 0])), (zr, .inr (6, [.ref zrt, .int 0, .int 0, .int 0])), (zrt, .inl (cy 0, 80, .inl (fun _ => 0)))] H := hP
            have hD : va_D A [(zx, .inr (10, [.ref zn, .ref zk, .ref zr, .ref zl, .ref zc, .ref zs, .ref zw, .ref zt, .ref zm, .int 0])), (zr, .inr (6, [.ref zrt, .int 0, .int 0, .int 0])), (zrt, .inl (cy 0, 80, .inl (fun _ => 0)))] := hD
            have hw_154 : r_153 = if 32 ≤ r_150.toInt ∧ r_150.toInt ≤ 126 then 1 else 0 := hw_154
            refine lv_if_ne (tgt := 39) hx hb dX10_type_34 (by decide) (fun c_155 => ?_) (fun c_155 => ?_)
            · have f_156 : 32 ≤ r_150.toInt ∧ r_150.toInt ≤ 126 := bz_1 hw_154 c_155
              have g_157 : okb zja 3 := by unfold okb; rw [← hw_151]; exact f_156
              refine lv_iinc (v := 4) (lv' := [(4, .int 4), (0, .ref zx), (1, .long zja), (3, .int 4)]) hx hb dX10_type_39 hl (k := 0) rfl (by decide) (by decide) rfl (fun ls hl => ?_)
              refine lv_goto (tgt := 15) hx hb dX10_type_42 (by decide) ?_
              refine lv_iload hx hb dX10_type_15 (lv_at hl 0 rfl) ?_
              refine lv_iload_n hx hb dX10_type_17 rfl (lv_at hl 3 rfl) ?_
              refine lv_icmp_ge (tgt := 45) hx hb dX10_type_18 (by decide) (fun c_158 => ?_) (fun c_158 => absurd (by decide) c_158)
              refine lv_aload_n hx hb dX10_type_45 rfl (lv_at hl 1 rfl) ?_
              refine va_get (D := (dC, dI)) (ci := 10) (v := .ref zr) (C := RX10) (T := TX10) (N := 10) hx hb hts (by decide +kernel) hown hK hP 0 rfl rfl 2 (by decide) (hts (.fieldLink RX10 22 "DripStone" "reader" "LDripStone$Reader;") (by decide +kernel)) (fun _ h9 => h9) rfl dX10_type_46 ?_
              refine va_get (D := (dC, dI)) (ci := 6) (v := .int 0) (C := RX6) (T := TX6) (N := 4) hx hb hts (by decide +kernel) hown hK hP 1 rfl rfl 1 (by decide) (hts (.fieldLink RX10 116 "DripStone$Reader" "typed" "I") (by decide +kernel)) (fun _ h9 => h9) rfl dX10_type_49 ?_
              refine lv_iload_n hx hb dX10_type_52 rfl (lv_at hl 3 rfl) ?_
              refine lv_iadd hx hb dX10_type_53 ?_
              refine lv_topi (fun v_159 ev_159 => ?_)
              obtain rfl : v_159 = (4 : Int32) := ev_159.trans (by decide)
              refine lv_bipush (v := 80) hx hb dX10_type_54 (by decide) ?_
              refine lv_icmp_le (tgt := 62) hx hb dX10_type_56 (by decide) (fun c_160 => ?_) (fun c_160 => absurd (by decide) c_160)
              refine lv_iload_n hx hb dX10_type_62 rfl (lv_at hl 3 rfl) ?_
              refine lv_iconst (v := 1) hx hb dX10_type_63 (by decide) ?_
              refine lv_isub hx hb dX10_type_64 ?_
              refine lv_topi (fun v_161 ev_161 => ?_)
              obtain rfl : v_161 = (3 : Int32) := ev_161.trans (by decide)
              refine lv_istore (lv' := [(4, .int 3), (0, .ref zx), (1, .long zja), (3, .int 4)]) hx hb dX10_type_65 hl (by decide) rfl (fun ls hl => ?_)
              refine lv_iload hx hb dX10_type_67 (lv_at hl 0 rfl) ?_
              refine lv_if_lt (tgt := 112) hx hb dX10_type_69 (by decide) (fun c_162 => absurd c_162 (by decide)) (fun c_162 => ?_)
              refine lv_aload_n hx hb dX10_type_72 rfl (lv_at hl 1 rfl) ?_
              refine va_get (D := (dC, dI)) (ci := 10) (v := .ref zr) (C := RX10) (T := TX10) (N := 10) hx hb hts (by decide +kernel) hown hK hP 0 rfl rfl 2 (by decide) (hts (.fieldLink RX10 22 "DripStone" "reader" "LDripStone$Reader;") (by decide +kernel)) (fun _ h9 => h9) rfl dX10_type_73 ?_
              refine va_get (D := (dC, dI)) (ci := 6) (v := .ref zrt) (C := RX6) (T := TX6) (N := 4) hx hb hts (by decide +kernel) hown hK hP 1 rfl rfl 0 (by decide) (hts (.fieldLink RX10 119 "DripStone$Reader" "tape" "[I") (by decide +kernel)) (fun _ h9 => h9) rfl dX10_type_76 ?_
              refine lv_aload_n hx hb dX10_type_79 rfl (lv_at hl 1 rfl) ?_
              refine va_get (D := (dC, dI)) (ci := 10) (v := .ref zr) (C := RX10) (T := TX10) (N := 10) hx hb hts (by decide +kernel) hown hK hP 0 rfl rfl 2 (by decide) (hts (.fieldLink RX10 22 "DripStone" "reader" "LDripStone$Reader;") (by decide +kernel)) (fun _ h9 => h9) rfl dX10_type_80 ?_
              refine va_get (D := (dC, dI)) (ci := 6) (v := .int 0) (C := RX6) (T := TX6) (N := 4) hx hb hts (by decide +kernel) hown hK hP 1 rfl rfl 1 (by decide) (hts (.fieldLink RX10 116 "DripStone$Reader" "typed" "I") (by decide +kernel)) (fun _ h9 => h9) rfl dX10_type_83 ?_
              refine lv_lload_n hx hb dX10_type_86 rfl (lv_at hl 2 rfl) ?_
              refine lv_iload hx hb dX10_type_87 (lv_at hl 0 rfl) ?_
              refine cj_i (wc := []) (wr := [(zx, .inr (10, [.ref zn, .ref zk, .ref zr, .ref zl, .ref zc, .ref zs, .ref zw, .ref zt, .ref zm, .int 0])), (zr, .inr (6, [.ref zrt, .int 0, .int 0, .int 0])), (zrt, .inl (cy 0, 80, .inl (fun _ => 0)))]) (w1 := fun (_ : Unit) => []) (va_runS (As := [.long zja, .int 3]) (rest := [.int 0, .ref zrt]) ⟨hx, hb, hml, hown, hts⟩ (c_byteOf_3 l dC dI cy H.size zja) (va_cwS 2 hts gX10_type_X10_byteOf rfl rfl rfl (by decide +kernel) ⟨(Nat.le_of_ble_eq_true rfl), (Nat.le_of_ble_eq_true rfl)⟩) (PRE.s (hP.sub [] rfl) hK (hD.sub [] (by decide) rfl) hN) rfl rfl hl.1 rfl (lv_room (Nat.le_of_ble_eq_true rfl)) dX10_type_89 ⟨(Nat.le_of_ble_eq_true rfl), (Nat.le_of_ble_eq_true rfl)⟩) hP hD hS hA [] [0, 1, 2] rfl rfl rfl (by decide) (fun r_164 u_163 H locs hw_165 hP hD hS => ?_)
              have hP : va_P (dC, dI) vwCl [(zx, .inr (10, [.ref zn, .ref zk, .ref zr, .ref zl, .ref zc, .ref zs, .ref zw, .ref zt, .ref zm, .int 0])), (zr, .inr (6, [.ref zrt, .int 0, .int 0, .int 0])), (zrt, .inl (cy 0, 80, .inl (fun _ => 0)))] H := hP
              have hD : va_D A [(zx, .inr (10, [.ref zn, .ref zk, .ref zr, .ref zl, .ref zc, .ref zs, .ref zw, .ref zt, .ref zm, .int 0])), (zr, .inr (6, [.ref zrt, .int 0, .int 0, .int 0])), (zrt, .inl (cy 0, 80, .inl (fun _ => 0)))] := hD
              have hw_165 : r_164.toInt = by8 zja 3 := hw_165
              refine va_iast hx hb hK hP hD hS 2 0 rfl rfl (vp_in_iff.mpr ⟨by decide, by decide⟩) dX10_type_92 (fun H locs hP hD hS => ?_)
              have hP : va_P (dC, dI) vwCl [(zx, .inr (10, [.ref zn, .ref zk, .ref zr, .ref zl, .ref zc, .ref zs, .ref zw, .ref zt, .ref zm, .int 0])), (zr, .inr (6, [.ref zrt, .int 0, .int 0, .int 0])), (zrt, .inl (cy 0, 80, .inl (upd (fun _ => 0) (0 : Int32).toNatClampNeg r_164)))] H := hP
              have hD : va_D A [(zx, .inr (10, [.ref zn, .ref zk, .ref zr, .ref zl, .ref zc, .ref zs, .ref zw, .ref zt, .ref zm, .int 0])), (zr, .inr (6, [.ref zrt, .int 0, .int 0, .int 0])), (zrt, .inl (cy 0, 80, .inl (upd (fun _ => 0) (0 : Int32).toNatClampNeg r_164)))] := hD
              refine lv_aload_n hx hb dX10_type_93 rfl (lv_at hl 1 rfl) ?_
              refine va_get (D := (dC, dI)) (ci := 10) (v := .ref zr) (C := RX10) (T := TX10) (N := 10) hx hb hts (by decide +kernel) hown hK hP 0 rfl rfl 2 (by decide) (hts (.fieldLink RX10 22 "DripStone" "reader" "LDripStone$Reader;") (by decide +kernel)) (fun _ h9 => h9) rfl dX10_type_94 ?_
              refine lv_dup hx hb dX10_type_97 rfl ?_
              refine va_get (D := (dC, dI)) (ci := 6) (v := .int 0) (C := RX6) (T := TX6) (N := 4) hx hb hts (by decide +kernel) hown hK hP 1 rfl rfl 1 (by decide) (hts (.fieldLink RX10 116 "DripStone$Reader" "typed" "I") (by decide +kernel)) (fun _ h9 => h9) rfl dX10_type_98 ?_
              refine lv_iconst (v := 1) hx hb dX10_type_101 (by decide) ?_
              refine lv_iadd hx hb dX10_type_102 ?_
              refine lv_topi (fun v_166 ev_166 => ?_)
              obtain rfl : v_166 = (1 : Int32) := ev_166.trans (by decide)
              refine va_put (D := (dC, dI)) (ci := 6) (v := .int 1) (ty := .int) (C := RX6) (T := TX6) (N := 4) hx hb hts (by decide +kernel) tyX6 tyX6_ok nmX6 hown hK hP hD hS 1 rfl rfl 1 (by decide) (hts (.fieldLink RX10 116 "DripStone$Reader" "typed" "I") (by decide +kernel)) (fun _ h9 => h9) rfl (by decide +kernel) rfl rfl (Nat.le_of_ble_eq_true rfl) dX10_type_103 (fun H locs hP hD hS => ?_)
              have hP : va_P (dC, dI) vwCl [(zx, .inr (10, [.ref zn, .ref zk, .ref zr, .ref zl, .ref zc, .ref zs, .ref zw, .ref zt, .ref zm, .int 0])), (zr, .inr (6, [.ref zrt, .int 1, .int 0, .int 0])), (zrt, .inl (cy 0, 80, .inl (upd (fun _ => 0) (0 : Int32).toNatClampNeg r_164)))] H := hP
              have hD : va_D A [(zx, .inr (10, [.ref zn, .ref zk, .ref zr, .ref zl, .ref zc, .ref zs, .ref zw, .ref zt, .ref zm, .int 0])), (zr, .inr (6, [.ref zrt, .int 1, .int 0, .int 0])), (zrt, .inl (cy 0, 80, .inl (upd (fun _ => 0) (0 : Int32).toNatClampNeg r_164)))] := hD
              refine lv_iinc (v := 2) (lv' := [(4, .int 2), (0, .ref zx), (1, .long zja), (3, .int 4)]) hx hb dX10_type_106 hl (k := 0) rfl (by decide) (by decide) rfl (fun ls hl => ?_)
              refine lv_goto (tgt := 67) hx hb dX10_type_109 (by decide) ?_
              refine lv_iload hx hb dX10_type_67 (lv_at hl 0 rfl) ?_
              refine lv_if_lt (tgt := 112) hx hb dX10_type_69 (by decide) (fun c_167 => absurd c_167 (by decide)) (fun c_167 => ?_)
              refine lv_aload_n hx hb dX10_type_72 rfl (lv_at hl 1 rfl) ?_
              refine va_get (D := (dC, dI)) (ci := 10) (v := .ref zr) (C := RX10) (T := TX10) (N := 10) hx hb hts (by decide +kernel) hown hK hP 0 rfl rfl 2 (by decide) (hts (.fieldLink RX10 22 "DripStone" "reader" "LDripStone$Reader;") (by decide +kernel)) (fun _ h9 => h9) rfl dX10_type_73 ?_
              refine va_get (D := (dC, dI)) (ci := 6) (v := .ref zrt) (C := RX6) (T := TX6) (N := 4) hx hb hts (by decide +kernel) hown hK hP 1 rfl rfl 0 (by decide) (hts (.fieldLink RX10 119 "DripStone$Reader" "tape" "[I") (by decide +kernel)) (fun _ h9 => h9) rfl dX10_type_76 ?_
              refine lv_aload_n hx hb dX10_type_79 rfl (lv_at hl 1 rfl) ?_
              refine va_get (D := (dC, dI)) (ci := 10) (v := .ref zr) (C := RX10) (T := TX10) (N := 10) hx hb hts (by decide +kernel) hown hK hP 0 rfl rfl 2 (by decide) (hts (.fieldLink RX10 22 "DripStone" "reader" "LDripStone$Reader;") (by decide +kernel)) (fun _ h9 => h9) rfl dX10_type_80 ?_
              refine va_get (D := (dC, dI)) (ci := 6) (v := .int 1) (C := RX6) (T := TX6) (N := 4) hx hb hts (by decide +kernel) hown hK hP 1 rfl rfl 1 (by decide) (hts (.fieldLink RX10 116 "DripStone$Reader" "typed" "I") (by decide +kernel)) (fun _ h9 => h9) rfl dX10_type_83 ?_
              refine lv_lload_n hx hb dX10_type_86 rfl (lv_at hl 2 rfl) ?_
              refine lv_iload hx hb dX10_type_87 (lv_at hl 0 rfl) ?_
              refine cj_i (wc := []) (wr := [(zx, .inr (10, [.ref zn, .ref zk, .ref zr, .ref zl, .ref zc, .ref zs, .ref zw, .ref zt, .ref zm, .int 0])), (zr, .inr (6, [.ref zrt, .int 1, .int 0, .int 0])), (zrt, .inl (cy 0, 80, .inl (upd (fun _ => 0) (0 : Int32).toNatClampNeg r_164)))]) (w1 := fun (_ : Unit) => []) (va_runS (As := [.long zja, .int 2]) (rest := [.int 1, .ref zrt]) ⟨hx, hb, hml, hown, hts⟩ (c_byteOf_2 l dC dI cy H.size zja) (va_cwS 2 hts gX10_type_X10_byteOf rfl rfl rfl (by decide +kernel) ⟨(Nat.le_of_ble_eq_true rfl), (Nat.le_of_ble_eq_true rfl)⟩) (PRE.s (hP.sub [] rfl) hK (hD.sub [] (by decide) rfl) hN) rfl rfl hl.1 rfl (lv_room (Nat.le_of_ble_eq_true rfl)) dX10_type_89 ⟨(Nat.le_of_ble_eq_true rfl), (Nat.le_of_ble_eq_true rfl)⟩) hP hD hS hA [] [0, 1, 2] rfl rfl rfl (by decide) (fun r_169 u_168 H locs hw_170 hP hD hS => ?_)
              have hP : va_P (dC, dI) vwCl [(zx, .inr (10, [.ref zn, .ref zk, .ref zr, .ref zl, .ref zc, .ref zs, .ref zw, .ref zt, .ref zm, .int 0])), (zr, .inr (6, [.ref zrt, .int 1, .int 0, .int 0])), (zrt, .inl (cy 0, 80, .inl (upd (fun _ => 0) (0 : Int32).toNatClampNeg r_164)))] H := hP
              have hD : va_D A [(zx, .inr (10, [.ref zn, .ref zk, .ref zr, .ref zl, .ref zc, .ref zs, .ref zw, .ref zt, .ref zm, .int 0])), (zr, .inr (6, [.ref zrt, .int 1, .int 0, .int 0])), (zrt, .inl (cy 0, 80, .inl (upd (fun _ => 0) (0 : Int32).toNatClampNeg r_164)))] := hD
              have hw_170 : r_169.toInt = by8 zja 2 := hw_170
              refine va_iast hx hb hK hP hD hS 2 0 rfl rfl (vp_in_iff.mpr ⟨by decide, by decide⟩) dX10_type_92 (fun H locs hP hD hS => ?_)
              have hP : va_P (dC, dI) vwCl [(zx, .inr (10, [.ref zn, .ref zk, .ref zr, .ref zl, .ref zc, .ref zs, .ref zw, .ref zt, .ref zm, .int 0])), (zr, .inr (6, [.ref zrt, .int 1, .int 0, .int 0])), (zrt, .inl (cy 0, 80, .inl (upd (upd (fun _ => 0) (0 : Int32).toNatClampNeg r_164) (1 : Int32).toNatClampNeg r_169)))] H := hP
              have hD : va_D A [(zx, .inr (10, [.ref zn, .ref zk, .ref zr, .ref zl, .ref zc, .ref zs, .ref zw, .ref zt, .ref zm, .int 0])), (zr, .inr (6, [.ref zrt, .int 1, .int 0, .int 0])), (zrt, .inl (cy 0, 80, .inl (upd (upd (fun _ => 0) (0 : Int32).toNatClampNeg r_164) (1 : Int32).toNatClampNeg r_169)))] := hD
              refine lv_aload_n hx hb dX10_type_93 rfl (lv_at hl 1 rfl) ?_
              refine va_get (D := (dC, dI)) (ci := 10) (v := .ref zr) (C := RX10) (T := TX10) (N := 10) hx hb hts (by decide +kernel) hown hK hP 0 rfl rfl 2 (by decide) (hts (.fieldLink RX10 22 "DripStone" "reader" "LDripStone$Reader;") (by decide +kernel)) (fun _ h9 => h9) rfl dX10_type_94 ?_
              refine lv_dup hx hb dX10_type_97 rfl ?_
              refine va_get (D := (dC, dI)) (ci := 6) (v := .int 1) (C := RX6) (T := TX6) (N := 4) hx hb hts (by decide +kernel) hown hK hP 1 rfl rfl 1 (by decide) (hts (.fieldLink RX10 116 "DripStone$Reader" "typed" "I") (by decide +kernel)) (fun _ h9 => h9) rfl dX10_type_98 ?_
              refine lv_iconst (v := 1) hx hb dX10_type_101 (by decide) ?_
              refine lv_iadd hx hb dX10_type_102 ?_
              refine lv_topi (fun v_171 ev_171 => ?_)
              obtain rfl : v_171 = (2 : Int32) := ev_171.trans (by decide)
              refine va_put (D := (dC, dI)) (ci := 6) (v := .int 2) (ty := .int) (C := RX6) (T := TX6) (N := 4) hx hb hts (by decide +kernel) tyX6 tyX6_ok nmX6 hown hK hP hD hS 1 rfl rfl 1 (by decide) (hts (.fieldLink RX10 116 "DripStone$Reader" "typed" "I") (by decide +kernel)) (fun _ h9 => h9) rfl (by decide +kernel) rfl rfl (Nat.le_of_ble_eq_true rfl) dX10_type_103 (fun H locs hP hD hS => ?_)
              have hP : va_P (dC, dI) vwCl [(zx, .inr (10, [.ref zn, .ref zk, .ref zr, .ref zl, .ref zc, .ref zs, .ref zw, .ref zt, .ref zm, .int 0])), (zr, .inr (6, [.ref zrt, .int 2, .int 0, .int 0])), (zrt, .inl (cy 0, 80, .inl (upd (upd (fun _ => 0) (0 : Int32).toNatClampNeg r_164) (1 : Int32).toNatClampNeg r_169)))] H := hP
              have hD : va_D A [(zx, .inr (10, [.ref zn, .ref zk, .ref zr, .ref zl, .ref zc, .ref zs, .ref zw, .ref zt, .ref zm, .int 0])), (zr, .inr (6, [.ref zrt, .int 2, .int 0, .int 0])), (zrt, .inl (cy 0, 80, .inl (upd (upd (fun _ => 0) (0 : Int32).toNatClampNeg r_164) (1 : Int32).toNatClampNeg r_169)))] := hD
              refine lv_iinc (v := 1) (lv' := [(4, .int 1), (0, .ref zx), (1, .long zja), (3, .int 4)]) hx hb dX10_type_106 hl (k := 0) rfl (by decide) (by decide) rfl (fun ls hl => ?_)
              refine lv_goto (tgt := 67) hx hb dX10_type_109 (by decide) ?_
              refine lv_iload hx hb dX10_type_67 (lv_at hl 0 rfl) ?_
              refine lv_if_lt (tgt := 112) hx hb dX10_type_69 (by decide) (fun c_172 => absurd c_172 (by decide)) (fun c_172 => ?_)
              refine lv_aload_n hx hb dX10_type_72 rfl (lv_at hl 1 rfl) ?_
              refine va_get (D := (dC, dI)) (ci := 10) (v := .ref zr) (C := RX10) (T := TX10) (N := 10) hx hb hts (by decide +kernel) hown hK hP 0 rfl rfl 2 (by decide) (hts (.fieldLink RX10 22 "DripStone" "reader" "LDripStone$Reader;") (by decide +kernel)) (fun _ h9 => h9) rfl dX10_type_73 ?_
              refine va_get (D := (dC, dI)) (ci := 6) (v := .ref zrt) (C := RX6) (T := TX6) (N := 4) hx hb hts (by decide +kernel) hown hK hP 1 rfl rfl 0 (by decide) (hts (.fieldLink RX10 119 "DripStone$Reader" "tape" "[I") (by decide +kernel)) (fun _ h9 => h9) rfl dX10_type_76 ?_
              refine lv_aload_n hx hb dX10_type_79 rfl (lv_at hl 1 rfl) ?_
              refine va_get (D := (dC, dI)) (ci := 10) (v := .ref zr) (C := RX10) (T := TX10) (N := 10) hx hb hts (by decide +kernel) hown hK hP 0 rfl rfl 2 (by decide) (hts (.fieldLink RX10 22 "DripStone" "reader" "LDripStone$Reader;") (by decide +kernel)) (fun _ h9 => h9) rfl dX10_type_80 ?_
              refine va_get (D := (dC, dI)) (ci := 6) (v := .int 2) (C := RX6) (T := TX6) (N := 4) hx hb hts (by decide +kernel) hown hK hP 1 rfl rfl 1 (by decide) (hts (.fieldLink RX10 116 "DripStone$Reader" "typed" "I") (by decide +kernel)) (fun _ h9 => h9) rfl dX10_type_83 ?_
              refine lv_lload_n hx hb dX10_type_86 rfl (lv_at hl 2 rfl) ?_
              refine lv_iload hx hb dX10_type_87 (lv_at hl 0 rfl) ?_
              refine cj_i (wc := []) (wr := [(zx, .inr (10, [.ref zn, .ref zk, .ref zr, .ref zl, .ref zc, .ref zs, .ref zw, .ref zt, .ref zm, .int 0])), (zr, .inr (6, [.ref zrt, .int 2, .int 0, .int 0])), (zrt, .inl (cy 0, 80, .inl (upd (upd (fun _ => 0) (0 : Int32).toNatClampNeg r_164) (1 : Int32).toNatClampNeg r_169)))]) (w1 := fun (_ : Unit) => []) (va_runS (As := [.long zja, .int 1]) (rest := [.int 2, .ref zrt]) ⟨hx, hb, hml, hown, hts⟩ (c_byteOf_1 l dC dI cy H.size zja) (va_cwS 2 hts gX10_type_X10_byteOf rfl rfl rfl (by decide +kernel) ⟨(Nat.le_of_ble_eq_true rfl), (Nat.le_of_ble_eq_true rfl)⟩) (PRE.s (hP.sub [] rfl) hK (hD.sub [] (by decide) rfl) hN) rfl rfl hl.1 rfl (lv_room (Nat.le_of_ble_eq_true rfl)) dX10_type_89 ⟨(Nat.le_of_ble_eq_true rfl), (Nat.le_of_ble_eq_true rfl)⟩) hP hD hS hA [] [0, 1, 2] rfl rfl rfl (by decide) (fun r_174 u_173 H locs hw_175 hP hD hS => ?_)
              have hP : va_P (dC, dI) vwCl [(zx, .inr (10, [.ref zn, .ref zk, .ref zr, .ref zl, .ref zc, .ref zs, .ref zw, .ref zt, .ref zm, .int 0])), (zr, .inr (6, [.ref zrt, .int 2, .int 0, .int 0])), (zrt, .inl (cy 0, 80, .inl (upd (upd (fun _ => 0) (0 : Int32).toNatClampNeg r_164) (1 : Int32).toNatClampNeg r_169)))] H := hP
              have hD : va_D A [(zx, .inr (10, [.ref zn, .ref zk, .ref zr, .ref zl, .ref zc, .ref zs, .ref zw, .ref zt, .ref zm, .int 0])), (zr, .inr (6, [.ref zrt, .int 2, .int 0, .int 0])), (zrt, .inl (cy 0, 80, .inl (upd (upd (fun _ => 0) (0 : Int32).toNatClampNeg r_164) (1 : Int32).toNatClampNeg r_169)))] := hD
              have hw_175 : r_174.toInt = by8 zja 1 := hw_175
              refine va_iast hx hb hK hP hD hS 2 0 rfl rfl (vp_in_iff.mpr ⟨by decide, by decide⟩) dX10_type_92 (fun H locs hP hD hS => ?_)
              have hP : va_P (dC, dI) vwCl [(zx, .inr (10, [.ref zn, .ref zk, .ref zr, .ref zl, .ref zc, .ref zs, .ref zw, .ref zt, .ref zm, .int 0])), (zr, .inr (6, [.ref zrt, .int 2, .int 0, .int 0])), (zrt, .inl (cy 0, 80, .inl (upd (upd (upd (fun _ => 0) (0 : Int32).toNatClampNeg r_164) (1 : Int32).toNatClampNeg r_169) (2 : Int32).toNatClampNeg r_174)))] H := hP
              have hD : va_D A [(zx, .inr (10, [.ref zn, .ref zk, .ref zr, .ref zl, .ref zc, .ref zs, .ref zw, .ref zt, .ref zm, .int 0])), (zr, .inr (6, [.ref zrt, .int 2, .int 0, .int 0])), (zrt, .inl (cy 0, 80, .inl (upd (upd (upd (fun _ => 0) (0 : Int32).toNatClampNeg r_164) (1 : Int32).toNatClampNeg r_169) (2 : Int32).toNatClampNeg r_174)))] := hD
              refine lv_aload_n hx hb dX10_type_93 rfl (lv_at hl 1 rfl) ?_
              refine va_get (D := (dC, dI)) (ci := 10) (v := .ref zr) (C := RX10) (T := TX10) (N := 10) hx hb hts (by decide +kernel) hown hK hP 0 rfl rfl 2 (by decide) (hts (.fieldLink RX10 22 "DripStone" "reader" "LDripStone$Reader;") (by decide +kernel)) (fun _ h9 => h9) rfl dX10_type_94 ?_
              refine lv_dup hx hb dX10_type_97 rfl ?_
              refine va_get (D := (dC, dI)) (ci := 6) (v := .int 2) (C := RX6) (T := TX6) (N := 4) hx hb hts (by decide +kernel) hown hK hP 1 rfl rfl 1 (by decide) (hts (.fieldLink RX10 116 "DripStone$Reader" "typed" "I") (by decide +kernel)) (fun _ h9 => h9) rfl dX10_type_98 ?_
              refine lv_iconst (v := 1) hx hb dX10_type_101 (by decide) ?_
              refine lv_iadd hx hb dX10_type_102 ?_
              refine lv_topi (fun v_176 ev_176 => ?_)
              obtain rfl : v_176 = (3 : Int32) := ev_176.trans (by decide)
              refine va_put (D := (dC, dI)) (ci := 6) (v := .int 3) (ty := .int) (C := RX6) (T := TX6) (N := 4) hx hb hts (by decide +kernel) tyX6 tyX6_ok nmX6 hown hK hP hD hS 1 rfl rfl 1 (by decide) (hts (.fieldLink RX10 116 "DripStone$Reader" "typed" "I") (by decide +kernel)) (fun _ h9 => h9) rfl (by decide +kernel) rfl rfl (Nat.le_of_ble_eq_true rfl) dX10_type_103 (fun H locs hP hD hS => ?_)
              have hP : va_P (dC, dI) vwCl [(zx, .inr (10, [.ref zn, .ref zk, .ref zr, .ref zl, .ref zc, .ref zs, .ref zw, .ref zt, .ref zm, .int 0])), (zr, .inr (6, [.ref zrt, .int 3, .int 0, .int 0])), (zrt, .inl (cy 0, 80, .inl (upd (upd (upd (fun _ => 0) (0 : Int32).toNatClampNeg r_164) (1 : Int32).toNatClampNeg r_169) (2 : Int32).toNatClampNeg r_174)))] H := hP
              have hD : va_D A [(zx, .inr (10, [.ref zn, .ref zk, .ref zr, .ref zl, .ref zc, .ref zs, .ref zw, .ref zt, .ref zm, .int 0])), (zr, .inr (6, [.ref zrt, .int 3, .int 0, .int 0])), (zrt, .inl (cy 0, 80, .inl (upd (upd (upd (fun _ => 0) (0 : Int32).toNatClampNeg r_164) (1 : Int32).toNatClampNeg r_169) (2 : Int32).toNatClampNeg r_174)))] := hD
              refine lv_iinc (v := 0) (lv' := [(4, .int 0), (0, .ref zx), (1, .long zja), (3, .int 4)]) hx hb dX10_type_106 hl (k := 0) rfl (by decide) (by decide) rfl (fun ls hl => ?_)
              refine lv_goto (tgt := 67) hx hb dX10_type_109 (by decide) ?_
              refine lv_iload hx hb dX10_type_67 (lv_at hl 0 rfl) ?_
              refine lv_if_lt (tgt := 112) hx hb dX10_type_69 (by decide) (fun c_177 => absurd c_177 (by decide)) (fun c_177 => ?_)
              refine lv_aload_n hx hb dX10_type_72 rfl (lv_at hl 1 rfl) ?_
              refine va_get (D := (dC, dI)) (ci := 10) (v := .ref zr) (C := RX10) (T := TX10) (N := 10) hx hb hts (by decide +kernel) hown hK hP 0 rfl rfl 2 (by decide) (hts (.fieldLink RX10 22 "DripStone" "reader" "LDripStone$Reader;") (by decide +kernel)) (fun _ h9 => h9) rfl dX10_type_73 ?_
              refine va_get (D := (dC, dI)) (ci := 6) (v := .ref zrt) (C := RX6) (T := TX6) (N := 4) hx hb hts (by decide +kernel) hown hK hP 1 rfl rfl 0 (by decide) (hts (.fieldLink RX10 119 "DripStone$Reader" "tape" "[I") (by decide +kernel)) (fun _ h9 => h9) rfl dX10_type_76 ?_
              refine lv_aload_n hx hb dX10_type_79 rfl (lv_at hl 1 rfl) ?_
              refine va_get (D := (dC, dI)) (ci := 10) (v := .ref zr) (C := RX10) (T := TX10) (N := 10) hx hb hts (by decide +kernel) hown hK hP 0 rfl rfl 2 (by decide) (hts (.fieldLink RX10 22 "DripStone" "reader" "LDripStone$Reader;") (by decide +kernel)) (fun _ h9 => h9) rfl dX10_type_80 ?_
              refine va_get (D := (dC, dI)) (ci := 6) (v := .int 3) (C := RX6) (T := TX6) (N := 4) hx hb hts (by decide +kernel) hown hK hP 1 rfl rfl 1 (by decide) (hts (.fieldLink RX10 116 "DripStone$Reader" "typed" "I") (by decide +kernel)) (fun _ h9 => h9) rfl dX10_type_83 ?_
              refine lv_lload_n hx hb dX10_type_86 rfl (lv_at hl 2 rfl) ?_
              refine lv_iload hx hb dX10_type_87 (lv_at hl 0 rfl) ?_
              refine cj_i (wc := []) (wr := [(zx, .inr (10, [.ref zn, .ref zk, .ref zr, .ref zl, .ref zc, .ref zs, .ref zw, .ref zt, .ref zm, .int 0])), (zr, .inr (6, [.ref zrt, .int 3, .int 0, .int 0])), (zrt, .inl (cy 0, 80, .inl (upd (upd (upd (fun _ => 0) (0 : Int32).toNatClampNeg r_164) (1 : Int32).toNatClampNeg r_169) (2 : Int32).toNatClampNeg r_174)))]) (w1 := fun (_ : Unit) => []) (va_runS (As := [.long zja, .int 0]) (rest := [.int 3, .ref zrt]) ⟨hx, hb, hml, hown, hts⟩ (c_byteOf_0 l dC dI cy H.size zja) (va_cwS 2 hts gX10_type_X10_byteOf rfl rfl rfl (by decide +kernel) ⟨(Nat.le_of_ble_eq_true rfl), (Nat.le_of_ble_eq_true rfl)⟩) (PRE.s (hP.sub [] rfl) hK (hD.sub [] (by decide) rfl) hN) rfl rfl hl.1 rfl (lv_room (Nat.le_of_ble_eq_true rfl)) dX10_type_89 ⟨(Nat.le_of_ble_eq_true rfl), (Nat.le_of_ble_eq_true rfl)⟩) hP hD hS hA [] [0, 1, 2] rfl rfl rfl (by decide) (fun r_179 u_178 H locs hw_180 hP hD hS => ?_)
              have hP : va_P (dC, dI) vwCl [(zx, .inr (10, [.ref zn, .ref zk, .ref zr, .ref zl, .ref zc, .ref zs, .ref zw, .ref zt, .ref zm, .int 0])), (zr, .inr (6, [.ref zrt, .int 3, .int 0, .int 0])), (zrt, .inl (cy 0, 80, .inl (upd (upd (upd (fun _ => 0) (0 : Int32).toNatClampNeg r_164) (1 : Int32).toNatClampNeg r_169) (2 : Int32).toNatClampNeg r_174)))] H := hP
              have hD : va_D A [(zx, .inr (10, [.ref zn, .ref zk, .ref zr, .ref zl, .ref zc, .ref zs, .ref zw, .ref zt, .ref zm, .int 0])), (zr, .inr (6, [.ref zrt, .int 3, .int 0, .int 0])), (zrt, .inl (cy 0, 80, .inl (upd (upd (upd (fun _ => 0) (0 : Int32).toNatClampNeg r_164) (1 : Int32).toNatClampNeg r_169) (2 : Int32).toNatClampNeg r_174)))] := hD
              have hw_180 : r_179.toInt = by8 zja 0 := hw_180
              refine va_iast hx hb hK hP hD hS 2 0 rfl rfl (vp_in_iff.mpr ⟨by decide, by decide⟩) dX10_type_92 (fun H locs hP hD hS => ?_)
              have hP : va_P (dC, dI) vwCl [(zx, .inr (10, [.ref zn, .ref zk, .ref zr, .ref zl, .ref zc, .ref zs, .ref zw, .ref zt, .ref zm, .int 0])), (zr, .inr (6, [.ref zrt, .int 3, .int 0, .int 0])), (zrt, .inl (cy 0, 80, .inl (upd (upd (upd (upd (fun _ => 0) (0 : Int32).toNatClampNeg r_164) (1 : Int32).toNatClampNeg r_169) (2 : Int32).toNatClampNeg r_174) (3 : Int32).toNatClampNeg r_179)))] H := hP
              have hD : va_D A [(zx, .inr (10, [.ref zn, .ref zk, .ref zr, .ref zl, .ref zc, .ref zs, .ref zw, .ref zt, .ref zm, .int 0])), (zr, .inr (6, [.ref zrt, .int 3, .int 0, .int 0])), (zrt, .inl (cy 0, 80, .inl (upd (upd (upd (upd (fun _ => 0) (0 : Int32).toNatClampNeg r_164) (1 : Int32).toNatClampNeg r_169) (2 : Int32).toNatClampNeg r_174) (3 : Int32).toNatClampNeg r_179)))] := hD
              refine lv_aload_n hx hb dX10_type_93 rfl (lv_at hl 1 rfl) ?_
              refine va_get (D := (dC, dI)) (ci := 10) (v := .ref zr) (C := RX10) (T := TX10) (N := 10) hx hb hts (by decide +kernel) hown hK hP 0 rfl rfl 2 (by decide) (hts (.fieldLink RX10 22 "DripStone" "reader" "LDripStone$Reader;") (by decide +kernel)) (fun _ h9 => h9) rfl dX10_type_94 ?_
              refine lv_dup hx hb dX10_type_97 rfl ?_
              refine va_get (D := (dC, dI)) (ci := 6) (v := .int 3) (C := RX6) (T := TX6) (N := 4) hx hb hts (by decide +kernel) hown hK hP 1 rfl rfl 1 (by decide) (hts (.fieldLink RX10 116 "DripStone$Reader" "typed" "I") (by decide +kernel)) (fun _ h9 => h9) rfl dX10_type_98 ?_
              refine lv_iconst (v := 1) hx hb dX10_type_101 (by decide) ?_
              refine lv_iadd hx hb dX10_type_102 ?_
              refine lv_topi (fun v_181 ev_181 => ?_)
              obtain rfl : v_181 = (4 : Int32) := ev_181.trans (by decide)
              refine va_put (D := (dC, dI)) (ci := 6) (v := .int 4) (ty := .int) (C := RX6) (T := TX6) (N := 4) hx hb hts (by decide +kernel) tyX6 tyX6_ok nmX6 hown hK hP hD hS 1 rfl rfl 1 (by decide) (hts (.fieldLink RX10 116 "DripStone$Reader" "typed" "I") (by decide +kernel)) (fun _ h9 => h9) rfl (by decide +kernel) rfl rfl (Nat.le_of_ble_eq_true rfl) dX10_type_103 (fun H locs hP hD hS => ?_)
              have hP : va_P (dC, dI) vwCl [(zx, .inr (10, [.ref zn, .ref zk, .ref zr, .ref zl, .ref zc, .ref zs, .ref zw, .ref zt, .ref zm, .int 0])), (zr, .inr (6, [.ref zrt, .int 4, .int 0, .int 0])), (zrt, .inl (cy 0, 80, .inl (upd (upd (upd (upd (fun _ => 0) (0 : Int32).toNatClampNeg r_164) (1 : Int32).toNatClampNeg r_169) (2 : Int32).toNatClampNeg r_174) (3 : Int32).toNatClampNeg r_179)))] H := hP
              have hD : va_D A [(zx, .inr (10, [.ref zn, .ref zk, .ref zr, .ref zl, .ref zc, .ref zs, .ref zw, .ref zt, .ref zm, .int 0])), (zr, .inr (6, [.ref zrt, .int 4, .int 0, .int 0])), (zrt, .inl (cy 0, 80, .inl (upd (upd (upd (upd (fun _ => 0) (0 : Int32).toNatClampNeg r_164) (1 : Int32).toNatClampNeg r_169) (2 : Int32).toNatClampNeg r_174) (3 : Int32).toNatClampNeg r_179)))] := hD
              refine lv_iinc (v := (-1)) (lv' := [(4, .int (-1)), (0, .ref zx), (1, .long zja), (3, .int 4)]) hx hb dX10_type_106 hl (k := 0) rfl (by decide) (by decide) rfl (fun ls hl => ?_)
              refine lv_goto (tgt := 67) hx hb dX10_type_109 (by decide) ?_
              refine lv_iload hx hb dX10_type_67 (lv_at hl 0 rfl) ?_
              refine lv_if_lt (tgt := 112) hx hb dX10_type_69 (by decide) (fun c_182 => ?_) (fun c_182 => absurd (by decide) c_182)
              refine lv_aload_n hx hb dX10_type_112 rfl (lv_at hl 1 rfl) ?_
              refine va_get (D := (dC, dI)) (ci := 10) (v := .ref zr) (C := RX10) (T := TX10) (N := 10) hx hb hts (by decide +kernel) hown hK hP 0 rfl rfl 2 (by decide) (hts (.fieldLink RX10 22 "DripStone" "reader" "LDripStone$Reader;") (by decide +kernel)) (fun _ h9 => h9) rfl dX10_type_113 ?_
              refine va_get (D := (dC, dI)) (ci := 6) (v := .int 4) (C := RX6) (T := TX6) (N := 4) hx hb hts (by decide +kernel) hown hK hP 1 rfl rfl 1 (by decide) (hts (.fieldLink RX10 116 "DripStone$Reader" "typed" "I") (by decide +kernel)) (fun _ h9 => h9) rfl dX10_type_116 ?_
              have hP9 := hP.sub (ws' := []) [] rfl
              have hD9 := hD.sub (ws' := []) [] (by decide) rfl
              exact W.iret (v := 4) hx hb hr (fun t ht hW => ⟨⟨4, (), rfl, ((an_type_4 _).trans (if_pos ⟨g_127, g_137, g_147, g_157⟩)).symm, ⟨by rw [ht]; exact hP9, va_K.moved hW.alike hK, hD9⟩⟩, hS.F ht⟩) hS.2.2 dX10_type_119
            · have f_156 : ¬ (32 ≤ r_150.toInt ∧ r_150.toInt ≤ 126) := bz_0 hw_154 c_155
              have g_183 : ¬ okb zja 3 := by unfold okb; rw [← hw_151]; exact f_156
              refine lv_iconst (v := (-1)) hx hb dX10_type_37 (by decide) ?_
              have hP9 := hP.sub (ws' := []) [] rfl
              have hD9 := hD.sub (ws' := []) [] (by decide) rfl
              exact W.iret (v := (-1)) hx hb hr (fun t ht hW => ⟨⟨(-1), (), rfl, ((an_type_4 _).trans (if_neg (fun h => g_183 (h.2.2.2)))).symm, ⟨by rw [ht]; exact hP9, va_K.moved hW.alike hK, hD9⟩⟩, hS.F ht⟩) hS.2.2 dX10_type_38
          · have f_146 : ¬ (32 ≤ r_140.toInt ∧ r_140.toInt ≤ 126) := bz_0 hw_144 c_145
            have g_184 : ¬ okb zja 2 := by unfold okb; rw [← hw_141]; exact f_146
            refine lv_iconst (v := (-1)) hx hb dX10_type_37 (by decide) ?_
            have hP9 := hP.sub (ws' := []) [] rfl
            have hD9 := hD.sub (ws' := []) [] (by decide) rfl
            exact W.iret (v := (-1)) hx hb hr (fun t ht hW => ⟨⟨(-1), (), rfl, ((an_type_4 _).trans (if_neg (fun h => g_184 (h.2.2.1)))).symm, ⟨by rw [ht]; exact hP9, va_K.moved hW.alike hK, hD9⟩⟩, hS.F ht⟩) hS.2.2 dX10_type_38
        · have f_136 : ¬ (32 ≤ r_130.toInt ∧ r_130.toInt ≤ 126) := bz_0 hw_134 c_135
          have g_185 : ¬ okb zja 1 := by unfold okb; rw [← hw_131]; exact f_136
          refine lv_iconst (v := (-1)) hx hb dX10_type_37 (by decide) ?_
          have hP9 := hP.sub (ws' := []) [] rfl
          have hD9 := hD.sub (ws' := []) [] (by decide) rfl
          exact W.iret (v := (-1)) hx hb hr (fun t ht hW => ⟨⟨(-1), (), rfl, ((an_type_4 _).trans (if_neg (fun h => g_185 (h.2.1)))).symm, ⟨by rw [ht]; exact hP9, va_K.moved hW.alike hK, hD9⟩⟩, hS.F ht⟩) hS.2.2 dX10_type_38
      · have f_126 : ¬ (32 ≤ r_120.toInt ∧ r_120.toInt ≤ 126) := bz_0 hw_124 c_125
        have g_186 : ¬ okb zja 0 := by unfold okb; rw [← hw_121]; exact f_126
        refine lv_iconst (v := (-1)) hx hb dX10_type_37 (by decide) ?_
        have hP9 := hP.sub (ws' := []) [] rfl
        have hD9 := hD.sub (ws' := []) [] (by decide) rfl
        exact W.iret (v := (-1)) hx hb hr (fun t ht hW => ⟨⟨(-1), (), rfl, ((an_type_4 _).trans (if_neg (fun h => g_186 (h.1)))).symm, ⟨by rw [ht]; exact hP9, va_K.moved hW.alike hK, hD9⟩⟩, hS.F ht⟩) hS.2.2 dX10_type_38
    · have zk_6_5 : (5 : Int32).toInt = 5 := by decide
      refine lv_iconst (v := 0) hx hb dX10_type_12 (by decide) ?_
      refine lv_istore (lv' := [(4, .int 0), (0, .ref zx), (1, .long zja), (3, .int 5)]) hx hb dX10_type_13 hl (by decide) rfl (fun ls hl => ?_)
      refine lv_iload hx hb dX10_type_15 (lv_at hl 0 rfl) ?_
      refine lv_iload_n hx hb dX10_type_17 rfl (lv_at hl 3 rfl) ?_
      refine lv_icmp_ge (tgt := 45) hx hb dX10_type_18 (by decide) (fun c_187 => absurd c_187 (by decide)) (fun c_187 => ?_)
      refine lv_lload_n hx hb dX10_type_21 rfl (lv_at hl 2 rfl) ?_
      refine lv_iload hx hb dX10_type_22 (lv_at hl 0 rfl) ?_
      refine cj_i (wc := []) (wr := [(zx, .inr (10, [.ref zn, .ref zk, .ref zr, .ref zl, .ref zc, .ref zs, .ref zw, .ref zt, .ref zm, .int 0])), (zr, .inr (6, [.ref zrt, .int 0, .int 0, .int 0])), (zrt, .inl (cy 0, 80, .inl (fun _ => 0)))]) (w1 := fun (_ : Unit) => []) (va_runS (As := [.long zja, .int 0]) (rest := []) ⟨hx, hb, hml, hown, hts⟩ (c_byteOf_0 l dC dI cy H.size zja) (va_cwS 2 hts gX10_type_X10_byteOf rfl rfl rfl (by decide +kernel) ⟨(Nat.le_of_ble_eq_true rfl), (Nat.le_of_ble_eq_true rfl)⟩) (PRE.s (hP.sub [] rfl) hK (hD.sub [] (by decide) rfl) hN) rfl rfl hl.1 rfl (lv_room (Nat.le_of_ble_eq_true rfl)) dX10_type_24 ⟨(Nat.le_of_ble_eq_true rfl), (Nat.le_of_ble_eq_true rfl)⟩) hP hD hS hA [] [0, 1, 2] rfl rfl rfl (by decide) (fun r_189 u_188 H locs hw_190 hP hD hS => ?_)
      have hP : va_P (dC, dI) vwCl [(zx, .inr (10, [.ref zn, .ref zk, .ref zr, .ref zl, .ref zc, .ref zs, .ref zw, .ref zt, .ref zm, .int 0])), (zr, .inr (6, [.ref zrt, .int 0, .int 0, .int 0])), (zrt, .inl (cy 0, 80, .inl (fun _ => 0)))] H := hP
      have hD : va_D A [(zx, .inr (10, [.ref zn, .ref zk, .ref zr, .ref zl, .ref zc, .ref zs, .ref zw, .ref zt, .ref zm, .int 0])), (zr, .inr (6, [.ref zrt, .int 0, .int 0, .int 0])), (zrt, .inl (cy 0, 80, .inl (fun _ => 0)))] := hD
      have hw_190 : r_189.toInt = by8 zja 0 := hw_190
      refine lv_bipush (v := 32) hx hb dX10_type_27 (by decide) ?_
      refine lv_bipush (v := 126) hx hb dX10_type_29 (by decide) ?_
      refine cj_i (wc := []) (wr := [(zx, .inr (10, [.ref zn, .ref zk, .ref zr, .ref zl, .ref zc, .ref zs, .ref zw, .ref zt, .ref zm, .int 0])), (zr, .inr (6, [.ref zrt, .int 0, .int 0, .int 0])), (zrt, .inl (cy 0, 80, .inl (fun _ => 0)))]) (w1 := fun (_ : Unit) => []) (va_runS (As := [.int r_189, .int 32, .int 126]) (rest := []) ⟨hx, hb, hml, hown, hts⟩ (c_X10_isWithin l dC dI cy H.size r_189 32 126 32 126 (by first | rfl | decide | omega | exact Int32.toInt_toInt64 _) (by first | rfl | decide | omega | exact Int32.toInt_toInt64 _)) (va_cwS 3 hts gX10_type_X10_isWithin rfl rfl rfl (by decide +kernel) ⟨(Nat.le_of_ble_eq_true rfl), (Nat.le_of_ble_eq_true rfl)⟩) (PRE.s (hP.sub [] rfl) hK (hD.sub [] (by decide) rfl) hN) rfl rfl hl.1 rfl (lv_room (Nat.le_of_ble_eq_true rfl)) dX10_type_31 ⟨(Nat.le_of_ble_eq_true rfl), (Nat.le_of_ble_eq_true rfl)⟩) hP hD hS hA [] [0, 1, 2] rfl rfl rfl (by decide) (fun r_192 u_191 H locs hw_193 hP hD hS => ?_)
      have hP : va_P (dC, dI) vwCl [(zx, .inr (10, [.ref zn, .ref zk, .ref zr, .ref zl, .ref zc, .ref zs, .ref zw, .ref zt, .ref zm, .int 0])), (zr, .inr (6, [.ref zrt, .int 0, .int 0, .int 0])), (zrt, .inl (cy 0, 80, .inl (fun _ => 0)))] H := hP
      have hD : va_D A [(zx, .inr (10, [.ref zn, .ref zk, .ref zr, .ref zl, .ref zc, .ref zs, .ref zw, .ref zt, .ref zm, .int 0])), (zr, .inr (6, [.ref zrt, .int 0, .int 0, .int 0])), (zrt, .inl (cy 0, 80, .inl (fun _ => 0)))] := hD
      have hw_193 : r_192 = if 32 ≤ r_189.toInt ∧ r_189.toInt ≤ 126 then 1 else 0 := hw_193
      refine lv_if_ne (tgt := 39) hx hb dX10_type_34 (by decide) (fun c_194 => ?_) (fun c_194 => ?_)
      · have f_195 : 32 ≤ r_189.toInt ∧ r_189.toInt ≤ 126 := bz_1 hw_193 c_194
        have g_196 : okb zja 0 := by unfold okb; rw [← hw_190]; exact f_195
        refine lv_iinc (v := 1) (lv' := [(4, .int 1), (0, .ref zx), (1, .long zja), (3, .int 5)]) hx hb dX10_type_39 hl (k := 0) rfl (by decide) (by decide) rfl (fun ls hl => ?_)
        refine lv_goto (tgt := 15) hx hb dX10_type_42 (by decide) ?_
        refine lv_iload hx hb dX10_type_15 (lv_at hl 0 rfl) ?_
        refine lv_iload_n hx hb dX10_type_17 rfl (lv_at hl 3 rfl) ?_
        refine lv_icmp_ge (tgt := 45) hx hb dX10_type_18 (by decide) (fun c_197 => absurd c_197 (by decide)) (fun c_197 => ?_)
        refine lv_lload_n hx hb dX10_type_21 rfl (lv_at hl 2 rfl) ?_
        refine lv_iload hx hb dX10_type_22 (lv_at hl 0 rfl) ?_
        refine cj_i (wc := []) (wr := [(zx, .inr (10, [.ref zn, .ref zk, .ref zr, .ref zl, .ref zc, .ref zs, .ref zw, .ref zt, .ref zm, .int 0])), (zr, .inr (6, [.ref zrt, .int 0, .int 0, .int 0])), (zrt, .inl (cy 0, 80, .inl (fun _ => 0)))]) (w1 := fun (_ : Unit) => []) (va_runS (As := [.long zja, .int 1]) (rest := []) ⟨hx, hb, hml, hown, hts⟩ (c_byteOf_1 l dC dI cy H.size zja) (va_cwS 2 hts gX10_type_X10_byteOf rfl rfl rfl (by decide +kernel) ⟨(Nat.le_of_ble_eq_true rfl), (Nat.le_of_ble_eq_true rfl)⟩) (PRE.s (hP.sub [] rfl) hK (hD.sub [] (by decide) rfl) hN) rfl rfl hl.1 rfl (lv_room (Nat.le_of_ble_eq_true rfl)) dX10_type_24 ⟨(Nat.le_of_ble_eq_true rfl), (Nat.le_of_ble_eq_true rfl)⟩) hP hD hS hA [] [0, 1, 2] rfl rfl rfl (by decide) (fun r_199 u_198 H locs hw_200 hP hD hS => ?_)
        have hP : va_P (dC, dI) vwCl [(zx, .inr (10, [.ref zn, .ref zk, .ref zr, .ref zl, .ref zc, .ref zs, .ref zw, .ref zt, .ref zm, .int 0])), (zr, .inr (6, [.ref zrt, .int 0, .int 0, .int 0])), (zrt, .inl (cy 0, 80, .inl (fun _ => 0)))] H := hP
        have hD : va_D A [(zx, .inr (10, [.ref zn, .ref zk, .ref zr, .ref zl, .ref zc, .ref zs, .ref zw, .ref zt, .ref zm, .int 0])), (zr, .inr (6, [.ref zrt, .int 0, .int 0, .int 0])), (zrt, .inl (cy 0, 80, .inl (fun _ => 0)))] := hD
        have hw_200 : r_199.toInt = by8 zja 1 := hw_200
        refine lv_bipush (v := 32) hx hb dX10_type_27 (by decide) ?_
        refine lv_bipush (v := 126) hx hb dX10_type_29 (by decide) ?_
        refine cj_i (wc := []) (wr := [(zx, .inr (10, [.ref zn, .ref zk, .ref zr, .ref zl, .ref zc, .ref zs, .ref zw, .ref zt, .ref zm, .int 0])), (zr, .inr (6, [.ref zrt, .int 0, .int 0, .int 0])), (zrt, .inl (cy 0, 80, .inl (fun _ => 0)))]) (w1 := fun (_ : Unit) => []) (va_runS (As := [.int r_199, .int 32, .int 126]) (rest := []) ⟨hx, hb, hml, hown, hts⟩ (c_X10_isWithin l dC dI cy H.size r_199 32 126 32 126 (by first | rfl | decide | omega | exact Int32.toInt_toInt64 _) (by first | rfl | decide | omega | exact Int32.toInt_toInt64 _)) (va_cwS 3 hts gX10_type_X10_isWithin rfl rfl rfl (by decide +kernel) ⟨(Nat.le_of_ble_eq_true rfl), (Nat.le_of_ble_eq_true rfl)⟩) (PRE.s (hP.sub [] rfl) hK (hD.sub [] (by decide) rfl) hN) rfl rfl hl.1 rfl (lv_room (Nat.le_of_ble_eq_true rfl)) dX10_type_31 ⟨(Nat.le_of_ble_eq_true rfl), (Nat.le_of_ble_eq_true rfl)⟩) hP hD hS hA [] [0, 1, 2] rfl rfl rfl (by decide) (fun r_202 u_201 H locs hw_203 hP hD hS => ?_)
        have hP : va_P (dC, dI) vwCl [(zx, .inr (10, [.ref zn, .ref zk, .ref zr, .ref zl, .ref zc, .ref zs, .ref zw, .ref zt, .ref zm, .int 0])), (zr, .inr (6, [.ref zrt, .int 0, .int 0, .int 0])), (zrt, .inl (cy 0, 80, .inl (fun _ => 0)))] H := hP
        have hD : va_D A [(zx, .inr (10, [.ref zn, .ref zk, .ref zr, .ref zl, .ref zc, .ref zs, .ref zw, .ref zt, .ref zm, .int 0])), (zr, .inr (6, [.ref zrt, .int 0, .int 0, .int 0])), (zrt, .inl (cy 0, 80, .inl (fun _ => 0)))] := hD
        have hw_203 : r_202 = if 32 ≤ r_199.toInt ∧ r_199.toInt ≤ 126 then 1 else 0 := hw_203
        refine lv_if_ne (tgt := 39) hx hb dX10_type_34 (by decide) (fun c_204 => ?_) (fun c_204 => ?_)
        · have f_205 : 32 ≤ r_199.toInt ∧ r_199.toInt ≤ 126 := bz_1 hw_203 c_204
          have g_206 : okb zja 1 := by unfold okb; rw [← hw_200]; exact f_205
          refine lv_iinc (v := 2) (lv' := [(4, .int 2), (0, .ref zx), (1, .long zja), (3, .int 5)]) hx hb dX10_type_39 hl (k := 0) rfl (by decide) (by decide) rfl (fun ls hl => ?_)
          refine lv_goto (tgt := 15) hx hb dX10_type_42 (by decide) ?_
          refine lv_iload hx hb dX10_type_15 (lv_at hl 0 rfl) ?_
          refine lv_iload_n hx hb dX10_type_17 rfl (lv_at hl 3 rfl) ?_
          refine lv_icmp_ge (tgt := 45) hx hb dX10_type_18 (by decide) (fun c_207 => absurd c_207 (by decide)) (fun c_207 => ?_)
          refine lv_lload_n hx hb dX10_type_21 rfl (lv_at hl 2 rfl) ?_
          refine lv_iload hx hb dX10_type_22 (lv_at hl 0 rfl) ?_
          refine cj_i (wc := []) (wr := [(zx, .inr (10, [.ref zn, .ref zk, .ref zr, .ref zl, .ref zc, .ref zs, .ref zw, .ref zt, .ref zm, .int 0])), (zr, .inr (6, [.ref zrt, .int 0, .int 0, .int 0])), (zrt, .inl (cy 0, 80, .inl (fun _ => 0)))]) (w1 := fun (_ : Unit) => []) (va_runS (As := [.long zja, .int 2]) (rest := []) ⟨hx, hb, hml, hown, hts⟩ (c_byteOf_2 l dC dI cy H.size zja) (va_cwS 2 hts gX10_type_X10_byteOf rfl rfl rfl (by decide +kernel) ⟨(Nat.le_of_ble_eq_true rfl), (Nat.le_of_ble_eq_true rfl)⟩) (PRE.s (hP.sub [] rfl) hK (hD.sub [] (by decide) rfl) hN) rfl rfl hl.1 rfl (lv_room (Nat.le_of_ble_eq_true rfl)) dX10_type_24 ⟨(Nat.le_of_ble_eq_true rfl), (Nat.le_of_ble_eq_true rfl)⟩) hP hD hS hA [] [0, 1, 2] rfl rfl rfl (by decide) (fun r_209 u_208 H locs hw_210 hP hD hS => ?_)
          have hP : va_P (dC, dI) vwCl [(zx, .inr (10, [.ref zn, .ref zk, .ref zr, .ref zl, .ref zc, .ref zs, .ref zw, .ref zt, .ref zm, .int 0])), (zr, .inr (6, [.ref zrt, .int 0, .int 0, .int 0])), (zrt, .inl (cy 0, 80, .inl (fun _ => 0)))] H := hP
          have hD : va_D A [(zx, .inr (10, [.ref zn, .ref zk, .ref zr, .ref zl, .ref zc, .ref zs, .ref zw, .ref zt, .ref zm, .int 0])), (zr, .inr (6, [.ref zrt, .int 0, .int 0, .int 0])), (zrt, .inl (cy 0, 80, .inl (fun _ => 0)))] := hD
          have hw_210 : r_209.toInt = by8 zja 2 := hw_210
          refine lv_bipush (v := 32) hx hb dX10_type_27 (by decide) ?_
          refine lv_bipush (v := 126) hx hb dX10_type_29 (by decide) ?_
          refine cj_i (wc := []) (wr := [(zx, .inr (10, [.ref zn, .ref zk, .ref zr, .ref zl, .ref zc, .ref zs, .ref zw, .ref zt, .ref zm, .int 0])), (zr, .inr (6, [.ref zrt, .int 0, .int 0, .int 0])), (zrt, .inl (cy 0, 80, .inl (fun _ => 0)))]) (w1 := fun (_ : Unit) => []) (va_runS (As := [.int r_209, .int 32, .int 126]) (rest := []) ⟨hx, hb, hml, hown, hts⟩ (c_X10_isWithin l dC dI cy H.size r_209 32 126 32 126 (by first | rfl | decide | omega | exact Int32.toInt_toInt64 _) (by first | rfl | decide | omega | exact Int32.toInt_toInt64 _)) (va_cwS 3 hts gX10_type_X10_isWithin rfl rfl rfl (by decide +kernel) ⟨(Nat.le_of_ble_eq_true rfl), (Nat.le_of_ble_eq_true rfl)⟩) (PRE.s (hP.sub [] rfl) hK (hD.sub [] (by decide) rfl) hN) rfl rfl hl.1 rfl (lv_room (Nat.le_of_ble_eq_true rfl)) dX10_type_31 ⟨(Nat.le_of_ble_eq_true rfl), (Nat.le_of_ble_eq_true rfl)⟩) hP hD hS hA [] [0, 1, 2] rfl rfl rfl (by decide) (fun r_212 u_211 H locs hw_213 hP hD hS => ?_)
          have hP : va_P (dC, dI) vwCl [(zx, .inr (10, [.ref zn, .ref zk, .ref zr, .ref zl, .ref zc, .ref zs, .ref zw, .ref zt, .ref zm, .int 0])), (zr, .inr (6, [.ref zrt, .int 0, .int 0, .int 0])), (zrt, .inl (cy 0, 80, .inl (fun _ => 0)))] H := hP
          have hD : va_D A [(zx, .inr (10, [.ref zn, .ref zk, .ref zr, .ref zl, .ref zc, .ref zs, .ref zw, .ref zt, .ref zm, .int 0])), (zr, .inr (6, [.ref zrt, .int 0, .int 0, .int 0])), (zrt, .inl (cy 0, 80, .inl (fun _ => 0)))] := hD
          have hw_213 : r_212 = if 32 ≤ r_209.toInt ∧ r_209.toInt ≤ 126 then 1 else 0 := hw_213
          refine lv_if_ne (tgt := 39) hx hb dX10_type_34 (by decide) (fun c_214 => ?_) (fun c_214 => ?_)
          · have f_215 : 32 ≤ r_209.toInt ∧ r_209.toInt ≤ 126 := bz_1 hw_213 c_214
            have g_216 : okb zja 2 := by unfold okb; rw [← hw_210]; exact f_215
            refine lv_iinc (v := 3) (lv' := [(4, .int 3), (0, .ref zx), (1, .long zja), (3, .int 5)]) hx hb dX10_type_39 hl (k := 0) rfl (by decide) (by decide) rfl (fun ls hl => ?_)
            refine lv_goto (tgt := 15) hx hb dX10_type_42 (by decide) ?_
            refine lv_iload hx hb dX10_type_15 (lv_at hl 0 rfl) ?_
            refine lv_iload_n hx hb dX10_type_17 rfl (lv_at hl 3 rfl) ?_
            refine lv_icmp_ge (tgt := 45) hx hb dX10_type_18 (by decide) (fun c_217 => absurd c_217 (by decide)) (fun c_217 => ?_)
            refine lv_lload_n hx hb dX10_type_21 rfl (lv_at hl 2 rfl) ?_
            refine lv_iload hx hb dX10_type_22 (lv_at hl 0 rfl) ?_
            refine cj_i (wc := []) (wr := [(zx, .inr (10, [.ref zn, .ref zk, .ref zr, .ref zl, .ref zc, .ref zs, .ref zw, .ref zt, .ref zm, .int 0])), (zr, .inr (6, [.ref zrt, .int 0, .int 0, .int 0])), (zrt, .inl (cy 0, 80, .inl (fun _ => 0)))]) (w1 := fun (_ : Unit) => []) (va_runS (As := [.long zja, .int 3]) (rest := []) ⟨hx, hb, hml, hown, hts⟩ (c_byteOf_3 l dC dI cy H.size zja) (va_cwS 2 hts gX10_type_X10_byteOf rfl rfl rfl (by decide +kernel) ⟨(Nat.le_of_ble_eq_true rfl), (Nat.le_of_ble_eq_true rfl)⟩) (PRE.s (hP.sub [] rfl) hK (hD.sub [] (by decide) rfl) hN) rfl rfl hl.1 rfl (lv_room (Nat.le_of_ble_eq_true rfl)) dX10_type_24 ⟨(Nat.le_of_ble_eq_true rfl), (Nat.le_of_ble_eq_true rfl)⟩) hP hD hS hA [] [0, 1, 2] rfl rfl rfl (by decide) (fun r_219 u_218 H locs hw_220 hP hD hS => ?_)
            have hP : va_P (dC, dI) vwCl [(zx, .inr (10, [.ref zn, .ref zk, .ref zr, .ref zl, .ref zc, .ref zs, .ref zw, .ref zt, .ref zm, .int 0])), (zr, .inr (6, [.ref zrt, .int 0, .int 0, .int 0])), (zrt, .inl (cy 0, 80, .inl (fun _ => 0)))] H := hP
            have hD : va_D A [(zx, .inr (10, [.ref zn, .ref zk, .ref zr, .ref zl, .ref zc, .ref zs, .ref zw, .ref zt, .ref zm, .int 0])), (zr, .inr (6, [.ref zrt, .int 0, .int 0, .int 0])), (zrt, .inl (cy 0, 80, .inl (fun _ => 0)))] := hD
            have hw_220 : r_219.toInt = by8 zja 3 := hw_220
            refine lv_bipush (v := 32) hx hb dX10_type_27 (by decide) ?_
            refine lv_bipush (v := 126) hx hb dX10_type_29 (by decide) ?_
            refine cj_i (wc := []) (wr := [(zx, .inr (10, [.ref zn, .ref zk, .ref zr, .ref zl, .ref zc, .ref zs, .ref zw, .ref zt, .ref zm, .int 0])), (zr, .inr (6, [.ref zrt, .int 0, .int 0, .int 0])), (zrt, .inl (cy 0, 80, .inl (fun _ => 0)))]) (w1 := fun (_ : Unit) => []) (va_runS (As := [.int r_219, .int 32, .int 126]) (rest := []) ⟨hx, hb, hml, hown, hts⟩ (c_X10_isWithin l dC dI cy H.size r_219 32 126 32 126 (by first | rfl | decide | omega | exact Int32.toInt_toInt64 _) (by first | rfl | decide | omega | exact Int32.toInt_toInt64 _)) (va_cwS 3 hts gX10_type_X10_isWithin rfl rfl rfl (by decide +kernel) ⟨(Nat.le_of_ble_eq_true rfl), (Nat.le_of_ble_eq_true rfl)⟩) (PRE.s (hP.sub [] rfl) hK (hD.sub [] (by decide) rfl) hN) rfl rfl hl.1 rfl (lv_room (Nat.le_of_ble_eq_true rfl)) dX10_type_31 ⟨(Nat.le_of_ble_eq_true rfl), (Nat.le_of_ble_eq_true rfl)⟩) hP hD hS hA [] [0, 1, 2] rfl rfl rfl (by decide) (fun r_222 u_221 H locs hw_223 hP hD hS => ?_)
            have hP : va_P (dC, dI) vwCl [(zx, .inr (10, [.ref zn, .ref zk, .ref zr, .ref zl, .ref zc, .ref zs, .ref zw, .ref zt, .ref zm, .int 0])), (zr, .inr (6, [.ref zrt, .int 0, .int 0, .int 0])), (zrt, .inl (cy 0, 80, .inl (fun _ => 0)))] H := hP
            have hD : va_D A [(zx, .inr (10, [.ref zn, .ref zk, .ref zr, .ref zl, .ref zc, .ref zs, .ref zw, .ref zt, .ref zm, .int 0])), (zr, .inr (6, [.ref zrt, .int 0, .int 0, .int 0])), (zrt, .inl (cy 0, 80, .inl (fun _ => 0)))] := hD
            have hw_223 : r_222 = if 32 ≤ r_219.toInt ∧ r_219.toInt ≤ 126 then 1 else 0 := hw_223
            refine lv_if_ne (tgt := 39) hx hb dX10_type_34 (by decide) (fun c_224 => ?_) (fun c_224 => ?_)
            · have f_225 : 32 ≤ r_219.toInt ∧ r_219.toInt ≤ 126 := bz_1 hw_223 c_224
              have g_226 : okb zja 3 := by unfold okb; rw [← hw_220]; exact f_225
              refine lv_iinc (v := 4) (lv' := [(4, .int 4), (0, .ref zx), (1, .long zja), (3, .int 5)]) hx hb dX10_type_39 hl (k := 0) rfl (by decide) (by decide) rfl (fun ls hl => ?_)
              refine lv_goto (tgt := 15) hx hb dX10_type_42 (by decide) ?_
              refine lv_iload hx hb dX10_type_15 (lv_at hl 0 rfl) ?_
              refine lv_iload_n hx hb dX10_type_17 rfl (lv_at hl 3 rfl) ?_
              refine lv_icmp_ge (tgt := 45) hx hb dX10_type_18 (by decide) (fun c_227 => absurd c_227 (by decide)) (fun c_227 => ?_)
              refine lv_lload_n hx hb dX10_type_21 rfl (lv_at hl 2 rfl) ?_
              refine lv_iload hx hb dX10_type_22 (lv_at hl 0 rfl) ?_
              refine cj_i (wc := []) (wr := [(zx, .inr (10, [.ref zn, .ref zk, .ref zr, .ref zl, .ref zc, .ref zs, .ref zw, .ref zt, .ref zm, .int 0])), (zr, .inr (6, [.ref zrt, .int 0, .int 0, .int 0])), (zrt, .inl (cy 0, 80, .inl (fun _ => 0)))]) (w1 := fun (_ : Unit) => []) (va_runS (As := [.long zja, .int 4]) (rest := []) ⟨hx, hb, hml, hown, hts⟩ (c_byteOf_4 l dC dI cy H.size zja) (va_cwS 2 hts gX10_type_X10_byteOf rfl rfl rfl (by decide +kernel) ⟨(Nat.le_of_ble_eq_true rfl), (Nat.le_of_ble_eq_true rfl)⟩) (PRE.s (hP.sub [] rfl) hK (hD.sub [] (by decide) rfl) hN) rfl rfl hl.1 rfl (lv_room (Nat.le_of_ble_eq_true rfl)) dX10_type_24 ⟨(Nat.le_of_ble_eq_true rfl), (Nat.le_of_ble_eq_true rfl)⟩) hP hD hS hA [] [0, 1, 2] rfl rfl rfl (by decide) (fun r_229 u_228 H locs hw_230 hP hD hS => ?_)
              have hP : va_P (dC, dI) vwCl [(zx, .inr (10, [.ref zn, .ref zk, .ref zr, .ref zl, .ref zc, .ref zs, .ref zw, .ref zt, .ref zm, .int 0])), (zr, .inr (6, [.ref zrt, .int 0, .int 0, .int 0])), (zrt, .inl (cy 0, 80, .inl (fun _ => 0)))] H := hP
              have hD : va_D A [(zx, .inr (10, [.ref zn, .ref zk, .ref zr, .ref zl, .ref zc, .ref zs, .ref zw, .ref zt, .ref zm, .int 0])), (zr, .inr (6, [.ref zrt, .int 0, .int 0, .int 0])), (zrt, .inl (cy 0, 80, .inl (fun _ => 0)))] := hD
              have hw_230 : r_229.toInt = by8 zja 4 := hw_230
              refine lv_bipush (v := 32) hx hb dX10_type_27 (by decide) ?_
              refine lv_bipush (v := 126) hx hb dX10_type_29 (by decide) ?_
              refine cj_i (wc := []) (wr := [(zx, .inr (10, [.ref zn, .ref zk, .ref zr, .ref zl, .ref zc, .ref zs, .ref zw, .ref zt, .ref zm, .int 0])), (zr, .inr (6, [.ref zrt, .int 0, .int 0, .int 0])), (zrt, .inl (cy 0, 80, .inl (fun _ => 0)))]) (w1 := fun (_ : Unit) => []) (va_runS (As := [.int r_229, .int 32, .int 126]) (rest := []) ⟨hx, hb, hml, hown, hts⟩ (c_X10_isWithin l dC dI cy H.size r_229 32 126 32 126 (by first | rfl | decide | omega | exact Int32.toInt_toInt64 _) (by first | rfl | decide | omega | exact Int32.toInt_toInt64 _)) (va_cwS 3 hts gX10_type_X10_isWithin rfl rfl rfl (by decide +kernel) ⟨(Nat.le_of_ble_eq_true rfl), (Nat.le_of_ble_eq_true rfl)⟩) (PRE.s (hP.sub [] rfl) hK (hD.sub [] (by decide) rfl) hN) rfl rfl hl.1 rfl (lv_room (Nat.le_of_ble_eq_true rfl)) dX10_type_31 ⟨(Nat.le_of_ble_eq_true rfl), (Nat.le_of_ble_eq_true rfl)⟩) hP hD hS hA [] [0, 1, 2] rfl rfl rfl (by decide) (fun r_232 u_231 H locs hw_233 hP hD hS => ?_)
              have hP : va_P (dC, dI) vwCl [(zx, .inr (10, [.ref zn, .ref zk, .ref zr, .ref zl, .ref zc, .ref zs, .ref zw, .ref zt, .ref zm, .int 0])), (zr, .inr (6, [.ref zrt, .int 0, .int 0, .int 0])), (zrt, .inl (cy 0, 80, .inl (fun _ => 0)))] H := hP
              have hD : va_D A [(zx, .inr (10, [.ref zn, .ref zk, .ref zr, .ref zl, .ref zc, .ref zs, .ref zw, .ref zt, .ref zm, .int 0])), (zr, .inr (6, [.ref zrt, .int 0, .int 0, .int 0])), (zrt, .inl (cy 0, 80, .inl (fun _ => 0)))] := hD
              have hw_233 : r_232 = if 32 ≤ r_229.toInt ∧ r_229.toInt ≤ 126 then 1 else 0 := hw_233
              refine lv_if_ne (tgt := 39) hx hb dX10_type_34 (by decide) (fun c_234 => ?_) (fun c_234 => ?_)
              · have f_235 : 32 ≤ r_229.toInt ∧ r_229.toInt ≤ 126 := bz_1 hw_233 c_234
                have g_236 : okb zja 4 := by unfold okb; rw [← hw_230]; exact f_235
                refine lv_iinc (v := 5) (lv' := [(4, .int 5), (0, .ref zx), (1, .long zja), (3, .int 5)]) hx hb dX10_type_39 hl (k := 0) rfl (by decide) (by decide) rfl (fun ls hl => ?_)
                refine lv_goto (tgt := 15) hx hb dX10_type_42 (by decide) ?_
                refine lv_iload hx hb dX10_type_15 (lv_at hl 0 rfl) ?_
                refine lv_iload_n hx hb dX10_type_17 rfl (lv_at hl 3 rfl) ?_
                refine lv_icmp_ge (tgt := 45) hx hb dX10_type_18 (by decide) (fun c_237 => ?_) (fun c_237 => absurd (by decide) c_237)
                refine lv_aload_n hx hb dX10_type_45 rfl (lv_at hl 1 rfl) ?_
                refine va_get (D := (dC, dI)) (ci := 10) (v := .ref zr) (C := RX10) (T := TX10) (N := 10) hx hb hts (by decide +kernel) hown hK hP 0 rfl rfl 2 (by decide) (hts (.fieldLink RX10 22 "DripStone" "reader" "LDripStone$Reader;") (by decide +kernel)) (fun _ h9 => h9) rfl dX10_type_46 ?_
                refine va_get (D := (dC, dI)) (ci := 6) (v := .int 0) (C := RX6) (T := TX6) (N := 4) hx hb hts (by decide +kernel) hown hK hP 1 rfl rfl 1 (by decide) (hts (.fieldLink RX10 116 "DripStone$Reader" "typed" "I") (by decide +kernel)) (fun _ h9 => h9) rfl dX10_type_49 ?_
                refine lv_iload_n hx hb dX10_type_52 rfl (lv_at hl 3 rfl) ?_
                refine lv_iadd hx hb dX10_type_53 ?_
                refine lv_topi (fun v_238 ev_238 => ?_)
                obtain rfl : v_238 = (5 : Int32) := ev_238.trans (by decide)
                refine lv_bipush (v := 80) hx hb dX10_type_54 (by decide) ?_
                refine lv_icmp_le (tgt := 62) hx hb dX10_type_56 (by decide) (fun c_239 => ?_) (fun c_239 => absurd (by decide) c_239)
                refine lv_iload_n hx hb dX10_type_62 rfl (lv_at hl 3 rfl) ?_
                refine lv_iconst (v := 1) hx hb dX10_type_63 (by decide) ?_
                refine lv_isub hx hb dX10_type_64 ?_
                refine lv_topi (fun v_240 ev_240 => ?_)
                obtain rfl : v_240 = (4 : Int32) := ev_240.trans (by decide)
                refine lv_istore (lv' := [(4, .int 4), (0, .ref zx), (1, .long zja), (3, .int 5)]) hx hb dX10_type_65 hl (by decide) rfl (fun ls hl => ?_)
                refine lv_iload hx hb dX10_type_67 (lv_at hl 0 rfl) ?_
                refine lv_if_lt (tgt := 112) hx hb dX10_type_69 (by decide) (fun c_241 => absurd c_241 (by decide)) (fun c_241 => ?_)
                refine lv_aload_n hx hb dX10_type_72 rfl (lv_at hl 1 rfl) ?_
                refine va_get (D := (dC, dI)) (ci := 10) (v := .ref zr) (C := RX10) (T := TX10) (N := 10) hx hb hts (by decide +kernel) hown hK hP 0 rfl rfl 2 (by decide) (hts (.fieldLink RX10 22 "DripStone" "reader" "LDripStone$Reader;") (by decide +kernel)) (fun _ h9 => h9) rfl dX10_type_73 ?_
                refine va_get (D := (dC, dI)) (ci := 6) (v := .ref zrt) (C := RX6) (T := TX6) (N := 4) hx hb hts (by decide +kernel) hown hK hP 1 rfl rfl 0 (by decide) (hts (.fieldLink RX10 119 "DripStone$Reader" "tape" "[I") (by decide +kernel)) (fun _ h9 => h9) rfl dX10_type_76 ?_
                refine lv_aload_n hx hb dX10_type_79 rfl (lv_at hl 1 rfl) ?_
                refine va_get (D := (dC, dI)) (ci := 10) (v := .ref zr) (C := RX10) (T := TX10) (N := 10) hx hb hts (by decide +kernel) hown hK hP 0 rfl rfl 2 (by decide) (hts (.fieldLink RX10 22 "DripStone" "reader" "LDripStone$Reader;") (by decide +kernel)) (fun _ h9 => h9) rfl dX10_type_80 ?_
                refine va_get (D := (dC, dI)) (ci := 6) (v := .int 0) (C := RX6) (T := TX6) (N := 4) hx hb hts (by decide +kernel) hown hK hP 1 rfl rfl 1 (by decide) (hts (.fieldLink RX10 116 "DripStone$Reader" "typed" "I") (by decide +kernel)) (fun _ h9 => h9) rfl dX10_type_83 ?_
                refine lv_lload_n hx hb dX10_type_86 rfl (lv_at hl 2 rfl) ?_
                refine lv_iload hx hb dX10_type_87 (lv_at hl 0 rfl) ?_
                refine cj_i (wc := []) (wr := [(zx, .inr (10, [.ref zn, .ref zk, .ref zr, .ref zl, .ref zc, .ref zs, .ref zw, .ref zt, .ref zm, .int 0])), (zr, .inr (6, [.ref zrt, .int 0, .int 0, .int 0])), (zrt, .inl (cy 0, 80, .inl (fun _ => 0)))]) (w1 := fun (_ : Unit) => []) (va_runS (As := [.long zja, .int 4]) (rest := [.int 0, .ref zrt]) ⟨hx, hb, hml, hown, hts⟩ (c_byteOf_4 l dC dI cy H.size zja) (va_cwS 2 hts gX10_type_X10_byteOf rfl rfl rfl (by decide +kernel) ⟨(Nat.le_of_ble_eq_true rfl), (Nat.le_of_ble_eq_true rfl)⟩) (PRE.s (hP.sub [] rfl) hK (hD.sub [] (by decide) rfl) hN) rfl rfl hl.1 rfl (lv_room (Nat.le_of_ble_eq_true rfl)) dX10_type_89 ⟨(Nat.le_of_ble_eq_true rfl), (Nat.le_of_ble_eq_true rfl)⟩) hP hD hS hA [] [0, 1, 2] rfl rfl rfl (by decide) (fun r_243 u_242 H locs hw_244 hP hD hS => ?_)
                have hP : va_P (dC, dI) vwCl [(zx, .inr (10, [.ref zn, .ref zk, .ref zr, .ref zl, .ref zc, .ref zs, .ref zw, .ref zt, .ref zm, .int 0])), (zr, .inr (6, [.ref zrt, .int 0, .int 0, .int 0])), (zrt, .inl (cy 0, 80, .inl (fun _ => 0)))] H := hP
                have hD : va_D A [(zx, .inr (10, [.ref zn, .ref zk, .ref zr, .ref zl, .ref zc, .ref zs, .ref zw, .ref zt, .ref zm, .int 0])), (zr, .inr (6, [.ref zrt, .int 0, .int 0, .int 0])), (zrt, .inl (cy 0, 80, .inl (fun _ => 0)))] := hD
                have hw_244 : r_243.toInt = by8 zja 4 := hw_244
                refine va_iast hx hb hK hP hD hS 2 0 rfl rfl (vp_in_iff.mpr ⟨by decide, by decide⟩) dX10_type_92 (fun H locs hP hD hS => ?_)
                have hP : va_P (dC, dI) vwCl [(zx, .inr (10, [.ref zn, .ref zk, .ref zr, .ref zl, .ref zc, .ref zs, .ref zw, .ref zt, .ref zm, .int 0])), (zr, .inr (6, [.ref zrt, .int 0, .int 0, .int 0])), (zrt, .inl (cy 0, 80, .inl (upd (fun _ => 0) (0 : Int32).toNatClampNeg r_243)))] H := hP
                have hD : va_D A [(zx, .inr (10, [.ref zn, .ref zk, .ref zr, .ref zl, .ref zc, .ref zs, .ref zw, .ref zt, .ref zm, .int 0])), (zr, .inr (6, [.ref zrt, .int 0, .int 0, .int 0])), (zrt, .inl (cy 0, 80, .inl (upd (fun _ => 0) (0 : Int32).toNatClampNeg r_243)))] := hD
                refine lv_aload_n hx hb dX10_type_93 rfl (lv_at hl 1 rfl) ?_
                refine va_get (D := (dC, dI)) (ci := 10) (v := .ref zr) (C := RX10) (T := TX10) (N := 10) hx hb hts (by decide +kernel) hown hK hP 0 rfl rfl 2 (by decide) (hts (.fieldLink RX10 22 "DripStone" "reader" "LDripStone$Reader;") (by decide +kernel)) (fun _ h9 => h9) rfl dX10_type_94 ?_
                refine lv_dup hx hb dX10_type_97 rfl ?_
                refine va_get (D := (dC, dI)) (ci := 6) (v := .int 0) (C := RX6) (T := TX6) (N := 4) hx hb hts (by decide +kernel) hown hK hP 1 rfl rfl 1 (by decide) (hts (.fieldLink RX10 116 "DripStone$Reader" "typed" "I") (by decide +kernel)) (fun _ h9 => h9) rfl dX10_type_98 ?_
                refine lv_iconst (v := 1) hx hb dX10_type_101 (by decide) ?_
                refine lv_iadd hx hb dX10_type_102 ?_
                refine lv_topi (fun v_245 ev_245 => ?_)
                obtain rfl : v_245 = (1 : Int32) := ev_245.trans (by decide)
                refine va_put (D := (dC, dI)) (ci := 6) (v := .int 1) (ty := .int) (C := RX6) (T := TX6) (N := 4) hx hb hts (by decide +kernel) tyX6 tyX6_ok nmX6 hown hK hP hD hS 1 rfl rfl 1 (by decide) (hts (.fieldLink RX10 116 "DripStone$Reader" "typed" "I") (by decide +kernel)) (fun _ h9 => h9) rfl (by decide +kernel) rfl rfl (Nat.le_of_ble_eq_true rfl) dX10_type_103 (fun H locs hP hD hS => ?_)
                have hP : va_P (dC, dI) vwCl [(zx, .inr (10, [.ref zn, .ref zk, .ref zr, .ref zl, .ref zc, .ref zs, .ref zw, .ref zt, .ref zm, .int 0])), (zr, .inr (6, [.ref zrt, .int 1, .int 0, .int 0])), (zrt, .inl (cy 0, 80, .inl (upd (fun _ => 0) (0 : Int32).toNatClampNeg r_243)))] H := hP
                have hD : va_D A [(zx, .inr (10, [.ref zn, .ref zk, .ref zr, .ref zl, .ref zc, .ref zs, .ref zw, .ref zt, .ref zm, .int 0])), (zr, .inr (6, [.ref zrt, .int 1, .int 0, .int 0])), (zrt, .inl (cy 0, 80, .inl (upd (fun _ => 0) (0 : Int32).toNatClampNeg r_243)))] := hD
                refine lv_iinc (v := 3) (lv' := [(4, .int 3), (0, .ref zx), (1, .long zja), (3, .int 5)]) hx hb dX10_type_106 hl (k := 0) rfl (by decide) (by decide) rfl (fun ls hl => ?_)
                refine lv_goto (tgt := 67) hx hb dX10_type_109 (by decide) ?_
                refine lv_iload hx hb dX10_type_67 (lv_at hl 0 rfl) ?_
                refine lv_if_lt (tgt := 112) hx hb dX10_type_69 (by decide) (fun c_246 => absurd c_246 (by decide)) (fun c_246 => ?_)
                refine lv_aload_n hx hb dX10_type_72 rfl (lv_at hl 1 rfl) ?_
                refine va_get (D := (dC, dI)) (ci := 10) (v := .ref zr) (C := RX10) (T := TX10) (N := 10) hx hb hts (by decide +kernel) hown hK hP 0 rfl rfl 2 (by decide) (hts (.fieldLink RX10 22 "DripStone" "reader" "LDripStone$Reader;") (by decide +kernel)) (fun _ h9 => h9) rfl dX10_type_73 ?_
                refine va_get (D := (dC, dI)) (ci := 6) (v := .ref zrt) (C := RX6) (T := TX6) (N := 4) hx hb hts (by decide +kernel) hown hK hP 1 rfl rfl 0 (by decide) (hts (.fieldLink RX10 119 "DripStone$Reader" "tape" "[I") (by decide +kernel)) (fun _ h9 => h9) rfl dX10_type_76 ?_
                refine lv_aload_n hx hb dX10_type_79 rfl (lv_at hl 1 rfl) ?_
                refine va_get (D := (dC, dI)) (ci := 10) (v := .ref zr) (C := RX10) (T := TX10) (N := 10) hx hb hts (by decide +kernel) hown hK hP 0 rfl rfl 2 (by decide) (hts (.fieldLink RX10 22 "DripStone" "reader" "LDripStone$Reader;") (by decide +kernel)) (fun _ h9 => h9) rfl dX10_type_80 ?_
                refine va_get (D := (dC, dI)) (ci := 6) (v := .int 1) (C := RX6) (T := TX6) (N := 4) hx hb hts (by decide +kernel) hown hK hP 1 rfl rfl 1 (by decide) (hts (.fieldLink RX10 116 "DripStone$Reader" "typed" "I") (by decide +kernel)) (fun _ h9 => h9) rfl dX10_type_83 ?_
                refine lv_lload_n hx hb dX10_type_86 rfl (lv_at hl 2 rfl) ?_
                refine lv_iload hx hb dX10_type_87 (lv_at hl 0 rfl) ?_
                refine cj_i (wc := []) (wr := [(zx, .inr (10, [.ref zn, .ref zk, .ref zr, .ref zl, .ref zc, .ref zs, .ref zw, .ref zt, .ref zm, .int 0])), (zr, .inr (6, [.ref zrt, .int 1, .int 0, .int 0])), (zrt, .inl (cy 0, 80, .inl (upd (fun _ => 0) (0 : Int32).toNatClampNeg r_243)))]) (w1 := fun (_ : Unit) => []) (va_runS (As := [.long zja, .int 3]) (rest := [.int 1, .ref zrt]) ⟨hx, hb, hml, hown, hts⟩ (c_byteOf_3 l dC dI cy H.size zja) (va_cwS 2 hts gX10_type_X10_byteOf rfl rfl rfl (by decide +kernel) ⟨(Nat.le_of_ble_eq_true rfl), (Nat.le_of_ble_eq_true rfl)⟩) (PRE.s (hP.sub [] rfl) hK (hD.sub [] (by decide) rfl) hN) rfl rfl hl.1 rfl (lv_room (Nat.le_of_ble_eq_true rfl)) dX10_type_89 ⟨(Nat.le_of_ble_eq_true rfl), (Nat.le_of_ble_eq_true rfl)⟩) hP hD hS hA [] [0, 1, 2] rfl rfl rfl (by decide) (fun r_248 u_247 H locs hw_249 hP hD hS => ?_)
                have hP : va_P (dC, dI) vwCl [(zx, .inr (10, [.ref zn, .ref zk, .ref zr, .ref zl, .ref zc, .ref zs, .ref zw, .ref zt, .ref zm, .int 0])), (zr, .inr (6, [.ref zrt, .int 1, .int 0, .int 0])), (zrt, .inl (cy 0, 80, .inl (upd (fun _ => 0) (0 : Int32).toNatClampNeg r_243)))] H := hP
                have hD : va_D A [(zx, .inr (10, [.ref zn, .ref zk, .ref zr, .ref zl, .ref zc, .ref zs, .ref zw, .ref zt, .ref zm, .int 0])), (zr, .inr (6, [.ref zrt, .int 1, .int 0, .int 0])), (zrt, .inl (cy 0, 80, .inl (upd (fun _ => 0) (0 : Int32).toNatClampNeg r_243)))] := hD
                have hw_249 : r_248.toInt = by8 zja 3 := hw_249
                refine va_iast hx hb hK hP hD hS 2 0 rfl rfl (vp_in_iff.mpr ⟨by decide, by decide⟩) dX10_type_92 (fun H locs hP hD hS => ?_)
                have hP : va_P (dC, dI) vwCl [(zx, .inr (10, [.ref zn, .ref zk, .ref zr, .ref zl, .ref zc, .ref zs, .ref zw, .ref zt, .ref zm, .int 0])), (zr, .inr (6, [.ref zrt, .int 1, .int 0, .int 0])), (zrt, .inl (cy 0, 80, .inl (upd (upd (fun _ => 0) (0 : Int32).toNatClampNeg r_243) (1 : Int32).toNatClampNeg r_248)))] H := hP
                have hD : va_D A [(zx, .inr (10, [.ref zn, .ref zk, .ref zr, .ref zl, .ref zc, .ref zs, .ref zw, .ref zt, .ref zm, .int 0])), (zr, .inr (6, [.ref zrt, .int 1, .int 0, .int 0])), (zrt, .inl (cy 0, 80, .inl (upd (upd (fun _ => 0) (0 : Int32).toNatClampNeg r_243) (1 : Int32).toNatClampNeg r_248)))] := hD
                refine lv_aload_n hx hb dX10_type_93 rfl (lv_at hl 1 rfl) ?_
                refine va_get (D := (dC, dI)) (ci := 10) (v := .ref zr) (C := RX10) (T := TX10) (N := 10) hx hb hts (by decide +kernel) hown hK hP 0 rfl rfl 2 (by decide) (hts (.fieldLink RX10 22 "DripStone" "reader" "LDripStone$Reader;") (by decide +kernel)) (fun _ h9 => h9) rfl dX10_type_94 ?_
                refine lv_dup hx hb dX10_type_97 rfl ?_
                refine va_get (D := (dC, dI)) (ci := 6) (v := .int 1) (C := RX6) (T := TX6) (N := 4) hx hb hts (by decide +kernel) hown hK hP 1 rfl rfl 1 (by decide) (hts (.fieldLink RX10 116 "DripStone$Reader" "typed" "I") (by decide +kernel)) (fun _ h9 => h9) rfl dX10_type_98 ?_
                refine lv_iconst (v := 1) hx hb dX10_type_101 (by decide) ?_
                refine lv_iadd hx hb dX10_type_102 ?_
                refine lv_topi (fun v_250 ev_250 => ?_)
                obtain rfl : v_250 = (2 : Int32) := ev_250.trans (by decide)
                refine va_put (D := (dC, dI)) (ci := 6) (v := .int 2) (ty := .int) (C := RX6) (T := TX6) (N := 4) hx hb hts (by decide +kernel) tyX6 tyX6_ok nmX6 hown hK hP hD hS 1 rfl rfl 1 (by decide) (hts (.fieldLink RX10 116 "DripStone$Reader" "typed" "I") (by decide +kernel)) (fun _ h9 => h9) rfl (by decide +kernel) rfl rfl (Nat.le_of_ble_eq_true rfl) dX10_type_103 (fun H locs hP hD hS => ?_)
                have hP : va_P (dC, dI) vwCl [(zx, .inr (10, [.ref zn, .ref zk, .ref zr, .ref zl, .ref zc, .ref zs, .ref zw, .ref zt, .ref zm, .int 0])), (zr, .inr (6, [.ref zrt, .int 2, .int 0, .int 0])), (zrt, .inl (cy 0, 80, .inl (upd (upd (fun _ => 0) (0 : Int32).toNatClampNeg r_243) (1 : Int32).toNatClampNeg r_248)))] H := hP
                have hD : va_D A [(zx, .inr (10, [.ref zn, .ref zk, .ref zr, .ref zl, .ref zc, .ref zs, .ref zw, .ref zt, .ref zm, .int 0])), (zr, .inr (6, [.ref zrt, .int 2, .int 0, .int 0])), (zrt, .inl (cy 0, 80, .inl (upd (upd (fun _ => 0) (0 : Int32).toNatClampNeg r_243) (1 : Int32).toNatClampNeg r_248)))] := hD
                refine lv_iinc (v := 2) (lv' := [(4, .int 2), (0, .ref zx), (1, .long zja), (3, .int 5)]) hx hb dX10_type_106 hl (k := 0) rfl (by decide) (by decide) rfl (fun ls hl => ?_)
                refine lv_goto (tgt := 67) hx hb dX10_type_109 (by decide) ?_
                refine lv_iload hx hb dX10_type_67 (lv_at hl 0 rfl) ?_
                refine lv_if_lt (tgt := 112) hx hb dX10_type_69 (by decide) (fun c_251 => absurd c_251 (by decide)) (fun c_251 => ?_)
                refine lv_aload_n hx hb dX10_type_72 rfl (lv_at hl 1 rfl) ?_
                refine va_get (D := (dC, dI)) (ci := 10) (v := .ref zr) (C := RX10) (T := TX10) (N := 10) hx hb hts (by decide +kernel) hown hK hP 0 rfl rfl 2 (by decide) (hts (.fieldLink RX10 22 "DripStone" "reader" "LDripStone$Reader;") (by decide +kernel)) (fun _ h9 => h9) rfl dX10_type_73 ?_
                refine va_get (D := (dC, dI)) (ci := 6) (v := .ref zrt) (C := RX6) (T := TX6) (N := 4) hx hb hts (by decide +kernel) hown hK hP 1 rfl rfl 0 (by decide) (hts (.fieldLink RX10 119 "DripStone$Reader" "tape" "[I") (by decide +kernel)) (fun _ h9 => h9) rfl dX10_type_76 ?_
                refine lv_aload_n hx hb dX10_type_79 rfl (lv_at hl 1 rfl) ?_
                refine va_get (D := (dC, dI)) (ci := 10) (v := .ref zr) (C := RX10) (T := TX10) (N := 10) hx hb hts (by decide +kernel) hown hK hP 0 rfl rfl 2 (by decide) (hts (.fieldLink RX10 22 "DripStone" "reader" "LDripStone$Reader;") (by decide +kernel)) (fun _ h9 => h9) rfl dX10_type_80 ?_
                refine va_get (D := (dC, dI)) (ci := 6) (v := .int 2) (C := RX6) (T := TX6) (N := 4) hx hb hts (by decide +kernel) hown hK hP 1 rfl rfl 1 (by decide) (hts (.fieldLink RX10 116 "DripStone$Reader" "typed" "I") (by decide +kernel)) (fun _ h9 => h9) rfl dX10_type_83 ?_
                refine lv_lload_n hx hb dX10_type_86 rfl (lv_at hl 2 rfl) ?_
                refine lv_iload hx hb dX10_type_87 (lv_at hl 0 rfl) ?_
                refine cj_i (wc := []) (wr := [(zx, .inr (10, [.ref zn, .ref zk, .ref zr, .ref zl, .ref zc, .ref zs, .ref zw, .ref zt, .ref zm, .int 0])), (zr, .inr (6, [.ref zrt, .int 2, .int 0, .int 0])), (zrt, .inl (cy 0, 80, .inl (upd (upd (fun _ => 0) (0 : Int32).toNatClampNeg r_243) (1 : Int32).toNatClampNeg r_248)))]) (w1 := fun (_ : Unit) => []) (va_runS (As := [.long zja, .int 2]) (rest := [.int 2, .ref zrt]) ⟨hx, hb, hml, hown, hts⟩ (c_byteOf_2 l dC dI cy H.size zja) (va_cwS 2 hts gX10_type_X10_byteOf rfl rfl rfl (by decide +kernel) ⟨(Nat.le_of_ble_eq_true rfl), (Nat.le_of_ble_eq_true rfl)⟩) (PRE.s (hP.sub [] rfl) hK (hD.sub [] (by decide) rfl) hN) rfl rfl hl.1 rfl (lv_room (Nat.le_of_ble_eq_true rfl)) dX10_type_89 ⟨(Nat.le_of_ble_eq_true rfl), (Nat.le_of_ble_eq_true rfl)⟩) hP hD hS hA [] [0, 1, 2] rfl rfl rfl (by decide) (fun r_253 u_252 H locs hw_254 hP hD hS => ?_)
                have hP : va_P (dC, dI) vwCl [(zx, .inr (10, [.ref zn, .ref zk, .ref zr, .ref zl, .ref zc, .ref zs, .ref zw, .ref zt, .ref zm, .int 0])), (zr, .inr (6, [.ref zrt, .int 2, .int 0, .int 0])), (zrt, .inl (cy 0, 80, .inl (upd (upd (fun _ => 0) (0 : Int32).toNatClampNeg r_243) (1 : Int32).toNatClampNeg r_248)))] H := hP
                have hD : va_D A [(zx, .inr (10, [.ref zn, .ref zk, .ref zr, .ref zl, .ref zc, .ref zs, .ref zw, .ref zt, .ref zm, .int 0])), (zr, .inr (6, [.ref zrt, .int 2, .int 0, .int 0])), (zrt, .inl (cy 0, 80, .inl (upd (upd (fun _ => 0) (0 : Int32).toNatClampNeg r_243) (1 : Int32).toNatClampNeg r_248)))] := hD
                have hw_254 : r_253.toInt = by8 zja 2 := hw_254
                refine va_iast hx hb hK hP hD hS 2 0 rfl rfl (vp_in_iff.mpr ⟨by decide, by decide⟩) dX10_type_92 (fun H locs hP hD hS => ?_)
                have hP : va_P (dC, dI) vwCl [(zx, .inr (10, [.ref zn, .ref zk, .ref zr, .ref zl, .ref zc, .ref zs, .ref zw, .ref zt, .ref zm, .int 0])), (zr, .inr (6, [.ref zrt, .int 2, .int 0, .int 0])), (zrt, .inl (cy 0, 80, .inl (upd (upd (upd (fun _ => 0) (0 : Int32).toNatClampNeg r_243) (1 : Int32).toNatClampNeg r_248) (2 : Int32).toNatClampNeg r_253)))] H := hP
                have hD : va_D A [(zx, .inr (10, [.ref zn, .ref zk, .ref zr, .ref zl, .ref zc, .ref zs, .ref zw, .ref zt, .ref zm, .int 0])), (zr, .inr (6, [.ref zrt, .int 2, .int 0, .int 0])), (zrt, .inl (cy 0, 80, .inl (upd (upd (upd (fun _ => 0) (0 : Int32).toNatClampNeg r_243) (1 : Int32).toNatClampNeg r_248) (2 : Int32).toNatClampNeg r_253)))] := hD
                refine lv_aload_n hx hb dX10_type_93 rfl (lv_at hl 1 rfl) ?_
                refine va_get (D := (dC, dI)) (ci := 10) (v := .ref zr) (C := RX10) (T := TX10) (N := 10) hx hb hts (by decide +kernel) hown hK hP 0 rfl rfl 2 (by decide) (hts (.fieldLink RX10 22 "DripStone" "reader" "LDripStone$Reader;") (by decide +kernel)) (fun _ h9 => h9) rfl dX10_type_94 ?_
                refine lv_dup hx hb dX10_type_97 rfl ?_
                refine va_get (D := (dC, dI)) (ci := 6) (v := .int 2) (C := RX6) (T := TX6) (N := 4) hx hb hts (by decide +kernel) hown hK hP 1 rfl rfl 1 (by decide) (hts (.fieldLink RX10 116 "DripStone$Reader" "typed" "I") (by decide +kernel)) (fun _ h9 => h9) rfl dX10_type_98 ?_
                refine lv_iconst (v := 1) hx hb dX10_type_101 (by decide) ?_
                refine lv_iadd hx hb dX10_type_102 ?_
                refine lv_topi (fun v_255 ev_255 => ?_)
                obtain rfl : v_255 = (3 : Int32) := ev_255.trans (by decide)
                refine va_put (D := (dC, dI)) (ci := 6) (v := .int 3) (ty := .int) (C := RX6) (T := TX6) (N := 4) hx hb hts (by decide +kernel) tyX6 tyX6_ok nmX6 hown hK hP hD hS 1 rfl rfl 1 (by decide) (hts (.fieldLink RX10 116 "DripStone$Reader" "typed" "I") (by decide +kernel)) (fun _ h9 => h9) rfl (by decide +kernel) rfl rfl (Nat.le_of_ble_eq_true rfl) dX10_type_103 (fun H locs hP hD hS => ?_)
                have hP : va_P (dC, dI) vwCl [(zx, .inr (10, [.ref zn, .ref zk, .ref zr, .ref zl, .ref zc, .ref zs, .ref zw, .ref zt, .ref zm, .int 0])), (zr, .inr (6, [.ref zrt, .int 3, .int 0, .int 0])), (zrt, .inl (cy 0, 80, .inl (upd (upd (upd (fun _ => 0) (0 : Int32).toNatClampNeg r_243) (1 : Int32).toNatClampNeg r_248) (2 : Int32).toNatClampNeg r_253)))] H := hP
                have hD : va_D A [(zx, .inr (10, [.ref zn, .ref zk, .ref zr, .ref zl, .ref zc, .ref zs, .ref zw, .ref zt, .ref zm, .int 0])), (zr, .inr (6, [.ref zrt, .int 3, .int 0, .int 0])), (zrt, .inl (cy 0, 80, .inl (upd (upd (upd (fun _ => 0) (0 : Int32).toNatClampNeg r_243) (1 : Int32).toNatClampNeg r_248) (2 : Int32).toNatClampNeg r_253)))] := hD
                refine lv_iinc (v := 1) (lv' := [(4, .int 1), (0, .ref zx), (1, .long zja), (3, .int 5)]) hx hb dX10_type_106 hl (k := 0) rfl (by decide) (by decide) rfl (fun ls hl => ?_)
                refine lv_goto (tgt := 67) hx hb dX10_type_109 (by decide) ?_
                refine lv_iload hx hb dX10_type_67 (lv_at hl 0 rfl) ?_
                refine lv_if_lt (tgt := 112) hx hb dX10_type_69 (by decide) (fun c_256 => absurd c_256 (by decide)) (fun c_256 => ?_)
                refine lv_aload_n hx hb dX10_type_72 rfl (lv_at hl 1 rfl) ?_
                refine va_get (D := (dC, dI)) (ci := 10) (v := .ref zr) (C := RX10) (T := TX10) (N := 10) hx hb hts (by decide +kernel) hown hK hP 0 rfl rfl 2 (by decide) (hts (.fieldLink RX10 22 "DripStone" "reader" "LDripStone$Reader;") (by decide +kernel)) (fun _ h9 => h9) rfl dX10_type_73 ?_
                refine va_get (D := (dC, dI)) (ci := 6) (v := .ref zrt) (C := RX6) (T := TX6) (N := 4) hx hb hts (by decide +kernel) hown hK hP 1 rfl rfl 0 (by decide) (hts (.fieldLink RX10 119 "DripStone$Reader" "tape" "[I") (by decide +kernel)) (fun _ h9 => h9) rfl dX10_type_76 ?_
                refine lv_aload_n hx hb dX10_type_79 rfl (lv_at hl 1 rfl) ?_
                refine va_get (D := (dC, dI)) (ci := 10) (v := .ref zr) (C := RX10) (T := TX10) (N := 10) hx hb hts (by decide +kernel) hown hK hP 0 rfl rfl 2 (by decide) (hts (.fieldLink RX10 22 "DripStone" "reader" "LDripStone$Reader;") (by decide +kernel)) (fun _ h9 => h9) rfl dX10_type_80 ?_
                refine va_get (D := (dC, dI)) (ci := 6) (v := .int 3) (C := RX6) (T := TX6) (N := 4) hx hb hts (by decide +kernel) hown hK hP 1 rfl rfl 1 (by decide) (hts (.fieldLink RX10 116 "DripStone$Reader" "typed" "I") (by decide +kernel)) (fun _ h9 => h9) rfl dX10_type_83 ?_
                refine lv_lload_n hx hb dX10_type_86 rfl (lv_at hl 2 rfl) ?_
                refine lv_iload hx hb dX10_type_87 (lv_at hl 0 rfl) ?_
                refine cj_i (wc := []) (wr := [(zx, .inr (10, [.ref zn, .ref zk, .ref zr, .ref zl, .ref zc, .ref zs, .ref zw, .ref zt, .ref zm, .int 0])), (zr, .inr (6, [.ref zrt, .int 3, .int 0, .int 0])), (zrt, .inl (cy 0, 80, .inl (upd (upd (upd (fun _ => 0) (0 : Int32).toNatClampNeg r_243) (1 : Int32).toNatClampNeg r_248) (2 : Int32).toNatClampNeg r_253)))]) (w1 := fun (_ : Unit) => []) (va_runS (As := [.long zja, .int 1]) (rest := [.int 3, .ref zrt]) ⟨hx, hb, hml, hown, hts⟩ (c_byteOf_1 l dC dI cy H.size zja) (va_cwS 2 hts gX10_type_X10_byteOf rfl rfl rfl (by decide +kernel) ⟨(Nat.le_of_ble_eq_true rfl), (Nat.le_of_ble_eq_true rfl)⟩) (PRE.s (hP.sub [] rfl) hK (hD.sub [] (by decide) rfl) hN) rfl rfl hl.1 rfl (lv_room (Nat.le_of_ble_eq_true rfl)) dX10_type_89 ⟨(Nat.le_of_ble_eq_true rfl), (Nat.le_of_ble_eq_true rfl)⟩) hP hD hS hA [] [0, 1, 2] rfl rfl rfl (by decide) (fun r_258 u_257 H locs hw_259 hP hD hS => ?_)
                have hP : va_P (dC, dI) vwCl [(zx, .inr (10, [.ref zn, .ref zk, .ref zr, .ref zl, .ref zc, .ref zs, .ref zw, .ref zt, .ref zm, .int 0])), (zr, .inr (6, [.ref zrt, .int 3, .int 0, .int 0])), (zrt, .inl (cy 0, 80, .inl (upd (upd (upd (fun _ => 0) (0 : Int32).toNatClampNeg r_243) (1 : Int32).toNatClampNeg r_248) (2 : Int32).toNatClampNeg r_253)))] H := hP
                have hD : va_D A [(zx, .inr (10, [.ref zn, .ref zk, .ref zr, .ref zl, .ref zc, .ref zs, .ref zw, .ref zt, .ref zm, .int 0])), (zr, .inr (6, [.ref zrt, .int 3, .int 0, .int 0])), (zrt, .inl (cy 0, 80, .inl (upd (upd (upd (fun _ => 0) (0 : Int32).toNatClampNeg r_243) (1 : Int32).toNatClampNeg r_248) (2 : Int32).toNatClampNeg r_253)))] := hD
                have hw_259 : r_258.toInt = by8 zja 1 := hw_259
                refine va_iast hx hb hK hP hD hS 2 0 rfl rfl (vp_in_iff.mpr ⟨by decide, by decide⟩) dX10_type_92 (fun H locs hP hD hS => ?_)
                have hP : va_P (dC, dI) vwCl [(zx, .inr (10, [.ref zn, .ref zk, .ref zr, .ref zl, .ref zc, .ref zs, .ref zw, .ref zt, .ref zm, .int 0])), (zr, .inr (6, [.ref zrt, .int 3, .int 0, .int 0])), (zrt, .inl (cy 0, 80, .inl (upd (upd (upd (upd (fun _ => 0) (0 : Int32).toNatClampNeg r_243) (1 : Int32).toNatClampNeg r_248) (2 : Int32).toNatClampNeg r_253) (3 : Int32).toNatClampNeg r_258)))] H := hP
                have hD : va_D A [(zx, .inr (10, [.ref zn, .ref zk, .ref zr, .ref zl, .ref zc, .ref zs, .ref zw, .ref zt, .ref zm, .int 0])), (zr, .inr (6, [.ref zrt, .int 3, .int 0, .int 0])), (zrt, .inl (cy 0, 80, .inl (upd (upd (upd (upd (fun _ => 0) (0 : Int32).toNatClampNeg r_243) (1 : Int32).toNatClampNeg r_248) (2 : Int32).toNatClampNeg r_253) (3 : Int32).toNatClampNeg r_258)))] := hD
                refine lv_aload_n hx hb dX10_type_93 rfl (lv_at hl 1 rfl) ?_
                refine va_get (D := (dC, dI)) (ci := 10) (v := .ref zr) (C := RX10) (T := TX10) (N := 10) hx hb hts (by decide +kernel) hown hK hP 0 rfl rfl 2 (by decide) (hts (.fieldLink RX10 22 "DripStone" "reader" "LDripStone$Reader;") (by decide +kernel)) (fun _ h9 => h9) rfl dX10_type_94 ?_
                refine lv_dup hx hb dX10_type_97 rfl ?_
                refine va_get (D := (dC, dI)) (ci := 6) (v := .int 3) (C := RX6) (T := TX6) (N := 4) hx hb hts (by decide +kernel) hown hK hP 1 rfl rfl 1 (by decide) (hts (.fieldLink RX10 116 "DripStone$Reader" "typed" "I") (by decide +kernel)) (fun _ h9 => h9) rfl dX10_type_98 ?_
                refine lv_iconst (v := 1) hx hb dX10_type_101 (by decide) ?_
                refine lv_iadd hx hb dX10_type_102 ?_
                refine lv_topi (fun v_260 ev_260 => ?_)
                obtain rfl : v_260 = (4 : Int32) := ev_260.trans (by decide)
                refine va_put (D := (dC, dI)) (ci := 6) (v := .int 4) (ty := .int) (C := RX6) (T := TX6) (N := 4) hx hb hts (by decide +kernel) tyX6 tyX6_ok nmX6 hown hK hP hD hS 1 rfl rfl 1 (by decide) (hts (.fieldLink RX10 116 "DripStone$Reader" "typed" "I") (by decide +kernel)) (fun _ h9 => h9) rfl (by decide +kernel) rfl rfl (Nat.le_of_ble_eq_true rfl) dX10_type_103 (fun H locs hP hD hS => ?_)
                have hP : va_P (dC, dI) vwCl [(zx, .inr (10, [.ref zn, .ref zk, .ref zr, .ref zl, .ref zc, .ref zs, .ref zw, .ref zt, .ref zm, .int 0])), (zr, .inr (6, [.ref zrt, .int 4, .int 0, .int 0])), (zrt, .inl (cy 0, 80, .inl (upd (upd (upd (upd (fun _ => 0) (0 : Int32).toNatClampNeg r_243) (1 : Int32).toNatClampNeg r_248) (2 : Int32).toNatClampNeg r_253) (3 : Int32).toNatClampNeg r_258)))] H := hP
                have hD : va_D A [(zx, .inr (10, [.ref zn, .ref zk, .ref zr, .ref zl, .ref zc, .ref zs, .ref zw, .ref zt, .ref zm, .int 0])), (zr, .inr (6, [.ref zrt, .int 4, .int 0, .int 0])), (zrt, .inl (cy 0, 80, .inl (upd (upd (upd (upd (fun _ => 0) (0 : Int32).toNatClampNeg r_243) (1 : Int32).toNatClampNeg r_248) (2 : Int32).toNatClampNeg r_253) (3 : Int32).toNatClampNeg r_258)))] := hD
                refine lv_iinc (v := 0) (lv' := [(4, .int 0), (0, .ref zx), (1, .long zja), (3, .int 5)]) hx hb dX10_type_106 hl (k := 0) rfl (by decide) (by decide) rfl (fun ls hl => ?_)
                refine lv_goto (tgt := 67) hx hb dX10_type_109 (by decide) ?_
                refine lv_iload hx hb dX10_type_67 (lv_at hl 0 rfl) ?_
                refine lv_if_lt (tgt := 112) hx hb dX10_type_69 (by decide) (fun c_261 => absurd c_261 (by decide)) (fun c_261 => ?_)
                refine lv_aload_n hx hb dX10_type_72 rfl (lv_at hl 1 rfl) ?_
                refine va_get (D := (dC, dI)) (ci := 10) (v := .ref zr) (C := RX10) (T := TX10) (N := 10) hx hb hts (by decide +kernel) hown hK hP 0 rfl rfl 2 (by decide) (hts (.fieldLink RX10 22 "DripStone" "reader" "LDripStone$Reader;") (by decide +kernel)) (fun _ h9 => h9) rfl dX10_type_73 ?_
                refine va_get (D := (dC, dI)) (ci := 6) (v := .ref zrt) (C := RX6) (T := TX6) (N := 4) hx hb hts (by decide +kernel) hown hK hP 1 rfl rfl 0 (by decide) (hts (.fieldLink RX10 119 "DripStone$Reader" "tape" "[I") (by decide +kernel)) (fun _ h9 => h9) rfl dX10_type_76 ?_
                refine lv_aload_n hx hb dX10_type_79 rfl (lv_at hl 1 rfl) ?_
                refine va_get (D := (dC, dI)) (ci := 10) (v := .ref zr) (C := RX10) (T := TX10) (N := 10) hx hb hts (by decide +kernel) hown hK hP 0 rfl rfl 2 (by decide) (hts (.fieldLink RX10 22 "DripStone" "reader" "LDripStone$Reader;") (by decide +kernel)) (fun _ h9 => h9) rfl dX10_type_80 ?_
                refine va_get (D := (dC, dI)) (ci := 6) (v := .int 4) (C := RX6) (T := TX6) (N := 4) hx hb hts (by decide +kernel) hown hK hP 1 rfl rfl 1 (by decide) (hts (.fieldLink RX10 116 "DripStone$Reader" "typed" "I") (by decide +kernel)) (fun _ h9 => h9) rfl dX10_type_83 ?_
                refine lv_lload_n hx hb dX10_type_86 rfl (lv_at hl 2 rfl) ?_
                refine lv_iload hx hb dX10_type_87 (lv_at hl 0 rfl) ?_
                refine cj_i (wc := []) (wr := [(zx, .inr (10, [.ref zn, .ref zk, .ref zr, .ref zl, .ref zc, .ref zs, .ref zw, .ref zt, .ref zm, .int 0])), (zr, .inr (6, [.ref zrt, .int 4, .int 0, .int 0])), (zrt, .inl (cy 0, 80, .inl (upd (upd (upd (upd (fun _ => 0) (0 : Int32).toNatClampNeg r_243) (1 : Int32).toNatClampNeg r_248) (2 : Int32).toNatClampNeg r_253) (3 : Int32).toNatClampNeg r_258)))]) (w1 := fun (_ : Unit) => []) (va_runS (As := [.long zja, .int 0]) (rest := [.int 4, .ref zrt]) ⟨hx, hb, hml, hown, hts⟩ (c_byteOf_0 l dC dI cy H.size zja) (va_cwS 2 hts gX10_type_X10_byteOf rfl rfl rfl (by decide +kernel) ⟨(Nat.le_of_ble_eq_true rfl), (Nat.le_of_ble_eq_true rfl)⟩) (PRE.s (hP.sub [] rfl) hK (hD.sub [] (by decide) rfl) hN) rfl rfl hl.1 rfl (lv_room (Nat.le_of_ble_eq_true rfl)) dX10_type_89 ⟨(Nat.le_of_ble_eq_true rfl), (Nat.le_of_ble_eq_true rfl)⟩) hP hD hS hA [] [0, 1, 2] rfl rfl rfl (by decide) (fun r_263 u_262 H locs hw_264 hP hD hS => ?_)
                have hP : va_P (dC, dI) vwCl [(zx, .inr (10, [.ref zn, .ref zk, .ref zr, .ref zl, .ref zc, .ref zs, .ref zw, .ref zt, .ref zm, .int 0])), (zr, .inr (6, [.ref zrt, .int 4, .int 0, .int 0])), (zrt, .inl (cy 0, 80, .inl (upd (upd (upd (upd (fun _ => 0) (0 : Int32).toNatClampNeg r_243) (1 : Int32).toNatClampNeg r_248) (2 : Int32).toNatClampNeg r_253) (3 : Int32).toNatClampNeg r_258)))] H := hP
                have hD : va_D A [(zx, .inr (10, [.ref zn, .ref zk, .ref zr, .ref zl, .ref zc, .ref zs, .ref zw, .ref zt, .ref zm, .int 0])), (zr, .inr (6, [.ref zrt, .int 4, .int 0, .int 0])), (zrt, .inl (cy 0, 80, .inl (upd (upd (upd (upd (fun _ => 0) (0 : Int32).toNatClampNeg r_243) (1 : Int32).toNatClampNeg r_248) (2 : Int32).toNatClampNeg r_253) (3 : Int32).toNatClampNeg r_258)))] := hD
                have hw_264 : r_263.toInt = by8 zja 0 := hw_264
                refine va_iast hx hb hK hP hD hS 2 0 rfl rfl (vp_in_iff.mpr ⟨by decide, by decide⟩) dX10_type_92 (fun H locs hP hD hS => ?_)
                have hP : va_P (dC, dI) vwCl [(zx, .inr (10, [.ref zn, .ref zk, .ref zr, .ref zl, .ref zc, .ref zs, .ref zw, .ref zt, .ref zm, .int 0])), (zr, .inr (6, [.ref zrt, .int 4, .int 0, .int 0])), (zrt, .inl (cy 0, 80, .inl (upd (upd (upd (upd (upd (fun _ => 0) (0 : Int32).toNatClampNeg r_243) (1 : Int32).toNatClampNeg r_248) (2 : Int32).toNatClampNeg r_253) (3 : Int32).toNatClampNeg r_258) (4 : Int32).toNatClampNeg r_263)))] H := hP
                have hD : va_D A [(zx, .inr (10, [.ref zn, .ref zk, .ref zr, .ref zl, .ref zc, .ref zs, .ref zw, .ref zt, .ref zm, .int 0])), (zr, .inr (6, [.ref zrt, .int 4, .int 0, .int 0])), (zrt, .inl (cy 0, 80, .inl (upd (upd (upd (upd (upd (fun _ => 0) (0 : Int32).toNatClampNeg r_243) (1 : Int32).toNatClampNeg r_248) (2 : Int32).toNatClampNeg r_253) (3 : Int32).toNatClampNeg r_258) (4 : Int32).toNatClampNeg r_263)))] := hD
                refine lv_aload_n hx hb dX10_type_93 rfl (lv_at hl 1 rfl) ?_
                refine va_get (D := (dC, dI)) (ci := 10) (v := .ref zr) (C := RX10) (T := TX10) (N := 10) hx hb hts (by decide +kernel) hown hK hP 0 rfl rfl 2 (by decide) (hts (.fieldLink RX10 22 "DripStone" "reader" "LDripStone$Reader;") (by decide +kernel)) (fun _ h9 => h9) rfl dX10_type_94 ?_
                refine lv_dup hx hb dX10_type_97 rfl ?_
                refine va_get (D := (dC, dI)) (ci := 6) (v := .int 4) (C := RX6) (T := TX6) (N := 4) hx hb hts (by decide +kernel) hown hK hP 1 rfl rfl 1 (by decide) (hts (.fieldLink RX10 116 "DripStone$Reader" "typed" "I") (by decide +kernel)) (fun _ h9 => h9) rfl dX10_type_98 ?_
                refine lv_iconst (v := 1) hx hb dX10_type_101 (by decide) ?_
                refine lv_iadd hx hb dX10_type_102 ?_
                refine lv_topi (fun v_265 ev_265 => ?_)
                obtain rfl : v_265 = (5 : Int32) := ev_265.trans (by decide)
                refine va_put (D := (dC, dI)) (ci := 6) (v := .int 5) (ty := .int) (C := RX6) (T := TX6) (N := 4) hx hb hts (by decide +kernel) tyX6 tyX6_ok nmX6 hown hK hP hD hS 1 rfl rfl 1 (by decide) (hts (.fieldLink RX10 116 "DripStone$Reader" "typed" "I") (by decide +kernel)) (fun _ h9 => h9) rfl (by decide +kernel) rfl rfl (Nat.le_of_ble_eq_true rfl) dX10_type_103 (fun H locs hP hD hS => ?_)
                have hP : va_P (dC, dI) vwCl [(zx, .inr (10, [.ref zn, .ref zk, .ref zr, .ref zl, .ref zc, .ref zs, .ref zw, .ref zt, .ref zm, .int 0])), (zr, .inr (6, [.ref zrt, .int 5, .int 0, .int 0])), (zrt, .inl (cy 0, 80, .inl (upd (upd (upd (upd (upd (fun _ => 0) (0 : Int32).toNatClampNeg r_243) (1 : Int32).toNatClampNeg r_248) (2 : Int32).toNatClampNeg r_253) (3 : Int32).toNatClampNeg r_258) (4 : Int32).toNatClampNeg r_263)))] H := hP
                have hD : va_D A [(zx, .inr (10, [.ref zn, .ref zk, .ref zr, .ref zl, .ref zc, .ref zs, .ref zw, .ref zt, .ref zm, .int 0])), (zr, .inr (6, [.ref zrt, .int 5, .int 0, .int 0])), (zrt, .inl (cy 0, 80, .inl (upd (upd (upd (upd (upd (fun _ => 0) (0 : Int32).toNatClampNeg r_243) (1 : Int32).toNatClampNeg r_248) (2 : Int32).toNatClampNeg r_253) (3 : Int32).toNatClampNeg r_258) (4 : Int32).toNatClampNeg r_263)))] := hD
                refine lv_iinc (v := (-1)) (lv' := [(4, .int (-1)), (0, .ref zx), (1, .long zja), (3, .int 5)]) hx hb dX10_type_106 hl (k := 0) rfl (by decide) (by decide) rfl (fun ls hl => ?_)
                refine lv_goto (tgt := 67) hx hb dX10_type_109 (by decide) ?_
                refine lv_iload hx hb dX10_type_67 (lv_at hl 0 rfl) ?_
                refine lv_if_lt (tgt := 112) hx hb dX10_type_69 (by decide) (fun c_266 => ?_) (fun c_266 => absurd (by decide) c_266)
                refine lv_aload_n hx hb dX10_type_112 rfl (lv_at hl 1 rfl) ?_
                refine va_get (D := (dC, dI)) (ci := 10) (v := .ref zr) (C := RX10) (T := TX10) (N := 10) hx hb hts (by decide +kernel) hown hK hP 0 rfl rfl 2 (by decide) (hts (.fieldLink RX10 22 "DripStone" "reader" "LDripStone$Reader;") (by decide +kernel)) (fun _ h9 => h9) rfl dX10_type_113 ?_
                refine va_get (D := (dC, dI)) (ci := 6) (v := .int 5) (C := RX6) (T := TX6) (N := 4) hx hb hts (by decide +kernel) hown hK hP 1 rfl rfl 1 (by decide) (hts (.fieldLink RX10 116 "DripStone$Reader" "typed" "I") (by decide +kernel)) (fun _ h9 => h9) rfl dX10_type_116 ?_
                have hP9 := hP.sub (ws' := []) [] rfl
                have hD9 := hD.sub (ws' := []) [] (by decide) rfl
                exact W.iret (v := 5) hx hb hr (fun t ht hW => ⟨⟨5, (), rfl, ((an_type_5 _).trans (if_pos ⟨g_196, g_206, g_216, g_226, g_236⟩)).symm, ⟨by rw [ht]; exact hP9, va_K.moved hW.alike hK, hD9⟩⟩, hS.F ht⟩) hS.2.2 dX10_type_119
              · have f_235 : ¬ (32 ≤ r_229.toInt ∧ r_229.toInt ≤ 126) := bz_0 hw_233 c_234
                have g_267 : ¬ okb zja 4 := by unfold okb; rw [← hw_230]; exact f_235
                refine lv_iconst (v := (-1)) hx hb dX10_type_37 (by decide) ?_
                have hP9 := hP.sub (ws' := []) [] rfl
                have hD9 := hD.sub (ws' := []) [] (by decide) rfl
                exact W.iret (v := (-1)) hx hb hr (fun t ht hW => ⟨⟨(-1), (), rfl, ((an_type_5 _).trans (if_neg (fun h => g_267 (h.2.2.2.2)))).symm, ⟨by rw [ht]; exact hP9, va_K.moved hW.alike hK, hD9⟩⟩, hS.F ht⟩) hS.2.2 dX10_type_38
            · have f_225 : ¬ (32 ≤ r_219.toInt ∧ r_219.toInt ≤ 126) := bz_0 hw_223 c_224
              have g_268 : ¬ okb zja 3 := by unfold okb; rw [← hw_220]; exact f_225
              refine lv_iconst (v := (-1)) hx hb dX10_type_37 (by decide) ?_
              have hP9 := hP.sub (ws' := []) [] rfl
              have hD9 := hD.sub (ws' := []) [] (by decide) rfl
              exact W.iret (v := (-1)) hx hb hr (fun t ht hW => ⟨⟨(-1), (), rfl, ((an_type_5 _).trans (if_neg (fun h => g_268 (h.2.2.2.1)))).symm, ⟨by rw [ht]; exact hP9, va_K.moved hW.alike hK, hD9⟩⟩, hS.F ht⟩) hS.2.2 dX10_type_38
          · have f_215 : ¬ (32 ≤ r_209.toInt ∧ r_209.toInt ≤ 126) := bz_0 hw_213 c_214
            have g_269 : ¬ okb zja 2 := by unfold okb; rw [← hw_210]; exact f_215
            refine lv_iconst (v := (-1)) hx hb dX10_type_37 (by decide) ?_
            have hP9 := hP.sub (ws' := []) [] rfl
            have hD9 := hD.sub (ws' := []) [] (by decide) rfl
            exact W.iret (v := (-1)) hx hb hr (fun t ht hW => ⟨⟨(-1), (), rfl, ((an_type_5 _).trans (if_neg (fun h => g_269 (h.2.2.1)))).symm, ⟨by rw [ht]; exact hP9, va_K.moved hW.alike hK, hD9⟩⟩, hS.F ht⟩) hS.2.2 dX10_type_38
        · have f_205 : ¬ (32 ≤ r_199.toInt ∧ r_199.toInt ≤ 126) := bz_0 hw_203 c_204
          have g_270 : ¬ okb zja 1 := by unfold okb; rw [← hw_200]; exact f_205
          refine lv_iconst (v := (-1)) hx hb dX10_type_37 (by decide) ?_
          have hP9 := hP.sub (ws' := []) [] rfl
          have hD9 := hD.sub (ws' := []) [] (by decide) rfl
          exact W.iret (v := (-1)) hx hb hr (fun t ht hW => ⟨⟨(-1), (), rfl, ((an_type_5 _).trans (if_neg (fun h => g_270 (h.2.1)))).symm, ⟨by rw [ht]; exact hP9, va_K.moved hW.alike hK, hD9⟩⟩, hS.F ht⟩) hS.2.2 dX10_type_38
      · have f_195 : ¬ (32 ≤ r_189.toInt ∧ r_189.toInt ≤ 126) := bz_0 hw_193 c_194
        have g_271 : ¬ okb zja 0 := by unfold okb; rw [← hw_190]; exact f_195
        refine lv_iconst (v := (-1)) hx hb dX10_type_37 (by decide) ?_
        have hP9 := hP.sub (ws' := []) [] rfl
        have hD9 := hD.sub (ws' := []) [] (by decide) rfl
        exact W.iret (v := (-1)) hx hb hr (fun t ht hW => ⟨⟨(-1), (), rfl, ((an_type_5 _).trans (if_neg (fun h => g_271 (h.1)))).symm, ⟨by rw [ht]; exact hP9, va_K.moved hW.alike hK, hD9⟩⟩, hS.F ht⟩) hS.2.2 dX10_type_38
    · have zk_6_6 : (6 : Int32).toInt = 6 := by decide
      refine lv_iconst (v := 0) hx hb dX10_type_12 (by decide) ?_
      refine lv_istore (lv' := [(4, .int 0), (0, .ref zx), (1, .long zja), (3, .int 6)]) hx hb dX10_type_13 hl (by decide) rfl (fun ls hl => ?_)
      refine lv_iload hx hb dX10_type_15 (lv_at hl 0 rfl) ?_
      refine lv_iload_n hx hb dX10_type_17 rfl (lv_at hl 3 rfl) ?_
      refine lv_icmp_ge (tgt := 45) hx hb dX10_type_18 (by decide) (fun c_272 => absurd c_272 (by decide)) (fun c_272 => ?_)
      refine lv_lload_n hx hb dX10_type_21 rfl (lv_at hl 2 rfl) ?_
      refine lv_iload hx hb dX10_type_22 (lv_at hl 0 rfl) ?_
      refine cj_i (wc := []) (wr := [(zx, .inr (10, [.ref zn, .ref zk, .ref zr, .ref zl, .ref zc, .ref zs, .ref zw, .ref zt, .ref zm, .int 0])), (zr, .inr (6, [.ref zrt, .int 0, .int 0, .int 0])), (zrt, .inl (cy 0, 80, .inl (fun _ => 0)))]) (w1 := fun (_ : Unit) => []) (va_runS (As := [.long zja, .int 0]) (rest := []) ⟨hx, hb, hml, hown, hts⟩ (c_byteOf_0 l dC dI cy H.size zja) (va_cwS 2 hts gX10_type_X10_byteOf rfl rfl rfl (by decide +kernel) ⟨(Nat.le_of_ble_eq_true rfl), (Nat.le_of_ble_eq_true rfl)⟩) (PRE.s (hP.sub [] rfl) hK (hD.sub [] (by decide) rfl) hN) rfl rfl hl.1 rfl (lv_room (Nat.le_of_ble_eq_true rfl)) dX10_type_24 ⟨(Nat.le_of_ble_eq_true rfl), (Nat.le_of_ble_eq_true rfl)⟩) hP hD hS hA [] [0, 1, 2] rfl rfl rfl (by decide) (fun r_274 u_273 H locs hw_275 hP hD hS => ?_)
      have hP : va_P (dC, dI) vwCl [(zx, .inr (10, [.ref zn, .ref zk, .ref zr, .ref zl, .ref zc, .ref zs, .ref zw, .ref zt, .ref zm, .int 0])), (zr, .inr (6, [.ref zrt, .int 0, .int 0, .int 0])), (zrt, .inl (cy 0, 80, .inl (fun _ => 0)))] H := hP
      have hD : va_D A [(zx, .inr (10, [.ref zn, .ref zk, .ref zr, .ref zl, .ref zc, .ref zs, .ref zw, .ref zt, .ref zm, .int 0])), (zr, .inr (6, [.ref zrt, .int 0, .int 0, .int 0])), (zrt, .inl (cy 0, 80, .inl (fun _ => 0)))] := hD
      have hw_275 : r_274.toInt = by8 zja 0 := hw_275
      refine lv_bipush (v := 32) hx hb dX10_type_27 (by decide) ?_
      refine lv_bipush (v := 126) hx hb dX10_type_29 (by decide) ?_
      refine cj_i (wc := []) (wr := [(zx, .inr (10, [.ref zn, .ref zk, .ref zr, .ref zl, .ref zc, .ref zs, .ref zw, .ref zt, .ref zm, .int 0])), (zr, .inr (6, [.ref zrt, .int 0, .int 0, .int 0])), (zrt, .inl (cy 0, 80, .inl (fun _ => 0)))]) (w1 := fun (_ : Unit) => []) (va_runS (As := [.int r_274, .int 32, .int 126]) (rest := []) ⟨hx, hb, hml, hown, hts⟩ (c_X10_isWithin l dC dI cy H.size r_274 32 126 32 126 (by first | rfl | decide | omega | exact Int32.toInt_toInt64 _) (by first | rfl | decide | omega | exact Int32.toInt_toInt64 _)) (va_cwS 3 hts gX10_type_X10_isWithin rfl rfl rfl (by decide +kernel) ⟨(Nat.le_of_ble_eq_true rfl), (Nat.le_of_ble_eq_true rfl)⟩) (PRE.s (hP.sub [] rfl) hK (hD.sub [] (by decide) rfl) hN) rfl rfl hl.1 rfl (lv_room (Nat.le_of_ble_eq_true rfl)) dX10_type_31 ⟨(Nat.le_of_ble_eq_true rfl), (Nat.le_of_ble_eq_true rfl)⟩) hP hD hS hA [] [0, 1, 2] rfl rfl rfl (by decide) (fun r_277 u_276 H locs hw_278 hP hD hS => ?_)
      have hP : va_P (dC, dI) vwCl [(zx, .inr (10, [.ref zn, .ref zk, .ref zr, .ref zl, .ref zc, .ref zs, .ref zw, .ref zt, .ref zm, .int 0])), (zr, .inr (6, [.ref zrt, .int 0, .int 0, .int 0])), (zrt, .inl (cy 0, 80, .inl (fun _ => 0)))] H := hP
      have hD : va_D A [(zx, .inr (10, [.ref zn, .ref zk, .ref zr, .ref zl, .ref zc, .ref zs, .ref zw, .ref zt, .ref zm, .int 0])), (zr, .inr (6, [.ref zrt, .int 0, .int 0, .int 0])), (zrt, .inl (cy 0, 80, .inl (fun _ => 0)))] := hD
      have hw_278 : r_277 = if 32 ≤ r_274.toInt ∧ r_274.toInt ≤ 126 then 1 else 0 := hw_278
      refine lv_if_ne (tgt := 39) hx hb dX10_type_34 (by decide) (fun c_279 => ?_) (fun c_279 => ?_)
      · have f_280 : 32 ≤ r_274.toInt ∧ r_274.toInt ≤ 126 := bz_1 hw_278 c_279
        have g_281 : okb zja 0 := by unfold okb; rw [← hw_275]; exact f_280
        refine lv_iinc (v := 1) (lv' := [(4, .int 1), (0, .ref zx), (1, .long zja), (3, .int 6)]) hx hb dX10_type_39 hl (k := 0) rfl (by decide) (by decide) rfl (fun ls hl => ?_)
        refine lv_goto (tgt := 15) hx hb dX10_type_42 (by decide) ?_
        refine lv_iload hx hb dX10_type_15 (lv_at hl 0 rfl) ?_
        refine lv_iload_n hx hb dX10_type_17 rfl (lv_at hl 3 rfl) ?_
        refine lv_icmp_ge (tgt := 45) hx hb dX10_type_18 (by decide) (fun c_282 => absurd c_282 (by decide)) (fun c_282 => ?_)
        refine lv_lload_n hx hb dX10_type_21 rfl (lv_at hl 2 rfl) ?_
        refine lv_iload hx hb dX10_type_22 (lv_at hl 0 rfl) ?_
        refine cj_i (wc := []) (wr := [(zx, .inr (10, [.ref zn, .ref zk, .ref zr, .ref zl, .ref zc, .ref zs, .ref zw, .ref zt, .ref zm, .int 0])), (zr, .inr (6, [.ref zrt, .int 0, .int 0, .int 0])), (zrt, .inl (cy 0, 80, .inl (fun _ => 0)))]) (w1 := fun (_ : Unit) => []) (va_runS (As := [.long zja, .int 1]) (rest := []) ⟨hx, hb, hml, hown, hts⟩ (c_byteOf_1 l dC dI cy H.size zja) (va_cwS 2 hts gX10_type_X10_byteOf rfl rfl rfl (by decide +kernel) ⟨(Nat.le_of_ble_eq_true rfl), (Nat.le_of_ble_eq_true rfl)⟩) (PRE.s (hP.sub [] rfl) hK (hD.sub [] (by decide) rfl) hN) rfl rfl hl.1 rfl (lv_room (Nat.le_of_ble_eq_true rfl)) dX10_type_24 ⟨(Nat.le_of_ble_eq_true rfl), (Nat.le_of_ble_eq_true rfl)⟩) hP hD hS hA [] [0, 1, 2] rfl rfl rfl (by decide) (fun r_284 u_283 H locs hw_285 hP hD hS => ?_)
        have hP : va_P (dC, dI) vwCl [(zx, .inr (10, [.ref zn, .ref zk, .ref zr, .ref zl, .ref zc, .ref zs, .ref zw, .ref zt, .ref zm, .int 0])), (zr, .inr (6, [.ref zrt, .int 0, .int 0, .int 0])), (zrt, .inl (cy 0, 80, .inl (fun _ => 0)))] H := hP
        have hD : va_D A [(zx, .inr (10, [.ref zn, .ref zk, .ref zr, .ref zl, .ref zc, .ref zs, .ref zw, .ref zt, .ref zm, .int 0])), (zr, .inr (6, [.ref zrt, .int 0, .int 0, .int 0])), (zrt, .inl (cy 0, 80, .inl (fun _ => 0)))] := hD
        have hw_285 : r_284.toInt = by8 zja 1 := hw_285
        refine lv_bipush (v := 32) hx hb dX10_type_27 (by decide) ?_
        refine lv_bipush (v := 126) hx hb dX10_type_29 (by decide) ?_
        refine cj_i (wc := []) (wr := [(zx, .inr (10, [.ref zn, .ref zk, .ref zr, .ref zl, .ref zc, .ref zs, .ref zw, .ref zt, .ref zm, .int 0])), (zr, .inr (6, [.ref zrt, .int 0, .int 0, .int 0])), (zrt, .inl (cy 0, 80, .inl (fun _ => 0)))]) (w1 := fun (_ : Unit) => []) (va_runS (As := [.int r_284, .int 32, .int 126]) (rest := []) ⟨hx, hb, hml, hown, hts⟩ (c_X10_isWithin l dC dI cy H.size r_284 32 126 32 126 (by first | rfl | decide | omega | exact Int32.toInt_toInt64 _) (by first | rfl | decide | omega | exact Int32.toInt_toInt64 _)) (va_cwS 3 hts gX10_type_X10_isWithin rfl rfl rfl (by decide +kernel) ⟨(Nat.le_of_ble_eq_true rfl), (Nat.le_of_ble_eq_true rfl)⟩) (PRE.s (hP.sub [] rfl) hK (hD.sub [] (by decide) rfl) hN) rfl rfl hl.1 rfl (lv_room (Nat.le_of_ble_eq_true rfl)) dX10_type_31 ⟨(Nat.le_of_ble_eq_true rfl), (Nat.le_of_ble_eq_true rfl)⟩) hP hD hS hA [] [0, 1, 2] rfl rfl rfl (by decide) (fun r_287 u_286 H locs hw_288 hP hD hS => ?_)
        have hP : va_P (dC, dI) vwCl [(zx, .inr (10, [.ref zn, .ref zk, .ref zr, .ref zl, .ref zc, .ref zs, .ref zw, .ref zt, .ref zm, .int 0])), (zr, .inr (6, [.ref zrt, .int 0, .int 0, .int 0])), (zrt, .inl (cy 0, 80, .inl (fun _ => 0)))] H := hP
        have hD : va_D A [(zx, .inr (10, [.ref zn, .ref zk, .ref zr, .ref zl, .ref zc, .ref zs, .ref zw, .ref zt, .ref zm, .int 0])), (zr, .inr (6, [.ref zrt, .int 0, .int 0, .int 0])), (zrt, .inl (cy 0, 80, .inl (fun _ => 0)))] := hD
        have hw_288 : r_287 = if 32 ≤ r_284.toInt ∧ r_284.toInt ≤ 126 then 1 else 0 := hw_288
        refine lv_if_ne (tgt := 39) hx hb dX10_type_34 (by decide) (fun c_289 => ?_) (fun c_289 => ?_)
        · have f_290 : 32 ≤ r_284.toInt ∧ r_284.toInt ≤ 126 := bz_1 hw_288 c_289
          have g_291 : okb zja 1 := by unfold okb; rw [← hw_285]; exact f_290
          refine lv_iinc (v := 2) (lv' := [(4, .int 2), (0, .ref zx), (1, .long zja), (3, .int 6)]) hx hb dX10_type_39 hl (k := 0) rfl (by decide) (by decide) rfl (fun ls hl => ?_)
          refine lv_goto (tgt := 15) hx hb dX10_type_42 (by decide) ?_
          refine lv_iload hx hb dX10_type_15 (lv_at hl 0 rfl) ?_
          refine lv_iload_n hx hb dX10_type_17 rfl (lv_at hl 3 rfl) ?_
          refine lv_icmp_ge (tgt := 45) hx hb dX10_type_18 (by decide) (fun c_292 => absurd c_292 (by decide)) (fun c_292 => ?_)
          refine lv_lload_n hx hb dX10_type_21 rfl (lv_at hl 2 rfl) ?_
          refine lv_iload hx hb dX10_type_22 (lv_at hl 0 rfl) ?_
          refine cj_i (wc := []) (wr := [(zx, .inr (10, [.ref zn, .ref zk, .ref zr, .ref zl, .ref zc, .ref zs, .ref zw, .ref zt, .ref zm, .int 0])), (zr, .inr (6, [.ref zrt, .int 0, .int 0, .int 0])), (zrt, .inl (cy 0, 80, .inl (fun _ => 0)))]) (w1 := fun (_ : Unit) => []) (va_runS (As := [.long zja, .int 2]) (rest := []) ⟨hx, hb, hml, hown, hts⟩ (c_byteOf_2 l dC dI cy H.size zja) (va_cwS 2 hts gX10_type_X10_byteOf rfl rfl rfl (by decide +kernel) ⟨(Nat.le_of_ble_eq_true rfl), (Nat.le_of_ble_eq_true rfl)⟩) (PRE.s (hP.sub [] rfl) hK (hD.sub [] (by decide) rfl) hN) rfl rfl hl.1 rfl (lv_room (Nat.le_of_ble_eq_true rfl)) dX10_type_24 ⟨(Nat.le_of_ble_eq_true rfl), (Nat.le_of_ble_eq_true rfl)⟩) hP hD hS hA [] [0, 1, 2] rfl rfl rfl (by decide) (fun r_294 u_293 H locs hw_295 hP hD hS => ?_)
          have hP : va_P (dC, dI) vwCl [(zx, .inr (10, [.ref zn, .ref zk, .ref zr, .ref zl, .ref zc, .ref zs, .ref zw, .ref zt, .ref zm, .int 0])), (zr, .inr (6, [.ref zrt, .int 0, .int 0, .int 0])), (zrt, .inl (cy 0, 80, .inl (fun _ => 0)))] H := hP
          have hD : va_D A [(zx, .inr (10, [.ref zn, .ref zk, .ref zr, .ref zl, .ref zc, .ref zs, .ref zw, .ref zt, .ref zm, .int 0])), (zr, .inr (6, [.ref zrt, .int 0, .int 0, .int 0])), (zrt, .inl (cy 0, 80, .inl (fun _ => 0)))] := hD
          have hw_295 : r_294.toInt = by8 zja 2 := hw_295
          refine lv_bipush (v := 32) hx hb dX10_type_27 (by decide) ?_
          refine lv_bipush (v := 126) hx hb dX10_type_29 (by decide) ?_
          refine cj_i (wc := []) (wr := [(zx, .inr (10, [.ref zn, .ref zk, .ref zr, .ref zl, .ref zc, .ref zs, .ref zw, .ref zt, .ref zm, .int 0])), (zr, .inr (6, [.ref zrt, .int 0, .int 0, .int 0])), (zrt, .inl (cy 0, 80, .inl (fun _ => 0)))]) (w1 := fun (_ : Unit) => []) (va_runS (As := [.int r_294, .int 32, .int 126]) (rest := []) ⟨hx, hb, hml, hown, hts⟩ (c_X10_isWithin l dC dI cy H.size r_294 32 126 32 126 (by first | rfl | decide | omega | exact Int32.toInt_toInt64 _) (by first | rfl | decide | omega | exact Int32.toInt_toInt64 _)) (va_cwS 3 hts gX10_type_X10_isWithin rfl rfl rfl (by decide +kernel) ⟨(Nat.le_of_ble_eq_true rfl), (Nat.le_of_ble_eq_true rfl)⟩) (PRE.s (hP.sub [] rfl) hK (hD.sub [] (by decide) rfl) hN) rfl rfl hl.1 rfl (lv_room (Nat.le_of_ble_eq_true rfl)) dX10_type_31 ⟨(Nat.le_of_ble_eq_true rfl), (Nat.le_of_ble_eq_true rfl)⟩) hP hD hS hA [] [0, 1, 2] rfl rfl rfl (by decide) (fun r_297 u_296 H locs hw_298 hP hD hS => ?_)
          have hP : va_P (dC, dI) vwCl [(zx, .inr (10, [.ref zn, .ref zk, .ref zr, .ref zl, .ref zc, .ref zs, .ref zw, .ref zt, .ref zm, .int 0])), (zr, .inr (6, [.ref zrt, .int 0, .int 0, .int 0])), (zrt, .inl (cy 0, 80, .inl (fun _ => 0)))] H := hP
          have hD : va_D A [(zx, .inr (10, [.ref zn, .ref zk, .ref zr, .ref zl, .ref zc, .ref zs, .ref zw, .ref zt, .ref zm, .int 0])), (zr, .inr (6, [.ref zrt, .int 0, .int 0, .int 0])), (zrt, .inl (cy 0, 80, .inl (fun _ => 0)))] := hD
          have hw_298 : r_297 = if 32 ≤ r_294.toInt ∧ r_294.toInt ≤ 126 then 1 else 0 := hw_298
          refine lv_if_ne (tgt := 39) hx hb dX10_type_34 (by decide) (fun c_299 => ?_) (fun c_299 => ?_)
          · have f_300 : 32 ≤ r_294.toInt ∧ r_294.toInt ≤ 126 := bz_1 hw_298 c_299
            have g_301 : okb zja 2 := by unfold okb; rw [← hw_295]; exact f_300
            refine lv_iinc (v := 3) (lv' := [(4, .int 3), (0, .ref zx), (1, .long zja), (3, .int 6)]) hx hb dX10_type_39 hl (k := 0) rfl (by decide) (by decide) rfl (fun ls hl => ?_)
            refine lv_goto (tgt := 15) hx hb dX10_type_42 (by decide) ?_
            refine lv_iload hx hb dX10_type_15 (lv_at hl 0 rfl) ?_
            refine lv_iload_n hx hb dX10_type_17 rfl (lv_at hl 3 rfl) ?_
            refine lv_icmp_ge (tgt := 45) hx hb dX10_type_18 (by decide) (fun c_302 => absurd c_302 (by decide)) (fun c_302 => ?_)
            refine lv_lload_n hx hb dX10_type_21 rfl (lv_at hl 2 rfl) ?_
            refine lv_iload hx hb dX10_type_22 (lv_at hl 0 rfl) ?_
            refine cj_i (wc := []) (wr := [(zx, .inr (10, [.ref zn, .ref zk, .ref zr, .ref zl, .ref zc, .ref zs, .ref zw, .ref zt, .ref zm, .int 0])), (zr, .inr (6, [.ref zrt, .int 0, .int 0, .int 0])), (zrt, .inl (cy 0, 80, .inl (fun _ => 0)))]) (w1 := fun (_ : Unit) => []) (va_runS (As := [.long zja, .int 3]) (rest := []) ⟨hx, hb, hml, hown, hts⟩ (c_byteOf_3 l dC dI cy H.size zja) (va_cwS 2 hts gX10_type_X10_byteOf rfl rfl rfl (by decide +kernel) ⟨(Nat.le_of_ble_eq_true rfl), (Nat.le_of_ble_eq_true rfl)⟩) (PRE.s (hP.sub [] rfl) hK (hD.sub [] (by decide) rfl) hN) rfl rfl hl.1 rfl (lv_room (Nat.le_of_ble_eq_true rfl)) dX10_type_24 ⟨(Nat.le_of_ble_eq_true rfl), (Nat.le_of_ble_eq_true rfl)⟩) hP hD hS hA [] [0, 1, 2] rfl rfl rfl (by decide) (fun r_304 u_303 H locs hw_305 hP hD hS => ?_)
            have hP : va_P (dC, dI) vwCl [(zx, .inr (10, [.ref zn, .ref zk, .ref zr, .ref zl, .ref zc, .ref zs, .ref zw, .ref zt, .ref zm, .int 0])), (zr, .inr (6, [.ref zrt, .int 0, .int 0, .int 0])), (zrt, .inl (cy 0, 80, .inl (fun _ => 0)))] H := hP
            have hD : va_D A [(zx, .inr (10, [.ref zn, .ref zk, .ref zr, .ref zl, .ref zc, .ref zs, .ref zw, .ref zt, .ref zm, .int 0])), (zr, .inr (6, [.ref zrt, .int 0, .int 0, .int 0])), (zrt, .inl (cy 0, 80, .inl (fun _ => 0)))] := hD
            have hw_305 : r_304.toInt = by8 zja 3 := hw_305
            refine lv_bipush (v := 32) hx hb dX10_type_27 (by decide) ?_
            refine lv_bipush (v := 126) hx hb dX10_type_29 (by decide) ?_
            refine cj_i (wc := []) (wr := [(zx, .inr (10, [.ref zn, .ref zk, .ref zr, .ref zl, .ref zc, .ref zs, .ref zw, .ref zt, .ref zm, .int 0])), (zr, .inr (6, [.ref zrt, .int 0, .int 0, .int 0])), (zrt, .inl (cy 0, 80, .inl (fun _ => 0)))]) (w1 := fun (_ : Unit) => []) (va_runS (As := [.int r_304, .int 32, .int 126]) (rest := []) ⟨hx, hb, hml, hown, hts⟩ (c_X10_isWithin l dC dI cy H.size r_304 32 126 32 126 (by first | rfl | decide | omega | exact Int32.toInt_toInt64 _) (by first | rfl | decide | omega | exact Int32.toInt_toInt64 _)) (va_cwS 3 hts gX10_type_X10_isWithin rfl rfl rfl (by decide +kernel) ⟨(Nat.le_of_ble_eq_true rfl), (Nat.le_of_ble_eq_true rfl)⟩) (PRE.s (hP.sub [] rfl) hK (hD.sub [] (by decide) rfl) hN) rfl rfl hl.1 rfl (lv_room (Nat.le_of_ble_eq_true rfl)) dX10_type_31 ⟨(Nat.le_of_ble_eq_true rfl), (Nat.le_of_ble_eq_true rfl)⟩) hP hD hS hA [] [0, 1, 2] rfl rfl rfl (by decide) (fun r_307 u_306 H locs hw_308 hP hD hS => ?_)
            have hP : va_P (dC, dI) vwCl [(zx, .inr (10, [.ref zn, .ref zk, .ref zr, .ref zl, .ref zc, .ref zs, .ref zw, .ref zt, .ref zm, .int 0])), (zr, .inr (6, [.ref zrt, .int 0, .int 0, .int 0])), (zrt, .inl (cy 0, 80, .inl (fun _ => 0)))] H := hP
            have hD : va_D A [(zx, .inr (10, [.ref zn, .ref zk, .ref zr, .ref zl, .ref zc, .ref zs, .ref zw, .ref zt, .ref zm, .int 0])), (zr, .inr (6, [.ref zrt, .int 0, .int 0, .int 0])), (zrt, .inl (cy 0, 80, .inl (fun _ => 0)))] := hD
            have hw_308 : r_307 = if 32 ≤ r_304.toInt ∧ r_304.toInt ≤ 126 then 1 else 0 := hw_308
            refine lv_if_ne (tgt := 39) hx hb dX10_type_34 (by decide) (fun c_309 => ?_) (fun c_309 => ?_)
            · have f_310 : 32 ≤ r_304.toInt ∧ r_304.toInt ≤ 126 := bz_1 hw_308 c_309
              have g_311 : okb zja 3 := by unfold okb; rw [← hw_305]; exact f_310
              refine lv_iinc (v := 4) (lv' := [(4, .int 4), (0, .ref zx), (1, .long zja), (3, .int 6)]) hx hb dX10_type_39 hl (k := 0) rfl (by decide) (by decide) rfl (fun ls hl => ?_)
              refine lv_goto (tgt := 15) hx hb dX10_type_42 (by decide) ?_
              refine lv_iload hx hb dX10_type_15 (lv_at hl 0 rfl) ?_
              refine lv_iload_n hx hb dX10_type_17 rfl (lv_at hl 3 rfl) ?_
              refine lv_icmp_ge (tgt := 45) hx hb dX10_type_18 (by decide) (fun c_312 => absurd c_312 (by decide)) (fun c_312 => ?_)
              refine lv_lload_n hx hb dX10_type_21 rfl (lv_at hl 2 rfl) ?_
              refine lv_iload hx hb dX10_type_22 (lv_at hl 0 rfl) ?_
              refine cj_i (wc := []) (wr := [(zx, .inr (10, [.ref zn, .ref zk, .ref zr, .ref zl, .ref zc, .ref zs, .ref zw, .ref zt, .ref zm, .int 0])), (zr, .inr (6, [.ref zrt, .int 0, .int 0, .int 0])), (zrt, .inl (cy 0, 80, .inl (fun _ => 0)))]) (w1 := fun (_ : Unit) => []) (va_runS (As := [.long zja, .int 4]) (rest := []) ⟨hx, hb, hml, hown, hts⟩ (c_byteOf_4 l dC dI cy H.size zja) (va_cwS 2 hts gX10_type_X10_byteOf rfl rfl rfl (by decide +kernel) ⟨(Nat.le_of_ble_eq_true rfl), (Nat.le_of_ble_eq_true rfl)⟩) (PRE.s (hP.sub [] rfl) hK (hD.sub [] (by decide) rfl) hN) rfl rfl hl.1 rfl (lv_room (Nat.le_of_ble_eq_true rfl)) dX10_type_24 ⟨(Nat.le_of_ble_eq_true rfl), (Nat.le_of_ble_eq_true rfl)⟩) hP hD hS hA [] [0, 1, 2] rfl rfl rfl (by decide) (fun r_314 u_313 H locs hw_315 hP hD hS => ?_)
              have hP : va_P (dC, dI) vwCl [(zx, .inr (10, [.ref zn, .ref zk, .ref zr, .ref zl, .ref zc, .ref zs, .ref zw, .ref zt, .ref zm, .int 0])), (zr, .inr (6, [.ref zrt, .int 0, .int 0, .int 0])), (zrt, .inl (cy 0, 80, .inl (fun _ => 0)))] H := hP
              have hD : va_D A [(zx, .inr (10, [.ref zn, .ref zk, .ref zr, .ref zl, .ref zc, .ref zs, .ref zw, .ref zt, .ref zm, .int 0])), (zr, .inr (6, [.ref zrt, .int 0, .int 0, .int 0])), (zrt, .inl (cy 0, 80, .inl (fun _ => 0)))] := hD
              have hw_315 : r_314.toInt = by8 zja 4 := hw_315
              refine lv_bipush (v := 32) hx hb dX10_type_27 (by decide) ?_
              refine lv_bipush (v := 126) hx hb dX10_type_29 (by decide) ?_
              refine cj_i (wc := []) (wr := [(zx, .inr (10, [.ref zn, .ref zk, .ref zr, .ref zl, .ref zc, .ref zs, .ref zw, .ref zt, .ref zm, .int 0])), (zr, .inr (6, [.ref zrt, .int 0, .int 0, .int 0])), (zrt, .inl (cy 0, 80, .inl (fun _ => 0)))]) (w1 := fun (_ : Unit) => []) (va_runS (As := [.int r_314, .int 32, .int 126]) (rest := []) ⟨hx, hb, hml, hown, hts⟩ (c_X10_isWithin l dC dI cy H.size r_314 32 126 32 126 (by first | rfl | decide | omega | exact Int32.toInt_toInt64 _) (by first | rfl | decide | omega | exact Int32.toInt_toInt64 _)) (va_cwS 3 hts gX10_type_X10_isWithin rfl rfl rfl (by decide +kernel) ⟨(Nat.le_of_ble_eq_true rfl), (Nat.le_of_ble_eq_true rfl)⟩) (PRE.s (hP.sub [] rfl) hK (hD.sub [] (by decide) rfl) hN) rfl rfl hl.1 rfl (lv_room (Nat.le_of_ble_eq_true rfl)) dX10_type_31 ⟨(Nat.le_of_ble_eq_true rfl), (Nat.le_of_ble_eq_true rfl)⟩) hP hD hS hA [] [0, 1, 2] rfl rfl rfl (by decide) (fun r_317 u_316 H locs hw_318 hP hD hS => ?_)
              have hP : va_P (dC, dI) vwCl [(zx, .inr (10, [.ref zn, .ref zk, .ref zr, .ref zl, .ref zc, .ref zs, .ref zw, .ref zt, .ref zm, .int 0])), (zr, .inr (6, [.ref zrt, .int 0, .int 0, .int 0])), (zrt, .inl (cy 0, 80, .inl (fun _ => 0)))] H := hP
              have hD : va_D A [(zx, .inr (10, [.ref zn, .ref zk, .ref zr, .ref zl, .ref zc, .ref zs, .ref zw, .ref zt, .ref zm, .int 0])), (zr, .inr (6, [.ref zrt, .int 0, .int 0, .int 0])), (zrt, .inl (cy 0, 80, .inl (fun _ => 0)))] := hD
              have hw_318 : r_317 = if 32 ≤ r_314.toInt ∧ r_314.toInt ≤ 126 then 1 else 0 := hw_318
              refine lv_if_ne (tgt := 39) hx hb dX10_type_34 (by decide) (fun c_319 => ?_) (fun c_319 => ?_)
              · have f_320 : 32 ≤ r_314.toInt ∧ r_314.toInt ≤ 126 := bz_1 hw_318 c_319
                have g_321 : okb zja 4 := by unfold okb; rw [← hw_315]; exact f_320
                refine lv_iinc (v := 5) (lv' := [(4, .int 5), (0, .ref zx), (1, .long zja), (3, .int 6)]) hx hb dX10_type_39 hl (k := 0) rfl (by decide) (by decide) rfl (fun ls hl => ?_)
                refine lv_goto (tgt := 15) hx hb dX10_type_42 (by decide) ?_
                refine lv_iload hx hb dX10_type_15 (lv_at hl 0 rfl) ?_
                refine lv_iload_n hx hb dX10_type_17 rfl (lv_at hl 3 rfl) ?_
                refine lv_icmp_ge (tgt := 45) hx hb dX10_type_18 (by decide) (fun c_322 => absurd c_322 (by decide)) (fun c_322 => ?_)
                refine lv_lload_n hx hb dX10_type_21 rfl (lv_at hl 2 rfl) ?_
                refine lv_iload hx hb dX10_type_22 (lv_at hl 0 rfl) ?_
                refine cj_i (wc := []) (wr := [(zx, .inr (10, [.ref zn, .ref zk, .ref zr, .ref zl, .ref zc, .ref zs, .ref zw, .ref zt, .ref zm, .int 0])), (zr, .inr (6, [.ref zrt, .int 0, .int 0, .int 0])), (zrt, .inl (cy 0, 80, .inl (fun _ => 0)))]) (w1 := fun (_ : Unit) => []) (va_runS (As := [.long zja, .int 5]) (rest := []) ⟨hx, hb, hml, hown, hts⟩ (c_byteOf_5 l dC dI cy H.size zja) (va_cwS 2 hts gX10_type_X10_byteOf rfl rfl rfl (by decide +kernel) ⟨(Nat.le_of_ble_eq_true rfl), (Nat.le_of_ble_eq_true rfl)⟩) (PRE.s (hP.sub [] rfl) hK (hD.sub [] (by decide) rfl) hN) rfl rfl hl.1 rfl (lv_room (Nat.le_of_ble_eq_true rfl)) dX10_type_24 ⟨(Nat.le_of_ble_eq_true rfl), (Nat.le_of_ble_eq_true rfl)⟩) hP hD hS hA [] [0, 1, 2] rfl rfl rfl (by decide) (fun r_324 u_323 H locs hw_325 hP hD hS => ?_)
                have hP : va_P (dC, dI) vwCl [(zx, .inr (10, [.ref zn, .ref zk, .ref zr, .ref zl, .ref zc, .ref zs, .ref zw, .ref zt, .ref zm, .int 0])), (zr, .inr (6, [.ref zrt, .int 0, .int 0, .int 0])), (zrt, .inl (cy 0, 80, .inl (fun _ => 0)))] H := hP
                have hD : va_D A [(zx, .inr (10, [.ref zn, .ref zk, .ref zr, .ref zl, .ref zc, .ref zs, .ref zw, .ref zt, .ref zm, .int 0])), (zr, .inr (6, [.ref zrt, .int 0, .int 0, .int 0])), (zrt, .inl (cy 0, 80, .inl (fun _ => 0)))] := hD
                have hw_325 : r_324.toInt = by8 zja 5 := hw_325
                refine lv_bipush (v := 32) hx hb dX10_type_27 (by decide) ?_
                refine lv_bipush (v := 126) hx hb dX10_type_29 (by decide) ?_
                refine cj_i (wc := []) (wr := [(zx, .inr (10, [.ref zn, .ref zk, .ref zr, .ref zl, .ref zc, .ref zs, .ref zw, .ref zt, .ref zm, .int 0])), (zr, .inr (6, [.ref zrt, .int 0, .int 0, .int 0])), (zrt, .inl (cy 0, 80, .inl (fun _ => 0)))]) (w1 := fun (_ : Unit) => []) (va_runS (As := [.int r_324, .int 32, .int 126]) (rest := []) ⟨hx, hb, hml, hown, hts⟩ (c_X10_isWithin l dC dI cy H.size r_324 32 126 32 126 (by first | rfl | decide | omega | exact Int32.toInt_toInt64 _) (by first | rfl | decide | omega | exact Int32.toInt_toInt64 _)) (va_cwS 3 hts gX10_type_X10_isWithin rfl rfl rfl (by decide +kernel) ⟨(Nat.le_of_ble_eq_true rfl), (Nat.le_of_ble_eq_true rfl)⟩) (PRE.s (hP.sub [] rfl) hK (hD.sub [] (by decide) rfl) hN) rfl rfl hl.1 rfl (lv_room (Nat.le_of_ble_eq_true rfl)) dX10_type_31 ⟨(Nat.le_of_ble_eq_true rfl), (Nat.le_of_ble_eq_true rfl)⟩) hP hD hS hA [] [0, 1, 2] rfl rfl rfl (by decide) (fun r_327 u_326 H locs hw_328 hP hD hS => ?_)
                have hP : va_P (dC, dI) vwCl [(zx, .inr (10, [.ref zn, .ref zk, .ref zr, .ref zl, .ref zc, .ref zs, .ref zw, .ref zt, .ref zm, .int 0])), (zr, .inr (6, [.ref zrt, .int 0, .int 0, .int 0])), (zrt, .inl (cy 0, 80, .inl (fun _ => 0)))] H := hP
                have hD : va_D A [(zx, .inr (10, [.ref zn, .ref zk, .ref zr, .ref zl, .ref zc, .ref zs, .ref zw, .ref zt, .ref zm, .int 0])), (zr, .inr (6, [.ref zrt, .int 0, .int 0, .int 0])), (zrt, .inl (cy 0, 80, .inl (fun _ => 0)))] := hD
                have hw_328 : r_327 = if 32 ≤ r_324.toInt ∧ r_324.toInt ≤ 126 then 1 else 0 := hw_328
                refine lv_if_ne (tgt := 39) hx hb dX10_type_34 (by decide) (fun c_329 => ?_) (fun c_329 => ?_)
                · have f_330 : 32 ≤ r_324.toInt ∧ r_324.toInt ≤ 126 := bz_1 hw_328 c_329
                  have g_331 : okb zja 5 := by unfold okb; rw [← hw_325]; exact f_330
                  refine lv_iinc (v := 6) (lv' := [(4, .int 6), (0, .ref zx), (1, .long zja), (3, .int 6)]) hx hb dX10_type_39 hl (k := 0) rfl (by decide) (by decide) rfl (fun ls hl => ?_)
                  refine lv_goto (tgt := 15) hx hb dX10_type_42 (by decide) ?_
                  refine lv_iload hx hb dX10_type_15 (lv_at hl 0 rfl) ?_
                  refine lv_iload_n hx hb dX10_type_17 rfl (lv_at hl 3 rfl) ?_
                  refine lv_icmp_ge (tgt := 45) hx hb dX10_type_18 (by decide) (fun c_332 => ?_) (fun c_332 => absurd (by decide) c_332)
                  refine lv_aload_n hx hb dX10_type_45 rfl (lv_at hl 1 rfl) ?_
                  refine va_get (D := (dC, dI)) (ci := 10) (v := .ref zr) (C := RX10) (T := TX10) (N := 10) hx hb hts (by decide +kernel) hown hK hP 0 rfl rfl 2 (by decide) (hts (.fieldLink RX10 22 "DripStone" "reader" "LDripStone$Reader;") (by decide +kernel)) (fun _ h9 => h9) rfl dX10_type_46 ?_
                  refine va_get (D := (dC, dI)) (ci := 6) (v := .int 0) (C := RX6) (T := TX6) (N := 4) hx hb hts (by decide +kernel) hown hK hP 1 rfl rfl 1 (by decide) (hts (.fieldLink RX10 116 "DripStone$Reader" "typed" "I") (by decide +kernel)) (fun _ h9 => h9) rfl dX10_type_49 ?_
                  refine lv_iload_n hx hb dX10_type_52 rfl (lv_at hl 3 rfl) ?_
                  refine lv_iadd hx hb dX10_type_53 ?_
                  refine lv_topi (fun v_333 ev_333 => ?_)
                  obtain rfl : v_333 = (6 : Int32) := ev_333.trans (by decide)
                  refine lv_bipush (v := 80) hx hb dX10_type_54 (by decide) ?_
                  refine lv_icmp_le (tgt := 62) hx hb dX10_type_56 (by decide) (fun c_334 => ?_) (fun c_334 => absurd (by decide) c_334)
                  refine lv_iload_n hx hb dX10_type_62 rfl (lv_at hl 3 rfl) ?_
                  refine lv_iconst (v := 1) hx hb dX10_type_63 (by decide) ?_
                  refine lv_isub hx hb dX10_type_64 ?_
                  refine lv_topi (fun v_335 ev_335 => ?_)
                  obtain rfl : v_335 = (5 : Int32) := ev_335.trans (by decide)
                  refine lv_istore (lv' := [(4, .int 5), (0, .ref zx), (1, .long zja), (3, .int 6)]) hx hb dX10_type_65 hl (by decide) rfl (fun ls hl => ?_)
                  refine lv_iload hx hb dX10_type_67 (lv_at hl 0 rfl) ?_
                  refine lv_if_lt (tgt := 112) hx hb dX10_type_69 (by decide) (fun c_336 => absurd c_336 (by decide)) (fun c_336 => ?_)
                  refine lv_aload_n hx hb dX10_type_72 rfl (lv_at hl 1 rfl) ?_
                  refine va_get (D := (dC, dI)) (ci := 10) (v := .ref zr) (C := RX10) (T := TX10) (N := 10) hx hb hts (by decide +kernel) hown hK hP 0 rfl rfl 2 (by decide) (hts (.fieldLink RX10 22 "DripStone" "reader" "LDripStone$Reader;") (by decide +kernel)) (fun _ h9 => h9) rfl dX10_type_73 ?_
                  refine va_get (D := (dC, dI)) (ci := 6) (v := .ref zrt) (C := RX6) (T := TX6) (N := 4) hx hb hts (by decide +kernel) hown hK hP 1 rfl rfl 0 (by decide) (hts (.fieldLink RX10 119 "DripStone$Reader" "tape" "[I") (by decide +kernel)) (fun _ h9 => h9) rfl dX10_type_76 ?_
                  refine lv_aload_n hx hb dX10_type_79 rfl (lv_at hl 1 rfl) ?_
                  refine va_get (D := (dC, dI)) (ci := 10) (v := .ref zr) (C := RX10) (T := TX10) (N := 10) hx hb hts (by decide +kernel) hown hK hP 0 rfl rfl 2 (by decide) (hts (.fieldLink RX10 22 "DripStone" "reader" "LDripStone$Reader;") (by decide +kernel)) (fun _ h9 => h9) rfl dX10_type_80 ?_
                  refine va_get (D := (dC, dI)) (ci := 6) (v := .int 0) (C := RX6) (T := TX6) (N := 4) hx hb hts (by decide +kernel) hown hK hP 1 rfl rfl 1 (by decide) (hts (.fieldLink RX10 116 "DripStone$Reader" "typed" "I") (by decide +kernel)) (fun _ h9 => h9) rfl dX10_type_83 ?_
                  refine lv_lload_n hx hb dX10_type_86 rfl (lv_at hl 2 rfl) ?_
                  refine lv_iload hx hb dX10_type_87 (lv_at hl 0 rfl) ?_
                  refine cj_i (wc := []) (wr := [(zx, .inr (10, [.ref zn, .ref zk, .ref zr, .ref zl, .ref zc, .ref zs, .ref zw, .ref zt, .ref zm, .int 0])), (zr, .inr (6, [.ref zrt, .int 0, .int 0, .int 0])), (zrt, .inl (cy 0, 80, .inl (fun _ => 0)))]) (w1 := fun (_ : Unit) => []) (va_runS (As := [.long zja, .int 5]) (rest := [.int 0, .ref zrt]) ⟨hx, hb, hml, hown, hts⟩ (c_byteOf_5 l dC dI cy H.size zja) (va_cwS 2 hts gX10_type_X10_byteOf rfl rfl rfl (by decide +kernel) ⟨(Nat.le_of_ble_eq_true rfl), (Nat.le_of_ble_eq_true rfl)⟩) (PRE.s (hP.sub [] rfl) hK (hD.sub [] (by decide) rfl) hN) rfl rfl hl.1 rfl (lv_room (Nat.le_of_ble_eq_true rfl)) dX10_type_89 ⟨(Nat.le_of_ble_eq_true rfl), (Nat.le_of_ble_eq_true rfl)⟩) hP hD hS hA [] [0, 1, 2] rfl rfl rfl (by decide) (fun r_338 u_337 H locs hw_339 hP hD hS => ?_)
                  have hP : va_P (dC, dI) vwCl [(zx, .inr (10, [.ref zn, .ref zk, .ref zr, .ref zl, .ref zc, .ref zs, .ref zw, .ref zt, .ref zm, .int 0])), (zr, .inr (6, [.ref zrt, .int 0, .int 0, .int 0])), (zrt, .inl (cy 0, 80, .inl (fun _ => 0)))] H := hP
                  have hD : va_D A [(zx, .inr (10, [.ref zn, .ref zk, .ref zr, .ref zl, .ref zc, .ref zs, .ref zw, .ref zt, .ref zm, .int 0])), (zr, .inr (6, [.ref zrt, .int 0, .int 0, .int 0])), (zrt, .inl (cy 0, 80, .inl (fun _ => 0)))] := hD
                  have hw_339 : r_338.toInt = by8 zja 5 := hw_339
                  refine va_iast hx hb hK hP hD hS 2 0 rfl rfl (vp_in_iff.mpr ⟨by decide, by decide⟩) dX10_type_92 (fun H locs hP hD hS => ?_)
                  have hP : va_P (dC, dI) vwCl [(zx, .inr (10, [.ref zn, .ref zk, .ref zr, .ref zl, .ref zc, .ref zs, .ref zw, .ref zt, .ref zm, .int 0])), (zr, .inr (6, [.ref zrt, .int 0, .int 0, .int 0])), (zrt, .inl (cy 0, 80, .inl (upd (fun _ => 0) (0 : Int32).toNatClampNeg r_338)))] H := hP
                  have hD : va_D A [(zx, .inr (10, [.ref zn, .ref zk, .ref zr, .ref zl, .ref zc, .ref zs, .ref zw, .ref zt, .ref zm, .int 0])), (zr, .inr (6, [.ref zrt, .int 0, .int 0, .int 0])), (zrt, .inl (cy 0, 80, .inl (upd (fun _ => 0) (0 : Int32).toNatClampNeg r_338)))] := hD
                  refine lv_aload_n hx hb dX10_type_93 rfl (lv_at hl 1 rfl) ?_
                  refine va_get (D := (dC, dI)) (ci := 10) (v := .ref zr) (C := RX10) (T := TX10) (N := 10) hx hb hts (by decide +kernel) hown hK hP 0 rfl rfl 2 (by decide) (hts (.fieldLink RX10 22 "DripStone" "reader" "LDripStone$Reader;") (by decide +kernel)) (fun _ h9 => h9) rfl dX10_type_94 ?_
                  refine lv_dup hx hb dX10_type_97 rfl ?_
                  refine va_get (D := (dC, dI)) (ci := 6) (v := .int 0) (C := RX6) (T := TX6) (N := 4) hx hb hts (by decide +kernel) hown hK hP 1 rfl rfl 1 (by decide) (hts (.fieldLink RX10 116 "DripStone$Reader" "typed" "I") (by decide +kernel)) (fun _ h9 => h9) rfl dX10_type_98 ?_
                  refine lv_iconst (v := 1) hx hb dX10_type_101 (by decide) ?_
                  refine lv_iadd hx hb dX10_type_102 ?_
                  refine lv_topi (fun v_340 ev_340 => ?_)
                  obtain rfl : v_340 = (1 : Int32) := ev_340.trans (by decide)
                  refine va_put (D := (dC, dI)) (ci := 6) (v := .int 1) (ty := .int) (C := RX6) (T := TX6) (N := 4) hx hb hts (by decide +kernel) tyX6 tyX6_ok nmX6 hown hK hP hD hS 1 rfl rfl 1 (by decide) (hts (.fieldLink RX10 116 "DripStone$Reader" "typed" "I") (by decide +kernel)) (fun _ h9 => h9) rfl (by decide +kernel) rfl rfl (Nat.le_of_ble_eq_true rfl) dX10_type_103 (fun H locs hP hD hS => ?_)
                  have hP : va_P (dC, dI) vwCl [(zx, .inr (10, [.ref zn, .ref zk, .ref zr, .ref zl, .ref zc, .ref zs, .ref zw, .ref zt, .ref zm, .int 0])), (zr, .inr (6, [.ref zrt, .int 1, .int 0, .int 0])), (zrt, .inl (cy 0, 80, .inl (upd (fun _ => 0) (0 : Int32).toNatClampNeg r_338)))] H := hP
                  have hD : va_D A [(zx, .inr (10, [.ref zn, .ref zk, .ref zr, .ref zl, .ref zc, .ref zs, .ref zw, .ref zt, .ref zm, .int 0])), (zr, .inr (6, [.ref zrt, .int 1, .int 0, .int 0])), (zrt, .inl (cy 0, 80, .inl (upd (fun _ => 0) (0 : Int32).toNatClampNeg r_338)))] := hD
                  refine lv_iinc (v := 4) (lv' := [(4, .int 4), (0, .ref zx), (1, .long zja), (3, .int 6)]) hx hb dX10_type_106 hl (k := 0) rfl (by decide) (by decide) rfl (fun ls hl => ?_)
                  refine lv_goto (tgt := 67) hx hb dX10_type_109 (by decide) ?_
                  refine lv_iload hx hb dX10_type_67 (lv_at hl 0 rfl) ?_
                  refine lv_if_lt (tgt := 112) hx hb dX10_type_69 (by decide) (fun c_341 => absurd c_341 (by decide)) (fun c_341 => ?_)
                  refine lv_aload_n hx hb dX10_type_72 rfl (lv_at hl 1 rfl) ?_
                  refine va_get (D := (dC, dI)) (ci := 10) (v := .ref zr) (C := RX10) (T := TX10) (N := 10) hx hb hts (by decide +kernel) hown hK hP 0 rfl rfl 2 (by decide) (hts (.fieldLink RX10 22 "DripStone" "reader" "LDripStone$Reader;") (by decide +kernel)) (fun _ h9 => h9) rfl dX10_type_73 ?_
                  refine va_get (D := (dC, dI)) (ci := 6) (v := .ref zrt) (C := RX6) (T := TX6) (N := 4) hx hb hts (by decide +kernel) hown hK hP 1 rfl rfl 0 (by decide) (hts (.fieldLink RX10 119 "DripStone$Reader" "tape" "[I") (by decide +kernel)) (fun _ h9 => h9) rfl dX10_type_76 ?_
                  refine lv_aload_n hx hb dX10_type_79 rfl (lv_at hl 1 rfl) ?_
                  refine va_get (D := (dC, dI)) (ci := 10) (v := .ref zr) (C := RX10) (T := TX10) (N := 10) hx hb hts (by decide +kernel) hown hK hP 0 rfl rfl 2 (by decide) (hts (.fieldLink RX10 22 "DripStone" "reader" "LDripStone$Reader;") (by decide +kernel)) (fun _ h9 => h9) rfl dX10_type_80 ?_
                  refine va_get (D := (dC, dI)) (ci := 6) (v := .int 1) (C := RX6) (T := TX6) (N := 4) hx hb hts (by decide +kernel) hown hK hP 1 rfl rfl 1 (by decide) (hts (.fieldLink RX10 116 "DripStone$Reader" "typed" "I") (by decide +kernel)) (fun _ h9 => h9) rfl dX10_type_83 ?_
                  refine lv_lload_n hx hb dX10_type_86 rfl (lv_at hl 2 rfl) ?_
                  refine lv_iload hx hb dX10_type_87 (lv_at hl 0 rfl) ?_
                  refine cj_i (wc := []) (wr := [(zx, .inr (10, [.ref zn, .ref zk, .ref zr, .ref zl, .ref zc, .ref zs, .ref zw, .ref zt, .ref zm, .int 0])), (zr, .inr (6, [.ref zrt, .int 1, .int 0, .int 0])), (zrt, .inl (cy 0, 80, .inl (upd (fun _ => 0) (0 : Int32).toNatClampNeg r_338)))]) (w1 := fun (_ : Unit) => []) (va_runS (As := [.long zja, .int 4]) (rest := [.int 1, .ref zrt]) ⟨hx, hb, hml, hown, hts⟩ (c_byteOf_4 l dC dI cy H.size zja) (va_cwS 2 hts gX10_type_X10_byteOf rfl rfl rfl (by decide +kernel) ⟨(Nat.le_of_ble_eq_true rfl), (Nat.le_of_ble_eq_true rfl)⟩) (PRE.s (hP.sub [] rfl) hK (hD.sub [] (by decide) rfl) hN) rfl rfl hl.1 rfl (lv_room (Nat.le_of_ble_eq_true rfl)) dX10_type_89 ⟨(Nat.le_of_ble_eq_true rfl), (Nat.le_of_ble_eq_true rfl)⟩) hP hD hS hA [] [0, 1, 2] rfl rfl rfl (by decide) (fun r_343 u_342 H locs hw_344 hP hD hS => ?_)
                  have hP : va_P (dC, dI) vwCl [(zx, .inr (10, [.ref zn, .ref zk, .ref zr, .ref zl, .ref zc, .ref zs, .ref zw, .ref zt, .ref zm, .int 0])), (zr, .inr (6, [.ref zrt, .int 1, .int 0, .int 0])), (zrt, .inl (cy 0, 80, .inl (upd (fun _ => 0) (0 : Int32).toNatClampNeg r_338)))] H := hP
                  have hD : va_D A [(zx, .inr (10, [.ref zn, .ref zk, .ref zr, .ref zl, .ref zc, .ref zs, .ref zw, .ref zt, .ref zm, .int 0])), (zr, .inr (6, [.ref zrt, .int 1, .int 0, .int 0])), (zrt, .inl (cy 0, 80, .inl (upd (fun _ => 0) (0 : Int32).toNatClampNeg r_338)))] := hD
                  have hw_344 : r_343.toInt = by8 zja 4 := hw_344
                  refine va_iast hx hb hK hP hD hS 2 0 rfl rfl (vp_in_iff.mpr ⟨by decide, by decide⟩) dX10_type_92 (fun H locs hP hD hS => ?_)
                  have hP : va_P (dC, dI) vwCl [(zx, .inr (10, [.ref zn, .ref zk, .ref zr, .ref zl, .ref zc, .ref zs, .ref zw, .ref zt, .ref zm, .int 0])), (zr, .inr (6, [.ref zrt, .int 1, .int 0, .int 0])), (zrt, .inl (cy 0, 80, .inl (upd (upd (fun _ => 0) (0 : Int32).toNatClampNeg r_338) (1 : Int32).toNatClampNeg r_343)))] H := hP
                  have hD : va_D A [(zx, .inr (10, [.ref zn, .ref zk, .ref zr, .ref zl, .ref zc, .ref zs, .ref zw, .ref zt, .ref zm, .int 0])), (zr, .inr (6, [.ref zrt, .int 1, .int 0, .int 0])), (zrt, .inl (cy 0, 80, .inl (upd (upd (fun _ => 0) (0 : Int32).toNatClampNeg r_338) (1 : Int32).toNatClampNeg r_343)))] := hD
                  refine lv_aload_n hx hb dX10_type_93 rfl (lv_at hl 1 rfl) ?_
                  refine va_get (D := (dC, dI)) (ci := 10) (v := .ref zr) (C := RX10) (T := TX10) (N := 10) hx hb hts (by decide +kernel) hown hK hP 0 rfl rfl 2 (by decide) (hts (.fieldLink RX10 22 "DripStone" "reader" "LDripStone$Reader;") (by decide +kernel)) (fun _ h9 => h9) rfl dX10_type_94 ?_
                  refine lv_dup hx hb dX10_type_97 rfl ?_
                  refine va_get (D := (dC, dI)) (ci := 6) (v := .int 1) (C := RX6) (T := TX6) (N := 4) hx hb hts (by decide +kernel) hown hK hP 1 rfl rfl 1 (by decide) (hts (.fieldLink RX10 116 "DripStone$Reader" "typed" "I") (by decide +kernel)) (fun _ h9 => h9) rfl dX10_type_98 ?_
                  refine lv_iconst (v := 1) hx hb dX10_type_101 (by decide) ?_
                  refine lv_iadd hx hb dX10_type_102 ?_
                  refine lv_topi (fun v_345 ev_345 => ?_)
                  obtain rfl : v_345 = (2 : Int32) := ev_345.trans (by decide)
                  refine va_put (D := (dC, dI)) (ci := 6) (v := .int 2) (ty := .int) (C := RX6) (T := TX6) (N := 4) hx hb hts (by decide +kernel) tyX6 tyX6_ok nmX6 hown hK hP hD hS 1 rfl rfl 1 (by decide) (hts (.fieldLink RX10 116 "DripStone$Reader" "typed" "I") (by decide +kernel)) (fun _ h9 => h9) rfl (by decide +kernel) rfl rfl (Nat.le_of_ble_eq_true rfl) dX10_type_103 (fun H locs hP hD hS => ?_)
                  have hP : va_P (dC, dI) vwCl [(zx, .inr (10, [.ref zn, .ref zk, .ref zr, .ref zl, .ref zc, .ref zs, .ref zw, .ref zt, .ref zm, .int 0])), (zr, .inr (6, [.ref zrt, .int 2, .int 0, .int 0])), (zrt, .inl (cy 0, 80, .inl (upd (upd (fun _ => 0) (0 : Int32).toNatClampNeg r_338) (1 : Int32).toNatClampNeg r_343)))] H := hP
                  have hD : va_D A [(zx, .inr (10, [.ref zn, .ref zk, .ref zr, .ref zl, .ref zc, .ref zs, .ref zw, .ref zt, .ref zm, .int 0])), (zr, .inr (6, [.ref zrt, .int 2, .int 0, .int 0])), (zrt, .inl (cy 0, 80, .inl (upd (upd (fun _ => 0) (0 : Int32).toNatClampNeg r_338) (1 : Int32).toNatClampNeg r_343)))] := hD
                  refine lv_iinc (v := 3) (lv' := [(4, .int 3), (0, .ref zx), (1, .long zja), (3, .int 6)]) hx hb dX10_type_106 hl (k := 0) rfl (by decide) (by decide) rfl (fun ls hl => ?_)
                  refine lv_goto (tgt := 67) hx hb dX10_type_109 (by decide) ?_
                  refine lv_iload hx hb dX10_type_67 (lv_at hl 0 rfl) ?_
                  refine lv_if_lt (tgt := 112) hx hb dX10_type_69 (by decide) (fun c_346 => absurd c_346 (by decide)) (fun c_346 => ?_)
                  refine lv_aload_n hx hb dX10_type_72 rfl (lv_at hl 1 rfl) ?_
                  refine va_get (D := (dC, dI)) (ci := 10) (v := .ref zr) (C := RX10) (T := TX10) (N := 10) hx hb hts (by decide +kernel) hown hK hP 0 rfl rfl 2 (by decide) (hts (.fieldLink RX10 22 "DripStone" "reader" "LDripStone$Reader;") (by decide +kernel)) (fun _ h9 => h9) rfl dX10_type_73 ?_
                  refine va_get (D := (dC, dI)) (ci := 6) (v := .ref zrt) (C := RX6) (T := TX6) (N := 4) hx hb hts (by decide +kernel) hown hK hP 1 rfl rfl 0 (by decide) (hts (.fieldLink RX10 119 "DripStone$Reader" "tape" "[I") (by decide +kernel)) (fun _ h9 => h9) rfl dX10_type_76 ?_
                  refine lv_aload_n hx hb dX10_type_79 rfl (lv_at hl 1 rfl) ?_
                  refine va_get (D := (dC, dI)) (ci := 10) (v := .ref zr) (C := RX10) (T := TX10) (N := 10) hx hb hts (by decide +kernel) hown hK hP 0 rfl rfl 2 (by decide) (hts (.fieldLink RX10 22 "DripStone" "reader" "LDripStone$Reader;") (by decide +kernel)) (fun _ h9 => h9) rfl dX10_type_80 ?_
                  refine va_get (D := (dC, dI)) (ci := 6) (v := .int 2) (C := RX6) (T := TX6) (N := 4) hx hb hts (by decide +kernel) hown hK hP 1 rfl rfl 1 (by decide) (hts (.fieldLink RX10 116 "DripStone$Reader" "typed" "I") (by decide +kernel)) (fun _ h9 => h9) rfl dX10_type_83 ?_
                  refine lv_lload_n hx hb dX10_type_86 rfl (lv_at hl 2 rfl) ?_
                  refine lv_iload hx hb dX10_type_87 (lv_at hl 0 rfl) ?_
                  refine cj_i (wc := []) (wr := [(zx, .inr (10, [.ref zn, .ref zk, .ref zr, .ref zl, .ref zc, .ref zs, .ref zw, .ref zt, .ref zm, .int 0])), (zr, .inr (6, [.ref zrt, .int 2, .int 0, .int 0])), (zrt, .inl (cy 0, 80, .inl (upd (upd (fun _ => 0) (0 : Int32).toNatClampNeg r_338) (1 : Int32).toNatClampNeg r_343)))]) (w1 := fun (_ : Unit) => []) (va_runS (As := [.long zja, .int 3]) (rest := [.int 2, .ref zrt]) ⟨hx, hb, hml, hown, hts⟩ (c_byteOf_3 l dC dI cy H.size zja) (va_cwS 2 hts gX10_type_X10_byteOf rfl rfl rfl (by decide +kernel) ⟨(Nat.le_of_ble_eq_true rfl), (Nat.le_of_ble_eq_true rfl)⟩) (PRE.s (hP.sub [] rfl) hK (hD.sub [] (by decide) rfl) hN) rfl rfl hl.1 rfl (lv_room (Nat.le_of_ble_eq_true rfl)) dX10_type_89 ⟨(Nat.le_of_ble_eq_true rfl), (Nat.le_of_ble_eq_true rfl)⟩) hP hD hS hA [] [0, 1, 2] rfl rfl rfl (by decide) (fun r_348 u_347 H locs hw_349 hP hD hS => ?_)
                  have hP : va_P (dC, dI) vwCl [(zx, .inr (10, [.ref zn, .ref zk, .ref zr, .ref zl, .ref zc, .ref zs, .ref zw, .ref zt, .ref zm, .int 0])), (zr, .inr (6, [.ref zrt, .int 2, .int 0, .int 0])), (zrt, .inl (cy 0, 80, .inl (upd (upd (fun _ => 0) (0 : Int32).toNatClampNeg r_338) (1 : Int32).toNatClampNeg r_343)))] H := hP
                  have hD : va_D A [(zx, .inr (10, [.ref zn, .ref zk, .ref zr, .ref zl, .ref zc, .ref zs, .ref zw, .ref zt, .ref zm, .int 0])), (zr, .inr (6, [.ref zrt, .int 2, .int 0, .int 0])), (zrt, .inl (cy 0, 80, .inl (upd (upd (fun _ => 0) (0 : Int32).toNatClampNeg r_338) (1 : Int32).toNatClampNeg r_343)))] := hD
                  have hw_349 : r_348.toInt = by8 zja 3 := hw_349
                  refine va_iast hx hb hK hP hD hS 2 0 rfl rfl (vp_in_iff.mpr ⟨by decide, by decide⟩) dX10_type_92 (fun H locs hP hD hS => ?_)
                  have hP : va_P (dC, dI) vwCl [(zx, .inr (10, [.ref zn, .ref zk, .ref zr, .ref zl, .ref zc, .ref zs, .ref zw, .ref zt, .ref zm, .int 0])), (zr, .inr (6, [.ref zrt, .int 2, .int 0, .int 0])), (zrt, .inl (cy 0, 80, .inl (upd (upd (upd (fun _ => 0) (0 : Int32).toNatClampNeg r_338) (1 : Int32).toNatClampNeg r_343) (2 : Int32).toNatClampNeg r_348)))] H := hP
                  have hD : va_D A [(zx, .inr (10, [.ref zn, .ref zk, .ref zr, .ref zl, .ref zc, .ref zs, .ref zw, .ref zt, .ref zm, .int 0])), (zr, .inr (6, [.ref zrt, .int 2, .int 0, .int 0])), (zrt, .inl (cy 0, 80, .inl (upd (upd (upd (fun _ => 0) (0 : Int32).toNatClampNeg r_338) (1 : Int32).toNatClampNeg r_343) (2 : Int32).toNatClampNeg r_348)))] := hD
                  refine lv_aload_n hx hb dX10_type_93 rfl (lv_at hl 1 rfl) ?_
                  refine va_get (D := (dC, dI)) (ci := 10) (v := .ref zr) (C := RX10) (T := TX10) (N := 10) hx hb hts (by decide +kernel) hown hK hP 0 rfl rfl 2 (by decide) (hts (.fieldLink RX10 22 "DripStone" "reader" "LDripStone$Reader;") (by decide +kernel)) (fun _ h9 => h9) rfl dX10_type_94 ?_
                  refine lv_dup hx hb dX10_type_97 rfl ?_
                  refine va_get (D := (dC, dI)) (ci := 6) (v := .int 2) (C := RX6) (T := TX6) (N := 4) hx hb hts (by decide +kernel) hown hK hP 1 rfl rfl 1 (by decide) (hts (.fieldLink RX10 116 "DripStone$Reader" "typed" "I") (by decide +kernel)) (fun _ h9 => h9) rfl dX10_type_98 ?_
                  refine lv_iconst (v := 1) hx hb dX10_type_101 (by decide) ?_
                  refine lv_iadd hx hb dX10_type_102 ?_
                  refine lv_topi (fun v_350 ev_350 => ?_)
                  obtain rfl : v_350 = (3 : Int32) := ev_350.trans (by decide)
                  refine va_put (D := (dC, dI)) (ci := 6) (v := .int 3) (ty := .int) (C := RX6) (T := TX6) (N := 4) hx hb hts (by decide +kernel) tyX6 tyX6_ok nmX6 hown hK hP hD hS 1 rfl rfl 1 (by decide) (hts (.fieldLink RX10 116 "DripStone$Reader" "typed" "I") (by decide +kernel)) (fun _ h9 => h9) rfl (by decide +kernel) rfl rfl (Nat.le_of_ble_eq_true rfl) dX10_type_103 (fun H locs hP hD hS => ?_)
                  have hP : va_P (dC, dI) vwCl [(zx, .inr (10, [.ref zn, .ref zk, .ref zr, .ref zl, .ref zc, .ref zs, .ref zw, .ref zt, .ref zm, .int 0])), (zr, .inr (6, [.ref zrt, .int 3, .int 0, .int 0])), (zrt, .inl (cy 0, 80, .inl (upd (upd (upd (fun _ => 0) (0 : Int32).toNatClampNeg r_338) (1 : Int32).toNatClampNeg r_343) (2 : Int32).toNatClampNeg r_348)))] H := hP
                  have hD : va_D A [(zx, .inr (10, [.ref zn, .ref zk, .ref zr, .ref zl, .ref zc, .ref zs, .ref zw, .ref zt, .ref zm, .int 0])), (zr, .inr (6, [.ref zrt, .int 3, .int 0, .int 0])), (zrt, .inl (cy 0, 80, .inl (upd (upd (upd (fun _ => 0) (0 : Int32).toNatClampNeg r_338) (1 : Int32).toNatClampNeg r_343) (2 : Int32).toNatClampNeg r_348)))] := hD
                  refine lv_iinc (v := 2) (lv' := [(4, .int 2), (0, .ref zx), (1, .long zja), (3, .int 6)]) hx hb dX10_type_106 hl (k := 0) rfl (by decide) (by decide) rfl (fun ls hl => ?_)
                  refine lv_goto (tgt := 67) hx hb dX10_type_109 (by decide) ?_
                  refine lv_iload hx hb dX10_type_67 (lv_at hl 0 rfl) ?_
                  refine lv_if_lt (tgt := 112) hx hb dX10_type_69 (by decide) (fun c_351 => absurd c_351 (by decide)) (fun c_351 => ?_)
                  refine lv_aload_n hx hb dX10_type_72 rfl (lv_at hl 1 rfl) ?_
                  refine va_get (D := (dC, dI)) (ci := 10) (v := .ref zr) (C := RX10) (T := TX10) (N := 10) hx hb hts (by decide +kernel) hown hK hP 0 rfl rfl 2 (by decide) (hts (.fieldLink RX10 22 "DripStone" "reader" "LDripStone$Reader;") (by decide +kernel)) (fun _ h9 => h9) rfl dX10_type_73 ?_
                  refine va_get (D := (dC, dI)) (ci := 6) (v := .ref zrt) (C := RX6) (T := TX6) (N := 4) hx hb hts (by decide +kernel) hown hK hP 1 rfl rfl 0 (by decide) (hts (.fieldLink RX10 119 "DripStone$Reader" "tape" "[I") (by decide +kernel)) (fun _ h9 => h9) rfl dX10_type_76 ?_
                  refine lv_aload_n hx hb dX10_type_79 rfl (lv_at hl 1 rfl) ?_
                  refine va_get (D := (dC, dI)) (ci := 10) (v := .ref zr) (C := RX10) (T := TX10) (N := 10) hx hb hts (by decide +kernel) hown hK hP 0 rfl rfl 2 (by decide) (hts (.fieldLink RX10 22 "DripStone" "reader" "LDripStone$Reader;") (by decide +kernel)) (fun _ h9 => h9) rfl dX10_type_80 ?_
                  refine va_get (D := (dC, dI)) (ci := 6) (v := .int 3) (C := RX6) (T := TX6) (N := 4) hx hb hts (by decide +kernel) hown hK hP 1 rfl rfl 1 (by decide) (hts (.fieldLink RX10 116 "DripStone$Reader" "typed" "I") (by decide +kernel)) (fun _ h9 => h9) rfl dX10_type_83 ?_
                  refine lv_lload_n hx hb dX10_type_86 rfl (lv_at hl 2 rfl) ?_
                  refine lv_iload hx hb dX10_type_87 (lv_at hl 0 rfl) ?_
                  refine cj_i (wc := []) (wr := [(zx, .inr (10, [.ref zn, .ref zk, .ref zr, .ref zl, .ref zc, .ref zs, .ref zw, .ref zt, .ref zm, .int 0])), (zr, .inr (6, [.ref zrt, .int 3, .int 0, .int 0])), (zrt, .inl (cy 0, 80, .inl (upd (upd (upd (fun _ => 0) (0 : Int32).toNatClampNeg r_338) (1 : Int32).toNatClampNeg r_343) (2 : Int32).toNatClampNeg r_348)))]) (w1 := fun (_ : Unit) => []) (va_runS (As := [.long zja, .int 2]) (rest := [.int 3, .ref zrt]) ⟨hx, hb, hml, hown, hts⟩ (c_byteOf_2 l dC dI cy H.size zja) (va_cwS 2 hts gX10_type_X10_byteOf rfl rfl rfl (by decide +kernel) ⟨(Nat.le_of_ble_eq_true rfl), (Nat.le_of_ble_eq_true rfl)⟩) (PRE.s (hP.sub [] rfl) hK (hD.sub [] (by decide) rfl) hN) rfl rfl hl.1 rfl (lv_room (Nat.le_of_ble_eq_true rfl)) dX10_type_89 ⟨(Nat.le_of_ble_eq_true rfl), (Nat.le_of_ble_eq_true rfl)⟩) hP hD hS hA [] [0, 1, 2] rfl rfl rfl (by decide) (fun r_353 u_352 H locs hw_354 hP hD hS => ?_)
                  have hP : va_P (dC, dI) vwCl [(zx, .inr (10, [.ref zn, .ref zk, .ref zr, .ref zl, .ref zc, .ref zs, .ref zw, .ref zt, .ref zm, .int 0])), (zr, .inr (6, [.ref zrt, .int 3, .int 0, .int 0])), (zrt, .inl (cy 0, 80, .inl (upd (upd (upd (fun _ => 0) (0 : Int32).toNatClampNeg r_338) (1 : Int32).toNatClampNeg r_343) (2 : Int32).toNatClampNeg r_348)))] H := hP
                  have hD : va_D A [(zx, .inr (10, [.ref zn, .ref zk, .ref zr, .ref zl, .ref zc, .ref zs, .ref zw, .ref zt, .ref zm, .int 0])), (zr, .inr (6, [.ref zrt, .int 3, .int 0, .int 0])), (zrt, .inl (cy 0, 80, .inl (upd (upd (upd (fun _ => 0) (0 : Int32).toNatClampNeg r_338) (1 : Int32).toNatClampNeg r_343) (2 : Int32).toNatClampNeg r_348)))] := hD
                  have hw_354 : r_353.toInt = by8 zja 2 := hw_354
                  refine va_iast hx hb hK hP hD hS 2 0 rfl rfl (vp_in_iff.mpr ⟨by decide, by decide⟩) dX10_type_92 (fun H locs hP hD hS => ?_)
                  have hP : va_P (dC, dI) vwCl [(zx, .inr (10, [.ref zn, .ref zk, .ref zr, .ref zl, .ref zc, .ref zs, .ref zw, .ref zt, .ref zm, .int 0])), (zr, .inr (6, [.ref zrt, .int 3, .int 0, .int 0])), (zrt, .inl (cy 0, 80, .inl (upd (upd (upd (upd (fun _ => 0) (0 : Int32).toNatClampNeg r_338) (1 : Int32).toNatClampNeg r_343) (2 : Int32).toNatClampNeg r_348) (3 : Int32).toNatClampNeg r_353)))] H := hP
                  have hD : va_D A [(zx, .inr (10, [.ref zn, .ref zk, .ref zr, .ref zl, .ref zc, .ref zs, .ref zw, .ref zt, .ref zm, .int 0])), (zr, .inr (6, [.ref zrt, .int 3, .int 0, .int 0])), (zrt, .inl (cy 0, 80, .inl (upd (upd (upd (upd (fun _ => 0) (0 : Int32).toNatClampNeg r_338) (1 : Int32).toNatClampNeg r_343) (2 : Int32).toNatClampNeg r_348) (3 : Int32).toNatClampNeg r_353)))] := hD
                  refine lv_aload_n hx hb dX10_type_93 rfl (lv_at hl 1 rfl) ?_
                  refine va_get (D := (dC, dI)) (ci := 10) (v := .ref zr) (C := RX10) (T := TX10) (N := 10) hx hb hts (by decide +kernel) hown hK hP 0 rfl rfl 2 (by decide) (hts (.fieldLink RX10 22 "DripStone" "reader" "LDripStone$Reader;") (by decide +kernel)) (fun _ h9 => h9) rfl dX10_type_94 ?_
                  refine lv_dup hx hb dX10_type_97 rfl ?_
                  refine va_get (D := (dC, dI)) (ci := 6) (v := .int 3) (C := RX6) (T := TX6) (N := 4) hx hb hts (by decide +kernel) hown hK hP 1 rfl rfl 1 (by decide) (hts (.fieldLink RX10 116 "DripStone$Reader" "typed" "I") (by decide +kernel)) (fun _ h9 => h9) rfl dX10_type_98 ?_
                  refine lv_iconst (v := 1) hx hb dX10_type_101 (by decide) ?_
                  refine lv_iadd hx hb dX10_type_102 ?_
                  refine lv_topi (fun v_355 ev_355 => ?_)
                  obtain rfl : v_355 = (4 : Int32) := ev_355.trans (by decide)
                  refine va_put (D := (dC, dI)) (ci := 6) (v := .int 4) (ty := .int) (C := RX6) (T := TX6) (N := 4) hx hb hts (by decide +kernel) tyX6 tyX6_ok nmX6 hown hK hP hD hS 1 rfl rfl 1 (by decide) (hts (.fieldLink RX10 116 "DripStone$Reader" "typed" "I") (by decide +kernel)) (fun _ h9 => h9) rfl (by decide +kernel) rfl rfl (Nat.le_of_ble_eq_true rfl) dX10_type_103 (fun H locs hP hD hS => ?_)
                  have hP : va_P (dC, dI) vwCl [(zx, .inr (10, [.ref zn, .ref zk, .ref zr, .ref zl, .ref zc, .ref zs, .ref zw, .ref zt, .ref zm, .int 0])), (zr, .inr (6, [.ref zrt, .int 4, .int 0, .int 0])), (zrt, .inl (cy 0, 80, .inl (upd (upd (upd (upd (fun _ => 0) (0 : Int32).toNatClampNeg r_338) (1 : Int32).toNatClampNeg r_343) (2 : Int32).toNatClampNeg r_348) (3 : Int32).toNatClampNeg r_353)))] H := hP
                  have hD : va_D A [(zx, .inr (10, [.ref zn, .ref zk, .ref zr, .ref zl, .ref zc, .ref zs, .ref zw, .ref zt, .ref zm, .int 0])), (zr, .inr (6, [.ref zrt, .int 4, .int 0, .int 0])), (zrt, .inl (cy 0, 80, .inl (upd (upd (upd (upd (fun _ => 0) (0 : Int32).toNatClampNeg r_338) (1 : Int32).toNatClampNeg r_343) (2 : Int32).toNatClampNeg r_348) (3 : Int32).toNatClampNeg r_353)))] := hD
                  refine lv_iinc (v := 1) (lv' := [(4, .int 1), (0, .ref zx), (1, .long zja), (3, .int 6)]) hx hb dX10_type_106 hl (k := 0) rfl (by decide) (by decide) rfl (fun ls hl => ?_)
                  refine lv_goto (tgt := 67) hx hb dX10_type_109 (by decide) ?_
                  refine lv_iload hx hb dX10_type_67 (lv_at hl 0 rfl) ?_
                  refine lv_if_lt (tgt := 112) hx hb dX10_type_69 (by decide) (fun c_356 => absurd c_356 (by decide)) (fun c_356 => ?_)
                  refine lv_aload_n hx hb dX10_type_72 rfl (lv_at hl 1 rfl) ?_
                  refine va_get (D := (dC, dI)) (ci := 10) (v := .ref zr) (C := RX10) (T := TX10) (N := 10) hx hb hts (by decide +kernel) hown hK hP 0 rfl rfl 2 (by decide) (hts (.fieldLink RX10 22 "DripStone" "reader" "LDripStone$Reader;") (by decide +kernel)) (fun _ h9 => h9) rfl dX10_type_73 ?_
                  refine va_get (D := (dC, dI)) (ci := 6) (v := .ref zrt) (C := RX6) (T := TX6) (N := 4) hx hb hts (by decide +kernel) hown hK hP 1 rfl rfl 0 (by decide) (hts (.fieldLink RX10 119 "DripStone$Reader" "tape" "[I") (by decide +kernel)) (fun _ h9 => h9) rfl dX10_type_76 ?_
                  refine lv_aload_n hx hb dX10_type_79 rfl (lv_at hl 1 rfl) ?_
                  refine va_get (D := (dC, dI)) (ci := 10) (v := .ref zr) (C := RX10) (T := TX10) (N := 10) hx hb hts (by decide +kernel) hown hK hP 0 rfl rfl 2 (by decide) (hts (.fieldLink RX10 22 "DripStone" "reader" "LDripStone$Reader;") (by decide +kernel)) (fun _ h9 => h9) rfl dX10_type_80 ?_
                  refine va_get (D := (dC, dI)) (ci := 6) (v := .int 4) (C := RX6) (T := TX6) (N := 4) hx hb hts (by decide +kernel) hown hK hP 1 rfl rfl 1 (by decide) (hts (.fieldLink RX10 116 "DripStone$Reader" "typed" "I") (by decide +kernel)) (fun _ h9 => h9) rfl dX10_type_83 ?_
                  refine lv_lload_n hx hb dX10_type_86 rfl (lv_at hl 2 rfl) ?_
                  refine lv_iload hx hb dX10_type_87 (lv_at hl 0 rfl) ?_
                  refine cj_i (wc := []) (wr := [(zx, .inr (10, [.ref zn, .ref zk, .ref zr, .ref zl, .ref zc, .ref zs, .ref zw, .ref zt, .ref zm, .int 0])), (zr, .inr (6, [.ref zrt, .int 4, .int 0, .int 0])), (zrt, .inl (cy 0, 80, .inl (upd (upd (upd (upd (fun _ => 0) (0 : Int32).toNatClampNeg r_338) (1 : Int32).toNatClampNeg r_343) (2 : Int32).toNatClampNeg r_348) (3 : Int32).toNatClampNeg r_353)))]) (w1 := fun (_ : Unit) => []) (va_runS (As := [.long zja, .int 1]) (rest := [.int 4, .ref zrt]) ⟨hx, hb, hml, hown, hts⟩ (c_byteOf_1 l dC dI cy H.size zja) (va_cwS 2 hts gX10_type_X10_byteOf rfl rfl rfl (by decide +kernel) ⟨(Nat.le_of_ble_eq_true rfl), (Nat.le_of_ble_eq_true rfl)⟩) (PRE.s (hP.sub [] rfl) hK (hD.sub [] (by decide) rfl) hN) rfl rfl hl.1 rfl (lv_room (Nat.le_of_ble_eq_true rfl)) dX10_type_89 ⟨(Nat.le_of_ble_eq_true rfl), (Nat.le_of_ble_eq_true rfl)⟩) hP hD hS hA [] [0, 1, 2] rfl rfl rfl (by decide) (fun r_358 u_357 H locs hw_359 hP hD hS => ?_)
                  have hP : va_P (dC, dI) vwCl [(zx, .inr (10, [.ref zn, .ref zk, .ref zr, .ref zl, .ref zc, .ref zs, .ref zw, .ref zt, .ref zm, .int 0])), (zr, .inr (6, [.ref zrt, .int 4, .int 0, .int 0])), (zrt, .inl (cy 0, 80, .inl (upd (upd (upd (upd (fun _ => 0) (0 : Int32).toNatClampNeg r_338) (1 : Int32).toNatClampNeg r_343) (2 : Int32).toNatClampNeg r_348) (3 : Int32).toNatClampNeg r_353)))] H := hP
                  have hD : va_D A [(zx, .inr (10, [.ref zn, .ref zk, .ref zr, .ref zl, .ref zc, .ref zs, .ref zw, .ref zt, .ref zm, .int 0])), (zr, .inr (6, [.ref zrt, .int 4, .int 0, .int 0])), (zrt, .inl (cy 0, 80, .inl (upd (upd (upd (upd (fun _ => 0) (0 : Int32).toNatClampNeg r_338) (1 : Int32).toNatClampNeg r_343) (2 : Int32).toNatClampNeg r_348) (3 : Int32).toNatClampNeg r_353)))] := hD
                  have hw_359 : r_358.toInt = by8 zja 1 := hw_359
                  refine va_iast hx hb hK hP hD hS 2 0 rfl rfl (vp_in_iff.mpr ⟨by decide, by decide⟩) dX10_type_92 (fun H locs hP hD hS => ?_)
                  have hP : va_P (dC, dI) vwCl [(zx, .inr (10, [.ref zn, .ref zk, .ref zr, .ref zl, .ref zc, .ref zs, .ref zw, .ref zt, .ref zm, .int 0])), (zr, .inr (6, [.ref zrt, .int 4, .int 0, .int 0])), (zrt, .inl (cy 0, 80, .inl (upd (upd (upd (upd (upd (fun _ => 0) (0 : Int32).toNatClampNeg r_338) (1 : Int32).toNatClampNeg r_343) (2 : Int32).toNatClampNeg r_348) (3 : Int32).toNatClampNeg r_353) (4 : Int32).toNatClampNeg r_358)))] H := hP
                  have hD : va_D A [(zx, .inr (10, [.ref zn, .ref zk, .ref zr, .ref zl, .ref zc, .ref zs, .ref zw, .ref zt, .ref zm, .int 0])), (zr, .inr (6, [.ref zrt, .int 4, .int 0, .int 0])), (zrt, .inl (cy 0, 80, .inl (upd (upd (upd (upd (upd (fun _ => 0) (0 : Int32).toNatClampNeg r_338) (1 : Int32).toNatClampNeg r_343) (2 : Int32).toNatClampNeg r_348) (3 : Int32).toNatClampNeg r_353) (4 : Int32).toNatClampNeg r_358)))] := hD
                  refine lv_aload_n hx hb dX10_type_93 rfl (lv_at hl 1 rfl) ?_
                  refine va_get (D := (dC, dI)) (ci := 10) (v := .ref zr) (C := RX10) (T := TX10) (N := 10) hx hb hts (by decide +kernel) hown hK hP 0 rfl rfl 2 (by decide) (hts (.fieldLink RX10 22 "DripStone" "reader" "LDripStone$Reader;") (by decide +kernel)) (fun _ h9 => h9) rfl dX10_type_94 ?_
                  refine lv_dup hx hb dX10_type_97 rfl ?_
                  refine va_get (D := (dC, dI)) (ci := 6) (v := .int 4) (C := RX6) (T := TX6) (N := 4) hx hb hts (by decide +kernel) hown hK hP 1 rfl rfl 1 (by decide) (hts (.fieldLink RX10 116 "DripStone$Reader" "typed" "I") (by decide +kernel)) (fun _ h9 => h9) rfl dX10_type_98 ?_
                  refine lv_iconst (v := 1) hx hb dX10_type_101 (by decide) ?_
                  refine lv_iadd hx hb dX10_type_102 ?_
                  refine lv_topi (fun v_360 ev_360 => ?_)
                  obtain rfl : v_360 = (5 : Int32) := ev_360.trans (by decide)
                  refine va_put (D := (dC, dI)) (ci := 6) (v := .int 5) (ty := .int) (C := RX6) (T := TX6) (N := 4) hx hb hts (by decide +kernel) tyX6 tyX6_ok nmX6 hown hK hP hD hS 1 rfl rfl 1 (by decide) (hts (.fieldLink RX10 116 "DripStone$Reader" "typed" "I") (by decide +kernel)) (fun _ h9 => h9) rfl (by decide +kernel) rfl rfl (Nat.le_of_ble_eq_true rfl) dX10_type_103 (fun H locs hP hD hS => ?_)
                  have hP : va_P (dC, dI) vwCl [(zx, .inr (10, [.ref zn, .ref zk, .ref zr, .ref zl, .ref zc, .ref zs, .ref zw, .ref zt, .ref zm, .int 0])), (zr, .inr (6, [.ref zrt, .int 5, .int 0, .int 0])), (zrt, .inl (cy 0, 80, .inl (upd (upd (upd (upd (upd (fun _ => 0) (0 : Int32).toNatClampNeg r_338) (1 : Int32).toNatClampNeg r_343) (2 : Int32).toNatClampNeg r_348) (3 : Int32).toNatClampNeg r_353) (4 : Int32).toNatClampNeg r_358)))] H := hP
                  have hD : va_D A [(zx, .inr (10, [.ref zn, .ref zk, .ref zr, .ref zl, .ref zc, .ref zs, .ref zw, .ref zt, .ref zm, .int 0])), (zr, .inr (6, [.ref zrt, .int 5, .int 0, .int 0])), (zrt, .inl (cy 0, 80, .inl (upd (upd (upd (upd (upd (fun _ => 0) (0 : Int32).toNatClampNeg r_338) (1 : Int32).toNatClampNeg r_343) (2 : Int32).toNatClampNeg r_348) (3 : Int32).toNatClampNeg r_353) (4 : Int32).toNatClampNeg r_358)))] := hD
                  refine lv_iinc (v := 0) (lv' := [(4, .int 0), (0, .ref zx), (1, .long zja), (3, .int 6)]) hx hb dX10_type_106 hl (k := 0) rfl (by decide) (by decide) rfl (fun ls hl => ?_)
                  refine lv_goto (tgt := 67) hx hb dX10_type_109 (by decide) ?_
                  refine lv_iload hx hb dX10_type_67 (lv_at hl 0 rfl) ?_
                  refine lv_if_lt (tgt := 112) hx hb dX10_type_69 (by decide) (fun c_361 => absurd c_361 (by decide)) (fun c_361 => ?_)
                  refine lv_aload_n hx hb dX10_type_72 rfl (lv_at hl 1 rfl) ?_
                  refine va_get (D := (dC, dI)) (ci := 10) (v := .ref zr) (C := RX10) (T := TX10) (N := 10) hx hb hts (by decide +kernel) hown hK hP 0 rfl rfl 2 (by decide) (hts (.fieldLink RX10 22 "DripStone" "reader" "LDripStone$Reader;") (by decide +kernel)) (fun _ h9 => h9) rfl dX10_type_73 ?_
                  refine va_get (D := (dC, dI)) (ci := 6) (v := .ref zrt) (C := RX6) (T := TX6) (N := 4) hx hb hts (by decide +kernel) hown hK hP 1 rfl rfl 0 (by decide) (hts (.fieldLink RX10 119 "DripStone$Reader" "tape" "[I") (by decide +kernel)) (fun _ h9 => h9) rfl dX10_type_76 ?_
                  refine lv_aload_n hx hb dX10_type_79 rfl (lv_at hl 1 rfl) ?_
                  refine va_get (D := (dC, dI)) (ci := 10) (v := .ref zr) (C := RX10) (T := TX10) (N := 10) hx hb hts (by decide +kernel) hown hK hP 0 rfl rfl 2 (by decide) (hts (.fieldLink RX10 22 "DripStone" "reader" "LDripStone$Reader;") (by decide +kernel)) (fun _ h9 => h9) rfl dX10_type_80 ?_
                  refine va_get (D := (dC, dI)) (ci := 6) (v := .int 5) (C := RX6) (T := TX6) (N := 4) hx hb hts (by decide +kernel) hown hK hP 1 rfl rfl 1 (by decide) (hts (.fieldLink RX10 116 "DripStone$Reader" "typed" "I") (by decide +kernel)) (fun _ h9 => h9) rfl dX10_type_83 ?_
                  refine lv_lload_n hx hb dX10_type_86 rfl (lv_at hl 2 rfl) ?_
                  refine lv_iload hx hb dX10_type_87 (lv_at hl 0 rfl) ?_
                  refine cj_i (wc := []) (wr := [(zx, .inr (10, [.ref zn, .ref zk, .ref zr, .ref zl, .ref zc, .ref zs, .ref zw, .ref zt, .ref zm, .int 0])), (zr, .inr (6, [.ref zrt, .int 5, .int 0, .int 0])), (zrt, .inl (cy 0, 80, .inl (upd (upd (upd (upd (upd (fun _ => 0) (0 : Int32).toNatClampNeg r_338) (1 : Int32).toNatClampNeg r_343) (2 : Int32).toNatClampNeg r_348) (3 : Int32).toNatClampNeg r_353) (4 : Int32).toNatClampNeg r_358)))]) (w1 := fun (_ : Unit) => []) (va_runS (As := [.long zja, .int 0]) (rest := [.int 5, .ref zrt]) ⟨hx, hb, hml, hown, hts⟩ (c_byteOf_0 l dC dI cy H.size zja) (va_cwS 2 hts gX10_type_X10_byteOf rfl rfl rfl (by decide +kernel) ⟨(Nat.le_of_ble_eq_true rfl), (Nat.le_of_ble_eq_true rfl)⟩) (PRE.s (hP.sub [] rfl) hK (hD.sub [] (by decide) rfl) hN) rfl rfl hl.1 rfl (lv_room (Nat.le_of_ble_eq_true rfl)) dX10_type_89 ⟨(Nat.le_of_ble_eq_true rfl), (Nat.le_of_ble_eq_true rfl)⟩) hP hD hS hA [] [0, 1, 2] rfl rfl rfl (by decide) (fun r_363 u_362 H locs hw_364 hP hD hS => ?_)
                  have hP : va_P (dC, dI) vwCl [(zx, .inr (10, [.ref zn, .ref zk, .ref zr, .ref zl, .ref zc, .ref zs, .ref zw, .ref zt, .ref zm, .int 0])), (zr, .inr (6, [.ref zrt, .int 5, .int 0, .int 0])), (zrt, .inl (cy 0, 80, .inl (upd (upd (upd (upd (upd (fun _ => 0) (0 : Int32).toNatClampNeg r_338) (1 : Int32).toNatClampNeg r_343) (2 : Int32).toNatClampNeg r_348) (3 : Int32).toNatClampNeg r_353) (4 : Int32).toNatClampNeg r_358)))] H := hP
                  have hD : va_D A [(zx, .inr (10, [.ref zn, .ref zk, .ref zr, .ref zl, .ref zc, .ref zs, .ref zw, .ref zt, .ref zm, .int 0])), (zr, .inr (6, [.ref zrt, .int 5, .int 0, .int 0])), (zrt, .inl (cy 0, 80, .inl (upd (upd (upd (upd (upd (fun _ => 0) (0 : Int32).toNatClampNeg r_338) (1 : Int32).toNatClampNeg r_343) (2 : Int32).toNatClampNeg r_348) (3 : Int32).toNatClampNeg r_353) (4 : Int32).toNatClampNeg r_358)))] := hD
                  have hw_364 : r_363.toInt = by8 zja 0 := hw_364
                  refine va_iast hx hb hK hP hD hS 2 0 rfl rfl (vp_in_iff.mpr ⟨by decide, by decide⟩) dX10_type_92 (fun H locs hP hD hS => ?_)
                  have hP : va_P (dC, dI) vwCl [(zx, .inr (10, [.ref zn, .ref zk, .ref zr, .ref zl, .ref zc, .ref zs, .ref zw, .ref zt, .ref zm, .int 0])), (zr, .inr (6, [.ref zrt, .int 5, .int 0, .int 0])), (zrt, .inl (cy 0, 80, .inl (upd (upd (upd (upd (upd (upd (fun _ => 0) (0 : Int32).toNatClampNeg r_338) (1 : Int32).toNatClampNeg r_343) (2 : Int32).toNatClampNeg r_348) (3 : Int32).toNatClampNeg r_353) (4 : Int32).toNatClampNeg r_358) (5 : Int32).toNatClampNeg r_363)))] H := hP
                  have hD : va_D A [(zx, .inr (10, [.ref zn, .ref zk, .ref zr, .ref zl, .ref zc, .ref zs, .ref zw, .ref zt, .ref zm, .int 0])), (zr, .inr (6, [.ref zrt, .int 5, .int 0, .int 0])), (zrt, .inl (cy 0, 80, .inl (upd (upd (upd (upd (upd (upd (fun _ => 0) (0 : Int32).toNatClampNeg r_338) (1 : Int32).toNatClampNeg r_343) (2 : Int32).toNatClampNeg r_348) (3 : Int32).toNatClampNeg r_353) (4 : Int32).toNatClampNeg r_358) (5 : Int32).toNatClampNeg r_363)))] := hD
                  refine lv_aload_n hx hb dX10_type_93 rfl (lv_at hl 1 rfl) ?_
                  refine va_get (D := (dC, dI)) (ci := 10) (v := .ref zr) (C := RX10) (T := TX10) (N := 10) hx hb hts (by decide +kernel) hown hK hP 0 rfl rfl 2 (by decide) (hts (.fieldLink RX10 22 "DripStone" "reader" "LDripStone$Reader;") (by decide +kernel)) (fun _ h9 => h9) rfl dX10_type_94 ?_
                  refine lv_dup hx hb dX10_type_97 rfl ?_
                  refine va_get (D := (dC, dI)) (ci := 6) (v := .int 5) (C := RX6) (T := TX6) (N := 4) hx hb hts (by decide +kernel) hown hK hP 1 rfl rfl 1 (by decide) (hts (.fieldLink RX10 116 "DripStone$Reader" "typed" "I") (by decide +kernel)) (fun _ h9 => h9) rfl dX10_type_98 ?_
                  refine lv_iconst (v := 1) hx hb dX10_type_101 (by decide) ?_
                  refine lv_iadd hx hb dX10_type_102 ?_
                  refine lv_topi (fun v_365 ev_365 => ?_)
                  obtain rfl : v_365 = (6 : Int32) := ev_365.trans (by decide)
                  refine va_put (D := (dC, dI)) (ci := 6) (v := .int 6) (ty := .int) (C := RX6) (T := TX6) (N := 4) hx hb hts (by decide +kernel) tyX6 tyX6_ok nmX6 hown hK hP hD hS 1 rfl rfl 1 (by decide) (hts (.fieldLink RX10 116 "DripStone$Reader" "typed" "I") (by decide +kernel)) (fun _ h9 => h9) rfl (by decide +kernel) rfl rfl (Nat.le_of_ble_eq_true rfl) dX10_type_103 (fun H locs hP hD hS => ?_)
                  have hP : va_P (dC, dI) vwCl [(zx, .inr (10, [.ref zn, .ref zk, .ref zr, .ref zl, .ref zc, .ref zs, .ref zw, .ref zt, .ref zm, .int 0])), (zr, .inr (6, [.ref zrt, .int 6, .int 0, .int 0])), (zrt, .inl (cy 0, 80, .inl (upd (upd (upd (upd (upd (upd (fun _ => 0) (0 : Int32).toNatClampNeg r_338) (1 : Int32).toNatClampNeg r_343) (2 : Int32).toNatClampNeg r_348) (3 : Int32).toNatClampNeg r_353) (4 : Int32).toNatClampNeg r_358) (5 : Int32).toNatClampNeg r_363)))] H := hP
                  have hD : va_D A [(zx, .inr (10, [.ref zn, .ref zk, .ref zr, .ref zl, .ref zc, .ref zs, .ref zw, .ref zt, .ref zm, .int 0])), (zr, .inr (6, [.ref zrt, .int 6, .int 0, .int 0])), (zrt, .inl (cy 0, 80, .inl (upd (upd (upd (upd (upd (upd (fun _ => 0) (0 : Int32).toNatClampNeg r_338) (1 : Int32).toNatClampNeg r_343) (2 : Int32).toNatClampNeg r_348) (3 : Int32).toNatClampNeg r_353) (4 : Int32).toNatClampNeg r_358) (5 : Int32).toNatClampNeg r_363)))] := hD
                  refine lv_iinc (v := (-1)) (lv' := [(4, .int (-1)), (0, .ref zx), (1, .long zja), (3, .int 6)]) hx hb dX10_type_106 hl (k := 0) rfl (by decide) (by decide) rfl (fun ls hl => ?_)
                  refine lv_goto (tgt := 67) hx hb dX10_type_109 (by decide) ?_
                  refine lv_iload hx hb dX10_type_67 (lv_at hl 0 rfl) ?_
                  refine lv_if_lt (tgt := 112) hx hb dX10_type_69 (by decide) (fun c_366 => ?_) (fun c_366 => absurd (by decide) c_366)
                  refine lv_aload_n hx hb dX10_type_112 rfl (lv_at hl 1 rfl) ?_
                  refine va_get (D := (dC, dI)) (ci := 10) (v := .ref zr) (C := RX10) (T := TX10) (N := 10) hx hb hts (by decide +kernel) hown hK hP 0 rfl rfl 2 (by decide) (hts (.fieldLink RX10 22 "DripStone" "reader" "LDripStone$Reader;") (by decide +kernel)) (fun _ h9 => h9) rfl dX10_type_113 ?_
                  refine va_get (D := (dC, dI)) (ci := 6) (v := .int 6) (C := RX6) (T := TX6) (N := 4) hx hb hts (by decide +kernel) hown hK hP 1 rfl rfl 1 (by decide) (hts (.fieldLink RX10 116 "DripStone$Reader" "typed" "I") (by decide +kernel)) (fun _ h9 => h9) rfl dX10_type_116 ?_
                  have hP9 := hP.sub (ws' := []) [] rfl
                  have hD9 := hD.sub (ws' := []) [] (by decide) rfl
                  exact W.iret (v := 6) hx hb hr (fun t ht hW => ⟨⟨6, (), rfl, ((an_type_6 _).trans (if_pos ⟨g_281, g_291, g_301, g_311, g_321, g_331⟩)).symm, ⟨by rw [ht]; exact hP9, va_K.moved hW.alike hK, hD9⟩⟩, hS.F ht⟩) hS.2.2 dX10_type_119
                · have f_330 : ¬ (32 ≤ r_324.toInt ∧ r_324.toInt ≤ 126) := bz_0 hw_328 c_329
                  have g_367 : ¬ okb zja 5 := by unfold okb; rw [← hw_325]; exact f_330
                  refine lv_iconst (v := (-1)) hx hb dX10_type_37 (by decide) ?_
                  have hP9 := hP.sub (ws' := []) [] rfl
                  have hD9 := hD.sub (ws' := []) [] (by decide) rfl
                  exact W.iret (v := (-1)) hx hb hr (fun t ht hW => ⟨⟨(-1), (), rfl, ((an_type_6 _).trans (if_neg (fun h => g_367 (h.2.2.2.2.2)))).symm, ⟨by rw [ht]; exact hP9, va_K.moved hW.alike hK, hD9⟩⟩, hS.F ht⟩) hS.2.2 dX10_type_38
              · have f_320 : ¬ (32 ≤ r_314.toInt ∧ r_314.toInt ≤ 126) := bz_0 hw_318 c_319
                have g_368 : ¬ okb zja 4 := by unfold okb; rw [← hw_315]; exact f_320
                refine lv_iconst (v := (-1)) hx hb dX10_type_37 (by decide) ?_
                have hP9 := hP.sub (ws' := []) [] rfl
                have hD9 := hD.sub (ws' := []) [] (by decide) rfl
                exact W.iret (v := (-1)) hx hb hr (fun t ht hW => ⟨⟨(-1), (), rfl, ((an_type_6 _).trans (if_neg (fun h => g_368 (h.2.2.2.2.1)))).symm, ⟨by rw [ht]; exact hP9, va_K.moved hW.alike hK, hD9⟩⟩, hS.F ht⟩) hS.2.2 dX10_type_38
            · have f_310 : ¬ (32 ≤ r_304.toInt ∧ r_304.toInt ≤ 126) := bz_0 hw_308 c_309
              have g_369 : ¬ okb zja 3 := by unfold okb; rw [← hw_305]; exact f_310
              refine lv_iconst (v := (-1)) hx hb dX10_type_37 (by decide) ?_
              have hP9 := hP.sub (ws' := []) [] rfl
              have hD9 := hD.sub (ws' := []) [] (by decide) rfl
              exact W.iret (v := (-1)) hx hb hr (fun t ht hW => ⟨⟨(-1), (), rfl, ((an_type_6 _).trans (if_neg (fun h => g_369 (h.2.2.2.1)))).symm, ⟨by rw [ht]; exact hP9, va_K.moved hW.alike hK, hD9⟩⟩, hS.F ht⟩) hS.2.2 dX10_type_38
          · have f_300 : ¬ (32 ≤ r_294.toInt ∧ r_294.toInt ≤ 126) := bz_0 hw_298 c_299
            have g_370 : ¬ okb zja 2 := by unfold okb; rw [← hw_295]; exact f_300
            refine lv_iconst (v := (-1)) hx hb dX10_type_37 (by decide) ?_
            have hP9 := hP.sub (ws' := []) [] rfl
            have hD9 := hD.sub (ws' := []) [] (by decide) rfl
            exact W.iret (v := (-1)) hx hb hr (fun t ht hW => ⟨⟨(-1), (), rfl, ((an_type_6 _).trans (if_neg (fun h => g_370 (h.2.2.1)))).symm, ⟨by rw [ht]; exact hP9, va_K.moved hW.alike hK, hD9⟩⟩, hS.F ht⟩) hS.2.2 dX10_type_38
        · have f_290 : ¬ (32 ≤ r_284.toInt ∧ r_284.toInt ≤ 126) := bz_0 hw_288 c_289
          have g_371 : ¬ okb zja 1 := by unfold okb; rw [← hw_285]; exact f_290
          refine lv_iconst (v := (-1)) hx hb dX10_type_37 (by decide) ?_
          have hP9 := hP.sub (ws' := []) [] rfl
          have hD9 := hD.sub (ws' := []) [] (by decide) rfl
          exact W.iret (v := (-1)) hx hb hr (fun t ht hW => ⟨⟨(-1), (), rfl, ((an_type_6 _).trans (if_neg (fun h => g_371 (h.2.1)))).symm, ⟨by rw [ht]; exact hP9, va_K.moved hW.alike hK, hD9⟩⟩, hS.F ht⟩) hS.2.2 dX10_type_38
      · have f_280 : ¬ (32 ≤ r_274.toInt ∧ r_274.toInt ≤ 126) := bz_0 hw_278 c_279
        have g_372 : ¬ okb zja 0 := by unfold okb; rw [← hw_275]; exact f_280
        refine lv_iconst (v := (-1)) hx hb dX10_type_37 (by decide) ?_
        have hP9 := hP.sub (ws' := []) [] rfl
        have hD9 := hD.sub (ws' := []) [] (by decide) rfl
        exact W.iret (v := (-1)) hx hb hr (fun t ht hW => ⟨⟨(-1), (), rfl, ((an_type_6 _).trans (if_neg (fun h => g_372 (h.1)))).symm, ⟨by rw [ht]; exact hP9, va_K.moved hW.alike hK, hD9⟩⟩, hS.F ht⟩) hS.2.2 dX10_type_38
    · have zk_6_7 : (7 : Int32).toInt = 7 := by decide
      refine lv_iconst (v := 0) hx hb dX10_type_12 (by decide) ?_
      refine lv_istore (lv' := [(4, .int 0), (0, .ref zx), (1, .long zja), (3, .int 7)]) hx hb dX10_type_13 hl (by decide) rfl (fun ls hl => ?_)
      refine lv_iload hx hb dX10_type_15 (lv_at hl 0 rfl) ?_
      refine lv_iload_n hx hb dX10_type_17 rfl (lv_at hl 3 rfl) ?_
      refine lv_icmp_ge (tgt := 45) hx hb dX10_type_18 (by decide) (fun c_373 => absurd c_373 (by decide)) (fun c_373 => ?_)
      refine lv_lload_n hx hb dX10_type_21 rfl (lv_at hl 2 rfl) ?_
      refine lv_iload hx hb dX10_type_22 (lv_at hl 0 rfl) ?_
      refine cj_i (wc := []) (wr := [(zx, .inr (10, [.ref zn, .ref zk, .ref zr, .ref zl, .ref zc, .ref zs, .ref zw, .ref zt, .ref zm, .int 0])), (zr, .inr (6, [.ref zrt, .int 0, .int 0, .int 0])), (zrt, .inl (cy 0, 80, .inl (fun _ => 0)))]) (w1 := fun (_ : Unit) => []) (va_runS (As := [.long zja, .int 0]) (rest := []) ⟨hx, hb, hml, hown, hts⟩ (c_byteOf_0 l dC dI cy H.size zja) (va_cwS 2 hts gX10_type_X10_byteOf rfl rfl rfl (by decide +kernel) ⟨(Nat.le_of_ble_eq_true rfl), (Nat.le_of_ble_eq_true rfl)⟩) (PRE.s (hP.sub [] rfl) hK (hD.sub [] (by decide) rfl) hN) rfl rfl hl.1 rfl (lv_room (Nat.le_of_ble_eq_true rfl)) dX10_type_24 ⟨(Nat.le_of_ble_eq_true rfl), (Nat.le_of_ble_eq_true rfl)⟩) hP hD hS hA [] [0, 1, 2] rfl rfl rfl (by decide) (fun r_375 u_374 H locs hw_376 hP hD hS => ?_)
      have hP : va_P (dC, dI) vwCl [(zx, .inr (10, [.ref zn, .ref zk, .ref zr, .ref zl, .ref zc, .ref zs, .ref zw, .ref zt, .ref zm, .int 0])), (zr, .inr (6, [.ref zrt, .int 0, .int 0, .int 0])), (zrt, .inl (cy 0, 80, .inl (fun _ => 0)))] H := hP
      have hD : va_D A [(zx, .inr (10, [.ref zn, .ref zk, .ref zr, .ref zl, .ref zc, .ref zs, .ref zw, .ref zt, .ref zm, .int 0])), (zr, .inr (6, [.ref zrt, .int 0, .int 0, .int 0])), (zrt, .inl (cy 0, 80, .inl (fun _ => 0)))] := hD
      have hw_376 : r_375.toInt = by8 zja 0 := hw_376
      refine lv_bipush (v := 32) hx hb dX10_type_27 (by decide) ?_
      refine lv_bipush (v := 126) hx hb dX10_type_29 (by decide) ?_
      refine cj_i (wc := []) (wr := [(zx, .inr (10, [.ref zn, .ref zk, .ref zr, .ref zl, .ref zc, .ref zs, .ref zw, .ref zt, .ref zm, .int 0])), (zr, .inr (6, [.ref zrt, .int 0, .int 0, .int 0])), (zrt, .inl (cy 0, 80, .inl (fun _ => 0)))]) (w1 := fun (_ : Unit) => []) (va_runS (As := [.int r_375, .int 32, .int 126]) (rest := []) ⟨hx, hb, hml, hown, hts⟩ (c_X10_isWithin l dC dI cy H.size r_375 32 126 32 126 (by first | rfl | decide | omega | exact Int32.toInt_toInt64 _) (by first | rfl | decide | omega | exact Int32.toInt_toInt64 _)) (va_cwS 3 hts gX10_type_X10_isWithin rfl rfl rfl (by decide +kernel) ⟨(Nat.le_of_ble_eq_true rfl), (Nat.le_of_ble_eq_true rfl)⟩) (PRE.s (hP.sub [] rfl) hK (hD.sub [] (by decide) rfl) hN) rfl rfl hl.1 rfl (lv_room (Nat.le_of_ble_eq_true rfl)) dX10_type_31 ⟨(Nat.le_of_ble_eq_true rfl), (Nat.le_of_ble_eq_true rfl)⟩) hP hD hS hA [] [0, 1, 2] rfl rfl rfl (by decide) (fun r_378 u_377 H locs hw_379 hP hD hS => ?_)
      have hP : va_P (dC, dI) vwCl [(zx, .inr (10, [.ref zn, .ref zk, .ref zr, .ref zl, .ref zc, .ref zs, .ref zw, .ref zt, .ref zm, .int 0])), (zr, .inr (6, [.ref zrt, .int 0, .int 0, .int 0])), (zrt, .inl (cy 0, 80, .inl (fun _ => 0)))] H := hP
      have hD : va_D A [(zx, .inr (10, [.ref zn, .ref zk, .ref zr, .ref zl, .ref zc, .ref zs, .ref zw, .ref zt, .ref zm, .int 0])), (zr, .inr (6, [.ref zrt, .int 0, .int 0, .int 0])), (zrt, .inl (cy 0, 80, .inl (fun _ => 0)))] := hD
      have hw_379 : r_378 = if 32 ≤ r_375.toInt ∧ r_375.toInt ≤ 126 then 1 else 0 := hw_379
      refine lv_if_ne (tgt := 39) hx hb dX10_type_34 (by decide) (fun c_380 => ?_) (fun c_380 => ?_)
      · have f_381 : 32 ≤ r_375.toInt ∧ r_375.toInt ≤ 126 := bz_1 hw_379 c_380
        have g_382 : okb zja 0 := by unfold okb; rw [← hw_376]; exact f_381
        refine lv_iinc (v := 1) (lv' := [(4, .int 1), (0, .ref zx), (1, .long zja), (3, .int 7)]) hx hb dX10_type_39 hl (k := 0) rfl (by decide) (by decide) rfl (fun ls hl => ?_)
        refine lv_goto (tgt := 15) hx hb dX10_type_42 (by decide) ?_
        refine lv_iload hx hb dX10_type_15 (lv_at hl 0 rfl) ?_
        refine lv_iload_n hx hb dX10_type_17 rfl (lv_at hl 3 rfl) ?_
        refine lv_icmp_ge (tgt := 45) hx hb dX10_type_18 (by decide) (fun c_383 => absurd c_383 (by decide)) (fun c_383 => ?_)
        refine lv_lload_n hx hb dX10_type_21 rfl (lv_at hl 2 rfl) ?_
        refine lv_iload hx hb dX10_type_22 (lv_at hl 0 rfl) ?_
        refine cj_i (wc := []) (wr := [(zx, .inr (10, [.ref zn, .ref zk, .ref zr, .ref zl, .ref zc, .ref zs, .ref zw, .ref zt, .ref zm, .int 0])), (zr, .inr (6, [.ref zrt, .int 0, .int 0, .int 0])), (zrt, .inl (cy 0, 80, .inl (fun _ => 0)))]) (w1 := fun (_ : Unit) => []) (va_runS (As := [.long zja, .int 1]) (rest := []) ⟨hx, hb, hml, hown, hts⟩ (c_byteOf_1 l dC dI cy H.size zja) (va_cwS 2 hts gX10_type_X10_byteOf rfl rfl rfl (by decide +kernel) ⟨(Nat.le_of_ble_eq_true rfl), (Nat.le_of_ble_eq_true rfl)⟩) (PRE.s (hP.sub [] rfl) hK (hD.sub [] (by decide) rfl) hN) rfl rfl hl.1 rfl (lv_room (Nat.le_of_ble_eq_true rfl)) dX10_type_24 ⟨(Nat.le_of_ble_eq_true rfl), (Nat.le_of_ble_eq_true rfl)⟩) hP hD hS hA [] [0, 1, 2] rfl rfl rfl (by decide) (fun r_385 u_384 H locs hw_386 hP hD hS => ?_)
        have hP : va_P (dC, dI) vwCl [(zx, .inr (10, [.ref zn, .ref zk, .ref zr, .ref zl, .ref zc, .ref zs, .ref zw, .ref zt, .ref zm, .int 0])), (zr, .inr (6, [.ref zrt, .int 0, .int 0, .int 0])), (zrt, .inl (cy 0, 80, .inl (fun _ => 0)))] H := hP
        have hD : va_D A [(zx, .inr (10, [.ref zn, .ref zk, .ref zr, .ref zl, .ref zc, .ref zs, .ref zw, .ref zt, .ref zm, .int 0])), (zr, .inr (6, [.ref zrt, .int 0, .int 0, .int 0])), (zrt, .inl (cy 0, 80, .inl (fun _ => 0)))] := hD
        have hw_386 : r_385.toInt = by8 zja 1 := hw_386
        refine lv_bipush (v := 32) hx hb dX10_type_27 (by decide) ?_
        refine lv_bipush (v := 126) hx hb dX10_type_29 (by decide) ?_
        refine cj_i (wc := []) (wr := [(zx, .inr (10, [.ref zn, .ref zk, .ref zr, .ref zl, .ref zc, .ref zs, .ref zw, .ref zt, .ref zm, .int 0])), (zr, .inr (6, [.ref zrt, .int 0, .int 0, .int 0])), (zrt, .inl (cy 0, 80, .inl (fun _ => 0)))]) (w1 := fun (_ : Unit) => []) (va_runS (As := [.int r_385, .int 32, .int 126]) (rest := []) ⟨hx, hb, hml, hown, hts⟩ (c_X10_isWithin l dC dI cy H.size r_385 32 126 32 126 (by first | rfl | decide | omega | exact Int32.toInt_toInt64 _) (by first | rfl | decide | omega | exact Int32.toInt_toInt64 _)) (va_cwS 3 hts gX10_type_X10_isWithin rfl rfl rfl (by decide +kernel) ⟨(Nat.le_of_ble_eq_true rfl), (Nat.le_of_ble_eq_true rfl)⟩) (PRE.s (hP.sub [] rfl) hK (hD.sub [] (by decide) rfl) hN) rfl rfl hl.1 rfl (lv_room (Nat.le_of_ble_eq_true rfl)) dX10_type_31 ⟨(Nat.le_of_ble_eq_true rfl), (Nat.le_of_ble_eq_true rfl)⟩) hP hD hS hA [] [0, 1, 2] rfl rfl rfl (by decide) (fun r_388 u_387 H locs hw_389 hP hD hS => ?_)
        have hP : va_P (dC, dI) vwCl [(zx, .inr (10, [.ref zn, .ref zk, .ref zr, .ref zl, .ref zc, .ref zs, .ref zw, .ref zt, .ref zm, .int 0])), (zr, .inr (6, [.ref zrt, .int 0, .int 0, .int 0])), (zrt, .inl (cy 0, 80, .inl (fun _ => 0)))] H := hP
        have hD : va_D A [(zx, .inr (10, [.ref zn, .ref zk, .ref zr, .ref zl, .ref zc, .ref zs, .ref zw, .ref zt, .ref zm, .int 0])), (zr, .inr (6, [.ref zrt, .int 0, .int 0, .int 0])), (zrt, .inl (cy 0, 80, .inl (fun _ => 0)))] := hD
        have hw_389 : r_388 = if 32 ≤ r_385.toInt ∧ r_385.toInt ≤ 126 then 1 else 0 := hw_389
        refine lv_if_ne (tgt := 39) hx hb dX10_type_34 (by decide) (fun c_390 => ?_) (fun c_390 => ?_)
        · have f_391 : 32 ≤ r_385.toInt ∧ r_385.toInt ≤ 126 := bz_1 hw_389 c_390
          have g_392 : okb zja 1 := by unfold okb; rw [← hw_386]; exact f_391
          refine lv_iinc (v := 2) (lv' := [(4, .int 2), (0, .ref zx), (1, .long zja), (3, .int 7)]) hx hb dX10_type_39 hl (k := 0) rfl (by decide) (by decide) rfl (fun ls hl => ?_)
          refine lv_goto (tgt := 15) hx hb dX10_type_42 (by decide) ?_
          refine lv_iload hx hb dX10_type_15 (lv_at hl 0 rfl) ?_
          refine lv_iload_n hx hb dX10_type_17 rfl (lv_at hl 3 rfl) ?_
          refine lv_icmp_ge (tgt := 45) hx hb dX10_type_18 (by decide) (fun c_393 => absurd c_393 (by decide)) (fun c_393 => ?_)
          refine lv_lload_n hx hb dX10_type_21 rfl (lv_at hl 2 rfl) ?_
          refine lv_iload hx hb dX10_type_22 (lv_at hl 0 rfl) ?_
          refine cj_i (wc := []) (wr := [(zx, .inr (10, [.ref zn, .ref zk, .ref zr, .ref zl, .ref zc, .ref zs, .ref zw, .ref zt, .ref zm, .int 0])), (zr, .inr (6, [.ref zrt, .int 0, .int 0, .int 0])), (zrt, .inl (cy 0, 80, .inl (fun _ => 0)))]) (w1 := fun (_ : Unit) => []) (va_runS (As := [.long zja, .int 2]) (rest := []) ⟨hx, hb, hml, hown, hts⟩ (c_byteOf_2 l dC dI cy H.size zja) (va_cwS 2 hts gX10_type_X10_byteOf rfl rfl rfl (by decide +kernel) ⟨(Nat.le_of_ble_eq_true rfl), (Nat.le_of_ble_eq_true rfl)⟩) (PRE.s (hP.sub [] rfl) hK (hD.sub [] (by decide) rfl) hN) rfl rfl hl.1 rfl (lv_room (Nat.le_of_ble_eq_true rfl)) dX10_type_24 ⟨(Nat.le_of_ble_eq_true rfl), (Nat.le_of_ble_eq_true rfl)⟩) hP hD hS hA [] [0, 1, 2] rfl rfl rfl (by decide) (fun r_395 u_394 H locs hw_396 hP hD hS => ?_)
          have hP : va_P (dC, dI) vwCl [(zx, .inr (10, [.ref zn, .ref zk, .ref zr, .ref zl, .ref zc, .ref zs, .ref zw, .ref zt, .ref zm, .int 0])), (zr, .inr (6, [.ref zrt, .int 0, .int 0, .int 0])), (zrt, .inl (cy 0, 80, .inl (fun _ => 0)))] H := hP
          have hD : va_D A [(zx, .inr (10, [.ref zn, .ref zk, .ref zr, .ref zl, .ref zc, .ref zs, .ref zw, .ref zt, .ref zm, .int 0])), (zr, .inr (6, [.ref zrt, .int 0, .int 0, .int 0])), (zrt, .inl (cy 0, 80, .inl (fun _ => 0)))] := hD
          have hw_396 : r_395.toInt = by8 zja 2 := hw_396
          refine lv_bipush (v := 32) hx hb dX10_type_27 (by decide) ?_
          refine lv_bipush (v := 126) hx hb dX10_type_29 (by decide) ?_
          refine cj_i (wc := []) (wr := [(zx, .inr (10, [.ref zn, .ref zk, .ref zr, .ref zl, .ref zc, .ref zs, .ref zw, .ref zt, .ref zm, .int 0])), (zr, .inr (6, [.ref zrt, .int 0, .int 0, .int 0])), (zrt, .inl (cy 0, 80, .inl (fun _ => 0)))]) (w1 := fun (_ : Unit) => []) (va_runS (As := [.int r_395, .int 32, .int 126]) (rest := []) ⟨hx, hb, hml, hown, hts⟩ (c_X10_isWithin l dC dI cy H.size r_395 32 126 32 126 (by first | rfl | decide | omega | exact Int32.toInt_toInt64 _) (by first | rfl | decide | omega | exact Int32.toInt_toInt64 _)) (va_cwS 3 hts gX10_type_X10_isWithin rfl rfl rfl (by decide +kernel) ⟨(Nat.le_of_ble_eq_true rfl), (Nat.le_of_ble_eq_true rfl)⟩) (PRE.s (hP.sub [] rfl) hK (hD.sub [] (by decide) rfl) hN) rfl rfl hl.1 rfl (lv_room (Nat.le_of_ble_eq_true rfl)) dX10_type_31 ⟨(Nat.le_of_ble_eq_true rfl), (Nat.le_of_ble_eq_true rfl)⟩) hP hD hS hA [] [0, 1, 2] rfl rfl rfl (by decide) (fun r_398 u_397 H locs hw_399 hP hD hS => ?_)
          have hP : va_P (dC, dI) vwCl [(zx, .inr (10, [.ref zn, .ref zk, .ref zr, .ref zl, .ref zc, .ref zs, .ref zw, .ref zt, .ref zm, .int 0])), (zr, .inr (6, [.ref zrt, .int 0, .int 0, .int 0])), (zrt, .inl (cy 0, 80, .inl (fun _ => 0)))] H := hP
          have hD : va_D A [(zx, .inr (10, [.ref zn, .ref zk, .ref zr, .ref zl, .ref zc, .ref zs, .ref zw, .ref zt, .ref zm, .int 0])), (zr, .inr (6, [.ref zrt, .int 0, .int 0, .int 0])), (zrt, .inl (cy 0, 80, .inl (fun _ => 0)))] := hD
          have hw_399 : r_398 = if 32 ≤ r_395.toInt ∧ r_395.toInt ≤ 126 then 1 else 0 := hw_399
          refine lv_if_ne (tgt := 39) hx hb dX10_type_34 (by decide) (fun c_400 => ?_) (fun c_400 => ?_)
          · have f_401 : 32 ≤ r_395.toInt ∧ r_395.toInt ≤ 126 := bz_1 hw_399 c_400
            have g_402 : okb zja 2 := by unfold okb; rw [← hw_396]; exact f_401
            refine lv_iinc (v := 3) (lv' := [(4, .int 3), (0, .ref zx), (1, .long zja), (3, .int 7)]) hx hb dX10_type_39 hl (k := 0) rfl (by decide) (by decide) rfl (fun ls hl => ?_)
            refine lv_goto (tgt := 15) hx hb dX10_type_42 (by decide) ?_
            refine lv_iload hx hb dX10_type_15 (lv_at hl 0 rfl) ?_
            refine lv_iload_n hx hb dX10_type_17 rfl (lv_at hl 3 rfl) ?_
            refine lv_icmp_ge (tgt := 45) hx hb dX10_type_18 (by decide) (fun c_403 => absurd c_403 (by decide)) (fun c_403 => ?_)
            refine lv_lload_n hx hb dX10_type_21 rfl (lv_at hl 2 rfl) ?_
            refine lv_iload hx hb dX10_type_22 (lv_at hl 0 rfl) ?_
            refine cj_i (wc := []) (wr := [(zx, .inr (10, [.ref zn, .ref zk, .ref zr, .ref zl, .ref zc, .ref zs, .ref zw, .ref zt, .ref zm, .int 0])), (zr, .inr (6, [.ref zrt, .int 0, .int 0, .int 0])), (zrt, .inl (cy 0, 80, .inl (fun _ => 0)))]) (w1 := fun (_ : Unit) => []) (va_runS (As := [.long zja, .int 3]) (rest := []) ⟨hx, hb, hml, hown, hts⟩ (c_byteOf_3 l dC dI cy H.size zja) (va_cwS 2 hts gX10_type_X10_byteOf rfl rfl rfl (by decide +kernel) ⟨(Nat.le_of_ble_eq_true rfl), (Nat.le_of_ble_eq_true rfl)⟩) (PRE.s (hP.sub [] rfl) hK (hD.sub [] (by decide) rfl) hN) rfl rfl hl.1 rfl (lv_room (Nat.le_of_ble_eq_true rfl)) dX10_type_24 ⟨(Nat.le_of_ble_eq_true rfl), (Nat.le_of_ble_eq_true rfl)⟩) hP hD hS hA [] [0, 1, 2] rfl rfl rfl (by decide) (fun r_405 u_404 H locs hw_406 hP hD hS => ?_)
            have hP : va_P (dC, dI) vwCl [(zx, .inr (10, [.ref zn, .ref zk, .ref zr, .ref zl, .ref zc, .ref zs, .ref zw, .ref zt, .ref zm, .int 0])), (zr, .inr (6, [.ref zrt, .int 0, .int 0, .int 0])), (zrt, .inl (cy 0, 80, .inl (fun _ => 0)))] H := hP
            have hD : va_D A [(zx, .inr (10, [.ref zn, .ref zk, .ref zr, .ref zl, .ref zc, .ref zs, .ref zw, .ref zt, .ref zm, .int 0])), (zr, .inr (6, [.ref zrt, .int 0, .int 0, .int 0])), (zrt, .inl (cy 0, 80, .inl (fun _ => 0)))] := hD
            have hw_406 : r_405.toInt = by8 zja 3 := hw_406
            refine lv_bipush (v := 32) hx hb dX10_type_27 (by decide) ?_
            refine lv_bipush (v := 126) hx hb dX10_type_29 (by decide) ?_
            refine cj_i (wc := []) (wr := [(zx, .inr (10, [.ref zn, .ref zk, .ref zr, .ref zl, .ref zc, .ref zs, .ref zw, .ref zt, .ref zm, .int 0])), (zr, .inr (6, [.ref zrt, .int 0, .int 0, .int 0])), (zrt, .inl (cy 0, 80, .inl (fun _ => 0)))]) (w1 := fun (_ : Unit) => []) (va_runS (As := [.int r_405, .int 32, .int 126]) (rest := []) ⟨hx, hb, hml, hown, hts⟩ (c_X10_isWithin l dC dI cy H.size r_405 32 126 32 126 (by first | rfl | decide | omega | exact Int32.toInt_toInt64 _) (by first | rfl | decide | omega | exact Int32.toInt_toInt64 _)) (va_cwS 3 hts gX10_type_X10_isWithin rfl rfl rfl (by decide +kernel) ⟨(Nat.le_of_ble_eq_true rfl), (Nat.le_of_ble_eq_true rfl)⟩) (PRE.s (hP.sub [] rfl) hK (hD.sub [] (by decide) rfl) hN) rfl rfl hl.1 rfl (lv_room (Nat.le_of_ble_eq_true rfl)) dX10_type_31 ⟨(Nat.le_of_ble_eq_true rfl), (Nat.le_of_ble_eq_true rfl)⟩) hP hD hS hA [] [0, 1, 2] rfl rfl rfl (by decide) (fun r_408 u_407 H locs hw_409 hP hD hS => ?_)
            have hP : va_P (dC, dI) vwCl [(zx, .inr (10, [.ref zn, .ref zk, .ref zr, .ref zl, .ref zc, .ref zs, .ref zw, .ref zt, .ref zm, .int 0])), (zr, .inr (6, [.ref zrt, .int 0, .int 0, .int 0])), (zrt, .inl (cy 0, 80, .inl (fun _ => 0)))] H := hP
            have hD : va_D A [(zx, .inr (10, [.ref zn, .ref zk, .ref zr, .ref zl, .ref zc, .ref zs, .ref zw, .ref zt, .ref zm, .int 0])), (zr, .inr (6, [.ref zrt, .int 0, .int 0, .int 0])), (zrt, .inl (cy 0, 80, .inl (fun _ => 0)))] := hD
            have hw_409 : r_408 = if 32 ≤ r_405.toInt ∧ r_405.toInt ≤ 126 then 1 else 0 := hw_409
            refine lv_if_ne (tgt := 39) hx hb dX10_type_34 (by decide) (fun c_410 => ?_) (fun c_410 => ?_)
            · have f_411 : 32 ≤ r_405.toInt ∧ r_405.toInt ≤ 126 := bz_1 hw_409 c_410
              have g_412 : okb zja 3 := by unfold okb; rw [← hw_406]; exact f_411
              refine lv_iinc (v := 4) (lv' := [(4, .int 4), (0, .ref zx), (1, .long zja), (3, .int 7)]) hx hb dX10_type_39 hl (k := 0) rfl (by decide) (by decide) rfl (fun ls hl => ?_)
              refine lv_goto (tgt := 15) hx hb dX10_type_42 (by decide) ?_
              refine lv_iload hx hb dX10_type_15 (lv_at hl 0 rfl) ?_
              refine lv_iload_n hx hb dX10_type_17 rfl (lv_at hl 3 rfl) ?_
              refine lv_icmp_ge (tgt := 45) hx hb dX10_type_18 (by decide) (fun c_413 => absurd c_413 (by decide)) (fun c_413 => ?_)
              refine lv_lload_n hx hb dX10_type_21 rfl (lv_at hl 2 rfl) ?_
              refine lv_iload hx hb dX10_type_22 (lv_at hl 0 rfl) ?_
              refine cj_i (wc := []) (wr := [(zx, .inr (10, [.ref zn, .ref zk, .ref zr, .ref zl, .ref zc, .ref zs, .ref zw, .ref zt, .ref zm, .int 0])), (zr, .inr (6, [.ref zrt, .int 0, .int 0, .int 0])), (zrt, .inl (cy 0, 80, .inl (fun _ => 0)))]) (w1 := fun (_ : Unit) => []) (va_runS (As := [.long zja, .int 4]) (rest := []) ⟨hx, hb, hml, hown, hts⟩ (c_byteOf_4 l dC dI cy H.size zja) (va_cwS 2 hts gX10_type_X10_byteOf rfl rfl rfl (by decide +kernel) ⟨(Nat.le_of_ble_eq_true rfl), (Nat.le_of_ble_eq_true rfl)⟩) (PRE.s (hP.sub [] rfl) hK (hD.sub [] (by decide) rfl) hN) rfl rfl hl.1 rfl (lv_room (Nat.le_of_ble_eq_true rfl)) dX10_type_24 ⟨(Nat.le_of_ble_eq_true rfl), (Nat.le_of_ble_eq_true rfl)⟩) hP hD hS hA [] [0, 1, 2] rfl rfl rfl (by decide) (fun r_415 u_414 H locs hw_416 hP hD hS => ?_)
              have hP : va_P (dC, dI) vwCl [(zx, .inr (10, [.ref zn, .ref zk, .ref zr, .ref zl, .ref zc, .ref zs, .ref zw, .ref zt, .ref zm, .int 0])), (zr, .inr (6, [.ref zrt, .int 0, .int 0, .int 0])), (zrt, .inl (cy 0, 80, .inl (fun _ => 0)))] H := hP
              have hD : va_D A [(zx, .inr (10, [.ref zn, .ref zk, .ref zr, .ref zl, .ref zc, .ref zs, .ref zw, .ref zt, .ref zm, .int 0])), (zr, .inr (6, [.ref zrt, .int 0, .int 0, .int 0])), (zrt, .inl (cy 0, 80, .inl (fun _ => 0)))] := hD
              have hw_416 : r_415.toInt = by8 zja 4 := hw_416
              refine lv_bipush (v := 32) hx hb dX10_type_27 (by decide) ?_
              refine lv_bipush (v := 126) hx hb dX10_type_29 (by decide) ?_
              refine cj_i (wc := []) (wr := [(zx, .inr (10, [.ref zn, .ref zk, .ref zr, .ref zl, .ref zc, .ref zs, .ref zw, .ref zt, .ref zm, .int 0])), (zr, .inr (6, [.ref zrt, .int 0, .int 0, .int 0])), (zrt, .inl (cy 0, 80, .inl (fun _ => 0)))]) (w1 := fun (_ : Unit) => []) (va_runS (As := [.int r_415, .int 32, .int 126]) (rest := []) ⟨hx, hb, hml, hown, hts⟩ (c_X10_isWithin l dC dI cy H.size r_415 32 126 32 126 (by first | rfl | decide | omega | exact Int32.toInt_toInt64 _) (by first | rfl | decide | omega | exact Int32.toInt_toInt64 _)) (va_cwS 3 hts gX10_type_X10_isWithin rfl rfl rfl (by decide +kernel) ⟨(Nat.le_of_ble_eq_true rfl), (Nat.le_of_ble_eq_true rfl)⟩) (PRE.s (hP.sub [] rfl) hK (hD.sub [] (by decide) rfl) hN) rfl rfl hl.1 rfl (lv_room (Nat.le_of_ble_eq_true rfl)) dX10_type_31 ⟨(Nat.le_of_ble_eq_true rfl), (Nat.le_of_ble_eq_true rfl)⟩) hP hD hS hA [] [0, 1, 2] rfl rfl rfl (by decide) (fun r_418 u_417 H locs hw_419 hP hD hS => ?_)
              have hP : va_P (dC, dI) vwCl [(zx, .inr (10, [.ref zn, .ref zk, .ref zr, .ref zl, .ref zc, .ref zs, .ref zw, .ref zt, .ref zm, .int 0])), (zr, .inr (6, [.ref zrt, .int 0, .int 0, .int 0])), (zrt, .inl (cy 0, 80, .inl (fun _ => 0)))] H := hP
              have hD : va_D A [(zx, .inr (10, [.ref zn, .ref zk, .ref zr, .ref zl, .ref zc, .ref zs, .ref zw, .ref zt, .ref zm, .int 0])), (zr, .inr (6, [.ref zrt, .int 0, .int 0, .int 0])), (zrt, .inl (cy 0, 80, .inl (fun _ => 0)))] := hD
              have hw_419 : r_418 = if 32 ≤ r_415.toInt ∧ r_415.toInt ≤ 126 then 1 else 0 := hw_419
              refine lv_if_ne (tgt := 39) hx hb dX10_type_34 (by decide) (fun c_420 => ?_) (fun c_420 => ?_)
              · have f_421 : 32 ≤ r_415.toInt ∧ r_415.toInt ≤ 126 := bz_1 hw_419 c_420
                have g_422 : okb zja 4 := by unfold okb; rw [← hw_416]; exact f_421
                refine lv_iinc (v := 5) (lv' := [(4, .int 5), (0, .ref zx), (1, .long zja), (3, .int 7)]) hx hb dX10_type_39 hl (k := 0) rfl (by decide) (by decide) rfl (fun ls hl => ?_)
                refine lv_goto (tgt := 15) hx hb dX10_type_42 (by decide) ?_
                refine lv_iload hx hb dX10_type_15 (lv_at hl 0 rfl) ?_
                refine lv_iload_n hx hb dX10_type_17 rfl (lv_at hl 3 rfl) ?_
                refine lv_icmp_ge (tgt := 45) hx hb dX10_type_18 (by decide) (fun c_423 => absurd c_423 (by decide)) (fun c_423 => ?_)
                refine lv_lload_n hx hb dX10_type_21 rfl (lv_at hl 2 rfl) ?_
                refine lv_iload hx hb dX10_type_22 (lv_at hl 0 rfl) ?_
                refine cj_i (wc := []) (wr := [(zx, .inr (10, [.ref zn, .ref zk, .ref zr, .ref zl, .ref zc, .ref zs, .ref zw, .ref zt, .ref zm, .int 0])), (zr, .inr (6, [.ref zrt, .int 0, .int 0, .int 0])), (zrt, .inl (cy 0, 80, .inl (fun _ => 0)))]) (w1 := fun (_ : Unit) => []) (va_runS (As := [.long zja, .int 5]) (rest := []) ⟨hx, hb, hml, hown, hts⟩ (c_byteOf_5 l dC dI cy H.size zja) (va_cwS 2 hts gX10_type_X10_byteOf rfl rfl rfl (by decide +kernel) ⟨(Nat.le_of_ble_eq_true rfl), (Nat.le_of_ble_eq_true rfl)⟩) (PRE.s (hP.sub [] rfl) hK (hD.sub [] (by decide) rfl) hN) rfl rfl hl.1 rfl (lv_room (Nat.le_of_ble_eq_true rfl)) dX10_type_24 ⟨(Nat.le_of_ble_eq_true rfl), (Nat.le_of_ble_eq_true rfl)⟩) hP hD hS hA [] [0, 1, 2] rfl rfl rfl (by decide) (fun r_425 u_424 H locs hw_426 hP hD hS => ?_)
                have hP : va_P (dC, dI) vwCl [(zx, .inr (10, [.ref zn, .ref zk, .ref zr, .ref zl, .ref zc, .ref zs, .ref zw, .ref zt, .ref zm, .int 0])), (zr, .inr (6, [.ref zrt, .int 0, .int 0, .int 0])), (zrt, .inl (cy 0, 80, .inl (fun _ => 0)))] H := hP
                have hD : va_D A [(zx, .inr (10, [.ref zn, .ref zk, .ref zr, .ref zl, .ref zc, .ref zs, .ref zw, .ref zt, .ref zm, .int 0])), (zr, .inr (6, [.ref zrt, .int 0, .int 0, .int 0])), (zrt, .inl (cy 0, 80, .inl (fun _ => 0)))] := hD
                have hw_426 : r_425.toInt = by8 zja 5 := hw_426
                refine lv_bipush (v := 32) hx hb dX10_type_27 (by decide) ?_
                refine lv_bipush (v := 126) hx hb dX10_type_29 (by decide) ?_
                refine cj_i (wc := []) (wr := [(zx, .inr (10, [.ref zn, .ref zk, .ref zr, .ref zl, .ref zc, .ref zs, .ref zw, .ref zt, .ref zm, .int 0])), (zr, .inr (6, [.ref zrt, .int 0, .int 0, .int 0])), (zrt, .inl (cy 0, 80, .inl (fun _ => 0)))]) (w1 := fun (_ : Unit) => []) (va_runS (As := [.int r_425, .int 32, .int 126]) (rest := []) ⟨hx, hb, hml, hown, hts⟩ (c_X10_isWithin l dC dI cy H.size r_425 32 126 32 126 (by first | rfl | decide | omega | exact Int32.toInt_toInt64 _) (by first | rfl | decide | omega | exact Int32.toInt_toInt64 _)) (va_cwS 3 hts gX10_type_X10_isWithin rfl rfl rfl (by decide +kernel) ⟨(Nat.le_of_ble_eq_true rfl), (Nat.le_of_ble_eq_true rfl)⟩) (PRE.s (hP.sub [] rfl) hK (hD.sub [] (by decide) rfl) hN) rfl rfl hl.1 rfl (lv_room (Nat.le_of_ble_eq_true rfl)) dX10_type_31 ⟨(Nat.le_of_ble_eq_true rfl), (Nat.le_of_ble_eq_true rfl)⟩) hP hD hS hA [] [0, 1, 2] rfl rfl rfl (by decide) (fun r_428 u_427 H locs hw_429 hP hD hS => ?_)
                have hP : va_P (dC, dI) vwCl [(zx, .inr (10, [.ref zn, .ref zk, .ref zr, .ref zl, .ref zc, .ref zs, .ref zw, .ref zt, .ref zm, .int 0])), (zr, .inr (6, [.ref zrt, .int 0, .int 0, .int 0])), (zrt, .inl (cy 0, 80, .inl (fun _ => 0)))] H := hP
                have hD : va_D A [(zx, .inr (10, [.ref zn, .ref zk, .ref zr, .ref zl, .ref zc, .ref zs, .ref zw, .ref zt, .ref zm, .int 0])), (zr, .inr (6, [.ref zrt, .int 0, .int 0, .int 0])), (zrt, .inl (cy 0, 80, .inl (fun _ => 0)))] := hD
                have hw_429 : r_428 = if 32 ≤ r_425.toInt ∧ r_425.toInt ≤ 126 then 1 else 0 := hw_429
                refine lv_if_ne (tgt := 39) hx hb dX10_type_34 (by decide) (fun c_430 => ?_) (fun c_430 => ?_)
                · have f_431 : 32 ≤ r_425.toInt ∧ r_425.toInt ≤ 126 := bz_1 hw_429 c_430
                  have g_432 : okb zja 5 := by unfold okb; rw [← hw_426]; exact f_431
                  refine lv_iinc (v := 6) (lv' := [(4, .int 6), (0, .ref zx), (1, .long zja), (3, .int 7)]) hx hb dX10_type_39 hl (k := 0) rfl (by decide) (by decide) rfl (fun ls hl => ?_)
                  refine lv_goto (tgt := 15) hx hb dX10_type_42 (by decide) ?_
                  refine lv_iload hx hb dX10_type_15 (lv_at hl 0 rfl) ?_
                  refine lv_iload_n hx hb dX10_type_17 rfl (lv_at hl 3 rfl) ?_
                  refine lv_icmp_ge (tgt := 45) hx hb dX10_type_18 (by decide) (fun c_433 => absurd c_433 (by decide)) (fun c_433 => ?_)
                  refine lv_lload_n hx hb dX10_type_21 rfl (lv_at hl 2 rfl) ?_
                  refine lv_iload hx hb dX10_type_22 (lv_at hl 0 rfl) ?_
                  refine cj_i (wc := []) (wr := [(zx, .inr (10, [.ref zn, .ref zk, .ref zr, .ref zl, .ref zc, .ref zs, .ref zw, .ref zt, .ref zm, .int 0])), (zr, .inr (6, [.ref zrt, .int 0, .int 0, .int 0])), (zrt, .inl (cy 0, 80, .inl (fun _ => 0)))]) (w1 := fun (_ : Unit) => []) (va_runS (As := [.long zja, .int 6]) (rest := []) ⟨hx, hb, hml, hown, hts⟩ (c_byteOf_6 l dC dI cy H.size zja) (va_cwS 2 hts gX10_type_X10_byteOf rfl rfl rfl (by decide +kernel) ⟨(Nat.le_of_ble_eq_true rfl), (Nat.le_of_ble_eq_true rfl)⟩) (PRE.s (hP.sub [] rfl) hK (hD.sub [] (by decide) rfl) hN) rfl rfl hl.1 rfl (lv_room (Nat.le_of_ble_eq_true rfl)) dX10_type_24 ⟨(Nat.le_of_ble_eq_true rfl), (Nat.le_of_ble_eq_true rfl)⟩) hP hD hS hA [] [0, 1, 2] rfl rfl rfl (by decide) (fun r_435 u_434 H locs hw_436 hP hD hS => ?_)
                  have hP : va_P (dC, dI) vwCl [(zx, .inr (10, [.ref zn, .ref zk, .ref zr, .ref zl, .ref zc, .ref zs, .ref zw, .ref zt, .ref zm, .int 0])), (zr, .inr (6, [.ref zrt, .int 0, .int 0, .int 0])), (zrt, .inl (cy 0, 80, .inl (fun _ => 0)))] H := hP
                  have hD : va_D A [(zx, .inr (10, [.ref zn, .ref zk, .ref zr, .ref zl, .ref zc, .ref zs, .ref zw, .ref zt, .ref zm, .int 0])), (zr, .inr (6, [.ref zrt, .int 0, .int 0, .int 0])), (zrt, .inl (cy 0, 80, .inl (fun _ => 0)))] := hD
                  have hw_436 : r_435.toInt = by8 zja 6 := hw_436
                  refine lv_bipush (v := 32) hx hb dX10_type_27 (by decide) ?_
                  refine lv_bipush (v := 126) hx hb dX10_type_29 (by decide) ?_
                  refine cj_i (wc := []) (wr := [(zx, .inr (10, [.ref zn, .ref zk, .ref zr, .ref zl, .ref zc, .ref zs, .ref zw, .ref zt, .ref zm, .int 0])), (zr, .inr (6, [.ref zrt, .int 0, .int 0, .int 0])), (zrt, .inl (cy 0, 80, .inl (fun _ => 0)))]) (w1 := fun (_ : Unit) => []) (va_runS (As := [.int r_435, .int 32, .int 126]) (rest := []) ⟨hx, hb, hml, hown, hts⟩ (c_X10_isWithin l dC dI cy H.size r_435 32 126 32 126 (by first | rfl | decide | omega | exact Int32.toInt_toInt64 _) (by first | rfl | decide | omega | exact Int32.toInt_toInt64 _)) (va_cwS 3 hts gX10_type_X10_isWithin rfl rfl rfl (by decide +kernel) ⟨(Nat.le_of_ble_eq_true rfl), (Nat.le_of_ble_eq_true rfl)⟩) (PRE.s (hP.sub [] rfl) hK (hD.sub [] (by decide) rfl) hN) rfl rfl hl.1 rfl (lv_room (Nat.le_of_ble_eq_true rfl)) dX10_type_31 ⟨(Nat.le_of_ble_eq_true rfl), (Nat.le_of_ble_eq_true rfl)⟩) hP hD hS hA [] [0, 1, 2] rfl rfl rfl (by decide) (fun r_438 u_437 H locs hw_439 hP hD hS => ?_)
                  have hP : va_P (dC, dI) vwCl [(zx, .inr (10, [.ref zn, .ref zk, .ref zr, .ref zl, .ref zc, .ref zs, .ref zw, .ref zt, .ref zm, .int 0])), (zr, .inr (6, [.ref zrt, .int 0, .int 0, .int 0])), (zrt, .inl (cy 0, 80, .inl (fun _ => 0)))] H := hP
                  have hD : va_D A [(zx, .inr (10, [.ref zn, .ref zk, .ref zr, .ref zl, .ref zc, .ref zs, .ref zw, .ref zt, .ref zm, .int 0])), (zr, .inr (6, [.ref zrt, .int 0, .int 0, .int 0])), (zrt, .inl (cy 0, 80, .inl (fun _ => 0)))] := hD
                  have hw_439 : r_438 = if 32 ≤ r_435.toInt ∧ r_435.toInt ≤ 126 then 1 else 0 := hw_439
                  refine lv_if_ne (tgt := 39) hx hb dX10_type_34 (by decide) (fun c_440 => ?_) (fun c_440 => ?_)
                  · have f_441 : 32 ≤ r_435.toInt ∧ r_435.toInt ≤ 126 := bz_1 hw_439 c_440
                    have g_442 : okb zja 6 := by unfold okb; rw [← hw_436]; exact f_441
                    refine lv_iinc (v := 7) (lv' := [(4, .int 7), (0, .ref zx), (1, .long zja), (3, .int 7)]) hx hb dX10_type_39 hl (k := 0) rfl (by decide) (by decide) rfl (fun ls hl => ?_)
                    refine lv_goto (tgt := 15) hx hb dX10_type_42 (by decide) ?_
                    refine lv_iload hx hb dX10_type_15 (lv_at hl 0 rfl) ?_
                    refine lv_iload_n hx hb dX10_type_17 rfl (lv_at hl 3 rfl) ?_
                    refine lv_icmp_ge (tgt := 45) hx hb dX10_type_18 (by decide) (fun c_443 => ?_) (fun c_443 => absurd (by decide) c_443)
                    refine lv_aload_n hx hb dX10_type_45 rfl (lv_at hl 1 rfl) ?_
                    refine va_get (D := (dC, dI)) (ci := 10) (v := .ref zr) (C := RX10) (T := TX10) (N := 10) hx hb hts (by decide +kernel) hown hK hP 0 rfl rfl 2 (by decide) (hts (.fieldLink RX10 22 "DripStone" "reader" "LDripStone$Reader;") (by decide +kernel)) (fun _ h9 => h9) rfl dX10_type_46 ?_
                    refine va_get (D := (dC, dI)) (ci := 6) (v := .int 0) (C := RX6) (T := TX6) (N := 4) hx hb hts (by decide +kernel) hown hK hP 1 rfl rfl 1 (by decide) (hts (.fieldLink RX10 116 "DripStone$Reader" "typed" "I") (by decide +kernel)) (fun _ h9 => h9) rfl dX10_type_49 ?_
                    refine lv_iload_n hx hb dX10_type_52 rfl (lv_at hl 3 rfl) ?_
                    refine lv_iadd hx hb dX10_type_53 ?_
                    refine lv_topi (fun v_444 ev_444 => ?_)
                    obtain rfl : v_444 = (7 : Int32) := ev_444.trans (by decide)
                    refine lv_bipush (v := 80) hx hb dX10_type_54 (by decide) ?_
                    refine lv_icmp_le (tgt := 62) hx hb dX10_type_56 (by decide) (fun c_445 => ?_) (fun c_445 => absurd (by decide) c_445)
                    refine lv_iload_n hx hb dX10_type_62 rfl (lv_at hl 3 rfl) ?_
                    refine lv_iconst (v := 1) hx hb dX10_type_63 (by decide) ?_
                    refine lv_isub hx hb dX10_type_64 ?_
                    refine lv_topi (fun v_446 ev_446 => ?_)
                    obtain rfl : v_446 = (6 : Int32) := ev_446.trans (by decide)
                    refine lv_istore (lv' := [(4, .int 6), (0, .ref zx), (1, .long zja), (3, .int 7)]) hx hb dX10_type_65 hl (by decide) rfl (fun ls hl => ?_)
                    refine lv_iload hx hb dX10_type_67 (lv_at hl 0 rfl) ?_
                    refine lv_if_lt (tgt := 112) hx hb dX10_type_69 (by decide) (fun c_447 => absurd c_447 (by decide)) (fun c_447 => ?_)
                    refine lv_aload_n hx hb dX10_type_72 rfl (lv_at hl 1 rfl) ?_
                    refine va_get (D := (dC, dI)) (ci := 10) (v := .ref zr) (C := RX10) (T := TX10) (N := 10) hx hb hts (by decide +kernel) hown hK hP 0 rfl rfl 2 (by decide) (hts (.fieldLink RX10 22 "DripStone" "reader" "LDripStone$Reader;") (by decide +kernel)) (fun _ h9 => h9) rfl dX10_type_73 ?_
                    refine va_get (D := (dC, dI)) (ci := 6) (v := .ref zrt) (C := RX6) (T := TX6) (N := 4) hx hb hts (by decide +kernel) hown hK hP 1 rfl rfl 0 (by decide) (hts (.fieldLink RX10 119 "DripStone$Reader" "tape" "[I") (by decide +kernel)) (fun _ h9 => h9) rfl dX10_type_76 ?_
                    refine lv_aload_n hx hb dX10_type_79 rfl (lv_at hl 1 rfl) ?_
                    refine va_get (D := (dC, dI)) (ci := 10) (v := .ref zr) (C := RX10) (T := TX10) (N := 10) hx hb hts (by decide +kernel) hown hK hP 0 rfl rfl 2 (by decide) (hts (.fieldLink RX10 22 "DripStone" "reader" "LDripStone$Reader;") (by decide +kernel)) (fun _ h9 => h9) rfl dX10_type_80 ?_
                    refine va_get (D := (dC, dI)) (ci := 6) (v := .int 0) (C := RX6) (T := TX6) (N := 4) hx hb hts (by decide +kernel) hown hK hP 1 rfl rfl 1 (by decide) (hts (.fieldLink RX10 116 "DripStone$Reader" "typed" "I") (by decide +kernel)) (fun _ h9 => h9) rfl dX10_type_83 ?_
                    refine lv_lload_n hx hb dX10_type_86 rfl (lv_at hl 2 rfl) ?_
                    refine lv_iload hx hb dX10_type_87 (lv_at hl 0 rfl) ?_
                    refine cj_i (wc := []) (wr := [(zx, .inr (10, [.ref zn, .ref zk, .ref zr, .ref zl, .ref zc, .ref zs, .ref zw, .ref zt, .ref zm, .int 0])), (zr, .inr (6, [.ref zrt, .int 0, .int 0, .int 0])), (zrt, .inl (cy 0, 80, .inl (fun _ => 0)))]) (w1 := fun (_ : Unit) => []) (va_runS (As := [.long zja, .int 6]) (rest := [.int 0, .ref zrt]) ⟨hx, hb, hml, hown, hts⟩ (c_byteOf_6 l dC dI cy H.size zja) (va_cwS 2 hts gX10_type_X10_byteOf rfl rfl rfl (by decide +kernel) ⟨(Nat.le_of_ble_eq_true rfl), (Nat.le_of_ble_eq_true rfl)⟩) (PRE.s (hP.sub [] rfl) hK (hD.sub [] (by decide) rfl) hN) rfl rfl hl.1 rfl (lv_room (Nat.le_of_ble_eq_true rfl)) dX10_type_89 ⟨(Nat.le_of_ble_eq_true rfl), (Nat.le_of_ble_eq_true rfl)⟩) hP hD hS hA [] [0, 1, 2] rfl rfl rfl (by decide) (fun r_449 u_448 H locs hw_450 hP hD hS => ?_)
                    have hP : va_P (dC, dI) vwCl [(zx, .inr (10, [.ref zn, .ref zk, .ref zr, .ref zl, .ref zc, .ref zs, .ref zw, .ref zt, .ref zm, .int 0])), (zr, .inr (6, [.ref zrt, .int 0, .int 0, .int 0])), (zrt, .inl (cy 0, 80, .inl (fun _ => 0)))] H := hP
                    have hD : va_D A [(zx, .inr (10, [.ref zn, .ref zk, .ref zr, .ref zl, .ref zc, .ref zs, .ref zw, .ref zt, .ref zm, .int 0])), (zr, .inr (6, [.ref zrt, .int 0, .int 0, .int 0])), (zrt, .inl (cy 0, 80, .inl (fun _ => 0)))] := hD
                    have hw_450 : r_449.toInt = by8 zja 6 := hw_450
                    refine va_iast hx hb hK hP hD hS 2 0 rfl rfl (vp_in_iff.mpr ⟨by decide, by decide⟩) dX10_type_92 (fun H locs hP hD hS => ?_)
                    have hP : va_P (dC, dI) vwCl [(zx, .inr (10, [.ref zn, .ref zk, .ref zr, .ref zl, .ref zc, .ref zs, .ref zw, .ref zt, .ref zm, .int 0])), (zr, .inr (6, [.ref zrt, .int 0, .int 0, .int 0])), (zrt, .inl (cy 0, 80, .inl (upd (fun _ => 0) (0 : Int32).toNatClampNeg r_449)))] H := hP
                    have hD : va_D A [(zx, .inr (10, [.ref zn, .ref zk, .ref zr, .ref zl, .ref zc, .ref zs, .ref zw, .ref zt, .ref zm, .int 0])), (zr, .inr (6, [.ref zrt, .int 0, .int 0, .int 0])), (zrt, .inl (cy 0, 80, .inl (upd (fun _ => 0) (0 : Int32).toNatClampNeg r_449)))] := hD
                    refine lv_aload_n hx hb dX10_type_93 rfl (lv_at hl 1 rfl) ?_
                    refine va_get (D := (dC, dI)) (ci := 10) (v := .ref zr) (C := RX10) (T := TX10) (N := 10) hx hb hts (by decide +kernel) hown hK hP 0 rfl rfl 2 (by decide) (hts (.fieldLink RX10 22 "DripStone" "reader" "LDripStone$Reader;") (by decide +kernel)) (fun _ h9 => h9) rfl dX10_type_94 ?_
                    refine lv_dup hx hb dX10_type_97 rfl ?_
                    refine va_get (D := (dC, dI)) (ci := 6) (v := .int 0) (C := RX6) (T := TX6) (N := 4) hx hb hts (by decide +kernel) hown hK hP 1 rfl rfl 1 (by decide) (hts (.fieldLink RX10 116 "DripStone$Reader" "typed" "I") (by decide +kernel)) (fun _ h9 => h9) rfl dX10_type_98 ?_
                    refine lv_iconst (v := 1) hx hb dX10_type_101 (by decide) ?_
                    refine lv_iadd hx hb dX10_type_102 ?_
                    refine lv_topi (fun v_451 ev_451 => ?_)
                    obtain rfl : v_451 = (1 : Int32) := ev_451.trans (by decide)
                    refine va_put (D := (dC, dI)) (ci := 6) (v := .int 1) (ty := .int) (C := RX6) (T := TX6) (N := 4) hx hb hts (by decide +kernel) tyX6 tyX6_ok nmX6 hown hK hP hD hS 1 rfl rfl 1 (by decide) (hts (.fieldLink RX10 116 "DripStone$Reader" "typed" "I") (by decide +kernel)) (fun _ h9 => h9) rfl (by decide +kernel) rfl rfl (Nat.le_of_ble_eq_true rfl) dX10_type_103 (fun H locs hP hD hS => ?_)
                    have hP : va_P (dC, dI) vwCl [(zx, .inr (10, [.ref zn, .ref zk, .ref zr, .ref zl, .ref zc, .ref zs, .ref zw, .ref zt, .ref zm, .int 0])), (zr, .inr (6, [.ref zrt, .int 1, .int 0, .int 0])), (zrt, .inl (cy 0, 80, .inl (upd (fun _ => 0) (0 : Int32).toNatClampNeg r_449)))] H := hP
                    have hD : va_D A [(zx, .inr (10, [.ref zn, .ref zk, .ref zr, .ref zl, .ref zc, .ref zs, .ref zw, .ref zt, .ref zm, .int 0])), (zr, .inr (6, [.ref zrt, .int 1, .int 0, .int 0])), (zrt, .inl (cy 0, 80, .inl (upd (fun _ => 0) (0 : Int32).toNatClampNeg r_449)))] := hD
                    refine lv_iinc (v := 5) (lv' := [(4, .int 5), (0, .ref zx), (1, .long zja), (3, .int 7)]) hx hb dX10_type_106 hl (k := 0) rfl (by decide) (by decide) rfl (fun ls hl => ?_)
                    refine lv_goto (tgt := 67) hx hb dX10_type_109 (by decide) ?_
                    refine lv_iload hx hb dX10_type_67 (lv_at hl 0 rfl) ?_
                    refine lv_if_lt (tgt := 112) hx hb dX10_type_69 (by decide) (fun c_452 => absurd c_452 (by decide)) (fun c_452 => ?_)
                    refine lv_aload_n hx hb dX10_type_72 rfl (lv_at hl 1 rfl) ?_
                    refine va_get (D := (dC, dI)) (ci := 10) (v := .ref zr) (C := RX10) (T := TX10) (N := 10) hx hb hts (by decide +kernel) hown hK hP 0 rfl rfl 2 (by decide) (hts (.fieldLink RX10 22 "DripStone" "reader" "LDripStone$Reader;") (by decide +kernel)) (fun _ h9 => h9) rfl dX10_type_73 ?_
                    refine va_get (D := (dC, dI)) (ci := 6) (v := .ref zrt) (C := RX6) (T := TX6) (N := 4) hx hb hts (by decide +kernel) hown hK hP 1 rfl rfl 0 (by decide) (hts (.fieldLink RX10 119 "DripStone$Reader" "tape" "[I") (by decide +kernel)) (fun _ h9 => h9) rfl dX10_type_76 ?_
                    refine lv_aload_n hx hb dX10_type_79 rfl (lv_at hl 1 rfl) ?_
                    refine va_get (D := (dC, dI)) (ci := 10) (v := .ref zr) (C := RX10) (T := TX10) (N := 10) hx hb hts (by decide +kernel) hown hK hP 0 rfl rfl 2 (by decide) (hts (.fieldLink RX10 22 "DripStone" "reader" "LDripStone$Reader;") (by decide +kernel)) (fun _ h9 => h9) rfl dX10_type_80 ?_
                    refine va_get (D := (dC, dI)) (ci := 6) (v := .int 1) (C := RX6) (T := TX6) (N := 4) hx hb hts (by decide +kernel) hown hK hP 1 rfl rfl 1 (by decide) (hts (.fieldLink RX10 116 "DripStone$Reader" "typed" "I") (by decide +kernel)) (fun _ h9 => h9) rfl dX10_type_83 ?_
                    refine lv_lload_n hx hb dX10_type_86 rfl (lv_at hl 2 rfl) ?_
                    refine lv_iload hx hb dX10_type_87 (lv_at hl 0 rfl) ?_
                    refine cj_i (wc := []) (wr := [(zx, .inr (10, [.ref zn, .ref zk, .ref zr, .ref zl, .ref zc, .ref zs, .ref zw, .ref zt, .ref zm, .int 0])), (zr, .inr (6, [.ref zrt, .int 1, .int 0, .int 0])), (zrt, .inl (cy 0, 80, .inl (upd (fun _ => 0) (0 : Int32).toNatClampNeg r_449)))]) (w1 := fun (_ : Unit) => []) (va_runS (As := [.long zja, .int 5]) (rest := [.int 1, .ref zrt]) ⟨hx, hb, hml, hown, hts⟩ (c_byteOf_5 l dC dI cy H.size zja) (va_cwS 2 hts gX10_type_X10_byteOf rfl rfl rfl (by decide +kernel) ⟨(Nat.le_of_ble_eq_true rfl), (Nat.le_of_ble_eq_true rfl)⟩) (PRE.s (hP.sub [] rfl) hK (hD.sub [] (by decide) rfl) hN) rfl rfl hl.1 rfl (lv_room (Nat.le_of_ble_eq_true rfl)) dX10_type_89 ⟨(Nat.le_of_ble_eq_true rfl), (Nat.le_of_ble_eq_true rfl)⟩) hP hD hS hA [] [0, 1, 2] rfl rfl rfl (by decide) (fun r_454 u_453 H locs hw_455 hP hD hS => ?_)
                    have hP : va_P (dC, dI) vwCl [(zx, .inr (10, [.ref zn, .ref zk, .ref zr, .ref zl, .ref zc, .ref zs, .ref zw, .ref zt, .ref zm, .int 0])), (zr, .inr (6, [.ref zrt, .int 1, .int 0, .int 0])), (zrt, .inl (cy 0, 80, .inl (upd (fun _ => 0) (0 : Int32).toNatClampNeg r_449)))] H := hP
                    have hD : va_D A [(zx, .inr (10, [.ref zn, .ref zk, .ref zr, .ref zl, .ref zc, .ref zs, .ref zw, .ref zt, .ref zm, .int 0])), (zr, .inr (6, [.ref zrt, .int 1, .int 0, .int 0])), (zrt, .inl (cy 0, 80, .inl (upd (fun _ => 0) (0 : Int32).toNatClampNeg r_449)))] := hD
                    have hw_455 : r_454.toInt = by8 zja 5 := hw_455
                    refine va_iast hx hb hK hP hD hS 2 0 rfl rfl (vp_in_iff.mpr ⟨by decide, by decide⟩) dX10_type_92 (fun H locs hP hD hS => ?_)
                    have hP : va_P (dC, dI) vwCl [(zx, .inr (10, [.ref zn, .ref zk, .ref zr, .ref zl, .ref zc, .ref zs, .ref zw, .ref zt, .ref zm, .int 0])), (zr, .inr (6, [.ref zrt, .int 1, .int 0, .int 0])), (zrt, .inl (cy 0, 80, .inl (upd (upd (fun _ => 0) (0 : Int32).toNatClampNeg r_449) (1 : Int32).toNatClampNeg r_454)))] H := hP
                    have hD : va_D A [(zx, .inr (10, [.ref zn, .ref zk, .ref zr, .ref zl, .ref zc, .ref zs, .ref zw, .ref zt, .ref zm, .int 0])), (zr, .inr (6, [.ref zrt, .int 1, .int 0, .int 0])), (zrt, .inl (cy 0, 80, .inl (upd (upd (fun _ => 0) (0 : Int32).toNatClampNeg r_449) (1 : Int32).toNatClampNeg r_454)))] := hD
                    refine lv_aload_n hx hb dX10_type_93 rfl (lv_at hl 1 rfl) ?_
                    refine va_get (D := (dC, dI)) (ci := 10) (v := .ref zr) (C := RX10) (T := TX10) (N := 10) hx hb hts (by decide +kernel) hown hK hP 0 rfl rfl 2 (by decide) (hts (.fieldLink RX10 22 "DripStone" "reader" "LDripStone$Reader;") (by decide +kernel)) (fun _ h9 => h9) rfl dX10_type_94 ?_
                    refine lv_dup hx hb dX10_type_97 rfl ?_
                    refine va_get (D := (dC, dI)) (ci := 6) (v := .int 1) (C := RX6) (T := TX6) (N := 4) hx hb hts (by decide +kernel) hown hK hP 1 rfl rfl 1 (by decide) (hts (.fieldLink RX10 116 "DripStone$Reader" "typed" "I") (by decide +kernel)) (fun _ h9 => h9) rfl dX10_type_98 ?_
                    refine lv_iconst (v := 1) hx hb dX10_type_101 (by decide) ?_
                    refine lv_iadd hx hb dX10_type_102 ?_
                    refine lv_topi (fun v_456 ev_456 => ?_)
                    obtain rfl : v_456 = (2 : Int32) := ev_456.trans (by decide)
                    refine va_put (D := (dC, dI)) (ci := 6) (v := .int 2) (ty := .int) (C := RX6) (T := TX6) (N := 4) hx hb hts (by decide +kernel) tyX6 tyX6_ok nmX6 hown hK hP hD hS 1 rfl rfl 1 (by decide) (hts (.fieldLink RX10 116 "DripStone$Reader" "typed" "I") (by decide +kernel)) (fun _ h9 => h9) rfl (by decide +kernel) rfl rfl (Nat.le_of_ble_eq_true rfl) dX10_type_103 (fun H locs hP hD hS => ?_)
                    have hP : va_P (dC, dI) vwCl [(zx, .inr (10, [.ref zn, .ref zk, .ref zr, .ref zl, .ref zc, .ref zs, .ref zw, .ref zt, .ref zm, .int 0])), (zr, .inr (6, [.ref zrt, .int 2, .int 0, .int 0])), (zrt, .inl (cy 0, 80, .inl (upd (upd (fun _ => 0) (0 : Int32).toNatClampNeg r_449) (1 : Int32).toNatClampNeg r_454)))] H := hP
                    have hD : va_D A [(zx, .inr (10, [.ref zn, .ref zk, .ref zr, .ref zl, .ref zc, .ref zs, .ref zw, .ref zt, .ref zm, .int 0])), (zr, .inr (6, [.ref zrt, .int 2, .int 0, .int 0])), (zrt, .inl (cy 0, 80, .inl (upd (upd (fun _ => 0) (0 : Int32).toNatClampNeg r_449) (1 : Int32).toNatClampNeg r_454)))] := hD
                    refine lv_iinc (v := 4) (lv' := [(4, .int 4), (0, .ref zx), (1, .long zja), (3, .int 7)]) hx hb dX10_type_106 hl (k := 0) rfl (by decide) (by decide) rfl (fun ls hl => ?_)
                    refine lv_goto (tgt := 67) hx hb dX10_type_109 (by decide) ?_
                    refine lv_iload hx hb dX10_type_67 (lv_at hl 0 rfl) ?_
                    refine lv_if_lt (tgt := 112) hx hb dX10_type_69 (by decide) (fun c_457 => absurd c_457 (by decide)) (fun c_457 => ?_)
                    refine lv_aload_n hx hb dX10_type_72 rfl (lv_at hl 1 rfl) ?_
                    refine va_get (D := (dC, dI)) (ci := 10) (v := .ref zr) (C := RX10) (T := TX10) (N := 10) hx hb hts (by decide +kernel) hown hK hP 0 rfl rfl 2 (by decide) (hts (.fieldLink RX10 22 "DripStone" "reader" "LDripStone$Reader;") (by decide +kernel)) (fun _ h9 => h9) rfl dX10_type_73 ?_
                    refine va_get (D := (dC, dI)) (ci := 6) (v := .ref zrt) (C := RX6) (T := TX6) (N := 4) hx hb hts (by decide +kernel) hown hK hP 1 rfl rfl 0 (by decide) (hts (.fieldLink RX10 119 "DripStone$Reader" "tape" "[I") (by decide +kernel)) (fun _ h9 => h9) rfl dX10_type_76 ?_
                    refine lv_aload_n hx hb dX10_type_79 rfl (lv_at hl 1 rfl) ?_
                    refine va_get (D := (dC, dI)) (ci := 10) (v := .ref zr) (C := RX10) (T := TX10) (N := 10) hx hb hts (by decide +kernel) hown hK hP 0 rfl rfl 2 (by decide) (hts (.fieldLink RX10 22 "DripStone" "reader" "LDripStone$Reader;") (by decide +kernel)) (fun _ h9 => h9) rfl dX10_type_80 ?_
                    refine va_get (D := (dC, dI)) (ci := 6) (v := .int 2) (C := RX6) (T := TX6) (N := 4) hx hb hts (by decide +kernel) hown hK hP 1 rfl rfl 1 (by decide) (hts (.fieldLink RX10 116 "DripStone$Reader" "typed" "I") (by decide +kernel)) (fun _ h9 => h9) rfl dX10_type_83 ?_
                    refine lv_lload_n hx hb dX10_type_86 rfl (lv_at hl 2 rfl) ?_
                    refine lv_iload hx hb dX10_type_87 (lv_at hl 0 rfl) ?_
                    refine cj_i (wc := []) (wr := [(zx, .inr (10, [.ref zn, .ref zk, .ref zr, .ref zl, .ref zc, .ref zs, .ref zw, .ref zt, .ref zm, .int 0])), (zr, .inr (6, [.ref zrt, .int 2, .int 0, .int 0])), (zrt, .inl (cy 0, 80, .inl (upd (upd (fun _ => 0) (0 : Int32).toNatClampNeg r_449) (1 : Int32).toNatClampNeg r_454)))]) (w1 := fun (_ : Unit) => []) (va_runS (As := [.long zja, .int 4]) (rest := [.int 2, .ref zrt]) ⟨hx, hb, hml, hown, hts⟩ (c_byteOf_4 l dC dI cy H.size zja) (va_cwS 2 hts gX10_type_X10_byteOf rfl rfl rfl (by decide +kernel) ⟨(Nat.le_of_ble_eq_true rfl), (Nat.le_of_ble_eq_true rfl)⟩) (PRE.s (hP.sub [] rfl) hK (hD.sub [] (by decide) rfl) hN) rfl rfl hl.1 rfl (lv_room (Nat.le_of_ble_eq_true rfl)) dX10_type_89 ⟨(Nat.le_of_ble_eq_true rfl), (Nat.le_of_ble_eq_true rfl)⟩) hP hD hS hA [] [0, 1, 2] rfl rfl rfl (by decide) (fun r_459 u_458 H locs hw_460 hP hD hS => ?_)
                    have hP : va_P (dC, dI) vwCl [(zx, .inr (10, [.ref zn, .ref zk, .ref zr, .ref zl, .ref zc, .ref zs, .ref zw, .ref zt, .ref zm, .int 0])), (zr, .inr (6, [.ref zrt, .int 2, .int 0, .int 0])), (zrt, .inl (cy 0, 80, .inl (upd (upd (fun _ => 0) (0 : Int32).toNatClampNeg r_449) (1 : Int32).toNatClampNeg r_454)))] H := hP
                    have hD : va_D A [(zx, .inr (10, [.ref zn, .ref zk, .ref zr, .ref zl, .ref zc, .ref zs, .ref zw, .ref zt, .ref zm, .int 0])), (zr, .inr (6, [.ref zrt, .int 2, .int 0, .int 0])), (zrt, .inl (cy 0, 80, .inl (upd (upd (fun _ => 0) (0 : Int32).toNatClampNeg r_449) (1 : Int32).toNatClampNeg r_454)))] := hD
                    have hw_460 : r_459.toInt = by8 zja 4 := hw_460
                    refine va_iast hx hb hK hP hD hS 2 0 rfl rfl (vp_in_iff.mpr ⟨by decide, by decide⟩) dX10_type_92 (fun H locs hP hD hS => ?_)
                    have hP : va_P (dC, dI) vwCl [(zx, .inr (10, [.ref zn, .ref zk, .ref zr, .ref zl, .ref zc, .ref zs, .ref zw, .ref zt, .ref zm, .int 0])), (zr, .inr (6, [.ref zrt, .int 2, .int 0, .int 0])), (zrt, .inl (cy 0, 80, .inl (upd (upd (upd (fun _ => 0) (0 : Int32).toNatClampNeg r_449) (1 : Int32).toNatClampNeg r_454) (2 : Int32).toNatClampNeg r_459)))] H := hP
                    have hD : va_D A [(zx, .inr (10, [.ref zn, .ref zk, .ref zr, .ref zl, .ref zc, .ref zs, .ref zw, .ref zt, .ref zm, .int 0])), (zr, .inr (6, [.ref zrt, .int 2, .int 0, .int 0])), (zrt, .inl (cy 0, 80, .inl (upd (upd (upd (fun _ => 0) (0 : Int32).toNatClampNeg r_449) (1 : Int32).toNatClampNeg r_454) (2 : Int32).toNatClampNeg r_459)))] := hD
                    refine lv_aload_n hx hb dX10_type_93 rfl (lv_at hl 1 rfl) ?_
                    refine va_get (D := (dC, dI)) (ci := 10) (v := .ref zr) (C := RX10) (T := TX10) (N := 10) hx hb hts (by decide +kernel) hown hK hP 0 rfl rfl 2 (by decide) (hts (.fieldLink RX10 22 "DripStone" "reader" "LDripStone$Reader;") (by decide +kernel)) (fun _ h9 => h9) rfl dX10_type_94 ?_
                    refine lv_dup hx hb dX10_type_97 rfl ?_
                    refine va_get (D := (dC, dI)) (ci := 6) (v := .int 2) (C := RX6) (T := TX6) (N := 4) hx hb hts (by decide +kernel) hown hK hP 1 rfl rfl 1 (by decide) (hts (.fieldLink RX10 116 "DripStone$Reader" "typed" "I") (by decide +kernel)) (fun _ h9 => h9) rfl dX10_type_98 ?_
                    refine lv_iconst (v := 1) hx hb dX10_type_101 (by decide) ?_
                    refine lv_iadd hx hb dX10_type_102 ?_
                    refine lv_topi (fun v_461 ev_461 => ?_)
                    obtain rfl : v_461 = (3 : Int32) := ev_461.trans (by decide)
                    refine va_put (D := (dC, dI)) (ci := 6) (v := .int 3) (ty := .int) (C := RX6) (T := TX6) (N := 4) hx hb hts (by decide +kernel) tyX6 tyX6_ok nmX6 hown hK hP hD hS 1 rfl rfl 1 (by decide) (hts (.fieldLink RX10 116 "DripStone$Reader" "typed" "I") (by decide +kernel)) (fun _ h9 => h9) rfl (by decide +kernel) rfl rfl (Nat.le_of_ble_eq_true rfl) dX10_type_103 (fun H locs hP hD hS => ?_)
                    have hP : va_P (dC, dI) vwCl [(zx, .inr (10, [.ref zn, .ref zk, .ref zr, .ref zl, .ref zc, .ref zs, .ref zw, .ref zt, .ref zm, .int 0])), (zr, .inr (6, [.ref zrt, .int 3, .int 0, .int 0])), (zrt, .inl (cy 0, 80, .inl (upd (upd (upd (fun _ => 0) (0 : Int32).toNatClampNeg r_449) (1 : Int32).toNatClampNeg r_454) (2 : Int32).toNatClampNeg r_459)))] H := hP
                    have hD : va_D A [(zx, .inr (10, [.ref zn, .ref zk, .ref zr, .ref zl, .ref zc, .ref zs, .ref zw, .ref zt, .ref zm, .int 0])), (zr, .inr (6, [.ref zrt, .int 3, .int 0, .int 0])), (zrt, .inl (cy 0, 80, .inl (upd (upd (upd (fun _ => 0) (0 : Int32).toNatClampNeg r_449) (1 : Int32).toNatClampNeg r_454) (2 : Int32).toNatClampNeg r_459)))] := hD
                    refine lv_iinc (v := 3) (lv' := [(4, .int 3), (0, .ref zx), (1, .long zja), (3, .int 7)]) hx hb dX10_type_106 hl (k := 0) rfl (by decide) (by decide) rfl (fun ls hl => ?_)
                    refine lv_goto (tgt := 67) hx hb dX10_type_109 (by decide) ?_
                    refine lv_iload hx hb dX10_type_67 (lv_at hl 0 rfl) ?_
                    refine lv_if_lt (tgt := 112) hx hb dX10_type_69 (by decide) (fun c_462 => absurd c_462 (by decide)) (fun c_462 => ?_)
                    refine lv_aload_n hx hb dX10_type_72 rfl (lv_at hl 1 rfl) ?_
                    refine va_get (D := (dC, dI)) (ci := 10) (v := .ref zr) (C := RX10) (T := TX10) (N := 10) hx hb hts (by decide +kernel) hown hK hP 0 rfl rfl 2 (by decide) (hts (.fieldLink RX10 22 "DripStone" "reader" "LDripStone$Reader;") (by decide +kernel)) (fun _ h9 => h9) rfl dX10_type_73 ?_
                    refine va_get (D := (dC, dI)) (ci := 6) (v := .ref zrt) (C := RX6) (T := TX6) (N := 4) hx hb hts (by decide +kernel) hown hK hP 1 rfl rfl 0 (by decide) (hts (.fieldLink RX10 119 "DripStone$Reader" "tape" "[I") (by decide +kernel)) (fun _ h9 => h9) rfl dX10_type_76 ?_
                    refine lv_aload_n hx hb dX10_type_79 rfl (lv_at hl 1 rfl) ?_
                    refine va_get (D := (dC, dI)) (ci := 10) (v := .ref zr) (C := RX10) (T := TX10) (N := 10) hx hb hts (by decide +kernel) hown hK hP 0 rfl rfl 2 (by decide) (hts (.fieldLink RX10 22 "DripStone" "reader" "LDripStone$Reader;") (by decide +kernel)) (fun _ h9 => h9) rfl dX10_type_80 ?_
                    refine va_get (D := (dC, dI)) (ci := 6) (v := .int 3) (C := RX6) (T := TX6) (N := 4) hx hb hts (by decide +kernel) hown hK hP 1 rfl rfl 1 (by decide) (hts (.fieldLink RX10 116 "DripStone$Reader" "typed" "I") (by decide +kernel)) (fun _ h9 => h9) rfl dX10_type_83 ?_
                    refine lv_lload_n hx hb dX10_type_86 rfl (lv_at hl 2 rfl) ?_
                    refine lv_iload hx hb dX10_type_87 (lv_at hl 0 rfl) ?_
                    refine cj_i (wc := []) (wr := [(zx, .inr (10, [.ref zn, .ref zk, .ref zr, .ref zl, .ref zc, .ref zs, .ref zw, .ref zt, .ref zm, .int 0])), (zr, .inr (6, [.ref zrt, .int 3, .int 0, .int 0])), (zrt, .inl (cy 0, 80, .inl (upd (upd (upd (fun _ => 0) (0 : Int32).toNatClampNeg r_449) (1 : Int32).toNatClampNeg r_454) (2 : Int32).toNatClampNeg r_459)))]) (w1 := fun (_ : Unit) => []) (va_runS (As := [.long zja, .int 3]) (rest := [.int 3, .ref zrt]) ⟨hx, hb, hml, hown, hts⟩ (c_byteOf_3 l dC dI cy H.size zja) (va_cwS 2 hts gX10_type_X10_byteOf rfl rfl rfl (by decide +kernel) ⟨(Nat.le_of_ble_eq_true rfl), (Nat.le_of_ble_eq_true rfl)⟩) (PRE.s (hP.sub [] rfl) hK (hD.sub [] (by decide) rfl) hN) rfl rfl hl.1 rfl (lv_room (Nat.le_of_ble_eq_true rfl)) dX10_type_89 ⟨(Nat.le_of_ble_eq_true rfl), (Nat.le_of_ble_eq_true rfl)⟩) hP hD hS hA [] [0, 1, 2] rfl rfl rfl (by decide) (fun r_464 u_463 H locs hw_465 hP hD hS => ?_)
                    have hP : va_P (dC, dI) vwCl [(zx, .inr (10, [.ref zn, .ref zk, .ref zr, .ref zl, .ref zc, .ref zs, .ref zw, .ref zt, .ref zm, .int 0])), (zr, .inr (6, [.ref zrt, .int 3, .int 0, .int 0])), (zrt, .inl (cy 0, 80, .inl (upd (upd (upd (fun _ => 0) (0 : Int32).toNatClampNeg r_449) (1 : Int32).toNatClampNeg r_454) (2 : Int32).toNatClampNeg r_459)))] H := hP
                    have hD : va_D A [(zx, .inr (10, [.ref zn, .ref zk, .ref zr, .ref zl, .ref zc, .ref zs, .ref zw, .ref zt, .ref zm, .int 0])), (zr, .inr (6, [.ref zrt, .int 3, .int 0, .int 0])), (zrt, .inl (cy 0, 80, .inl (upd (upd (upd (fun _ => 0) (0 : Int32).toNatClampNeg r_449) (1 : Int32).toNatClampNeg r_454) (2 : Int32).toNatClampNeg r_459)))] := hD
                    have hw_465 : r_464.toInt = by8 zja 3 := hw_465
                    refine va_iast hx hb hK hP hD hS 2 0 rfl rfl (vp_in_iff.mpr ⟨by decide, by decide⟩) dX10_type_92 (fun H locs hP hD hS => ?_)
                    have hP : va_P (dC, dI) vwCl [(zx, .inr (10, [.ref zn, .ref zk, .ref zr, .ref zl, .ref zc, .ref zs, .ref zw, .ref zt, .ref zm, .int 0])), (zr, .inr (6, [.ref zrt, .int 3, .int 0, .int 0])), (zrt, .inl (cy 0, 80, .inl (upd (upd (upd (upd (fun _ => 0) (0 : Int32).toNatClampNeg r_449) (1 : Int32).toNatClampNeg r_454) (2 : Int32).toNatClampNeg r_459) (3 : Int32).toNatClampNeg r_464)))] H := hP
                    have hD : va_D A [(zx, .inr (10, [.ref zn, .ref zk, .ref zr, .ref zl, .ref zc, .ref zs, .ref zw, .ref zt, .ref zm, .int 0])), (zr, .inr (6, [.ref zrt, .int 3, .int 0, .int 0])), (zrt, .inl (cy 0, 80, .inl (upd (upd (upd (upd (fun _ => 0) (0 : Int32).toNatClampNeg r_449) (1 : Int32).toNatClampNeg r_454) (2 : Int32).toNatClampNeg r_459) (3 : Int32).toNatClampNeg r_464)))] := hD
                    refine lv_aload_n hx hb dX10_type_93 rfl (lv_at hl 1 rfl) ?_
                    refine va_get (D := (dC, dI)) (ci := 10) (v := .ref zr) (C := RX10) (T := TX10) (N := 10) hx hb hts (by decide +kernel) hown hK hP 0 rfl rfl 2 (by decide) (hts (.fieldLink RX10 22 "DripStone" "reader" "LDripStone$Reader;") (by decide +kernel)) (fun _ h9 => h9) rfl dX10_type_94 ?_
                    refine lv_dup hx hb dX10_type_97 rfl ?_
                    refine va_get (D := (dC, dI)) (ci := 6) (v := .int 3) (C := RX6) (T := TX6) (N := 4) hx hb hts (by decide +kernel) hown hK hP 1 rfl rfl 1 (by decide) (hts (.fieldLink RX10 116 "DripStone$Reader" "typed" "I") (by decide +kernel)) (fun _ h9 => h9) rfl dX10_type_98 ?_
                    refine lv_iconst (v := 1) hx hb dX10_type_101 (by decide) ?_
                    refine lv_iadd hx hb dX10_type_102 ?_
                    refine lv_topi (fun v_466 ev_466 => ?_)
                    obtain rfl : v_466 = (4 : Int32) := ev_466.trans (by decide)
                    refine va_put (D := (dC, dI)) (ci := 6) (v := .int 4) (ty := .int) (C := RX6) (T := TX6) (N := 4) hx hb hts (by decide +kernel) tyX6 tyX6_ok nmX6 hown hK hP hD hS 1 rfl rfl 1 (by decide) (hts (.fieldLink RX10 116 "DripStone$Reader" "typed" "I") (by decide +kernel)) (fun _ h9 => h9) rfl (by decide +kernel) rfl rfl (Nat.le_of_ble_eq_true rfl) dX10_type_103 (fun H locs hP hD hS => ?_)
                    have hP : va_P (dC, dI) vwCl [(zx, .inr (10, [.ref zn, .ref zk, .ref zr, .ref zl, .ref zc, .ref zs, .ref zw, .ref zt, .ref zm, .int 0])), (zr, .inr (6, [.ref zrt, .int 4, .int 0, .int 0])), (zrt, .inl (cy 0, 80, .inl (upd (upd (upd (upd (fun _ => 0) (0 : Int32).toNatClampNeg r_449) (1 : Int32).toNatClampNeg r_454) (2 : Int32).toNatClampNeg r_459) (3 : Int32).toNatClampNeg r_464)))] H := hP
                    have hD : va_D A [(zx, .inr (10, [.ref zn, .ref zk, .ref zr, .ref zl, .ref zc, .ref zs, .ref zw, .ref zt, .ref zm, .int 0])), (zr, .inr (6, [.ref zrt, .int 4, .int 0, .int 0])), (zrt, .inl (cy 0, 80, .inl (upd (upd (upd (upd (fun _ => 0) (0 : Int32).toNatClampNeg r_449) (1 : Int32).toNatClampNeg r_454) (2 : Int32).toNatClampNeg r_459) (3 : Int32).toNatClampNeg r_464)))] := hD
                    refine lv_iinc (v := 2) (lv' := [(4, .int 2), (0, .ref zx), (1, .long zja), (3, .int 7)]) hx hb dX10_type_106 hl (k := 0) rfl (by decide) (by decide) rfl (fun ls hl => ?_)
                    refine lv_goto (tgt := 67) hx hb dX10_type_109 (by decide) ?_
                    refine lv_iload hx hb dX10_type_67 (lv_at hl 0 rfl) ?_
                    refine lv_if_lt (tgt := 112) hx hb dX10_type_69 (by decide) (fun c_467 => absurd c_467 (by decide)) (fun c_467 => ?_)
                    refine lv_aload_n hx hb dX10_type_72 rfl (lv_at hl 1 rfl) ?_
                    refine va_get (D := (dC, dI)) (ci := 10) (v := .ref zr) (C := RX10) (T := TX10) (N := 10) hx hb hts (by decide +kernel) hown hK hP 0 rfl rfl 2 (by decide) (hts (.fieldLink RX10 22 "DripStone" "reader" "LDripStone$Reader;") (by decide +kernel)) (fun _ h9 => h9) rfl dX10_type_73 ?_
                    refine va_get (D := (dC, dI)) (ci := 6) (v := .ref zrt) (C := RX6) (T := TX6) (N := 4) hx hb hts (by decide +kernel) hown hK hP 1 rfl rfl 0 (by decide) (hts (.fieldLink RX10 119 "DripStone$Reader" "tape" "[I") (by decide +kernel)) (fun _ h9 => h9) rfl dX10_type_76 ?_
                    refine lv_aload_n hx hb dX10_type_79 rfl (lv_at hl 1 rfl) ?_
                    refine va_get (D := (dC, dI)) (ci := 10) (v := .ref zr) (C := RX10) (T := TX10) (N := 10) hx hb hts (by decide +kernel) hown hK hP 0 rfl rfl 2 (by decide) (hts (.fieldLink RX10 22 "DripStone" "reader" "LDripStone$Reader;") (by decide +kernel)) (fun _ h9 => h9) rfl dX10_type_80 ?_
                    refine va_get (D := (dC, dI)) (ci := 6) (v := .int 4) (C := RX6) (T := TX6) (N := 4) hx hb hts (by decide +kernel) hown hK hP 1 rfl rfl 1 (by decide) (hts (.fieldLink RX10 116 "DripStone$Reader" "typed" "I") (by decide +kernel)) (fun _ h9 => h9) rfl dX10_type_83 ?_
                    refine lv_lload_n hx hb dX10_type_86 rfl (lv_at hl 2 rfl) ?_
                    refine lv_iload hx hb dX10_type_87 (lv_at hl 0 rfl) ?_
                    refine cj_i (wc := []) (wr := [(zx, .inr (10, [.ref zn, .ref zk, .ref zr, .ref zl, .ref zc, .ref zs, .ref zw, .ref zt, .ref zm, .int 0])), (zr, .inr (6, [.ref zrt, .int 4, .int 0, .int 0])), (zrt, .inl (cy 0, 80, .inl (upd (upd (upd (upd (fun _ => 0) (0 : Int32).toNatClampNeg r_449) (1 : Int32).toNatClampNeg r_454) (2 : Int32).toNatClampNeg r_459) (3 : Int32).toNatClampNeg r_464)))]) (w1 := fun (_ : Unit) => []) (va_runS (As := [.long zja, .int 2]) (rest := [.int 4, .ref zrt]) ⟨hx, hb, hml, hown, hts⟩ (c_byteOf_2 l dC dI cy H.size zja) (va_cwS 2 hts gX10_type_X10_byteOf rfl rfl rfl (by decide +kernel) ⟨(Nat.le_of_ble_eq_true rfl), (Nat.le_of_ble_eq_true rfl)⟩) (PRE.s (hP.sub [] rfl) hK (hD.sub [] (by decide) rfl) hN) rfl rfl hl.1 rfl (lv_room (Nat.le_of_ble_eq_true rfl)) dX10_type_89 ⟨(Nat.le_of_ble_eq_true rfl), (Nat.le_of_ble_eq_true rfl)⟩) hP hD hS hA [] [0, 1, 2] rfl rfl rfl (by decide) (fun r_469 u_468 H locs hw_470 hP hD hS => ?_)
                    have hP : va_P (dC, dI) vwCl [(zx, .inr (10, [.ref zn, .ref zk, .ref zr, .ref zl, .ref zc, .ref zs, .ref zw, .ref zt, .ref zm, .int 0])), (zr, .inr (6, [.ref zrt, .int 4, .int 0, .int 0])), (zrt, .inl (cy 0, 80, .inl (upd (upd (upd (upd (fun _ => 0) (0 : Int32).toNatClampNeg r_449) (1 : Int32).toNatClampNeg r_454) (2 : Int32).toNatClampNeg r_459) (3 : Int32).toNatClampNeg r_464)))] H := hP
                    have hD : va_D A [(zx, .inr (10, [.ref zn, .ref zk, .ref zr, .ref zl, .ref zc, .ref zs, .ref zw, .ref zt, .ref zm, .int 0])), (zr, .inr (6, [.ref zrt, .int 4, .int 0, .int 0])), (zrt, .inl (cy 0, 80, .inl (upd (upd (upd (upd (fun _ => 0) (0 : Int32).toNatClampNeg r_449) (1 : Int32).toNatClampNeg r_454) (2 : Int32).toNatClampNeg r_459) (3 : Int32).toNatClampNeg r_464)))] := hD
                    have hw_470 : r_469.toInt = by8 zja 2 := hw_470
                    refine va_iast hx hb hK hP hD hS 2 0 rfl rfl (vp_in_iff.mpr ⟨by decide, by decide⟩) dX10_type_92 (fun H locs hP hD hS => ?_)
                    have hP : va_P (dC, dI) vwCl [(zx, .inr (10, [.ref zn, .ref zk, .ref zr, .ref zl, .ref zc, .ref zs, .ref zw, .ref zt, .ref zm, .int 0])), (zr, .inr (6, [.ref zrt, .int 4, .int 0, .int 0])), (zrt, .inl (cy 0, 80, .inl (upd (upd (upd (upd (upd (fun _ => 0) (0 : Int32).toNatClampNeg r_449) (1 : Int32).toNatClampNeg r_454) (2 : Int32).toNatClampNeg r_459) (3 : Int32).toNatClampNeg r_464) (4 : Int32).toNatClampNeg r_469)))] H := hP
                    have hD : va_D A [(zx, .inr (10, [.ref zn, .ref zk, .ref zr, .ref zl, .ref zc, .ref zs, .ref zw, .ref zt, .ref zm, .int 0])), (zr, .inr (6, [.ref zrt, .int 4, .int 0, .int 0])), (zrt, .inl (cy 0, 80, .inl (upd (upd (upd (upd (upd (fun _ => 0) (0 : Int32).toNatClampNeg r_449) (1 : Int32).toNatClampNeg r_454) (2 : Int32).toNatClampNeg r_459) (3 : Int32).toNatClampNeg r_464) (4 : Int32).toNatClampNeg r_469)))] := hD
                    refine lv_aload_n hx hb dX10_type_93 rfl (lv_at hl 1 rfl) ?_
                    refine va_get (D := (dC, dI)) (ci := 10) (v := .ref zr) (C := RX10) (T := TX10) (N := 10) hx hb hts (by decide +kernel) hown hK hP 0 rfl rfl 2 (by decide) (hts (.fieldLink RX10 22 "DripStone" "reader" "LDripStone$Reader;") (by decide +kernel)) (fun _ h9 => h9) rfl dX10_type_94 ?_
                    refine lv_dup hx hb dX10_type_97 rfl ?_
                    refine va_get (D := (dC, dI)) (ci := 6) (v := .int 4) (C := RX6) (T := TX6) (N := 4) hx hb hts (by decide +kernel) hown hK hP 1 rfl rfl 1 (by decide) (hts (.fieldLink RX10 116 "DripStone$Reader" "typed" "I") (by decide +kernel)) (fun _ h9 => h9) rfl dX10_type_98 ?_
                    refine lv_iconst (v := 1) hx hb dX10_type_101 (by decide) ?_
                    refine lv_iadd hx hb dX10_type_102 ?_
                    refine lv_topi (fun v_471 ev_471 => ?_)
                    obtain rfl : v_471 = (5 : Int32) := ev_471.trans (by decide)
                    refine va_put (D := (dC, dI)) (ci := 6) (v := .int 5) (ty := .int) (C := RX6) (T := TX6) (N := 4) hx hb hts (by decide +kernel) tyX6 tyX6_ok nmX6 hown hK hP hD hS 1 rfl rfl 1 (by decide) (hts (.fieldLink RX10 116 "DripStone$Reader" "typed" "I") (by decide +kernel)) (fun _ h9 => h9) rfl (by decide +kernel) rfl rfl (Nat.le_of_ble_eq_true rfl) dX10_type_103 (fun H locs hP hD hS => ?_)
                    have hP : va_P (dC, dI) vwCl [(zx, .inr (10, [.ref zn, .ref zk, .ref zr, .ref zl, .ref zc, .ref zs, .ref zw, .ref zt, .ref zm, .int 0])), (zr, .inr (6, [.ref zrt, .int 5, .int 0, .int 0])), (zrt, .inl (cy 0, 80, .inl (upd (upd (upd (upd (upd (fun _ => 0) (0 : Int32).toNatClampNeg r_449) (1 : Int32).toNatClampNeg r_454) (2 : Int32).toNatClampNeg r_459) (3 : Int32).toNatClampNeg r_464) (4 : Int32).toNatClampNeg r_469)))] H := hP
                    have hD : va_D A [(zx, .inr (10, [.ref zn, .ref zk, .ref zr, .ref zl, .ref zc, .ref zs, .ref zw, .ref zt, .ref zm, .int 0])), (zr, .inr (6, [.ref zrt, .int 5, .int 0, .int 0])), (zrt, .inl (cy 0, 80, .inl (upd (upd (upd (upd (upd (fun _ => 0) (0 : Int32).toNatClampNeg r_449) (1 : Int32).toNatClampNeg r_454) (2 : Int32).toNatClampNeg r_459) (3 : Int32).toNatClampNeg r_464) (4 : Int32).toNatClampNeg r_469)))] := hD
                    refine lv_iinc (v := 1) (lv' := [(4, .int 1), (0, .ref zx), (1, .long zja), (3, .int 7)]) hx hb dX10_type_106 hl (k := 0) rfl (by decide) (by decide) rfl (fun ls hl => ?_)
                    refine lv_goto (tgt := 67) hx hb dX10_type_109 (by decide) ?_
                    refine lv_iload hx hb dX10_type_67 (lv_at hl 0 rfl) ?_
                    refine lv_if_lt (tgt := 112) hx hb dX10_type_69 (by decide) (fun c_472 => absurd c_472 (by decide)) (fun c_472 => ?_)
                    refine lv_aload_n hx hb dX10_type_72 rfl (lv_at hl 1 rfl) ?_
                    refine va_get (D := (dC, dI)) (ci := 10) (v := .ref zr) (C := RX10) (T := TX10) (N := 10) hx hb hts (by decide +kernel) hown hK hP 0 rfl rfl 2 (by decide) (hts (.fieldLink RX10 22 "DripStone" "reader" "LDripStone$Reader;") (by decide +kernel)) (fun _ h9 => h9) rfl dX10_type_73 ?_
                    refine va_get (D := (dC, dI)) (ci := 6) (v := .ref zrt) (C := RX6) (T := TX6) (N := 4) hx hb hts (by decide +kernel) hown hK hP 1 rfl rfl 0 (by decide) (hts (.fieldLink RX10 119 "DripStone$Reader" "tape" "[I") (by decide +kernel)) (fun _ h9 => h9) rfl dX10_type_76 ?_
                    refine lv_aload_n hx hb dX10_type_79 rfl (lv_at hl 1 rfl) ?_
                    refine va_get (D := (dC, dI)) (ci := 10) (v := .ref zr) (C := RX10) (T := TX10) (N := 10) hx hb hts (by decide +kernel) hown hK hP 0 rfl rfl 2 (by decide) (hts (.fieldLink RX10 22 "DripStone" "reader" "LDripStone$Reader;") (by decide +kernel)) (fun _ h9 => h9) rfl dX10_type_80 ?_
                    refine va_get (D := (dC, dI)) (ci := 6) (v := .int 5) (C := RX6) (T := TX6) (N := 4) hx hb hts (by decide +kernel) hown hK hP 1 rfl rfl 1 (by decide) (hts (.fieldLink RX10 116 "DripStone$Reader" "typed" "I") (by decide +kernel)) (fun _ h9 => h9) rfl dX10_type_83 ?_
                    refine lv_lload_n hx hb dX10_type_86 rfl (lv_at hl 2 rfl) ?_
                    refine lv_iload hx hb dX10_type_87 (lv_at hl 0 rfl) ?_
                    refine cj_i (wc := []) (wr := [(zx, .inr (10, [.ref zn, .ref zk, .ref zr, .ref zl, .ref zc, .ref zs, .ref zw, .ref zt, .ref zm, .int 0])), (zr, .inr (6, [.ref zrt, .int 5, .int 0, .int 0])), (zrt, .inl (cy 0, 80, .inl (upd (upd (upd (upd (upd (fun _ => 0) (0 : Int32).toNatClampNeg r_449) (1 : Int32).toNatClampNeg r_454) (2 : Int32).toNatClampNeg r_459) (3 : Int32).toNatClampNeg r_464) (4 : Int32).toNatClampNeg r_469)))]) (w1 := fun (_ : Unit) => []) (va_runS (As := [.long zja, .int 1]) (rest := [.int 5, .ref zrt]) ⟨hx, hb, hml, hown, hts⟩ (c_byteOf_1 l dC dI cy H.size zja) (va_cwS 2 hts gX10_type_X10_byteOf rfl rfl rfl (by decide +kernel) ⟨(Nat.le_of_ble_eq_true rfl), (Nat.le_of_ble_eq_true rfl)⟩) (PRE.s (hP.sub [] rfl) hK (hD.sub [] (by decide) rfl) hN) rfl rfl hl.1 rfl (lv_room (Nat.le_of_ble_eq_true rfl)) dX10_type_89 ⟨(Nat.le_of_ble_eq_true rfl), (Nat.le_of_ble_eq_true rfl)⟩) hP hD hS hA [] [0, 1, 2] rfl rfl rfl (by decide) (fun r_474 u_473 H locs hw_475 hP hD hS => ?_)
                    have hP : va_P (dC, dI) vwCl [(zx, .inr (10, [.ref zn, .ref zk, .ref zr, .ref zl, .ref zc, .ref zs, .ref zw, .ref zt, .ref zm, .int 0])), (zr, .inr (6, [.ref zrt, .int 5, .int 0, .int 0])), (zrt, .inl (cy 0, 80, .inl (upd (upd (upd (upd (upd (fun _ => 0) (0 : Int32).toNatClampNeg r_449) (1 : Int32).toNatClampNeg r_454) (2 : Int32).toNatClampNeg r_459) (3 : Int32).toNatClampNeg r_464) (4 : Int32).toNatClampNeg r_469)))] H := hP
                    have hD : va_D A [(zx, .inr (10, [.ref zn, .ref zk, .ref zr, .ref zl, .ref zc, .ref zs, .ref zw, .ref zt, .ref zm, .int 0])), (zr, .inr (6, [.ref zrt, .int 5, .int 0, .int 0])), (zrt, .inl (cy 0, 80, .inl (upd (upd (upd (upd (upd (fun _ => 0) (0 : Int32).toNatClampNeg r_449) (1 : Int32).toNatClampNeg r_454) (2 : Int32).toNatClampNeg r_459) (3 : Int32).toNatClampNeg r_464) (4 : Int32).toNatClampNeg r_469)))] := hD
                    have hw_475 : r_474.toInt = by8 zja 1 := hw_475
                    refine va_iast hx hb hK hP hD hS 2 0 rfl rfl (vp_in_iff.mpr ⟨by decide, by decide⟩) dX10_type_92 (fun H locs hP hD hS => ?_)
                    have hP : va_P (dC, dI) vwCl [(zx, .inr (10, [.ref zn, .ref zk, .ref zr, .ref zl, .ref zc, .ref zs, .ref zw, .ref zt, .ref zm, .int 0])), (zr, .inr (6, [.ref zrt, .int 5, .int 0, .int 0])), (zrt, .inl (cy 0, 80, .inl (upd (upd (upd (upd (upd (upd (fun _ => 0) (0 : Int32).toNatClampNeg r_449) (1 : Int32).toNatClampNeg r_454) (2 : Int32).toNatClampNeg r_459) (3 : Int32).toNatClampNeg r_464) (4 : Int32).toNatClampNeg r_469) (5 : Int32).toNatClampNeg r_474)))] H := hP
                    have hD : va_D A [(zx, .inr (10, [.ref zn, .ref zk, .ref zr, .ref zl, .ref zc, .ref zs, .ref zw, .ref zt, .ref zm, .int 0])), (zr, .inr (6, [.ref zrt, .int 5, .int 0, .int 0])), (zrt, .inl (cy 0, 80, .inl (upd (upd (upd (upd (upd (upd (fun _ => 0) (0 : Int32).toNatClampNeg r_449) (1 : Int32).toNatClampNeg r_454) (2 : Int32).toNatClampNeg r_459) (3 : Int32).toNatClampNeg r_464) (4 : Int32).toNatClampNeg r_469) (5 : Int32).toNatClampNeg r_474)))] := hD
                    refine lv_aload_n hx hb dX10_type_93 rfl (lv_at hl 1 rfl) ?_
                    refine va_get (D := (dC, dI)) (ci := 10) (v := .ref zr) (C := RX10) (T := TX10) (N := 10) hx hb hts (by decide +kernel) hown hK hP 0 rfl rfl 2 (by decide) (hts (.fieldLink RX10 22 "DripStone" "reader" "LDripStone$Reader;") (by decide +kernel)) (fun _ h9 => h9) rfl dX10_type_94 ?_
                    refine lv_dup hx hb dX10_type_97 rfl ?_
                    refine va_get (D := (dC, dI)) (ci := 6) (v := .int 5) (C := RX6) (T := TX6) (N := 4) hx hb hts (by decide +kernel) hown hK hP 1 rfl rfl 1 (by decide) (hts (.fieldLink RX10 116 "DripStone$Reader" "typed" "I") (by decide +kernel)) (fun _ h9 => h9) rfl dX10_type_98 ?_
                    refine lv_iconst (v := 1) hx hb dX10_type_101 (by decide) ?_
                    refine lv_iadd hx hb dX10_type_102 ?_
                    refine lv_topi (fun v_476 ev_476 => ?_)
                    obtain rfl : v_476 = (6 : Int32) := ev_476.trans (by decide)
                    refine va_put (D := (dC, dI)) (ci := 6) (v := .int 6) (ty := .int) (C := RX6) (T := TX6) (N := 4) hx hb hts (by decide +kernel) tyX6 tyX6_ok nmX6 hown hK hP hD hS 1 rfl rfl 1 (by decide) (hts (.fieldLink RX10 116 "DripStone$Reader" "typed" "I") (by decide +kernel)) (fun _ h9 => h9) rfl (by decide +kernel) rfl rfl (Nat.le_of_ble_eq_true rfl) dX10_type_103 (fun H locs hP hD hS => ?_)
                    have hP : va_P (dC, dI) vwCl [(zx, .inr (10, [.ref zn, .ref zk, .ref zr, .ref zl, .ref zc, .ref zs, .ref zw, .ref zt, .ref zm, .int 0])), (zr, .inr (6, [.ref zrt, .int 6, .int 0, .int 0])), (zrt, .inl (cy 0, 80, .inl (upd (upd (upd (upd (upd (upd (fun _ => 0) (0 : Int32).toNatClampNeg r_449) (1 : Int32).toNatClampNeg r_454) (2 : Int32).toNatClampNeg r_459) (3 : Int32).toNatClampNeg r_464) (4 : Int32).toNatClampNeg r_469) (5 : Int32).toNatClampNeg r_474)))] H := hP
                    have hD : va_D A [(zx, .inr (10, [.ref zn, .ref zk, .ref zr, .ref zl, .ref zc, .ref zs, .ref zw, .ref zt, .ref zm, .int 0])), (zr, .inr (6, [.ref zrt, .int 6, .int 0, .int 0])), (zrt, .inl (cy 0, 80, .inl (upd (upd (upd (upd (upd (upd (fun _ => 0) (0 : Int32).toNatClampNeg r_449) (1 : Int32).toNatClampNeg r_454) (2 : Int32).toNatClampNeg r_459) (3 : Int32).toNatClampNeg r_464) (4 : Int32).toNatClampNeg r_469) (5 : Int32).toNatClampNeg r_474)))] := hD
                    refine lv_iinc (v := 0) (lv' := [(4, .int 0), (0, .ref zx), (1, .long zja), (3, .int 7)]) hx hb dX10_type_106 hl (k := 0) rfl (by decide) (by decide) rfl (fun ls hl => ?_)
                    refine lv_goto (tgt := 67) hx hb dX10_type_109 (by decide) ?_
                    refine lv_iload hx hb dX10_type_67 (lv_at hl 0 rfl) ?_
                    refine lv_if_lt (tgt := 112) hx hb dX10_type_69 (by decide) (fun c_477 => absurd c_477 (by decide)) (fun c_477 => ?_)
                    refine lv_aload_n hx hb dX10_type_72 rfl (lv_at hl 1 rfl) ?_
                    refine va_get (D := (dC, dI)) (ci := 10) (v := .ref zr) (C := RX10) (T := TX10) (N := 10) hx hb hts (by decide +kernel) hown hK hP 0 rfl rfl 2 (by decide) (hts (.fieldLink RX10 22 "DripStone" "reader" "LDripStone$Reader;") (by decide +kernel)) (fun _ h9 => h9) rfl dX10_type_73 ?_
                    refine va_get (D := (dC, dI)) (ci := 6) (v := .ref zrt) (C := RX6) (T := TX6) (N := 4) hx hb hts (by decide +kernel) hown hK hP 1 rfl rfl 0 (by decide) (hts (.fieldLink RX10 119 "DripStone$Reader" "tape" "[I") (by decide +kernel)) (fun _ h9 => h9) rfl dX10_type_76 ?_
                    refine lv_aload_n hx hb dX10_type_79 rfl (lv_at hl 1 rfl) ?_
                    refine va_get (D := (dC, dI)) (ci := 10) (v := .ref zr) (C := RX10) (T := TX10) (N := 10) hx hb hts (by decide +kernel) hown hK hP 0 rfl rfl 2 (by decide) (hts (.fieldLink RX10 22 "DripStone" "reader" "LDripStone$Reader;") (by decide +kernel)) (fun _ h9 => h9) rfl dX10_type_80 ?_
                    refine va_get (D := (dC, dI)) (ci := 6) (v := .int 6) (C := RX6) (T := TX6) (N := 4) hx hb hts (by decide +kernel) hown hK hP 1 rfl rfl 1 (by decide) (hts (.fieldLink RX10 116 "DripStone$Reader" "typed" "I") (by decide +kernel)) (fun _ h9 => h9) rfl dX10_type_83 ?_
                    refine lv_lload_n hx hb dX10_type_86 rfl (lv_at hl 2 rfl) ?_
                    refine lv_iload hx hb dX10_type_87 (lv_at hl 0 rfl) ?_
                    refine cj_i (wc := []) (wr := [(zx, .inr (10, [.ref zn, .ref zk, .ref zr, .ref zl, .ref zc, .ref zs, .ref zw, .ref zt, .ref zm, .int 0])), (zr, .inr (6, [.ref zrt, .int 6, .int 0, .int 0])), (zrt, .inl (cy 0, 80, .inl (upd (upd (upd (upd (upd (upd (fun _ => 0) (0 : Int32).toNatClampNeg r_449) (1 : Int32).toNatClampNeg r_454) (2 : Int32).toNatClampNeg r_459) (3 : Int32).toNatClampNeg r_464) (4 : Int32).toNatClampNeg r_469) (5 : Int32).toNatClampNeg r_474)))]) (w1 := fun (_ : Unit) => []) (va_runS (As := [.long zja, .int 0]) (rest := [.int 6, .ref zrt]) ⟨hx, hb, hml, hown, hts⟩ (c_byteOf_0 l dC dI cy H.size zja) (va_cwS 2 hts gX10_type_X10_byteOf rfl rfl rfl (by decide +kernel) ⟨(Nat.le_of_ble_eq_true rfl), (Nat.le_of_ble_eq_true rfl)⟩) (PRE.s (hP.sub [] rfl) hK (hD.sub [] (by decide) rfl) hN) rfl rfl hl.1 rfl (lv_room (Nat.le_of_ble_eq_true rfl)) dX10_type_89 ⟨(Nat.le_of_ble_eq_true rfl), (Nat.le_of_ble_eq_true rfl)⟩) hP hD hS hA [] [0, 1, 2] rfl rfl rfl (by decide) (fun r_479 u_478 H locs hw_480 hP hD hS => ?_)
                    have hP : va_P (dC, dI) vwCl [(zx, .inr (10, [.ref zn, .ref zk, .ref zr, .ref zl, .ref zc, .ref zs, .ref zw, .ref zt, .ref zm, .int 0])), (zr, .inr (6, [.ref zrt, .int 6, .int 0, .int 0])), (zrt, .inl (cy 0, 80, .inl (upd (upd (upd (upd (upd (upd (fun _ => 0) (0 : Int32).toNatClampNeg r_449) (1 : Int32).toNatClampNeg r_454) (2 : Int32).toNatClampNeg r_459) (3 : Int32).toNatClampNeg r_464) (4 : Int32).toNatClampNeg r_469) (5 : Int32).toNatClampNeg r_474)))] H := hP
                    have hD : va_D A [(zx, .inr (10, [.ref zn, .ref zk, .ref zr, .ref zl, .ref zc, .ref zs, .ref zw, .ref zt, .ref zm, .int 0])), (zr, .inr (6, [.ref zrt, .int 6, .int 0, .int 0])), (zrt, .inl (cy 0, 80, .inl (upd (upd (upd (upd (upd (upd (fun _ => 0) (0 : Int32).toNatClampNeg r_449) (1 : Int32).toNatClampNeg r_454) (2 : Int32).toNatClampNeg r_459) (3 : Int32).toNatClampNeg r_464) (4 : Int32).toNatClampNeg r_469) (5 : Int32).toNatClampNeg r_474)))] := hD
                    have hw_480 : r_479.toInt = by8 zja 0 := hw_480
                    refine va_iast hx hb hK hP hD hS 2 0 rfl rfl (vp_in_iff.mpr ⟨by decide, by decide⟩) dX10_type_92 (fun H locs hP hD hS => ?_)
                    have hP : va_P (dC, dI) vwCl [(zx, .inr (10, [.ref zn, .ref zk, .ref zr, .ref zl, .ref zc, .ref zs, .ref zw, .ref zt, .ref zm, .int 0])), (zr, .inr (6, [.ref zrt, .int 6, .int 0, .int 0])), (zrt, .inl (cy 0, 80, .inl (upd (upd (upd (upd (upd (upd (upd (fun _ => 0) (0 : Int32).toNatClampNeg r_449) (1 : Int32).toNatClampNeg r_454) (2 : Int32).toNatClampNeg r_459) (3 : Int32).toNatClampNeg r_464) (4 : Int32).toNatClampNeg r_469) (5 : Int32).toNatClampNeg r_474) (6 : Int32).toNatClampNeg r_479)))] H := hP
                    have hD : va_D A [(zx, .inr (10, [.ref zn, .ref zk, .ref zr, .ref zl, .ref zc, .ref zs, .ref zw, .ref zt, .ref zm, .int 0])), (zr, .inr (6, [.ref zrt, .int 6, .int 0, .int 0])), (zrt, .inl (cy 0, 80, .inl (upd (upd (upd (upd (upd (upd (upd (fun _ => 0) (0 : Int32).toNatClampNeg r_449) (1 : Int32).toNatClampNeg r_454) (2 : Int32).toNatClampNeg r_459) (3 : Int32).toNatClampNeg r_464) (4 : Int32).toNatClampNeg r_469) (5 : Int32).toNatClampNeg r_474) (6 : Int32).toNatClampNeg r_479)))] := hD
                    refine lv_aload_n hx hb dX10_type_93 rfl (lv_at hl 1 rfl) ?_
                    refine va_get (D := (dC, dI)) (ci := 10) (v := .ref zr) (C := RX10) (T := TX10) (N := 10) hx hb hts (by decide +kernel) hown hK hP 0 rfl rfl 2 (by decide) (hts (.fieldLink RX10 22 "DripStone" "reader" "LDripStone$Reader;") (by decide +kernel)) (fun _ h9 => h9) rfl dX10_type_94 ?_
                    refine lv_dup hx hb dX10_type_97 rfl ?_
                    refine va_get (D := (dC, dI)) (ci := 6) (v := .int 6) (C := RX6) (T := TX6) (N := 4) hx hb hts (by decide +kernel) hown hK hP 1 rfl rfl 1 (by decide) (hts (.fieldLink RX10 116 "DripStone$Reader" "typed" "I") (by decide +kernel)) (fun _ h9 => h9) rfl dX10_type_98 ?_
                    refine lv_iconst (v := 1) hx hb dX10_type_101 (by decide) ?_
                    refine lv_iadd hx hb dX10_type_102 ?_
                    refine lv_topi (fun v_481 ev_481 => ?_)
                    obtain rfl : v_481 = (7 : Int32) := ev_481.trans (by decide)
                    refine va_put (D := (dC, dI)) (ci := 6) (v := .int 7) (ty := .int) (C := RX6) (T := TX6) (N := 4) hx hb hts (by decide +kernel) tyX6 tyX6_ok nmX6 hown hK hP hD hS 1 rfl rfl 1 (by decide) (hts (.fieldLink RX10 116 "DripStone$Reader" "typed" "I") (by decide +kernel)) (fun _ h9 => h9) rfl (by decide +kernel) rfl rfl (Nat.le_of_ble_eq_true rfl) dX10_type_103 (fun H locs hP hD hS => ?_)
                    have hP : va_P (dC, dI) vwCl [(zx, .inr (10, [.ref zn, .ref zk, .ref zr, .ref zl, .ref zc, .ref zs, .ref zw, .ref zt, .ref zm, .int 0])), (zr, .inr (6, [.ref zrt, .int 7, .int 0, .int 0])), (zrt, .inl (cy 0, 80, .inl (upd (upd (upd (upd (upd (upd (upd (fun _ => 0) (0 : Int32).toNatClampNeg r_449) (1 : Int32).toNatClampNeg r_454) (2 : Int32).toNatClampNeg r_459) (3 : Int32).toNatClampNeg r_464) (4 : Int32).toNatClampNeg r_469) (5 : Int32).toNatClampNeg r_474) (6 : Int32).toNatClampNeg r_479)))] H := hP
                    have hD : va_D A [(zx, .inr (10, [.ref zn, .ref zk, .ref zr, .ref zl, .ref zc, .ref zs, .ref zw, .ref zt, .ref zm, .int 0])), (zr, .inr (6, [.ref zrt, .int 7, .int 0, .int 0])), (zrt, .inl (cy 0, 80, .inl (upd (upd (upd (upd (upd (upd (upd (fun _ => 0) (0 : Int32).toNatClampNeg r_449) (1 : Int32).toNatClampNeg r_454) (2 : Int32).toNatClampNeg r_459) (3 : Int32).toNatClampNeg r_464) (4 : Int32).toNatClampNeg r_469) (5 : Int32).toNatClampNeg r_474) (6 : Int32).toNatClampNeg r_479)))] := hD
                    refine lv_iinc (v := (-1)) (lv' := [(4, .int (-1)), (0, .ref zx), (1, .long zja), (3, .int 7)]) hx hb dX10_type_106 hl (k := 0) rfl (by decide) (by decide) rfl (fun ls hl => ?_)
                    refine lv_goto (tgt := 67) hx hb dX10_type_109 (by decide) ?_
                    refine lv_iload hx hb dX10_type_67 (lv_at hl 0 rfl) ?_
                    refine lv_if_lt (tgt := 112) hx hb dX10_type_69 (by decide) (fun c_482 => ?_) (fun c_482 => absurd (by decide) c_482)
                    refine lv_aload_n hx hb dX10_type_112 rfl (lv_at hl 1 rfl) ?_
                    refine va_get (D := (dC, dI)) (ci := 10) (v := .ref zr) (C := RX10) (T := TX10) (N := 10) hx hb hts (by decide +kernel) hown hK hP 0 rfl rfl 2 (by decide) (hts (.fieldLink RX10 22 "DripStone" "reader" "LDripStone$Reader;") (by decide +kernel)) (fun _ h9 => h9) rfl dX10_type_113 ?_
                    refine va_get (D := (dC, dI)) (ci := 6) (v := .int 7) (C := RX6) (T := TX6) (N := 4) hx hb hts (by decide +kernel) hown hK hP 1 rfl rfl 1 (by decide) (hts (.fieldLink RX10 116 "DripStone$Reader" "typed" "I") (by decide +kernel)) (fun _ h9 => h9) rfl dX10_type_116 ?_
                    have hP9 := hP.sub (ws' := []) [] rfl
                    have hD9 := hD.sub (ws' := []) [] (by decide) rfl
                    exact W.iret (v := 7) hx hb hr (fun t ht hW => ⟨⟨7, (), rfl, ((an_type_7 _).trans (if_pos ⟨g_382, g_392, g_402, g_412, g_422, g_432, g_442⟩)).symm, ⟨by rw [ht]; exact hP9, va_K.moved hW.alike hK, hD9⟩⟩, hS.F ht⟩) hS.2.2 dX10_type_119
                  · have f_441 : ¬ (32 ≤ r_435.toInt ∧ r_435.toInt ≤ 126) := bz_0 hw_439 c_440
                    have g_483 : ¬ okb zja 6 := by unfold okb; rw [← hw_436]; exact f_441
                    refine lv_iconst (v := (-1)) hx hb dX10_type_37 (by decide) ?_
                    have hP9 := hP.sub (ws' := []) [] rfl
                    have hD9 := hD.sub (ws' := []) [] (by decide) rfl
                    exact W.iret (v := (-1)) hx hb hr (fun t ht hW => ⟨⟨(-1), (), rfl, ((an_type_7 _).trans (if_neg (fun h => g_483 (h.2.2.2.2.2.2)))).symm, ⟨by rw [ht]; exact hP9, va_K.moved hW.alike hK, hD9⟩⟩, hS.F ht⟩) hS.2.2 dX10_type_38
                · have f_431 : ¬ (32 ≤ r_425.toInt ∧ r_425.toInt ≤ 126) := bz_0 hw_429 c_430
                  have g_484 : ¬ okb zja 5 := by unfold okb; rw [← hw_426]; exact f_431
                  refine lv_iconst (v := (-1)) hx hb dX10_type_37 (by decide) ?_
                  have hP9 := hP.sub (ws' := []) [] rfl
                  have hD9 := hD.sub (ws' := []) [] (by decide) rfl
                  exact W.iret (v := (-1)) hx hb hr (fun t ht hW => ⟨⟨(-1), (), rfl, ((an_type_7 _).trans (if_neg (fun h => g_484 (h.2.2.2.2.2.1)))).symm, ⟨by rw [ht]; exact hP9, va_K.moved hW.alike hK, hD9⟩⟩, hS.F ht⟩) hS.2.2 dX10_type_38
              · have f_421 : ¬ (32 ≤ r_415.toInt ∧ r_415.toInt ≤ 126) := bz_0 hw_419 c_420
                have g_485 : ¬ okb zja 4 := by unfold okb; rw [← hw_416]; exact f_421
                refine lv_iconst (v := (-1)) hx hb dX10_type_37 (by decide) ?_
                have hP9 := hP.sub (ws' := []) [] rfl
                have hD9 := hD.sub (ws' := []) [] (by decide) rfl
                exact W.iret (v := (-1)) hx hb hr (fun t ht hW => ⟨⟨(-1), (), rfl, ((an_type_7 _).trans (if_neg (fun h => g_485 (h.2.2.2.2.1)))).symm, ⟨by rw [ht]; exact hP9, va_K.moved hW.alike hK, hD9⟩⟩, hS.F ht⟩) hS.2.2 dX10_type_38
            · have f_411 : ¬ (32 ≤ r_405.toInt ∧ r_405.toInt ≤ 126) := bz_0 hw_409 c_410
              have g_486 : ¬ okb zja 3 := by unfold okb; rw [← hw_406]; exact f_411
              refine lv_iconst (v := (-1)) hx hb dX10_type_37 (by decide) ?_
              have hP9 := hP.sub (ws' := []) [] rfl
              have hD9 := hD.sub (ws' := []) [] (by decide) rfl
              exact W.iret (v := (-1)) hx hb hr (fun t ht hW => ⟨⟨(-1), (), rfl, ((an_type_7 _).trans (if_neg (fun h => g_486 (h.2.2.2.1)))).symm, ⟨by rw [ht]; exact hP9, va_K.moved hW.alike hK, hD9⟩⟩, hS.F ht⟩) hS.2.2 dX10_type_38
          · have f_401 : ¬ (32 ≤ r_395.toInt ∧ r_395.toInt ≤ 126) := bz_0 hw_399 c_400
            have g_487 : ¬ okb zja 2 := by unfold okb; rw [← hw_396]; exact f_401
            refine lv_iconst (v := (-1)) hx hb dX10_type_37 (by decide) ?_
            have hP9 := hP.sub (ws' := []) [] rfl
            have hD9 := hD.sub (ws' := []) [] (by decide) rfl
            exact W.iret (v := (-1)) hx hb hr (fun t ht hW => ⟨⟨(-1), (), rfl, ((an_type_7 _).trans (if_neg (fun h => g_487 (h.2.2.1)))).symm, ⟨by rw [ht]; exact hP9, va_K.moved hW.alike hK, hD9⟩⟩, hS.F ht⟩) hS.2.2 dX10_type_38
        · have f_391 : ¬ (32 ≤ r_385.toInt ∧ r_385.toInt ≤ 126) := bz_0 hw_389 c_390
          have g_488 : ¬ okb zja 1 := by unfold okb; rw [← hw_386]; exact f_391
          refine lv_iconst (v := (-1)) hx hb dX10_type_37 (by decide) ?_
          have hP9 := hP.sub (ws' := []) [] rfl
          have hD9 := hD.sub (ws' := []) [] (by decide) rfl
          exact W.iret (v := (-1)) hx hb hr (fun t ht hW => ⟨⟨(-1), (), rfl, ((an_type_7 _).trans (if_neg (fun h => g_488 (h.2.1)))).symm, ⟨by rw [ht]; exact hP9, va_K.moved hW.alike hK, hD9⟩⟩, hS.F ht⟩) hS.2.2 dX10_type_38
      · have f_381 : ¬ (32 ≤ r_375.toInt ∧ r_375.toInt ≤ 126) := bz_0 hw_379 c_380
        have g_489 : ¬ okb zja 0 := by unfold okb; rw [← hw_376]; exact f_381
        refine lv_iconst (v := (-1)) hx hb dX10_type_37 (by decide) ?_
        have hP9 := hP.sub (ws' := []) [] rfl
        have hD9 := hD.sub (ws' := []) [] (by decide) rfl
        exact W.iret (v := (-1)) hx hb hr (fun t ht hW => ⟨⟨(-1), (), rfl, ((an_type_7 _).trans (if_neg (fun h => g_489 (h.1)))).symm, ⟨by rw [ht]; exact hP9, va_K.moved hW.alike hK, hD9⟩⟩, hS.F ht⟩) hS.2.2 dX10_type_38
    · have zk_6_8 : (8 : Int32).toInt = 8 := by decide
      refine lv_iconst (v := 0) hx hb dX10_type_12 (by decide) ?_
      refine lv_istore (lv' := [(4, .int 0), (0, .ref zx), (1, .long zja), (3, .int 8)]) hx hb dX10_type_13 hl (by decide) rfl (fun ls hl => ?_)
      refine lv_iload hx hb dX10_type_15 (lv_at hl 0 rfl) ?_
      refine lv_iload_n hx hb dX10_type_17 rfl (lv_at hl 3 rfl) ?_
      refine lv_icmp_ge (tgt := 45) hx hb dX10_type_18 (by decide) (fun c_490 => absurd c_490 (by decide)) (fun c_490 => ?_)
      refine lv_lload_n hx hb dX10_type_21 rfl (lv_at hl 2 rfl) ?_
      refine lv_iload hx hb dX10_type_22 (lv_at hl 0 rfl) ?_
      refine cj_i (wc := []) (wr := [(zx, .inr (10, [.ref zn, .ref zk, .ref zr, .ref zl, .ref zc, .ref zs, .ref zw, .ref zt, .ref zm, .int 0])), (zr, .inr (6, [.ref zrt, .int 0, .int 0, .int 0])), (zrt, .inl (cy 0, 80, .inl (fun _ => 0)))]) (w1 := fun (_ : Unit) => []) (va_runS (As := [.long zja, .int 0]) (rest := []) ⟨hx, hb, hml, hown, hts⟩ (c_byteOf_0 l dC dI cy H.size zja) (va_cwS 2 hts gX10_type_X10_byteOf rfl rfl rfl (by decide +kernel) ⟨(Nat.le_of_ble_eq_true rfl), (Nat.le_of_ble_eq_true rfl)⟩) (PRE.s (hP.sub [] rfl) hK (hD.sub [] (by decide) rfl) hN) rfl rfl hl.1 rfl (lv_room (Nat.le_of_ble_eq_true rfl)) dX10_type_24 ⟨(Nat.le_of_ble_eq_true rfl), (Nat.le_of_ble_eq_true rfl)⟩) hP hD hS hA [] [0, 1, 2] rfl rfl rfl (by decide) (fun r_492 u_491 H locs hw_493 hP hD hS => ?_)
      have hP : va_P (dC, dI) vwCl [(zx, .inr (10, [.ref zn, .ref zk, .ref zr, .ref zl, .ref zc, .ref zs, .ref zw, .ref zt, .ref zm, .int 0])), (zr, .inr (6, [.ref zrt, .int 0, .int 0, .int 0])), (zrt, .inl (cy 0, 80, .inl (fun _ => 0)))] H := hP
      have hD : va_D A [(zx, .inr (10, [.ref zn, .ref zk, .ref zr, .ref zl, .ref zc, .ref zs, .ref zw, .ref zt, .ref zm, .int 0])), (zr, .inr (6, [.ref zrt, .int 0, .int 0, .int 0])), (zrt, .inl (cy 0, 80, .inl (fun _ => 0)))] := hD
      have hw_493 : r_492.toInt = by8 zja 0 := hw_493
      refine lv_bipush (v := 32) hx hb dX10_type_27 (by decide) ?_
      refine lv_bipush (v := 126) hx hb dX10_type_29 (by decide) ?_
      refine cj_i (wc := []) (wr := [(zx, .inr (10, [.ref zn, .ref zk, .ref zr, .ref zl, .ref zc, .ref zs, .ref zw, .ref zt, .ref zm, .int 0])), (zr, .inr (6, [.ref zrt, .int 0, .int 0, .int 0])), (zrt, .inl (cy 0, 80, .inl (fun _ => 0)))]) (w1 := fun (_ : Unit) => []) (va_runS (As := [.int r_492, .int 32, .int 126]) (rest := []) ⟨hx, hb, hml, hown, hts⟩ (c_X10_isWithin l dC dI cy H.size r_492 32 126 32 126 (by first | rfl | decide | omega | exact Int32.toInt_toInt64 _) (by first | rfl | decide | omega | exact Int32.toInt_toInt64 _)) (va_cwS 3 hts gX10_type_X10_isWithin rfl rfl rfl (by decide +kernel) ⟨(Nat.le_of_ble_eq_true rfl), (Nat.le_of_ble_eq_true rfl)⟩) (PRE.s (hP.sub [] rfl) hK (hD.sub [] (by decide) rfl) hN) rfl rfl hl.1 rfl (lv_room (Nat.le_of_ble_eq_true rfl)) dX10_type_31 ⟨(Nat.le_of_ble_eq_true rfl), (Nat.le_of_ble_eq_true rfl)⟩) hP hD hS hA [] [0, 1, 2] rfl rfl rfl (by decide) (fun r_495 u_494 H locs hw_496 hP hD hS => ?_)
      have hP : va_P (dC, dI) vwCl [(zx, .inr (10, [.ref zn, .ref zk, .ref zr, .ref zl, .ref zc, .ref zs, .ref zw, .ref zt, .ref zm, .int 0])), (zr, .inr (6, [.ref zrt, .int 0, .int 0, .int 0])), (zrt, .inl (cy 0, 80, .inl (fun _ => 0)))] H := hP
      have hD : va_D A [(zx, .inr (10, [.ref zn, .ref zk, .ref zr, .ref zl, .ref zc, .ref zs, .ref zw, .ref zt, .ref zm, .int 0])), (zr, .inr (6, [.ref zrt, .int 0, .int 0, .int 0])), (zrt, .inl (cy 0, 80, .inl (fun _ => 0)))] := hD
      have hw_496 : r_495 = if 32 ≤ r_492.toInt ∧ r_492.toInt ≤ 126 then 1 else 0 := hw_496
      refine lv_if_ne (tgt := 39) hx hb dX10_type_34 (by decide) (fun c_497 => ?_) (fun c_497 => ?_)
      · have f_498 : 32 ≤ r_492.toInt ∧ r_492.toInt ≤ 126 := bz_1 hw_496 c_497
        have g_499 : okb zja 0 := by unfold okb; rw [← hw_493]; exact f_498
        refine lv_iinc (v := 1) (lv' := [(4, .int 1), (0, .ref zx), (1, .long zja), (3, .int 8)]) hx hb dX10_type_39 hl (k := 0) rfl (by decide) (by decide) rfl (fun ls hl => ?_)
        refine lv_goto (tgt := 15) hx hb dX10_type_42 (by decide) ?_
        refine lv_iload hx hb dX10_type_15 (lv_at hl 0 rfl) ?_
        refine lv_iload_n hx hb dX10_type_17 rfl (lv_at hl 3 rfl) ?_
        refine lv_icmp_ge (tgt := 45) hx hb dX10_type_18 (by decide) (fun c_500 => absurd c_500 (by decide)) (fun c_500 => ?_)
        refine lv_lload_n hx hb dX10_type_21 rfl (lv_at hl 2 rfl) ?_
        refine lv_iload hx hb dX10_type_22 (lv_at hl 0 rfl) ?_
        refine cj_i (wc := []) (wr := [(zx, .inr (10, [.ref zn, .ref zk, .ref zr, .ref zl, .ref zc, .ref zs, .ref zw, .ref zt, .ref zm, .int 0])), (zr, .inr (6, [.ref zrt, .int 0, .int 0, .int 0])), (zrt, .inl (cy 0, 80, .inl (fun _ => 0)))]) (w1 := fun (_ : Unit) => []) (va_runS (As := [.long zja, .int 1]) (rest := []) ⟨hx, hb, hml, hown, hts⟩ (c_byteOf_1 l dC dI cy H.size zja) (va_cwS 2 hts gX10_type_X10_byteOf rfl rfl rfl (by decide +kernel) ⟨(Nat.le_of_ble_eq_true rfl), (Nat.le_of_ble_eq_true rfl)⟩) (PRE.s (hP.sub [] rfl) hK (hD.sub [] (by decide) rfl) hN) rfl rfl hl.1 rfl (lv_room (Nat.le_of_ble_eq_true rfl)) dX10_type_24 ⟨(Nat.le_of_ble_eq_true rfl), (Nat.le_of_ble_eq_true rfl)⟩) hP hD hS hA [] [0, 1, 2] rfl rfl rfl (by decide) (fun r_502 u_501 H locs hw_503 hP hD hS => ?_)
        have hP : va_P (dC, dI) vwCl [(zx, .inr (10, [.ref zn, .ref zk, .ref zr, .ref zl, .ref zc, .ref zs, .ref zw, .ref zt, .ref zm, .int 0])), (zr, .inr (6, [.ref zrt, .int 0, .int 0, .int 0])), (zrt, .inl (cy 0, 80, .inl (fun _ => 0)))] H := hP
        have hD : va_D A [(zx, .inr (10, [.ref zn, .ref zk, .ref zr, .ref zl, .ref zc, .ref zs, .ref zw, .ref zt, .ref zm, .int 0])), (zr, .inr (6, [.ref zrt, .int 0, .int 0, .int 0])), (zrt, .inl (cy 0, 80, .inl (fun _ => 0)))] := hD
        have hw_503 : r_502.toInt = by8 zja 1 := hw_503
        refine lv_bipush (v := 32) hx hb dX10_type_27 (by decide) ?_
        refine lv_bipush (v := 126) hx hb dX10_type_29 (by decide) ?_
        refine cj_i (wc := []) (wr := [(zx, .inr (10, [.ref zn, .ref zk, .ref zr, .ref zl, .ref zc, .ref zs, .ref zw, .ref zt, .ref zm, .int 0])), (zr, .inr (6, [.ref zrt, .int 0, .int 0, .int 0])), (zrt, .inl (cy 0, 80, .inl (fun _ => 0)))]) (w1 := fun (_ : Unit) => []) (va_runS (As := [.int r_502, .int 32, .int 126]) (rest := []) ⟨hx, hb, hml, hown, hts⟩ (c_X10_isWithin l dC dI cy H.size r_502 32 126 32 126 (by first | rfl | decide | omega | exact Int32.toInt_toInt64 _) (by first | rfl | decide | omega | exact Int32.toInt_toInt64 _)) (va_cwS 3 hts gX10_type_X10_isWithin rfl rfl rfl (by decide +kernel) ⟨(Nat.le_of_ble_eq_true rfl), (Nat.le_of_ble_eq_true rfl)⟩) (PRE.s (hP.sub [] rfl) hK (hD.sub [] (by decide) rfl) hN) rfl rfl hl.1 rfl (lv_room (Nat.le_of_ble_eq_true rfl)) dX10_type_31 ⟨(Nat.le_of_ble_eq_true rfl), (Nat.le_of_ble_eq_true rfl)⟩) hP hD hS hA [] [0, 1, 2] rfl rfl rfl (by decide) (fun r_505 u_504 H locs hw_506 hP hD hS => ?_)
        have hP : va_P (dC, dI) vwCl [(zx, .inr (10, [.ref zn, .ref zk, .ref zr, .ref zl, .ref zc, .ref zs, .ref zw, .ref zt, .ref zm, .int 0])), (zr, .inr (6, [.ref zrt, .int 0, .int 0, .int 0])), (zrt, .inl (cy 0, 80, .inl (fun _ => 0)))] H := hP
        have hD : va_D A [(zx, .inr (10, [.ref zn, .ref zk, .ref zr, .ref zl, .ref zc, .ref zs, .ref zw, .ref zt, .ref zm, .int 0])), (zr, .inr (6, [.ref zrt, .int 0, .int 0, .int 0])), (zrt, .inl (cy 0, 80, .inl (fun _ => 0)))] := hD
        have hw_506 : r_505 = if 32 ≤ r_502.toInt ∧ r_502.toInt ≤ 126 then 1 else 0 := hw_506
        refine lv_if_ne (tgt := 39) hx hb dX10_type_34 (by decide) (fun c_507 => ?_) (fun c_507 => ?_)
        · have f_508 : 32 ≤ r_502.toInt ∧ r_502.toInt ≤ 126 := bz_1 hw_506 c_507
          have g_509 : okb zja 1 := by unfold okb; rw [← hw_503]; exact f_508
          refine lv_iinc (v := 2) (lv' := [(4, .int 2), (0, .ref zx), (1, .long zja), (3, .int 8)]) hx hb dX10_type_39 hl (k := 0) rfl (by decide) (by decide) rfl (fun ls hl => ?_)
          refine lv_goto (tgt := 15) hx hb dX10_type_42 (by decide) ?_
          refine lv_iload hx hb dX10_type_15 (lv_at hl 0 rfl) ?_
          refine lv_iload_n hx hb dX10_type_17 rfl (lv_at hl 3 rfl) ?_
          refine lv_icmp_ge (tgt := 45) hx hb dX10_type_18 (by decide) (fun c_510 => absurd c_510 (by decide)) (fun c_510 => ?_)
          refine lv_lload_n hx hb dX10_type_21 rfl (lv_at hl 2 rfl) ?_
          refine lv_iload hx hb dX10_type_22 (lv_at hl 0 rfl) ?_
          refine cj_i (wc := []) (wr := [(zx, .inr (10, [.ref zn, .ref zk, .ref zr, .ref zl, .ref zc, .ref zs, .ref zw, .ref zt, .ref zm, .int 0])), (zr, .inr (6, [.ref zrt, .int 0, .int 0, .int 0])), (zrt, .inl (cy 0, 80, .inl (fun _ => 0)))]) (w1 := fun (_ : Unit) => []) (va_runS (As := [.long zja, .int 2]) (rest := []) ⟨hx, hb, hml, hown, hts⟩ (c_byteOf_2 l dC dI cy H.size zja) (va_cwS 2 hts gX10_type_X10_byteOf rfl rfl rfl (by decide +kernel) ⟨(Nat.le_of_ble_eq_true rfl), (Nat.le_of_ble_eq_true rfl)⟩) (PRE.s (hP.sub [] rfl) hK (hD.sub [] (by decide) rfl) hN) rfl rfl hl.1 rfl (lv_room (Nat.le_of_ble_eq_true rfl)) dX10_type_24 ⟨(Nat.le_of_ble_eq_true rfl), (Nat.le_of_ble_eq_true rfl)⟩) hP hD hS hA [] [0, 1, 2] rfl rfl rfl (by decide) (fun r_512 u_511 H locs hw_513 hP hD hS => ?_)
          have hP : va_P (dC, dI) vwCl [(zx, .inr (10, [.ref zn, .ref zk, .ref zr, .ref zl, .ref zc, .ref zs, .ref zw, .ref zt, .ref zm, .int 0])), (zr, .inr (6, [.ref zrt, .int 0, .int 0, .int 0])), (zrt, .inl (cy 0, 80, .inl (fun _ => 0)))] H := hP
          have hD : va_D A [(zx, .inr (10, [.ref zn, .ref zk, .ref zr, .ref zl, .ref zc, .ref zs, .ref zw, .ref zt, .ref zm, .int 0])), (zr, .inr (6, [.ref zrt, .int 0, .int 0, .int 0])), (zrt, .inl (cy 0, 80, .inl (fun _ => 0)))] := hD
          have hw_513 : r_512.toInt = by8 zja 2 := hw_513
          refine lv_bipush (v := 32) hx hb dX10_type_27 (by decide) ?_
          refine lv_bipush (v := 126) hx hb dX10_type_29 (by decide) ?_
          refine cj_i (wc := []) (wr := [(zx, .inr (10, [.ref zn, .ref zk, .ref zr, .ref zl, .ref zc, .ref zs, .ref zw, .ref zt, .ref zm, .int 0])), (zr, .inr (6, [.ref zrt, .int 0, .int 0, .int 0])), (zrt, .inl (cy 0, 80, .inl (fun _ => 0)))]) (w1 := fun (_ : Unit) => []) (va_runS (As := [.int r_512, .int 32, .int 126]) (rest := []) ⟨hx, hb, hml, hown, hts⟩ (c_X10_isWithin l dC dI cy H.size r_512 32 126 32 126 (by first | rfl | decide | omega | exact Int32.toInt_toInt64 _) (by first | rfl | decide | omega | exact Int32.toInt_toInt64 _)) (va_cwS 3 hts gX10_type_X10_isWithin rfl rfl rfl (by decide +kernel) ⟨(Nat.le_of_ble_eq_true rfl), (Nat.le_of_ble_eq_true rfl)⟩) (PRE.s (hP.sub [] rfl) hK (hD.sub [] (by decide) rfl) hN) rfl rfl hl.1 rfl (lv_room (Nat.le_of_ble_eq_true rfl)) dX10_type_31 ⟨(Nat.le_of_ble_eq_true rfl), (Nat.le_of_ble_eq_true rfl)⟩) hP hD hS hA [] [0, 1, 2] rfl rfl rfl (by decide) (fun r_515 u_514 H locs hw_516 hP hD hS => ?_)
          have hP : va_P (dC, dI) vwCl [(zx, .inr (10, [.ref zn, .ref zk, .ref zr, .ref zl, .ref zc, .ref zs, .ref zw, .ref zt, .ref zm, .int 0])), (zr, .inr (6, [.ref zrt, .int 0, .int 0, .int 0])), (zrt, .inl (cy 0, 80, .inl (fun _ => 0)))] H := hP
          have hD : va_D A [(zx, .inr (10, [.ref zn, .ref zk, .ref zr, .ref zl, .ref zc, .ref zs, .ref zw, .ref zt, .ref zm, .int 0])), (zr, .inr (6, [.ref zrt, .int 0, .int 0, .int 0])), (zrt, .inl (cy 0, 80, .inl (fun _ => 0)))] := hD
          have hw_516 : r_515 = if 32 ≤ r_512.toInt ∧ r_512.toInt ≤ 126 then 1 else 0 := hw_516
          refine lv_if_ne (tgt := 39) hx hb dX10_type_34 (by decide) (fun c_517 => ?_) (fun c_517 => ?_)
          · have f_518 : 32 ≤ r_512.toInt ∧ r_512.toInt ≤ 126 := bz_1 hw_516 c_517
            have g_519 : okb zja 2 := by unfold okb; rw [← hw_513]; exact f_518
            refine lv_iinc (v := 3) (lv' := [(4, .int 3), (0, .ref zx), (1, .long zja), (3, .int 8)]) hx hb dX10_type_39 hl (k := 0) rfl (by decide) (by decide) rfl (fun ls hl => ?_)
            refine lv_goto (tgt := 15) hx hb dX10_type_42 (by decide) ?_
            refine lv_iload hx hb dX10_type_15 (lv_at hl 0 rfl) ?_
            refine lv_iload_n hx hb dX10_type_17 rfl (lv_at hl 3 rfl) ?_
            refine lv_icmp_ge (tgt := 45) hx hb dX10_type_18 (by decide) (fun c_520 => absurd c_520 (by decide)) (fun c_520 => ?_)
            refine lv_lload_n hx hb dX10_type_21 rfl (lv_at hl 2 rfl) ?_
            refine lv_iload hx hb dX10_type_22 (lv_at hl 0 rfl) ?_
            refine cj_i (wc := []) (wr := [(zx, .inr (10, [.ref zn, .ref zk, .ref zr, .ref zl, .ref zc, .ref zs, .ref zw, .ref zt, .ref zm, .int 0])), (zr, .inr (6, [.ref zrt, .int 0, .int 0, .int 0])), (zrt, .inl (cy 0, 80, .inl (fun _ => 0)))]) (w1 := fun (_ : Unit) => []) (va_runS (As := [.long zja, .int 3]) (rest := []) ⟨hx, hb, hml, hown, hts⟩ (c_byteOf_3 l dC dI cy H.size zja) (va_cwS 2 hts gX10_type_X10_byteOf rfl rfl rfl (by decide +kernel) ⟨(Nat.le_of_ble_eq_true rfl), (Nat.le_of_ble_eq_true rfl)⟩) (PRE.s (hP.sub [] rfl) hK (hD.sub [] (by decide) rfl) hN) rfl rfl hl.1 rfl (lv_room (Nat.le_of_ble_eq_true rfl)) dX10_type_24 ⟨(Nat.le_of_ble_eq_true rfl), (Nat.le_of_ble_eq_true rfl)⟩) hP hD hS hA [] [0, 1, 2] rfl rfl rfl (by decide) (fun r_522 u_521 H locs hw_523 hP hD hS => ?_)
            have hP : va_P (dC, dI) vwCl [(zx, .inr (10, [.ref zn, .ref zk, .ref zr, .ref zl, .ref zc, .ref zs, .ref zw, .ref zt, .ref zm, .int 0])), (zr, .inr (6, [.ref zrt, .int 0, .int 0, .int 0])), (zrt, .inl (cy 0, 80, .inl (fun _ => 0)))] H := hP
            have hD : va_D A [(zx, .inr (10, [.ref zn, .ref zk, .ref zr, .ref zl, .ref zc, .ref zs, .ref zw, .ref zt, .ref zm, .int 0])), (zr, .inr (6, [.ref zrt, .int 0, .int 0, .int 0])), (zrt, .inl (cy 0, 80, .inl (fun _ => 0)))] := hD
            have hw_523 : r_522.toInt = by8 zja 3 := hw_523
            refine lv_bipush (v := 32) hx hb dX10_type_27 (by decide) ?_
            refine lv_bipush (v := 126) hx hb dX10_type_29 (by decide) ?_
            refine cj_i (wc := []) (wr := [(zx, .inr (10, [.ref zn, .ref zk, .ref zr, .ref zl, .ref zc, .ref zs, .ref zw, .ref zt, .ref zm, .int 0])), (zr, .inr (6, [.ref zrt, .int 0, .int 0, .int 0])), (zrt, .inl (cy 0, 80, .inl (fun _ => 0)))]) (w1 := fun (_ : Unit) => []) (va_runS (As := [.int r_522, .int 32, .int 126]) (rest := []) ⟨hx, hb, hml, hown, hts⟩ (c_X10_isWithin l dC dI cy H.size r_522 32 126 32 126 (by first | rfl | decide | omega | exact Int32.toInt_toInt64 _) (by first | rfl | decide | omega | exact Int32.toInt_toInt64 _)) (va_cwS 3 hts gX10_type_X10_isWithin rfl rfl rfl (by decide +kernel) ⟨(Nat.le_of_ble_eq_true rfl), (Nat.le_of_ble_eq_true rfl)⟩) (PRE.s (hP.sub [] rfl) hK (hD.sub [] (by decide) rfl) hN) rfl rfl hl.1 rfl (lv_room (Nat.le_of_ble_eq_true rfl)) dX10_type_31 ⟨(Nat.le_of_ble_eq_true rfl), (Nat.le_of_ble_eq_true rfl)⟩) hP hD hS hA [] [0, 1, 2] rfl rfl rfl (by decide) (fun r_525 u_524 H locs hw_526 hP hD hS => ?_)
            have hP : va_P (dC, dI) vwCl [(zx, .inr (10, [.ref zn, .ref zk, .ref zr, .ref zl, .ref zc, .ref zs, .ref zw, .ref zt, .ref zm, .int 0])), (zr, .inr (6, [.ref zrt, .int 0, .int 0, .int 0])), (zrt, .inl (cy 0, 80, .inl (fun _ => 0)))] H := hP
            have hD : va_D A [(zx, .inr (10, [.ref zn, .ref zk, .ref zr, .ref zl, .ref zc, .ref zs, .ref zw, .ref zt, .ref zm, .int 0])), (zr, .inr (6, [.ref zrt, .int 0, .int 0, .int 0])), (zrt, .inl (cy 0, 80, .inl (fun _ => 0)))] := hD
            have hw_526 : r_525 = if 32 ≤ r_522.toInt ∧ r_522.toInt ≤ 126 then 1 else 0 := hw_526
            refine lv_if_ne (tgt := 39) hx hb dX10_type_34 (by decide) (fun c_527 => ?_) (fun c_527 => ?_)
            · have f_528 : 32 ≤ r_522.toInt ∧ r_522.toInt ≤ 126 := bz_1 hw_526 c_527
              have g_529 : okb zja 3 := by unfold okb; rw [← hw_523]; exact f_528
              refine lv_iinc (v := 4) (lv' := [(4, .int 4), (0, .ref zx), (1, .long zja), (3, .int 8)]) hx hb dX10_type_39 hl (k := 0) rfl (by decide) (by decide) rfl (fun ls hl => ?_)
              refine lv_goto (tgt := 15) hx hb dX10_type_42 (by decide) ?_
              refine lv_iload hx hb dX10_type_15 (lv_at hl 0 rfl) ?_
              refine lv_iload_n hx hb dX10_type_17 rfl (lv_at hl 3 rfl) ?_
              refine lv_icmp_ge (tgt := 45) hx hb dX10_type_18 (by decide) (fun c_530 => absurd c_530 (by decide)) (fun c_530 => ?_)
              refine lv_lload_n hx hb dX10_type_21 rfl (lv_at hl 2 rfl) ?_
              refine lv_iload hx hb dX10_type_22 (lv_at hl 0 rfl) ?_
              refine cj_i (wc := []) (wr := [(zx, .inr (10, [.ref zn, .ref zk, .ref zr, .ref zl, .ref zc, .ref zs, .ref zw, .ref zt, .ref zm, .int 0])), (zr, .inr (6, [.ref zrt, .int 0, .int 0, .int 0])), (zrt, .inl (cy 0, 80, .inl (fun _ => 0)))]) (w1 := fun (_ : Unit) => []) (va_runS (As := [.long zja, .int 4]) (rest := []) ⟨hx, hb, hml, hown, hts⟩ (c_byteOf_4 l dC dI cy H.size zja) (va_cwS 2 hts gX10_type_X10_byteOf rfl rfl rfl (by decide +kernel) ⟨(Nat.le_of_ble_eq_true rfl), (Nat.le_of_ble_eq_true rfl)⟩) (PRE.s (hP.sub [] rfl) hK (hD.sub [] (by decide) rfl) hN) rfl rfl hl.1 rfl (lv_room (Nat.le_of_ble_eq_true rfl)) dX10_type_24 ⟨(Nat.le_of_ble_eq_true rfl), (Nat.le_of_ble_eq_true rfl)⟩) hP hD hS hA [] [0, 1, 2] rfl rfl rfl (by decide) (fun r_532 u_531 H locs hw_533 hP hD hS => ?_)
              have hP : va_P (dC, dI) vwCl [(zx, .inr (10, [.ref zn, .ref zk, .ref zr, .ref zl, .ref zc, .ref zs, .ref zw, .ref zt, .ref zm, .int 0])), (zr, .inr (6, [.ref zrt, .int 0, .int 0, .int 0])), (zrt, .inl (cy 0, 80, .inl (fun _ => 0)))] H := hP
              have hD : va_D A [(zx, .inr (10, [.ref zn, .ref zk, .ref zr, .ref zl, .ref zc, .ref zs, .ref zw, .ref zt, .ref zm, .int 0])), (zr, .inr (6, [.ref zrt, .int 0, .int 0, .int 0])), (zrt, .inl (cy 0, 80, .inl (fun _ => 0)))] := hD
              have hw_533 : r_532.toInt = by8 zja 4 := hw_533
              refine lv_bipush (v := 32) hx hb dX10_type_27 (by decide) ?_
              refine lv_bipush (v := 126) hx hb dX10_type_29 (by decide) ?_
              refine cj_i (wc := []) (wr := [(zx, .inr (10, [.ref zn, .ref zk, .ref zr, .ref zl, .ref zc, .ref zs, .ref zw, .ref zt, .ref zm, .int 0])), (zr, .inr (6, [.ref zrt, .int 0, .int 0, .int 0])), (zrt, .inl (cy 0, 80, .inl (fun _ => 0)))]) (w1 := fun (_ : Unit) => []) (va_runS (As := [.int r_532, .int 32, .int 126]) (rest := []) ⟨hx, hb, hml, hown, hts⟩ (c_X10_isWithin l dC dI cy H.size r_532 32 126 32 126 (by first | rfl | decide | omega | exact Int32.toInt_toInt64 _) (by first | rfl | decide | omega | exact Int32.toInt_toInt64 _)) (va_cwS 3 hts gX10_type_X10_isWithin rfl rfl rfl (by decide +kernel) ⟨(Nat.le_of_ble_eq_true rfl), (Nat.le_of_ble_eq_true rfl)⟩) (PRE.s (hP.sub [] rfl) hK (hD.sub [] (by decide) rfl) hN) rfl rfl hl.1 rfl (lv_room (Nat.le_of_ble_eq_true rfl)) dX10_type_31 ⟨(Nat.le_of_ble_eq_true rfl), (Nat.le_of_ble_eq_true rfl)⟩) hP hD hS hA [] [0, 1, 2] rfl rfl rfl (by decide) (fun r_535 u_534 H locs hw_536 hP hD hS => ?_)
              have hP : va_P (dC, dI) vwCl [(zx, .inr (10, [.ref zn, .ref zk, .ref zr, .ref zl, .ref zc, .ref zs, .ref zw, .ref zt, .ref zm, .int 0])), (zr, .inr (6, [.ref zrt, .int 0, .int 0, .int 0])), (zrt, .inl (cy 0, 80, .inl (fun _ => 0)))] H := hP
              have hD : va_D A [(zx, .inr (10, [.ref zn, .ref zk, .ref zr, .ref zl, .ref zc, .ref zs, .ref zw, .ref zt, .ref zm, .int 0])), (zr, .inr (6, [.ref zrt, .int 0, .int 0, .int 0])), (zrt, .inl (cy 0, 80, .inl (fun _ => 0)))] := hD
              have hw_536 : r_535 = if 32 ≤ r_532.toInt ∧ r_532.toInt ≤ 126 then 1 else 0 := hw_536
              refine lv_if_ne (tgt := 39) hx hb dX10_type_34 (by decide) (fun c_537 => ?_) (fun c_537 => ?_)
              · have f_538 : 32 ≤ r_532.toInt ∧ r_532.toInt ≤ 126 := bz_1 hw_536 c_537
                have g_539 : okb zja 4 := by unfold okb; rw [← hw_533]; exact f_538
                refine lv_iinc (v := 5) (lv' := [(4, .int 5), (0, .ref zx), (1, .long zja), (3, .int 8)]) hx hb dX10_type_39 hl (k := 0) rfl (by decide) (by decide) rfl (fun ls hl => ?_)
                refine lv_goto (tgt := 15) hx hb dX10_type_42 (by decide) ?_
                refine lv_iload hx hb dX10_type_15 (lv_at hl 0 rfl) ?_
                refine lv_iload_n hx hb dX10_type_17 rfl (lv_at hl 3 rfl) ?_
                refine lv_icmp_ge (tgt := 45) hx hb dX10_type_18 (by decide) (fun c_540 => absurd c_540 (by decide)) (fun c_540 => ?_)
                refine lv_lload_n hx hb dX10_type_21 rfl (lv_at hl 2 rfl) ?_
                refine lv_iload hx hb dX10_type_22 (lv_at hl 0 rfl) ?_
                refine cj_i (wc := []) (wr := [(zx, .inr (10, [.ref zn, .ref zk, .ref zr, .ref zl, .ref zc, .ref zs, .ref zw, .ref zt, .ref zm, .int 0])), (zr, .inr (6, [.ref zrt, .int 0, .int 0, .int 0])), (zrt, .inl (cy 0, 80, .inl (fun _ => 0)))]) (w1 := fun (_ : Unit) => []) (va_runS (As := [.long zja, .int 5]) (rest := []) ⟨hx, hb, hml, hown, hts⟩ (c_byteOf_5 l dC dI cy H.size zja) (va_cwS 2 hts gX10_type_X10_byteOf rfl rfl rfl (by decide +kernel) ⟨(Nat.le_of_ble_eq_true rfl), (Nat.le_of_ble_eq_true rfl)⟩) (PRE.s (hP.sub [] rfl) hK (hD.sub [] (by decide) rfl) hN) rfl rfl hl.1 rfl (lv_room (Nat.le_of_ble_eq_true rfl)) dX10_type_24 ⟨(Nat.le_of_ble_eq_true rfl), (Nat.le_of_ble_eq_true rfl)⟩) hP hD hS hA [] [0, 1, 2] rfl rfl rfl (by decide) (fun r_542 u_541 H locs hw_543 hP hD hS => ?_)
                have hP : va_P (dC, dI) vwCl [(zx, .inr (10, [.ref zn, .ref zk, .ref zr, .ref zl, .ref zc, .ref zs, .ref zw, .ref zt, .ref zm, .int 0])), (zr, .inr (6, [.ref zrt, .int 0, .int 0, .int 0])), (zrt, .inl (cy 0, 80, .inl (fun _ => 0)))] H := hP
                have hD : va_D A [(zx, .inr (10, [.ref zn, .ref zk, .ref zr, .ref zl, .ref zc, .ref zs, .ref zw, .ref zt, .ref zm, .int 0])), (zr, .inr (6, [.ref zrt, .int 0, .int 0, .int 0])), (zrt, .inl (cy 0, 80, .inl (fun _ => 0)))] := hD
                have hw_543 : r_542.toInt = by8 zja 5 := hw_543
                refine lv_bipush (v := 32) hx hb dX10_type_27 (by decide) ?_
                refine lv_bipush (v := 126) hx hb dX10_type_29 (by decide) ?_
                refine cj_i (wc := []) (wr := [(zx, .inr (10, [.ref zn, .ref zk, .ref zr, .ref zl, .ref zc, .ref zs, .ref zw, .ref zt, .ref zm, .int 0])), (zr, .inr (6, [.ref zrt, .int 0, .int 0, .int 0])), (zrt, .inl (cy 0, 80, .inl (fun _ => 0)))]) (w1 := fun (_ : Unit) => []) (va_runS (As := [.int r_542, .int 32, .int 126]) (rest := []) ⟨hx, hb, hml, hown, hts⟩ (c_X10_isWithin l dC dI cy H.size r_542 32 126 32 126 (by first | rfl | decide | omega | exact Int32.toInt_toInt64 _) (by first | rfl | decide | omega | exact Int32.toInt_toInt64 _)) (va_cwS 3 hts gX10_type_X10_isWithin rfl rfl rfl (by decide +kernel) ⟨(Nat.le_of_ble_eq_true rfl), (Nat.le_of_ble_eq_true rfl)⟩) (PRE.s (hP.sub [] rfl) hK (hD.sub [] (by decide) rfl) hN) rfl rfl hl.1 rfl (lv_room (Nat.le_of_ble_eq_true rfl)) dX10_type_31 ⟨(Nat.le_of_ble_eq_true rfl), (Nat.le_of_ble_eq_true rfl)⟩) hP hD hS hA [] [0, 1, 2] rfl rfl rfl (by decide) (fun r_545 u_544 H locs hw_546 hP hD hS => ?_)
                have hP : va_P (dC, dI) vwCl [(zx, .inr (10, [.ref zn, .ref zk, .ref zr, .ref zl, .ref zc, .ref zs, .ref zw, .ref zt, .ref zm, .int 0])), (zr, .inr (6, [.ref zrt, .int 0, .int 0, .int 0])), (zrt, .inl (cy 0, 80, .inl (fun _ => 0)))] H := hP
                have hD : va_D A [(zx, .inr (10, [.ref zn, .ref zk, .ref zr, .ref zl, .ref zc, .ref zs, .ref zw, .ref zt, .ref zm, .int 0])), (zr, .inr (6, [.ref zrt, .int 0, .int 0, .int 0])), (zrt, .inl (cy 0, 80, .inl (fun _ => 0)))] := hD
                have hw_546 : r_545 = if 32 ≤ r_542.toInt ∧ r_542.toInt ≤ 126 then 1 else 0 := hw_546
                refine lv_if_ne (tgt := 39) hx hb dX10_type_34 (by decide) (fun c_547 => ?_) (fun c_547 => ?_)
                · have f_548 : 32 ≤ r_542.toInt ∧ r_542.toInt ≤ 126 := bz_1 hw_546 c_547
                  have g_549 : okb zja 5 := by unfold okb; rw [← hw_543]; exact f_548
                  refine lv_iinc (v := 6) (lv' := [(4, .int 6), (0, .ref zx), (1, .long zja), (3, .int 8)]) hx hb dX10_type_39 hl (k := 0) rfl (by decide) (by decide) rfl (fun ls hl => ?_)
                  refine lv_goto (tgt := 15) hx hb dX10_type_42 (by decide) ?_
                  refine lv_iload hx hb dX10_type_15 (lv_at hl 0 rfl) ?_
                  refine lv_iload_n hx hb dX10_type_17 rfl (lv_at hl 3 rfl) ?_
                  refine lv_icmp_ge (tgt := 45) hx hb dX10_type_18 (by decide) (fun c_550 => absurd c_550 (by decide)) (fun c_550 => ?_)
                  refine lv_lload_n hx hb dX10_type_21 rfl (lv_at hl 2 rfl) ?_
                  refine lv_iload hx hb dX10_type_22 (lv_at hl 0 rfl) ?_
                  refine cj_i (wc := []) (wr := [(zx, .inr (10, [.ref zn, .ref zk, .ref zr, .ref zl, .ref zc, .ref zs, .ref zw, .ref zt, .ref zm, .int 0])), (zr, .inr (6, [.ref zrt, .int 0, .int 0, .int 0])), (zrt, .inl (cy 0, 80, .inl (fun _ => 0)))]) (w1 := fun (_ : Unit) => []) (va_runS (As := [.long zja, .int 6]) (rest := []) ⟨hx, hb, hml, hown, hts⟩ (c_byteOf_6 l dC dI cy H.size zja) (va_cwS 2 hts gX10_type_X10_byteOf rfl rfl rfl (by decide +kernel) ⟨(Nat.le_of_ble_eq_true rfl), (Nat.le_of_ble_eq_true rfl)⟩) (PRE.s (hP.sub [] rfl) hK (hD.sub [] (by decide) rfl) hN) rfl rfl hl.1 rfl (lv_room (Nat.le_of_ble_eq_true rfl)) dX10_type_24 ⟨(Nat.le_of_ble_eq_true rfl), (Nat.le_of_ble_eq_true rfl)⟩) hP hD hS hA [] [0, 1, 2] rfl rfl rfl (by decide) (fun r_552 u_551 H locs hw_553 hP hD hS => ?_)
                  have hP : va_P (dC, dI) vwCl [(zx, .inr (10, [.ref zn, .ref zk, .ref zr, .ref zl, .ref zc, .ref zs, .ref zw, .ref zt, .ref zm, .int 0])), (zr, .inr (6, [.ref zrt, .int 0, .int 0, .int 0])), (zrt, .inl (cy 0, 80, .inl (fun _ => 0)))] H := hP
                  have hD : va_D A [(zx, .inr (10, [.ref zn, .ref zk, .ref zr, .ref zl, .ref zc, .ref zs, .ref zw, .ref zt, .ref zm, .int 0])), (zr, .inr (6, [.ref zrt, .int 0, .int 0, .int 0])), (zrt, .inl (cy 0, 80, .inl (fun _ => 0)))] := hD
                  have hw_553 : r_552.toInt = by8 zja 6 := hw_553
                  refine lv_bipush (v := 32) hx hb dX10_type_27 (by decide) ?_
                  refine lv_bipush (v := 126) hx hb dX10_type_29 (by decide) ?_
                  refine cj_i (wc := []) (wr := [(zx, .inr (10, [.ref zn, .ref zk, .ref zr, .ref zl, .ref zc, .ref zs, .ref zw, .ref zt, .ref zm, .int 0])), (zr, .inr (6, [.ref zrt, .int 0, .int 0, .int 0])), (zrt, .inl (cy 0, 80, .inl (fun _ => 0)))]) (w1 := fun (_ : Unit) => []) (va_runS (As := [.int r_552, .int 32, .int 126]) (rest := []) ⟨hx, hb, hml, hown, hts⟩ (c_X10_isWithin l dC dI cy H.size r_552 32 126 32 126 (by first | rfl | decide | omega | exact Int32.toInt_toInt64 _) (by first | rfl | decide | omega | exact Int32.toInt_toInt64 _)) (va_cwS 3 hts gX10_type_X10_isWithin rfl rfl rfl (by decide +kernel) ⟨(Nat.le_of_ble_eq_true rfl), (Nat.le_of_ble_eq_true rfl)⟩) (PRE.s (hP.sub [] rfl) hK (hD.sub [] (by decide) rfl) hN) rfl rfl hl.1 rfl (lv_room (Nat.le_of_ble_eq_true rfl)) dX10_type_31 ⟨(Nat.le_of_ble_eq_true rfl), (Nat.le_of_ble_eq_true rfl)⟩) hP hD hS hA [] [0, 1, 2] rfl rfl rfl (by decide) (fun r_555 u_554 H locs hw_556 hP hD hS => ?_)
                  have hP : va_P (dC, dI) vwCl [(zx, .inr (10, [.ref zn, .ref zk, .ref zr, .ref zl, .ref zc, .ref zs, .ref zw, .ref zt, .ref zm, .int 0])), (zr, .inr (6, [.ref zrt, .int 0, .int 0, .int 0])), (zrt, .inl (cy 0, 80, .inl (fun _ => 0)))] H := hP
                  have hD : va_D A [(zx, .inr (10, [.ref zn, .ref zk, .ref zr, .ref zl, .ref zc, .ref zs, .ref zw, .ref zt, .ref zm, .int 0])), (zr, .inr (6, [.ref zrt, .int 0, .int 0, .int 0])), (zrt, .inl (cy 0, 80, .inl (fun _ => 0)))] := hD
                  have hw_556 : r_555 = if 32 ≤ r_552.toInt ∧ r_552.toInt ≤ 126 then 1 else 0 := hw_556
                  refine lv_if_ne (tgt := 39) hx hb dX10_type_34 (by decide) (fun c_557 => ?_) (fun c_557 => ?_)
                  · have f_558 : 32 ≤ r_552.toInt ∧ r_552.toInt ≤ 126 := bz_1 hw_556 c_557
                    have g_559 : okb zja 6 := by unfold okb; rw [← hw_553]; exact f_558
                    refine lv_iinc (v := 7) (lv' := [(4, .int 7), (0, .ref zx), (1, .long zja), (3, .int 8)]) hx hb dX10_type_39 hl (k := 0) rfl (by decide) (by decide) rfl (fun ls hl => ?_)
                    refine lv_goto (tgt := 15) hx hb dX10_type_42 (by decide) ?_
                    refine lv_iload hx hb dX10_type_15 (lv_at hl 0 rfl) ?_
                    refine lv_iload_n hx hb dX10_type_17 rfl (lv_at hl 3 rfl) ?_
                    refine lv_icmp_ge (tgt := 45) hx hb dX10_type_18 (by decide) (fun c_560 => absurd c_560 (by decide)) (fun c_560 => ?_)
                    refine lv_lload_n hx hb dX10_type_21 rfl (lv_at hl 2 rfl) ?_
                    refine lv_iload hx hb dX10_type_22 (lv_at hl 0 rfl) ?_
                    refine cj_i (wc := []) (wr := [(zx, .inr (10, [.ref zn, .ref zk, .ref zr, .ref zl, .ref zc, .ref zs, .ref zw, .ref zt, .ref zm, .int 0])), (zr, .inr (6, [.ref zrt, .int 0, .int 0, .int 0])), (zrt, .inl (cy 0, 80, .inl (fun _ => 0)))]) (w1 := fun (_ : Unit) => []) (va_runS (As := [.long zja, .int 7]) (rest := []) ⟨hx, hb, hml, hown, hts⟩ (c_byteOf_7 l dC dI cy H.size zja) (va_cwS 2 hts gX10_type_X10_byteOf rfl rfl rfl (by decide +kernel) ⟨(Nat.le_of_ble_eq_true rfl), (Nat.le_of_ble_eq_true rfl)⟩) (PRE.s (hP.sub [] rfl) hK (hD.sub [] (by decide) rfl) hN) rfl rfl hl.1 rfl (lv_room (Nat.le_of_ble_eq_true rfl)) dX10_type_24 ⟨(Nat.le_of_ble_eq_true rfl), (Nat.le_of_ble_eq_true rfl)⟩) hP hD hS hA [] [0, 1, 2] rfl rfl rfl (by decide) (fun r_562 u_561 H locs hw_563 hP hD hS => ?_)
                    have hP : va_P (dC, dI) vwCl [(zx, .inr (10, [.ref zn, .ref zk, .ref zr, .ref zl, .ref zc, .ref zs, .ref zw, .ref zt, .ref zm, .int 0])), (zr, .inr (6, [.ref zrt, .int 0, .int 0, .int 0])), (zrt, .inl (cy 0, 80, .inl (fun _ => 0)))] H := hP
                    have hD : va_D A [(zx, .inr (10, [.ref zn, .ref zk, .ref zr, .ref zl, .ref zc, .ref zs, .ref zw, .ref zt, .ref zm, .int 0])), (zr, .inr (6, [.ref zrt, .int 0, .int 0, .int 0])), (zrt, .inl (cy 0, 80, .inl (fun _ => 0)))] := hD
                    have hw_563 : r_562.toInt = by8 zja 7 := hw_563
                    refine lv_bipush (v := 32) hx hb dX10_type_27 (by decide) ?_
                    refine lv_bipush (v := 126) hx hb dX10_type_29 (by decide) ?_
                    refine cj_i (wc := []) (wr := [(zx, .inr (10, [.ref zn, .ref zk, .ref zr, .ref zl, .ref zc, .ref zs, .ref zw, .ref zt, .ref zm, .int 0])), (zr, .inr (6, [.ref zrt, .int 0, .int 0, .int 0])), (zrt, .inl (cy 0, 80, .inl (fun _ => 0)))]) (w1 := fun (_ : Unit) => []) (va_runS (As := [.int r_562, .int 32, .int 126]) (rest := []) ⟨hx, hb, hml, hown, hts⟩ (c_X10_isWithin l dC dI cy H.size r_562 32 126 32 126 (by first | rfl | decide | omega | exact Int32.toInt_toInt64 _) (by first | rfl | decide | omega | exact Int32.toInt_toInt64 _)) (va_cwS 3 hts gX10_type_X10_isWithin rfl rfl rfl (by decide +kernel) ⟨(Nat.le_of_ble_eq_true rfl), (Nat.le_of_ble_eq_true rfl)⟩) (PRE.s (hP.sub [] rfl) hK (hD.sub [] (by decide) rfl) hN) rfl rfl hl.1 rfl (lv_room (Nat.le_of_ble_eq_true rfl)) dX10_type_31 ⟨(Nat.le_of_ble_eq_true rfl), (Nat.le_of_ble_eq_true rfl)⟩) hP hD hS hA [] [0, 1, 2] rfl rfl rfl (by decide) (fun r_565 u_564 H locs hw_566 hP hD hS => ?_)
                    have hP : va_P (dC, dI) vwCl [(zx, .inr (10, [.ref zn, .ref zk, .ref zr, .ref zl, .ref zc, .ref zs, .ref zw, .ref zt, .ref zm, .int 0])), (zr, .inr (6, [.ref zrt, .int 0, .int 0, .int 0])), (zrt, .inl (cy 0, 80, .inl (fun _ => 0)))] H := hP
                    have hD : va_D A [(zx, .inr (10, [.ref zn, .ref zk, .ref zr, .ref zl, .ref zc, .ref zs, .ref zw, .ref zt, .ref zm, .int 0])), (zr, .inr (6, [.ref zrt, .int 0, .int 0, .int 0])), (zrt, .inl (cy 0, 80, .inl (fun _ => 0)))] := hD
                    have hw_566 : r_565 = if 32 ≤ r_562.toInt ∧ r_562.toInt ≤ 126 then 1 else 0 := hw_566
                    refine lv_if_ne (tgt := 39) hx hb dX10_type_34 (by decide) (fun c_567 => ?_) (fun c_567 => ?_)
                    · have f_568 : 32 ≤ r_562.toInt ∧ r_562.toInt ≤ 126 := bz_1 hw_566 c_567
                      have g_569 : okb zja 7 := by unfold okb; rw [← hw_563]; exact f_568
                      refine lv_iinc (v := 8) (lv' := [(4, .int 8), (0, .ref zx), (1, .long zja), (3, .int 8)]) hx hb dX10_type_39 hl (k := 0) rfl (by decide) (by decide) rfl (fun ls hl => ?_)
                      refine lv_goto (tgt := 15) hx hb dX10_type_42 (by decide) ?_
                      refine lv_iload hx hb dX10_type_15 (lv_at hl 0 rfl) ?_
                      refine lv_iload_n hx hb dX10_type_17 rfl (lv_at hl 3 rfl) ?_
                      refine lv_icmp_ge (tgt := 45) hx hb dX10_type_18 (by decide) (fun c_570 => ?_) (fun c_570 => absurd (by decide) c_570)
                      refine lv_aload_n hx hb dX10_type_45 rfl (lv_at hl 1 rfl) ?_
                      refine va_get (D := (dC, dI)) (ci := 10) (v := .ref zr) (C := RX10) (T := TX10) (N := 10) hx hb hts (by decide +kernel) hown hK hP 0 rfl rfl 2 (by decide) (hts (.fieldLink RX10 22 "DripStone" "reader" "LDripStone$Reader;") (by decide +kernel)) (fun _ h9 => h9) rfl dX10_type_46 ?_
                      refine va_get (D := (dC, dI)) (ci := 6) (v := .int 0) (C := RX6) (T := TX6) (N := 4) hx hb hts (by decide +kernel) hown hK hP 1 rfl rfl 1 (by decide) (hts (.fieldLink RX10 116 "DripStone$Reader" "typed" "I") (by decide +kernel)) (fun _ h9 => h9) rfl dX10_type_49 ?_
                      refine lv_iload_n hx hb dX10_type_52 rfl (lv_at hl 3 rfl) ?_
                      refine lv_iadd hx hb dX10_type_53 ?_
                      refine lv_topi (fun v_571 ev_571 => ?_)
                      obtain rfl : v_571 = (8 : Int32) := ev_571.trans (by decide)
                      refine lv_bipush (v := 80) hx hb dX10_type_54 (by decide) ?_
                      refine lv_icmp_le (tgt := 62) hx hb dX10_type_56 (by decide) (fun c_572 => ?_) (fun c_572 => absurd (by decide) c_572)
                      refine lv_iload_n hx hb dX10_type_62 rfl (lv_at hl 3 rfl) ?_
                      refine lv_iconst (v := 1) hx hb dX10_type_63 (by decide) ?_
                      refine lv_isub hx hb dX10_type_64 ?_
                      refine lv_topi (fun v_573 ev_573 => ?_)
                      obtain rfl : v_573 = (7 : Int32) := ev_573.trans (by decide)
                      refine lv_istore (lv' := [(4, .int 7), (0, .ref zx), (1, .long zja), (3, .int 8)]) hx hb dX10_type_65 hl (by decide) rfl (fun ls hl => ?_)
                      refine lv_iload hx hb dX10_type_67 (lv_at hl 0 rfl) ?_
                      refine lv_if_lt (tgt := 112) hx hb dX10_type_69 (by decide) (fun c_574 => absurd c_574 (by decide)) (fun c_574 => ?_)
                      refine lv_aload_n hx hb dX10_type_72 rfl (lv_at hl 1 rfl) ?_
                      refine va_get (D := (dC, dI)) (ci := 10) (v := .ref zr) (C := RX10) (T := TX10) (N := 10) hx hb hts (by decide +kernel) hown hK hP 0 rfl rfl 2 (by decide) (hts (.fieldLink RX10 22 "DripStone" "reader" "LDripStone$Reader;") (by decide +kernel)) (fun _ h9 => h9) rfl dX10_type_73 ?_
                      refine va_get (D := (dC, dI)) (ci := 6) (v := .ref zrt) (C := RX6) (T := TX6) (N := 4) hx hb hts (by decide +kernel) hown hK hP 1 rfl rfl 0 (by decide) (hts (.fieldLink RX10 119 "DripStone$Reader" "tape" "[I") (by decide +kernel)) (fun _ h9 => h9) rfl dX10_type_76 ?_
                      refine lv_aload_n hx hb dX10_type_79 rfl (lv_at hl 1 rfl) ?_
                      refine va_get (D := (dC, dI)) (ci := 10) (v := .ref zr) (C := RX10) (T := TX10) (N := 10) hx hb hts (by decide +kernel) hown hK hP 0 rfl rfl 2 (by decide) (hts (.fieldLink RX10 22 "DripStone" "reader" "LDripStone$Reader;") (by decide +kernel)) (fun _ h9 => h9) rfl dX10_type_80 ?_
                      refine va_get (D := (dC, dI)) (ci := 6) (v := .int 0) (C := RX6) (T := TX6) (N := 4) hx hb hts (by decide +kernel) hown hK hP 1 rfl rfl 1 (by decide) (hts (.fieldLink RX10 116 "DripStone$Reader" "typed" "I") (by decide +kernel)) (fun _ h9 => h9) rfl dX10_type_83 ?_
                      refine lv_lload_n hx hb dX10_type_86 rfl (lv_at hl 2 rfl) ?_
                      refine lv_iload hx hb dX10_type_87 (lv_at hl 0 rfl) ?_
                      refine cj_i (wc := []) (wr := [(zx, .inr (10, [.ref zn, .ref zk, .ref zr, .ref zl, .ref zc, .ref zs, .ref zw, .ref zt, .ref zm, .int 0])), (zr, .inr (6, [.ref zrt, .int 0, .int 0, .int 0])), (zrt, .inl (cy 0, 80, .inl (fun _ => 0)))]) (w1 := fun (_ : Unit) => []) (va_runS (As := [.long zja, .int 7]) (rest := [.int 0, .ref zrt]) ⟨hx, hb, hml, hown, hts⟩ (c_byteOf_7 l dC dI cy H.size zja) (va_cwS 2 hts gX10_type_X10_byteOf rfl rfl rfl (by decide +kernel) ⟨(Nat.le_of_ble_eq_true rfl), (Nat.le_of_ble_eq_true rfl)⟩) (PRE.s (hP.sub [] rfl) hK (hD.sub [] (by decide) rfl) hN) rfl rfl hl.1 rfl (lv_room (Nat.le_of_ble_eq_true rfl)) dX10_type_89 ⟨(Nat.le_of_ble_eq_true rfl), (Nat.le_of_ble_eq_true rfl)⟩) hP hD hS hA [] [0, 1, 2] rfl rfl rfl (by decide) (fun r_576 u_575 H locs hw_577 hP hD hS => ?_)
                      have hP : va_P (dC, dI) vwCl [(zx, .inr (10, [.ref zn, .ref zk, .ref zr, .ref zl, .ref zc, .ref zs, .ref zw, .ref zt, .ref zm, .int 0])), (zr, .inr (6, [.ref zrt, .int 0, .int 0, .int 0])), (zrt, .inl (cy 0, 80, .inl (fun _ => 0)))] H := hP
                      have hD : va_D A [(zx, .inr (10, [.ref zn, .ref zk, .ref zr, .ref zl, .ref zc, .ref zs, .ref zw, .ref zt, .ref zm, .int 0])), (zr, .inr (6, [.ref zrt, .int 0, .int 0, .int 0])), (zrt, .inl (cy 0, 80, .inl (fun _ => 0)))] := hD
                      have hw_577 : r_576.toInt = by8 zja 7 := hw_577
                      refine va_iast hx hb hK hP hD hS 2 0 rfl rfl (vp_in_iff.mpr ⟨by decide, by decide⟩) dX10_type_92 (fun H locs hP hD hS => ?_)
                      have hP : va_P (dC, dI) vwCl [(zx, .inr (10, [.ref zn, .ref zk, .ref zr, .ref zl, .ref zc, .ref zs, .ref zw, .ref zt, .ref zm, .int 0])), (zr, .inr (6, [.ref zrt, .int 0, .int 0, .int 0])), (zrt, .inl (cy 0, 80, .inl (upd (fun _ => 0) (0 : Int32).toNatClampNeg r_576)))] H := hP
                      have hD : va_D A [(zx, .inr (10, [.ref zn, .ref zk, .ref zr, .ref zl, .ref zc, .ref zs, .ref zw, .ref zt, .ref zm, .int 0])), (zr, .inr (6, [.ref zrt, .int 0, .int 0, .int 0])), (zrt, .inl (cy 0, 80, .inl (upd (fun _ => 0) (0 : Int32).toNatClampNeg r_576)))] := hD
                      refine lv_aload_n hx hb dX10_type_93 rfl (lv_at hl 1 rfl) ?_
                      refine va_get (D := (dC, dI)) (ci := 10) (v := .ref zr) (C := RX10) (T := TX10) (N := 10) hx hb hts (by decide +kernel) hown hK hP 0 rfl rfl 2 (by decide) (hts (.fieldLink RX10 22 "DripStone" "reader" "LDripStone$Reader;") (by decide +kernel)) (fun _ h9 => h9) rfl dX10_type_94 ?_
                      refine lv_dup hx hb dX10_type_97 rfl ?_
                      refine va_get (D := (dC, dI)) (ci := 6) (v := .int 0) (C := RX6) (T := TX6) (N := 4) hx hb hts (by decide +kernel) hown hK hP 1 rfl rfl 1 (by decide) (hts (.fieldLink RX10 116 "DripStone$Reader" "typed" "I") (by decide +kernel)) (fun _ h9 => h9) rfl dX10_type_98 ?_
                      refine lv_iconst (v := 1) hx hb dX10_type_101 (by decide) ?_
                      refine lv_iadd hx hb dX10_type_102 ?_
                      refine lv_topi (fun v_578 ev_578 => ?_)
                      obtain rfl : v_578 = (1 : Int32) := ev_578.trans (by decide)
                      refine va_put (D := (dC, dI)) (ci := 6) (v := .int 1) (ty := .int) (C := RX6) (T := TX6) (N := 4) hx hb hts (by decide +kernel) tyX6 tyX6_ok nmX6 hown hK hP hD hS 1 rfl rfl 1 (by decide) (hts (.fieldLink RX10 116 "DripStone$Reader" "typed" "I") (by decide +kernel)) (fun _ h9 => h9) rfl (by decide +kernel) rfl rfl (Nat.le_of_ble_eq_true rfl) dX10_type_103 (fun H locs hP hD hS => ?_)
                      have hP : va_P (dC, dI) vwCl [(zx, .inr (10, [.ref zn, .ref zk, .ref zr, .ref zl, .ref zc, .ref zs, .ref zw, .ref zt, .ref zm, .int 0])), (zr, .inr (6, [.ref zrt, .int 1, .int 0, .int 0])), (zrt, .inl (cy 0, 80, .inl (upd (fun _ => 0) (0 : Int32).toNatClampNeg r_576)))] H := hP
                      have hD : va_D A [(zx, .inr (10, [.ref zn, .ref zk, .ref zr, .ref zl, .ref zc, .ref zs, .ref zw, .ref zt, .ref zm, .int 0])), (zr, .inr (6, [.ref zrt, .int 1, .int 0, .int 0])), (zrt, .inl (cy 0, 80, .inl (upd (fun _ => 0) (0 : Int32).toNatClampNeg r_576)))] := hD
                      refine lv_iinc (v := 6) (lv' := [(4, .int 6), (0, .ref zx), (1, .long zja), (3, .int 8)]) hx hb dX10_type_106 hl (k := 0) rfl (by decide) (by decide) rfl (fun ls hl => ?_)
                      refine lv_goto (tgt := 67) hx hb dX10_type_109 (by decide) ?_
                      refine lv_iload hx hb dX10_type_67 (lv_at hl 0 rfl) ?_
                      refine lv_if_lt (tgt := 112) hx hb dX10_type_69 (by decide) (fun c_579 => absurd c_579 (by decide)) (fun c_579 => ?_)
                      refine lv_aload_n hx hb dX10_type_72 rfl (lv_at hl 1 rfl) ?_
                      refine va_get (D := (dC, dI)) (ci := 10) (v := .ref zr) (C := RX10) (T := TX10) (N := 10) hx hb hts (by decide +kernel) hown hK hP 0 rfl rfl 2 (by decide) (hts (.fieldLink RX10 22 "DripStone" "reader" "LDripStone$Reader;") (by decide +kernel)) (fun _ h9 => h9) rfl dX10_type_73 ?_
                      refine va_get (D := (dC, dI)) (ci := 6) (v := .ref zrt) (C := RX6) (T := TX6) (N := 4) hx hb hts (by decide +kernel) hown hK hP 1 rfl rfl 0 (by decide) (hts (.fieldLink RX10 119 "DripStone$Reader" "tape" "[I") (by decide +kernel)) (fun _ h9 => h9) rfl dX10_type_76 ?_
                      refine lv_aload_n hx hb dX10_type_79 rfl (lv_at hl 1 rfl) ?_
                      refine va_get (D := (dC, dI)) (ci := 10) (v := .ref zr) (C := RX10) (T := TX10) (N := 10) hx hb hts (by decide +kernel) hown hK hP 0 rfl rfl 2 (by decide) (hts (.fieldLink RX10 22 "DripStone" "reader" "LDripStone$Reader;") (by decide +kernel)) (fun _ h9 => h9) rfl dX10_type_80 ?_
                      refine va_get (D := (dC, dI)) (ci := 6) (v := .int 1) (C := RX6) (T := TX6) (N := 4) hx hb hts (by decide +kernel) hown hK hP 1 rfl rfl 1 (by decide) (hts (.fieldLink RX10 116 "DripStone$Reader" "typed" "I") (by decide +kernel)) (fun _ h9 => h9) rfl dX10_type_83 ?_
                      refine lv_lload_n hx hb dX10_type_86 rfl (lv_at hl 2 rfl) ?_
                      refine lv_iload hx hb dX10_type_87 (lv_at hl 0 rfl) ?_
                      refine cj_i (wc := []) (wr := [(zx, .inr (10, [.ref zn, .ref zk, .ref zr, .ref zl, .ref zc, .ref zs, .ref zw, .ref zt, .ref zm, .int 0])), (zr, .inr (6, [.ref zrt, .int 1, .int 0, .int 0])), (zrt, .inl (cy 0, 80, .inl (upd (fun _ => 0) (0 : Int32).toNatClampNeg r_576)))]) (w1 := fun (_ : Unit) => []) (va_runS (As := [.long zja, .int 6]) (rest := [.int 1, .ref zrt]) ⟨hx, hb, hml, hown, hts⟩ (c_byteOf_6 l dC dI cy H.size zja) (va_cwS 2 hts gX10_type_X10_byteOf rfl rfl rfl (by decide +kernel) ⟨(Nat.le_of_ble_eq_true rfl), (Nat.le_of_ble_eq_true rfl)⟩) (PRE.s (hP.sub [] rfl) hK (hD.sub [] (by decide) rfl) hN) rfl rfl hl.1 rfl (lv_room (Nat.le_of_ble_eq_true rfl)) dX10_type_89 ⟨(Nat.le_of_ble_eq_true rfl), (Nat.le_of_ble_eq_true rfl)⟩) hP hD hS hA [] [0, 1, 2] rfl rfl rfl (by decide) (fun r_581 u_580 H locs hw_582 hP hD hS => ?_)
                      have hP : va_P (dC, dI) vwCl [(zx, .inr (10, [.ref zn, .ref zk, .ref zr, .ref zl, .ref zc, .ref zs, .ref zw, .ref zt, .ref zm, .int 0])), (zr, .inr (6, [.ref zrt, .int 1, .int 0, .int 0])), (zrt, .inl (cy 0, 80, .inl (upd (fun _ => 0) (0 : Int32).toNatClampNeg r_576)))] H := hP
                      have hD : va_D A [(zx, .inr (10, [.ref zn, .ref zk, .ref zr, .ref zl, .ref zc, .ref zs, .ref zw, .ref zt, .ref zm, .int 0])), (zr, .inr (6, [.ref zrt, .int 1, .int 0, .int 0])), (zrt, .inl (cy 0, 80, .inl (upd (fun _ => 0) (0 : Int32).toNatClampNeg r_576)))] := hD
                      have hw_582 : r_581.toInt = by8 zja 6 := hw_582
                      refine va_iast hx hb hK hP hD hS 2 0 rfl rfl (vp_in_iff.mpr ⟨by decide, by decide⟩) dX10_type_92 (fun H locs hP hD hS => ?_)
                      have hP : va_P (dC, dI) vwCl [(zx, .inr (10, [.ref zn, .ref zk, .ref zr, .ref zl, .ref zc, .ref zs, .ref zw, .ref zt, .ref zm, .int 0])), (zr, .inr (6, [.ref zrt, .int 1, .int 0, .int 0])), (zrt, .inl (cy 0, 80, .inl (upd (upd (fun _ => 0) (0 : Int32).toNatClampNeg r_576) (1 : Int32).toNatClampNeg r_581)))] H := hP
                      have hD : va_D A [(zx, .inr (10, [.ref zn, .ref zk, .ref zr, .ref zl, .ref zc, .ref zs, .ref zw, .ref zt, .ref zm, .int 0])), (zr, .inr (6, [.ref zrt, .int 1, .int 0, .int 0])), (zrt, .inl (cy 0, 80, .inl (upd (upd (fun _ => 0) (0 : Int32).toNatClampNeg r_576) (1 : Int32).toNatClampNeg r_581)))] := hD
                      refine lv_aload_n hx hb dX10_type_93 rfl (lv_at hl 1 rfl) ?_
                      refine va_get (D := (dC, dI)) (ci := 10) (v := .ref zr) (C := RX10) (T := TX10) (N := 10) hx hb hts (by decide +kernel) hown hK hP 0 rfl rfl 2 (by decide) (hts (.fieldLink RX10 22 "DripStone" "reader" "LDripStone$Reader;") (by decide +kernel)) (fun _ h9 => h9) rfl dX10_type_94 ?_
                      refine lv_dup hx hb dX10_type_97 rfl ?_
                      refine va_get (D := (dC, dI)) (ci := 6) (v := .int 1) (C := RX6) (T := TX6) (N := 4) hx hb hts (by decide +kernel) hown hK hP 1 rfl rfl 1 (by decide) (hts (.fieldLink RX10 116 "DripStone$Reader" "typed" "I") (by decide +kernel)) (fun _ h9 => h9) rfl dX10_type_98 ?_
                      refine lv_iconst (v := 1) hx hb dX10_type_101 (by decide) ?_
                      refine lv_iadd hx hb dX10_type_102 ?_
                      refine lv_topi (fun v_583 ev_583 => ?_)
                      obtain rfl : v_583 = (2 : Int32) := ev_583.trans (by decide)
                      refine va_put (D := (dC, dI)) (ci := 6) (v := .int 2) (ty := .int) (C := RX6) (T := TX6) (N := 4) hx hb hts (by decide +kernel) tyX6 tyX6_ok nmX6 hown hK hP hD hS 1 rfl rfl 1 (by decide) (hts (.fieldLink RX10 116 "DripStone$Reader" "typed" "I") (by decide +kernel)) (fun _ h9 => h9) rfl (by decide +kernel) rfl rfl (Nat.le_of_ble_eq_true rfl) dX10_type_103 (fun H locs hP hD hS => ?_)
                      have hP : va_P (dC, dI) vwCl [(zx, .inr (10, [.ref zn, .ref zk, .ref zr, .ref zl, .ref zc, .ref zs, .ref zw, .ref zt, .ref zm, .int 0])), (zr, .inr (6, [.ref zrt, .int 2, .int 0, .int 0])), (zrt, .inl (cy 0, 80, .inl (upd (upd (fun _ => 0) (0 : Int32).toNatClampNeg r_576) (1 : Int32).toNatClampNeg r_581)))] H := hP
                      have hD : va_D A [(zx, .inr (10, [.ref zn, .ref zk, .ref zr, .ref zl, .ref zc, .ref zs, .ref zw, .ref zt, .ref zm, .int 0])), (zr, .inr (6, [.ref zrt, .int 2, .int 0, .int 0])), (zrt, .inl (cy 0, 80, .inl (upd (upd (fun _ => 0) (0 : Int32).toNatClampNeg r_576) (1 : Int32).toNatClampNeg r_581)))] := hD
                      refine lv_iinc (v := 5) (lv' := [(4, .int 5), (0, .ref zx), (1, .long zja), (3, .int 8)]) hx hb dX10_type_106 hl (k := 0) rfl (by decide) (by decide) rfl (fun ls hl => ?_)
                      refine lv_goto (tgt := 67) hx hb dX10_type_109 (by decide) ?_
                      refine lv_iload hx hb dX10_type_67 (lv_at hl 0 rfl) ?_
                      refine lv_if_lt (tgt := 112) hx hb dX10_type_69 (by decide) (fun c_584 => absurd c_584 (by decide)) (fun c_584 => ?_)
                      refine lv_aload_n hx hb dX10_type_72 rfl (lv_at hl 1 rfl) ?_
                      refine va_get (D := (dC, dI)) (ci := 10) (v := .ref zr) (C := RX10) (T := TX10) (N := 10) hx hb hts (by decide +kernel) hown hK hP 0 rfl rfl 2 (by decide) (hts (.fieldLink RX10 22 "DripStone" "reader" "LDripStone$Reader;") (by decide +kernel)) (fun _ h9 => h9) rfl dX10_type_73 ?_
                      refine va_get (D := (dC, dI)) (ci := 6) (v := .ref zrt) (C := RX6) (T := TX6) (N := 4) hx hb hts (by decide +kernel) hown hK hP 1 rfl rfl 0 (by decide) (hts (.fieldLink RX10 119 "DripStone$Reader" "tape" "[I") (by decide +kernel)) (fun _ h9 => h9) rfl dX10_type_76 ?_
                      refine lv_aload_n hx hb dX10_type_79 rfl (lv_at hl 1 rfl) ?_
                      refine va_get (D := (dC, dI)) (ci := 10) (v := .ref zr) (C := RX10) (T := TX10) (N := 10) hx hb hts (by decide +kernel) hown hK hP 0 rfl rfl 2 (by decide) (hts (.fieldLink RX10 22 "DripStone" "reader" "LDripStone$Reader;") (by decide +kernel)) (fun _ h9 => h9) rfl dX10_type_80 ?_
                      refine va_get (D := (dC, dI)) (ci := 6) (v := .int 2) (C := RX6) (T := TX6) (N := 4) hx hb hts (by decide +kernel) hown hK hP 1 rfl rfl 1 (by decide) (hts (.fieldLink RX10 116 "DripStone$Reader" "typed" "I") (by decide +kernel)) (fun _ h9 => h9) rfl dX10_type_83 ?_
                      refine lv_lload_n hx hb dX10_type_86 rfl (lv_at hl 2 rfl) ?_
                      refine lv_iload hx hb dX10_type_87 (lv_at hl 0 rfl) ?_
                      refine cj_i (wc := []) (wr := [(zx, .inr (10, [.ref zn, .ref zk, .ref zr, .ref zl, .ref zc, .ref zs, .ref zw, .ref zt, .ref zm, .int 0])), (zr, .inr (6, [.ref zrt, .int 2, .int 0, .int 0])), (zrt, .inl (cy 0, 80, .inl (upd (upd (fun _ => 0) (0 : Int32).toNatClampNeg r_576) (1 : Int32).toNatClampNeg r_581)))]) (w1 := fun (_ : Unit) => []) (va_runS (As := [.long zja, .int 5]) (rest := [.int 2, .ref zrt]) ⟨hx, hb, hml, hown, hts⟩ (c_byteOf_5 l dC dI cy H.size zja) (va_cwS 2 hts gX10_type_X10_byteOf rfl rfl rfl (by decide +kernel) ⟨(Nat.le_of_ble_eq_true rfl), (Nat.le_of_ble_eq_true rfl)⟩) (PRE.s (hP.sub [] rfl) hK (hD.sub [] (by decide) rfl) hN) rfl rfl hl.1 rfl (lv_room (Nat.le_of_ble_eq_true rfl)) dX10_type_89 ⟨(Nat.le_of_ble_eq_true rfl), (Nat.le_of_ble_eq_true rfl)⟩) hP hD hS hA [] [0, 1, 2] rfl rfl rfl (by decide) (fun r_586 u_585 H locs hw_587 hP hD hS => ?_)
                      have hP : va_P (dC, dI) vwCl [(zx, .inr (10, [.ref zn, .ref zk, .ref zr, .ref zl, .ref zc, .ref zs, .ref zw, .ref zt, .ref zm, .int 0])), (zr, .inr (6, [.ref zrt, .int 2, .int 0, .int 0])), (zrt, .inl (cy 0, 80, .inl (upd (upd (fun _ => 0) (0 : Int32).toNatClampNeg r_576) (1 : Int32).toNatClampNeg r_581)))] H := hP
                      have hD : va_D A [(zx, .inr (10, [.ref zn, .ref zk, .ref zr, .ref zl, .ref zc, .ref zs, .ref zw, .ref zt, .ref zm, .int 0])), (zr, .inr (6, [.ref zrt, .int 2, .int 0, .int 0])), (zrt, .inl (cy 0, 80, .inl (upd (upd (fun _ => 0) (0 : Int32).toNatClampNeg r_576) (1 : Int32).toNatClampNeg r_581)))] := hD
                      have hw_587 : r_586.toInt = by8 zja 5 := hw_587
                      refine va_iast hx hb hK hP hD hS 2 0 rfl rfl (vp_in_iff.mpr ⟨by decide, by decide⟩) dX10_type_92 (fun H locs hP hD hS => ?_)
                      have hP : va_P (dC, dI) vwCl [(zx, .inr (10, [.ref zn, .ref zk, .ref zr, .ref zl, .ref zc, .ref zs, .ref zw, .ref zt, .ref zm, .int 0])), (zr, .inr (6, [.ref zrt, .int 2, .int 0, .int 0])), (zrt, .inl (cy 0, 80, .inl (upd (upd (upd (fun _ => 0) (0 : Int32).toNatClampNeg r_576) (1 : Int32).toNatClampNeg r_581) (2 : Int32).toNatClampNeg r_586)))] H := hP
                      have hD : va_D A [(zx, .inr (10, [.ref zn, .ref zk, .ref zr, .ref zl, .ref zc, .ref zs, .ref zw, .ref zt, .ref zm, .int 0])), (zr, .inr (6, [.ref zrt, .int 2, .int 0, .int 0])), (zrt, .inl (cy 0, 80, .inl (upd (upd (upd (fun _ => 0) (0 : Int32).toNatClampNeg r_576) (1 : Int32).toNatClampNeg r_581) (2 : Int32).toNatClampNeg r_586)))] := hD
                      refine lv_aload_n hx hb dX10_type_93 rfl (lv_at hl 1 rfl) ?_
                      refine va_get (D := (dC, dI)) (ci := 10) (v := .ref zr) (C := RX10) (T := TX10) (N := 10) hx hb hts (by decide +kernel) hown hK hP 0 rfl rfl 2 (by decide) (hts (.fieldLink RX10 22 "DripStone" "reader" "LDripStone$Reader;") (by decide +kernel)) (fun _ h9 => h9) rfl dX10_type_94 ?_
                      refine lv_dup hx hb dX10_type_97 rfl ?_
                      refine va_get (D := (dC, dI)) (ci := 6) (v := .int 2) (C := RX6) (T := TX6) (N := 4) hx hb hts (by decide +kernel) hown hK hP 1 rfl rfl 1 (by decide) (hts (.fieldLink RX10 116 "DripStone$Reader" "typed" "I") (by decide +kernel)) (fun _ h9 => h9) rfl dX10_type_98 ?_
                      refine lv_iconst (v := 1) hx hb dX10_type_101 (by decide) ?_
                      refine lv_iadd hx hb dX10_type_102 ?_
                      refine lv_topi (fun v_588 ev_588 => ?_)
                      obtain rfl : v_588 = (3 : Int32) := ev_588.trans (by decide)
                      refine va_put (D := (dC, dI)) (ci := 6) (v := .int 3) (ty := .int) (C := RX6) (T := TX6) (N := 4) hx hb hts (by decide +kernel) tyX6 tyX6_ok nmX6 hown hK hP hD hS 1 rfl rfl 1 (by decide) (hts (.fieldLink RX10 116 "DripStone$Reader" "typed" "I") (by decide +kernel)) (fun _ h9 => h9) rfl (by decide +kernel) rfl rfl (Nat.le_of_ble_eq_true rfl) dX10_type_103 (fun H locs hP hD hS => ?_)
                      have hP : va_P (dC, dI) vwCl [(zx, .inr (10, [.ref zn, .ref zk, .ref zr, .ref zl, .ref zc, .ref zs, .ref zw, .ref zt, .ref zm, .int 0])), (zr, .inr (6, [.ref zrt, .int 3, .int 0, .int 0])), (zrt, .inl (cy 0, 80, .inl (upd (upd (upd (fun _ => 0) (0 : Int32).toNatClampNeg r_576) (1 : Int32).toNatClampNeg r_581) (2 : Int32).toNatClampNeg r_586)))] H := hP
                      have hD : va_D A [(zx, .inr (10, [.ref zn, .ref zk, .ref zr, .ref zl, .ref zc, .ref zs, .ref zw, .ref zt, .ref zm, .int 0])), (zr, .inr (6, [.ref zrt, .int 3, .int 0, .int 0])), (zrt, .inl (cy 0, 80, .inl (upd (upd (upd (fun _ => 0) (0 : Int32).toNatClampNeg r_576) (1 : Int32).toNatClampNeg r_581) (2 : Int32).toNatClampNeg r_586)))] := hD
                      refine lv_iinc (v := 4) (lv' := [(4, .int 4), (0, .ref zx), (1, .long zja), (3, .int 8)]) hx hb dX10_type_106 hl (k := 0) rfl (by decide) (by decide) rfl (fun ls hl => ?_)
                      refine lv_goto (tgt := 67) hx hb dX10_type_109 (by decide) ?_
                      refine lv_iload hx hb dX10_type_67 (lv_at hl 0 rfl) ?_
                      refine lv_if_lt (tgt := 112) hx hb dX10_type_69 (by decide) (fun c_589 => absurd c_589 (by decide)) (fun c_589 => ?_)
                      refine lv_aload_n hx hb dX10_type_72 rfl (lv_at hl 1 rfl) ?_
                      refine va_get (D := (dC, dI)) (ci := 10) (v := .ref zr) (C := RX10) (T := TX10) (N := 10) hx hb hts (by decide +kernel) hown hK hP 0 rfl rfl 2 (by decide) (hts (.fieldLink RX10 22 "DripStone" "reader" "LDripStone$Reader;") (by decide +kernel)) (fun _ h9 => h9) rfl dX10_type_73 ?_
                      refine va_get (D := (dC, dI)) (ci := 6) (v := .ref zrt) (C := RX6) (T := TX6) (N := 4) hx hb hts (by decide +kernel) hown hK hP 1 rfl rfl 0 (by decide) (hts (.fieldLink RX10 119 "DripStone$Reader" "tape" "[I") (by decide +kernel)) (fun _ h9 => h9) rfl dX10_type_76 ?_
                      refine lv_aload_n hx hb dX10_type_79 rfl (lv_at hl 1 rfl) ?_
                      refine va_get (D := (dC, dI)) (ci := 10) (v := .ref zr) (C := RX10) (T := TX10) (N := 10) hx hb hts (by decide +kernel) hown hK hP 0 rfl rfl 2 (by decide) (hts (.fieldLink RX10 22 "DripStone" "reader" "LDripStone$Reader;") (by decide +kernel)) (fun _ h9 => h9) rfl dX10_type_80 ?_
                      refine va_get (D := (dC, dI)) (ci := 6) (v := .int 3) (C := RX6) (T := TX6) (N := 4) hx hb hts (by decide +kernel) hown hK hP 1 rfl rfl 1 (by decide) (hts (.fieldLink RX10 116 "DripStone$Reader" "typed" "I") (by decide +kernel)) (fun _ h9 => h9) rfl dX10_type_83 ?_
                      refine lv_lload_n hx hb dX10_type_86 rfl (lv_at hl 2 rfl) ?_
                      refine lv_iload hx hb dX10_type_87 (lv_at hl 0 rfl) ?_
                      refine cj_i (wc := []) (wr := [(zx, .inr (10, [.ref zn, .ref zk, .ref zr, .ref zl, .ref zc, .ref zs, .ref zw, .ref zt, .ref zm, .int 0])), (zr, .inr (6, [.ref zrt, .int 3, .int 0, .int 0])), (zrt, .inl (cy 0, 80, .inl (upd (upd (upd (fun _ => 0) (0 : Int32).toNatClampNeg r_576) (1 : Int32).toNatClampNeg r_581) (2 : Int32).toNatClampNeg r_586)))]) (w1 := fun (_ : Unit) => []) (va_runS (As := [.long zja, .int 4]) (rest := [.int 3, .ref zrt]) ⟨hx, hb, hml, hown, hts⟩ (c_byteOf_4 l dC dI cy H.size zja) (va_cwS 2 hts gX10_type_X10_byteOf rfl rfl rfl (by decide +kernel) ⟨(Nat.le_of_ble_eq_true rfl), (Nat.le_of_ble_eq_true rfl)⟩) (PRE.s (hP.sub [] rfl) hK (hD.sub [] (by decide) rfl) hN) rfl rfl hl.1 rfl (lv_room (Nat.le_of_ble_eq_true rfl)) dX10_type_89 ⟨(Nat.le_of_ble_eq_true rfl), (Nat.le_of_ble_eq_true rfl)⟩) hP hD hS hA [] [0, 1, 2] rfl rfl rfl (by decide) (fun r_591 u_590 H locs hw_592 hP hD hS => ?_)
                      have hP : va_P (dC, dI) vwCl [(zx, .inr (10, [.ref zn, .ref zk, .ref zr, .ref zl, .ref zc, .ref zs, .ref zw, .ref zt, .ref zm, .int 0])), (zr, .inr (6, [.ref zrt, .int 3, .int 0, .int 0])), (zrt, .inl (cy 0, 80, .inl (upd (upd (upd (fun _ => 0) (0 : Int32).toNatClampNeg r_576) (1 : Int32).toNatClampNeg r_581) (2 : Int32).toNatClampNeg r_586)))] H := hP
                      have hD : va_D A [(zx, .inr (10, [.ref zn, .ref zk, .ref zr, .ref zl, .ref zc, .ref zs, .ref zw, .ref zt, .ref zm, .int 0])), (zr, .inr (6, [.ref zrt, .int 3, .int 0, .int 0])), (zrt, .inl (cy 0, 80, .inl (upd (upd (upd (fun _ => 0) (0 : Int32).toNatClampNeg r_576) (1 : Int32).toNatClampNeg r_581) (2 : Int32).toNatClampNeg r_586)))] := hD
                      have hw_592 : r_591.toInt = by8 zja 4 := hw_592
                      refine va_iast hx hb hK hP hD hS 2 0 rfl rfl (vp_in_iff.mpr ⟨by decide, by decide⟩) dX10_type_92 (fun H locs hP hD hS => ?_)
                      have hP : va_P (dC, dI) vwCl [(zx, .inr (10, [.ref zn, .ref zk, .ref zr, .ref zl, .ref zc, .ref zs, .ref zw, .ref zt, .ref zm, .int 0])), (zr, .inr (6, [.ref zrt, .int 3, .int 0, .int 0])), (zrt, .inl (cy 0, 80, .inl (upd (upd (upd (upd (fun _ => 0) (0 : Int32).toNatClampNeg r_576) (1 : Int32).toNatClampNeg r_581) (2 : Int32).toNatClampNeg r_586) (3 : Int32).toNatClampNeg r_591)))] H := hP
                      have hD : va_D A [(zx, .inr (10, [.ref zn, .ref zk, .ref zr, .ref zl, .ref zc, .ref zs, .ref zw, .ref zt, .ref zm, .int 0])), (zr, .inr (6, [.ref zrt, .int 3, .int 0, .int 0])), (zrt, .inl (cy 0, 80, .inl (upd (upd (upd (upd (fun _ => 0) (0 : Int32).toNatClampNeg r_576) (1 : Int32).toNatClampNeg r_581) (2 : Int32).toNatClampNeg r_586) (3 : Int32).toNatClampNeg r_591)))] := hD
                      refine lv_aload_n hx hb dX10_type_93 rfl (lv_at hl 1 rfl) ?_
                      refine va_get (D := (dC, dI)) (ci := 10) (v := .ref zr) (C := RX10) (T := TX10) (N := 10) hx hb hts (by decide +kernel) hown hK hP 0 rfl rfl 2 (by decide) (hts (.fieldLink RX10 22 "DripStone" "reader" "LDripStone$Reader;") (by decide +kernel)) (fun _ h9 => h9) rfl dX10_type_94 ?_
                      refine lv_dup hx hb dX10_type_97 rfl ?_
                      refine va_get (D := (dC, dI)) (ci := 6) (v := .int 3) (C := RX6) (T := TX6) (N := 4) hx hb hts (by decide +kernel) hown hK hP 1 rfl rfl 1 (by decide) (hts (.fieldLink RX10 116 "DripStone$Reader" "typed" "I") (by decide +kernel)) (fun _ h9 => h9) rfl dX10_type_98 ?_
                      refine lv_iconst (v := 1) hx hb dX10_type_101 (by decide) ?_
                      refine lv_iadd hx hb dX10_type_102 ?_
                      refine lv_topi (fun v_593 ev_593 => ?_)
                      obtain rfl : v_593 = (4 : Int32) := ev_593.trans (by decide)
                      refine va_put (D := (dC, dI)) (ci := 6) (v := .int 4) (ty := .int) (C := RX6) (T := TX6) (N := 4) hx hb hts (by decide +kernel) tyX6 tyX6_ok nmX6 hown hK hP hD hS 1 rfl rfl 1 (by decide) (hts (.fieldLink RX10 116 "DripStone$Reader" "typed" "I") (by decide +kernel)) (fun _ h9 => h9) rfl (by decide +kernel) rfl rfl (Nat.le_of_ble_eq_true rfl) dX10_type_103 (fun H locs hP hD hS => ?_)
                      have hP : va_P (dC, dI) vwCl [(zx, .inr (10, [.ref zn, .ref zk, .ref zr, .ref zl, .ref zc, .ref zs, .ref zw, .ref zt, .ref zm, .int 0])), (zr, .inr (6, [.ref zrt, .int 4, .int 0, .int 0])), (zrt, .inl (cy 0, 80, .inl (upd (upd (upd (upd (fun _ => 0) (0 : Int32).toNatClampNeg r_576) (1 : Int32).toNatClampNeg r_581) (2 : Int32).toNatClampNeg r_586) (3 : Int32).toNatClampNeg r_591)))] H := hP
                      have hD : va_D A [(zx, .inr (10, [.ref zn, .ref zk, .ref zr, .ref zl, .ref zc, .ref zs, .ref zw, .ref zt, .ref zm, .int 0])), (zr, .inr (6, [.ref zrt, .int 4, .int 0, .int 0])), (zrt, .inl (cy 0, 80, .inl (upd (upd (upd (upd (fun _ => 0) (0 : Int32).toNatClampNeg r_576) (1 : Int32).toNatClampNeg r_581) (2 : Int32).toNatClampNeg r_586) (3 : Int32).toNatClampNeg r_591)))] := hD
                      refine lv_iinc (v := 3) (lv' := [(4, .int 3), (0, .ref zx), (1, .long zja), (3, .int 8)]) hx hb dX10_type_106 hl (k := 0) rfl (by decide) (by decide) rfl (fun ls hl => ?_)
                      refine lv_goto (tgt := 67) hx hb dX10_type_109 (by decide) ?_
                      refine lv_iload hx hb dX10_type_67 (lv_at hl 0 rfl) ?_
                      refine lv_if_lt (tgt := 112) hx hb dX10_type_69 (by decide) (fun c_594 => absurd c_594 (by decide)) (fun c_594 => ?_)
                      refine lv_aload_n hx hb dX10_type_72 rfl (lv_at hl 1 rfl) ?_
                      refine va_get (D := (dC, dI)) (ci := 10) (v := .ref zr) (C := RX10) (T := TX10) (N := 10) hx hb hts (by decide +kernel) hown hK hP 0 rfl rfl 2 (by decide) (hts (.fieldLink RX10 22 "DripStone" "reader" "LDripStone$Reader;") (by decide +kernel)) (fun _ h9 => h9) rfl dX10_type_73 ?_
                      refine va_get (D := (dC, dI)) (ci := 6) (v := .ref zrt) (C := RX6) (T := TX6) (N := 4) hx hb hts (by decide +kernel) hown hK hP 1 rfl rfl 0 (by decide) (hts (.fieldLink RX10 119 "DripStone$Reader" "tape" "[I") (by decide +kernel)) (fun _ h9 => h9) rfl dX10_type_76 ?_
                      refine lv_aload_n hx hb dX10_type_79 rfl (lv_at hl 1 rfl) ?_
                      refine va_get (D := (dC, dI)) (ci := 10) (v := .ref zr) (C := RX10) (T := TX10) (N := 10) hx hb hts (by decide +kernel) hown hK hP 0 rfl rfl 2 (by decide) (hts (.fieldLink RX10 22 "DripStone" "reader" "LDripStone$Reader;") (by decide +kernel)) (fun _ h9 => h9) rfl dX10_type_80 ?_
                      refine va_get (D := (dC, dI)) (ci := 6) (v := .int 4) (C := RX6) (T := TX6) (N := 4) hx hb hts (by decide +kernel) hown hK hP 1 rfl rfl 1 (by decide) (hts (.fieldLink RX10 116 "DripStone$Reader" "typed" "I") (by decide +kernel)) (fun _ h9 => h9) rfl dX10_type_83 ?_
                      refine lv_lload_n hx hb dX10_type_86 rfl (lv_at hl 2 rfl) ?_
                      refine lv_iload hx hb dX10_type_87 (lv_at hl 0 rfl) ?_
                      refine cj_i (wc := []) (wr := [(zx, .inr (10, [.ref zn, .ref zk, .ref zr, .ref zl, .ref zc, .ref zs, .ref zw, .ref zt, .ref zm, .int 0])), (zr, .inr (6, [.ref zrt, .int 4, .int 0, .int 0])), (zrt, .inl (cy 0, 80, .inl (upd (upd (upd (upd (fun _ => 0) (0 : Int32).toNatClampNeg r_576) (1 : Int32).toNatClampNeg r_581) (2 : Int32).toNatClampNeg r_586) (3 : Int32).toNatClampNeg r_591)))]) (w1 := fun (_ : Unit) => []) (va_runS (As := [.long zja, .int 3]) (rest := [.int 4, .ref zrt]) ⟨hx, hb, hml, hown, hts⟩ (c_byteOf_3 l dC dI cy H.size zja) (va_cwS 2 hts gX10_type_X10_byteOf rfl rfl rfl (by decide +kernel) ⟨(Nat.le_of_ble_eq_true rfl), (Nat.le_of_ble_eq_true rfl)⟩) (PRE.s (hP.sub [] rfl) hK (hD.sub [] (by decide) rfl) hN) rfl rfl hl.1 rfl (lv_room (Nat.le_of_ble_eq_true rfl)) dX10_type_89 ⟨(Nat.le_of_ble_eq_true rfl), (Nat.le_of_ble_eq_true rfl)⟩) hP hD hS hA [] [0, 1, 2] rfl rfl rfl (by decide) (fun r_596 u_595 H locs hw_597 hP hD hS => ?_)
                      have hP : va_P (dC, dI) vwCl [(zx, .inr (10, [.ref zn, .ref zk, .ref zr, .ref zl, .ref zc, .ref zs, .ref zw, .ref zt, .ref zm, .int 0])), (zr, .inr (6, [.ref zrt, .int 4, .int 0, .int 0])), (zrt, .inl (cy 0, 80, .inl (upd (upd (upd (upd (fun _ => 0) (0 : Int32).toNatClampNeg r_576) (1 : Int32).toNatClampNeg r_581) (2 : Int32).toNatClampNeg r_586) (3 : Int32).toNatClampNeg r_591)))] H := hP
                      have hD : va_D A [(zx, .inr (10, [.ref zn, .ref zk, .ref zr, .ref zl, .ref zc, .ref zs, .ref zw, .ref zt, .ref zm, .int 0])), (zr, .inr (6, [.ref zrt, .int 4, .int 0, .int 0])), (zrt, .inl (cy 0, 80, .inl (upd (upd (upd (upd (fun _ => 0) (0 : Int32).toNatClampNeg r_576) (1 : Int32).toNatClampNeg r_581) (2 : Int32).toNatClampNeg r_586) (3 : Int32).toNatClampNeg r_591)))] := hD
                      have hw_597 : r_596.toInt = by8 zja 3 := hw_597
                      refine va_iast hx hb hK hP hD hS 2 0 rfl rfl (vp_in_iff.mpr ⟨by decide, by decide⟩) dX10_type_92 (fun H locs hP hD hS => ?_)
                      have hP : va_P (dC, dI) vwCl [(zx, .inr (10, [.ref zn, .ref zk, .ref zr, .ref zl, .ref zc, .ref zs, .ref zw, .ref zt, .ref zm, .int 0])), (zr, .inr (6, [.ref zrt, .int 4, .int 0, .int 0])), (zrt, .inl (cy 0, 80, .inl (upd (upd (upd (upd (upd (fun _ => 0) (0 : Int32).toNatClampNeg r_576) (1 : Int32).toNatClampNeg r_581) (2 : Int32).toNatClampNeg r_586) (3 : Int32).toNatClampNeg r_591) (4 : Int32).toNatClampNeg r_596)))] H := hP
                      have hD : va_D A [(zx, .inr (10, [.ref zn, .ref zk, .ref zr, .ref zl, .ref zc, .ref zs, .ref zw, .ref zt, .ref zm, .int 0])), (zr, .inr (6, [.ref zrt, .int 4, .int 0, .int 0])), (zrt, .inl (cy 0, 80, .inl (upd (upd (upd (upd (upd (fun _ => 0) (0 : Int32).toNatClampNeg r_576) (1 : Int32).toNatClampNeg r_581) (2 : Int32).toNatClampNeg r_586) (3 : Int32).toNatClampNeg r_591) (4 : Int32).toNatClampNeg r_596)))] := hD
                      refine lv_aload_n hx hb dX10_type_93 rfl (lv_at hl 1 rfl) ?_
                      refine va_get (D := (dC, dI)) (ci := 10) (v := .ref zr) (C := RX10) (T := TX10) (N := 10) hx hb hts (by decide +kernel) hown hK hP 0 rfl rfl 2 (by decide) (hts (.fieldLink RX10 22 "DripStone" "reader" "LDripStone$Reader;") (by decide +kernel)) (fun _ h9 => h9) rfl dX10_type_94 ?_
                      refine lv_dup hx hb dX10_type_97 rfl ?_
                      refine va_get (D := (dC, dI)) (ci := 6) (v := .int 4) (C := RX6) (T := TX6) (N := 4) hx hb hts (by decide +kernel) hown hK hP 1 rfl rfl 1 (by decide) (hts (.fieldLink RX10 116 "DripStone$Reader" "typed" "I") (by decide +kernel)) (fun _ h9 => h9) rfl dX10_type_98 ?_
                      refine lv_iconst (v := 1) hx hb dX10_type_101 (by decide) ?_
                      refine lv_iadd hx hb dX10_type_102 ?_
                      refine lv_topi (fun v_598 ev_598 => ?_)
                      obtain rfl : v_598 = (5 : Int32) := ev_598.trans (by decide)
                      refine va_put (D := (dC, dI)) (ci := 6) (v := .int 5) (ty := .int) (C := RX6) (T := TX6) (N := 4) hx hb hts (by decide +kernel) tyX6 tyX6_ok nmX6 hown hK hP hD hS 1 rfl rfl 1 (by decide) (hts (.fieldLink RX10 116 "DripStone$Reader" "typed" "I") (by decide +kernel)) (fun _ h9 => h9) rfl (by decide +kernel) rfl rfl (Nat.le_of_ble_eq_true rfl) dX10_type_103 (fun H locs hP hD hS => ?_)
                      have hP : va_P (dC, dI) vwCl [(zx, .inr (10, [.ref zn, .ref zk, .ref zr, .ref zl, .ref zc, .ref zs, .ref zw, .ref zt, .ref zm, .int 0])), (zr, .inr (6, [.ref zrt, .int 5, .int 0, .int 0])), (zrt, .inl (cy 0, 80, .inl (upd (upd (upd (upd (upd (fun _ => 0) (0 : Int32).toNatClampNeg r_576) (1 : Int32).toNatClampNeg r_581) (2 : Int32).toNatClampNeg r_586) (3 : Int32).toNatClampNeg r_591) (4 : Int32).toNatClampNeg r_596)))] H := hP
                      have hD : va_D A [(zx, .inr (10, [.ref zn, .ref zk, .ref zr, .ref zl, .ref zc, .ref zs, .ref zw, .ref zt, .ref zm, .int 0])), (zr, .inr (6, [.ref zrt, .int 5, .int 0, .int 0])), (zrt, .inl (cy 0, 80, .inl (upd (upd (upd (upd (upd (fun _ => 0) (0 : Int32).toNatClampNeg r_576) (1 : Int32).toNatClampNeg r_581) (2 : Int32).toNatClampNeg r_586) (3 : Int32).toNatClampNeg r_591) (4 : Int32).toNatClampNeg r_596)))] := hD
                      refine lv_iinc (v := 2) (lv' := [(4, .int 2), (0, .ref zx), (1, .long zja), (3, .int 8)]) hx hb dX10_type_106 hl (k := 0) rfl (by decide) (by decide) rfl (fun ls hl => ?_)
                      refine lv_goto (tgt := 67) hx hb dX10_type_109 (by decide) ?_
                      refine lv_iload hx hb dX10_type_67 (lv_at hl 0 rfl) ?_
                      refine lv_if_lt (tgt := 112) hx hb dX10_type_69 (by decide) (fun c_599 => absurd c_599 (by decide)) (fun c_599 => ?_)
                      refine lv_aload_n hx hb dX10_type_72 rfl (lv_at hl 1 rfl) ?_
                      refine va_get (D := (dC, dI)) (ci := 10) (v := .ref zr) (C := RX10) (T := TX10) (N := 10) hx hb hts (by decide +kernel) hown hK hP 0 rfl rfl 2 (by decide) (hts (.fieldLink RX10 22 "DripStone" "reader" "LDripStone$Reader;") (by decide +kernel)) (fun _ h9 => h9) rfl dX10_type_73 ?_
                      refine va_get (D := (dC, dI)) (ci := 6) (v := .ref zrt) (C := RX6) (T := TX6) (N := 4) hx hb hts (by decide +kernel) hown hK hP 1 rfl rfl 0 (by decide) (hts (.fieldLink RX10 119 "DripStone$Reader" "tape" "[I") (by decide +kernel)) (fun _ h9 => h9) rfl dX10_type_76 ?_
                      refine lv_aload_n hx hb dX10_type_79 rfl (lv_at hl 1 rfl) ?_
                      refine va_get (D := (dC, dI)) (ci := 10) (v := .ref zr) (C := RX10) (T := TX10) (N := 10) hx hb hts (by decide +kernel) hown hK hP 0 rfl rfl 2 (by decide) (hts (.fieldLink RX10 22 "DripStone" "reader" "LDripStone$Reader;") (by decide +kernel)) (fun _ h9 => h9) rfl dX10_type_80 ?_
                      refine va_get (D := (dC, dI)) (ci := 6) (v := .int 5) (C := RX6) (T := TX6) (N := 4) hx hb hts (by decide +kernel) hown hK hP 1 rfl rfl 1 (by decide) (hts (.fieldLink RX10 116 "DripStone$Reader" "typed" "I") (by decide +kernel)) (fun _ h9 => h9) rfl dX10_type_83 ?_
                      refine lv_lload_n hx hb dX10_type_86 rfl (lv_at hl 2 rfl) ?_
                      refine lv_iload hx hb dX10_type_87 (lv_at hl 0 rfl) ?_
                      refine cj_i (wc := []) (wr := [(zx, .inr (10, [.ref zn, .ref zk, .ref zr, .ref zl, .ref zc, .ref zs, .ref zw, .ref zt, .ref zm, .int 0])), (zr, .inr (6, [.ref zrt, .int 5, .int 0, .int 0])), (zrt, .inl (cy 0, 80, .inl (upd (upd (upd (upd (upd (fun _ => 0) (0 : Int32).toNatClampNeg r_576) (1 : Int32).toNatClampNeg r_581) (2 : Int32).toNatClampNeg r_586) (3 : Int32).toNatClampNeg r_591) (4 : Int32).toNatClampNeg r_596)))]) (w1 := fun (_ : Unit) => []) (va_runS (As := [.long zja, .int 2]) (rest := [.int 5, .ref zrt]) ⟨hx, hb, hml, hown, hts⟩ (c_byteOf_2 l dC dI cy H.size zja) (va_cwS 2 hts gX10_type_X10_byteOf rfl rfl rfl (by decide +kernel) ⟨(Nat.le_of_ble_eq_true rfl), (Nat.le_of_ble_eq_true rfl)⟩) (PRE.s (hP.sub [] rfl) hK (hD.sub [] (by decide) rfl) hN) rfl rfl hl.1 rfl (lv_room (Nat.le_of_ble_eq_true rfl)) dX10_type_89 ⟨(Nat.le_of_ble_eq_true rfl), (Nat.le_of_ble_eq_true rfl)⟩) hP hD hS hA [] [0, 1, 2] rfl rfl rfl (by decide) (fun r_601 u_600 H locs hw_602 hP hD hS => ?_)
                      have hP : va_P (dC, dI) vwCl [(zx, .inr (10, [.ref zn, .ref zk, .ref zr, .ref zl, .ref zc, .ref zs, .ref zw, .ref zt, .ref zm, .int 0])), (zr, .inr (6, [.ref zrt, .int 5, .int 0, .int 0])), (zrt, .inl (cy 0, 80, .inl (upd (upd (upd (upd (upd (fun _ => 0) (0 : Int32).toNatClampNeg r_576) (1 : Int32).toNatClampNeg r_581) (2 : Int32).toNatClampNeg r_586) (3 : Int32).toNatClampNeg r_591) (4 : Int32).toNatClampNeg r_596)))] H := hP
                      have hD : va_D A [(zx, .inr (10, [.ref zn, .ref zk, .ref zr, .ref zl, .ref zc, .ref zs, .ref zw, .ref zt, .ref zm, .int 0])), (zr, .inr (6, [.ref zrt, .int 5, .int 0, .int 0])), (zrt, .inl (cy 0, 80, .inl (upd (upd (upd (upd (upd (fun _ => 0) (0 : Int32).toNatClampNeg r_576) (1 : Int32).toNatClampNeg r_581) (2 : Int32).toNatClampNeg r_586) (3 : Int32).toNatClampNeg r_591) (4 : Int32).toNatClampNeg r_596)))] := hD
                      have hw_602 : r_601.toInt = by8 zja 2 := hw_602
                      refine va_iast hx hb hK hP hD hS 2 0 rfl rfl (vp_in_iff.mpr ⟨by decide, by decide⟩) dX10_type_92 (fun H locs hP hD hS => ?_)
                      have hP : va_P (dC, dI) vwCl [(zx, .inr (10, [.ref zn, .ref zk, .ref zr, .ref zl, .ref zc, .ref zs, .ref zw, .ref zt, .ref zm, .int 0])), (zr, .inr (6, [.ref zrt, .int 5, .int 0, .int 0])), (zrt, .inl (cy 0, 80, .inl (upd (upd (upd (upd (upd (upd (fun _ => 0) (0 : Int32).toNatClampNeg r_576) (1 : Int32).toNatClampNeg r_581) (2 : Int32).toNatClampNeg r_586) (3 : Int32).toNatClampNeg r_591) (4 : Int32).toNatClampNeg r_596) (5 : Int32).toNatClampNeg r_601)))] H := hP
                      have hD : va_D A [(zx, .inr (10, [.ref zn, .ref zk, .ref zr, .ref zl, .ref zc, .ref zs, .ref zw, .ref zt, .ref zm, .int 0])), (zr, .inr (6, [.ref zrt, .int 5, .int 0, .int 0])), (zrt, .inl (cy 0, 80, .inl (upd (upd (upd (upd (upd (upd (fun _ => 0) (0 : Int32).toNatClampNeg r_576) (1 : Int32).toNatClampNeg r_581) (2 : Int32).toNatClampNeg r_586) (3 : Int32).toNatClampNeg r_591) (4 : Int32).toNatClampNeg r_596) (5 : Int32).toNatClampNeg r_601)))] := hD
                      refine lv_aload_n hx hb dX10_type_93 rfl (lv_at hl 1 rfl) ?_
                      refine va_get (D := (dC, dI)) (ci := 10) (v := .ref zr) (C := RX10) (T := TX10) (N := 10) hx hb hts (by decide +kernel) hown hK hP 0 rfl rfl 2 (by decide) (hts (.fieldLink RX10 22 "DripStone" "reader" "LDripStone$Reader;") (by decide +kernel)) (fun _ h9 => h9) rfl dX10_type_94 ?_
                      refine lv_dup hx hb dX10_type_97 rfl ?_
                      refine va_get (D := (dC, dI)) (ci := 6) (v := .int 5) (C := RX6) (T := TX6) (N := 4) hx hb hts (by decide +kernel) hown hK hP 1 rfl rfl 1 (by decide) (hts (.fieldLink RX10 116 "DripStone$Reader" "typed" "I") (by decide +kernel)) (fun _ h9 => h9) rfl dX10_type_98 ?_
                      refine lv_iconst (v := 1) hx hb dX10_type_101 (by decide) ?_
                      refine lv_iadd hx hb dX10_type_102 ?_
                      refine lv_topi (fun v_603 ev_603 => ?_)
                      obtain rfl : v_603 = (6 : Int32) := ev_603.trans (by decide)
                      refine va_put (D := (dC, dI)) (ci := 6) (v := .int 6) (ty := .int) (C := RX6) (T := TX6) (N := 4) hx hb hts (by decide +kernel) tyX6 tyX6_ok nmX6 hown hK hP hD hS 1 rfl rfl 1 (by decide) (hts (.fieldLink RX10 116 "DripStone$Reader" "typed" "I") (by decide +kernel)) (fun _ h9 => h9) rfl (by decide +kernel) rfl rfl (Nat.le_of_ble_eq_true rfl) dX10_type_103 (fun H locs hP hD hS => ?_)
                      have hP : va_P (dC, dI) vwCl [(zx, .inr (10, [.ref zn, .ref zk, .ref zr, .ref zl, .ref zc, .ref zs, .ref zw, .ref zt, .ref zm, .int 0])), (zr, .inr (6, [.ref zrt, .int 6, .int 0, .int 0])), (zrt, .inl (cy 0, 80, .inl (upd (upd (upd (upd (upd (upd (fun _ => 0) (0 : Int32).toNatClampNeg r_576) (1 : Int32).toNatClampNeg r_581) (2 : Int32).toNatClampNeg r_586) (3 : Int32).toNatClampNeg r_591) (4 : Int32).toNatClampNeg r_596) (5 : Int32).toNatClampNeg r_601)))] H := hP
                      have hD : va_D A [(zx, .inr (10, [.ref zn, .ref zk, .ref zr, .ref zl, .ref zc, .ref zs, .ref zw, .ref zt, .ref zm, .int 0])), (zr, .inr (6, [.ref zrt, .int 6, .int 0, .int 0])), (zrt, .inl (cy 0, 80, .inl (upd (upd (upd (upd (upd (upd (fun _ => 0) (0 : Int32).toNatClampNeg r_576) (1 : Int32).toNatClampNeg r_581) (2 : Int32).toNatClampNeg r_586) (3 : Int32).toNatClampNeg r_591) (4 : Int32).toNatClampNeg r_596) (5 : Int32).toNatClampNeg r_601)))] := hD
                      refine lv_iinc (v := 1) (lv' := [(4, .int 1), (0, .ref zx), (1, .long zja), (3, .int 8)]) hx hb dX10_type_106 hl (k := 0) rfl (by decide) (by decide) rfl (fun ls hl => ?_)
                      refine lv_goto (tgt := 67) hx hb dX10_type_109 (by decide) ?_
                      refine lv_iload hx hb dX10_type_67 (lv_at hl 0 rfl) ?_
                      refine lv_if_lt (tgt := 112) hx hb dX10_type_69 (by decide) (fun c_604 => absurd c_604 (by decide)) (fun c_604 => ?_)
                      refine lv_aload_n hx hb dX10_type_72 rfl (lv_at hl 1 rfl) ?_
                      refine va_get (D := (dC, dI)) (ci := 10) (v := .ref zr) (C := RX10) (T := TX10) (N := 10) hx hb hts (by decide +kernel) hown hK hP 0 rfl rfl 2 (by decide) (hts (.fieldLink RX10 22 "DripStone" "reader" "LDripStone$Reader;") (by decide +kernel)) (fun _ h9 => h9) rfl dX10_type_73 ?_
                      refine va_get (D := (dC, dI)) (ci := 6) (v := .ref zrt) (C := RX6) (T := TX6) (N := 4) hx hb hts (by decide +kernel) hown hK hP 1 rfl rfl 0 (by decide) (hts (.fieldLink RX10 119 "DripStone$Reader" "tape" "[I") (by decide +kernel)) (fun _ h9 => h9) rfl dX10_type_76 ?_
                      refine lv_aload_n hx hb dX10_type_79 rfl (lv_at hl 1 rfl) ?_
                      refine va_get (D := (dC, dI)) (ci := 10) (v := .ref zr) (C := RX10) (T := TX10) (N := 10) hx hb hts (by decide +kernel) hown hK hP 0 rfl rfl 2 (by decide) (hts (.fieldLink RX10 22 "DripStone" "reader" "LDripStone$Reader;") (by decide +kernel)) (fun _ h9 => h9) rfl dX10_type_80 ?_
                      refine va_get (D := (dC, dI)) (ci := 6) (v := .int 6) (C := RX6) (T := TX6) (N := 4) hx hb hts (by decide +kernel) hown hK hP 1 rfl rfl 1 (by decide) (hts (.fieldLink RX10 116 "DripStone$Reader" "typed" "I") (by decide +kernel)) (fun _ h9 => h9) rfl dX10_type_83 ?_
                      refine lv_lload_n hx hb dX10_type_86 rfl (lv_at hl 2 rfl) ?_
                      refine lv_iload hx hb dX10_type_87 (lv_at hl 0 rfl) ?_
                      refine cj_i (wc := []) (wr := [(zx, .inr (10, [.ref zn, .ref zk, .ref zr, .ref zl, .ref zc, .ref zs, .ref zw, .ref zt, .ref zm, .int 0])), (zr, .inr (6, [.ref zrt, .int 6, .int 0, .int 0])), (zrt, .inl (cy 0, 80, .inl (upd (upd (upd (upd (upd (upd (fun _ => 0) (0 : Int32).toNatClampNeg r_576) (1 : Int32).toNatClampNeg r_581) (2 : Int32).toNatClampNeg r_586) (3 : Int32).toNatClampNeg r_591) (4 : Int32).toNatClampNeg r_596) (5 : Int32).toNatClampNeg r_601)))]) (w1 := fun (_ : Unit) => []) (va_runS (As := [.long zja, .int 1]) (rest := [.int 6, .ref zrt]) ⟨hx, hb, hml, hown, hts⟩ (c_byteOf_1 l dC dI cy H.size zja) (va_cwS 2 hts gX10_type_X10_byteOf rfl rfl rfl (by decide +kernel) ⟨(Nat.le_of_ble_eq_true rfl), (Nat.le_of_ble_eq_true rfl)⟩) (PRE.s (hP.sub [] rfl) hK (hD.sub [] (by decide) rfl) hN) rfl rfl hl.1 rfl (lv_room (Nat.le_of_ble_eq_true rfl)) dX10_type_89 ⟨(Nat.le_of_ble_eq_true rfl), (Nat.le_of_ble_eq_true rfl)⟩) hP hD hS hA [] [0, 1, 2] rfl rfl rfl (by decide) (fun r_606 u_605 H locs hw_607 hP hD hS => ?_)
                      have hP : va_P (dC, dI) vwCl [(zx, .inr (10, [.ref zn, .ref zk, .ref zr, .ref zl, .ref zc, .ref zs, .ref zw, .ref zt, .ref zm, .int 0])), (zr, .inr (6, [.ref zrt, .int 6, .int 0, .int 0])), (zrt, .inl (cy 0, 80, .inl (upd (upd (upd (upd (upd (upd (fun _ => 0) (0 : Int32).toNatClampNeg r_576) (1 : Int32).toNatClampNeg r_581) (2 : Int32).toNatClampNeg r_586) (3 : Int32).toNatClampNeg r_591) (4 : Int32).toNatClampNeg r_596) (5 : Int32).toNatClampNeg r_601)))] H := hP
                      have hD : va_D A [(zx, .inr (10, [.ref zn, .ref zk, .ref zr, .ref zl, .ref zc, .ref zs, .ref zw, .ref zt, .ref zm, .int 0])), (zr, .inr (6, [.ref zrt, .int 6, .int 0, .int 0])), (zrt, .inl (cy 0, 80, .inl (upd (upd (upd (upd (upd (upd (fun _ => 0) (0 : Int32).toNatClampNeg r_576) (1 : Int32).toNatClampNeg r_581) (2 : Int32).toNatClampNeg r_586) (3 : Int32).toNatClampNeg r_591) (4 : Int32).toNatClampNeg r_596) (5 : Int32).toNatClampNeg r_601)))] := hD
                      have hw_607 : r_606.toInt = by8 zja 1 := hw_607
                      refine va_iast hx hb hK hP hD hS 2 0 rfl rfl (vp_in_iff.mpr ⟨by decide, by decide⟩) dX10_type_92 (fun H locs hP hD hS => ?_)
                      have hP : va_P (dC, dI) vwCl [(zx, .inr (10, [.ref zn, .ref zk, .ref zr, .ref zl, .ref zc, .ref zs, .ref zw, .ref zt, .ref zm, .int 0])), (zr, .inr (6, [.ref zrt, .int 6, .int 0, .int 0])), (zrt, .inl (cy 0, 80, .inl (upd (upd (upd (upd (upd (upd (upd (fun _ => 0) (0 : Int32).toNatClampNeg r_576) (1 : Int32).toNatClampNeg r_581) (2 : Int32).toNatClampNeg r_586) (3 : Int32).toNatClampNeg r_591) (4 : Int32).toNatClampNeg r_596) (5 : Int32).toNatClampNeg r_601) (6 : Int32).toNatClampNeg r_606)))] H := hP
                      have hD : va_D A [(zx, .inr (10, [.ref zn, .ref zk, .ref zr, .ref zl, .ref zc, .ref zs, .ref zw, .ref zt, .ref zm, .int 0])), (zr, .inr (6, [.ref zrt, .int 6, .int 0, .int 0])), (zrt, .inl (cy 0, 80, .inl (upd (upd (upd (upd (upd (upd (upd (fun _ => 0) (0 : Int32).toNatClampNeg r_576) (1 : Int32).toNatClampNeg r_581) (2 : Int32).toNatClampNeg r_586) (3 : Int32).toNatClampNeg r_591) (4 : Int32).toNatClampNeg r_596) (5 : Int32).toNatClampNeg r_601) (6 : Int32).toNatClampNeg r_606)))] := hD
                      refine lv_aload_n hx hb dX10_type_93 rfl (lv_at hl 1 rfl) ?_
                      refine va_get (D := (dC, dI)) (ci := 10) (v := .ref zr) (C := RX10) (T := TX10) (N := 10) hx hb hts (by decide +kernel) hown hK hP 0 rfl rfl 2 (by decide) (hts (.fieldLink RX10 22 "DripStone" "reader" "LDripStone$Reader;") (by decide +kernel)) (fun _ h9 => h9) rfl dX10_type_94 ?_
                      refine lv_dup hx hb dX10_type_97 rfl ?_
                      refine va_get (D := (dC, dI)) (ci := 6) (v := .int 6) (C := RX6) (T := TX6) (N := 4) hx hb hts (by decide +kernel) hown hK hP 1 rfl rfl 1 (by decide) (hts (.fieldLink RX10 116 "DripStone$Reader" "typed" "I") (by decide +kernel)) (fun _ h9 => h9) rfl dX10_type_98 ?_
                      refine lv_iconst (v := 1) hx hb dX10_type_101 (by decide) ?_
                      refine lv_iadd hx hb dX10_type_102 ?_
                      refine lv_topi (fun v_608 ev_608 => ?_)
                      obtain rfl : v_608 = (7 : Int32) := ev_608.trans (by decide)
                      refine va_put (D := (dC, dI)) (ci := 6) (v := .int 7) (ty := .int) (C := RX6) (T := TX6) (N := 4) hx hb hts (by decide +kernel) tyX6 tyX6_ok nmX6 hown hK hP hD hS 1 rfl rfl 1 (by decide) (hts (.fieldLink RX10 116 "DripStone$Reader" "typed" "I") (by decide +kernel)) (fun _ h9 => h9) rfl (by decide +kernel) rfl rfl (Nat.le_of_ble_eq_true rfl) dX10_type_103 (fun H locs hP hD hS => ?_)
                      have hP : va_P (dC, dI) vwCl [(zx, .inr (10, [.ref zn, .ref zk, .ref zr, .ref zl, .ref zc, .ref zs, .ref zw, .ref zt, .ref zm, .int 0])), (zr, .inr (6, [.ref zrt, .int 7, .int 0, .int 0])), (zrt, .inl (cy 0, 80, .inl (upd (upd (upd (upd (upd (upd (upd (fun _ => 0) (0 : Int32).toNatClampNeg r_576) (1 : Int32).toNatClampNeg r_581) (2 : Int32).toNatClampNeg r_586) (3 : Int32).toNatClampNeg r_591) (4 : Int32).toNatClampNeg r_596) (5 : Int32).toNatClampNeg r_601) (6 : Int32).toNatClampNeg r_606)))] H := hP
                      have hD : va_D A [(zx, .inr (10, [.ref zn, .ref zk, .ref zr, .ref zl, .ref zc, .ref zs, .ref zw, .ref zt, .ref zm, .int 0])), (zr, .inr (6, [.ref zrt, .int 7, .int 0, .int 0])), (zrt, .inl (cy 0, 80, .inl (upd (upd (upd (upd (upd (upd (upd (fun _ => 0) (0 : Int32).toNatClampNeg r_576) (1 : Int32).toNatClampNeg r_581) (2 : Int32).toNatClampNeg r_586) (3 : Int32).toNatClampNeg r_591) (4 : Int32).toNatClampNeg r_596) (5 : Int32).toNatClampNeg r_601) (6 : Int32).toNatClampNeg r_606)))] := hD
                      refine lv_iinc (v := 0) (lv' := [(4, .int 0), (0, .ref zx), (1, .long zja), (3, .int 8)]) hx hb dX10_type_106 hl (k := 0) rfl (by decide) (by decide) rfl (fun ls hl => ?_)
                      refine lv_goto (tgt := 67) hx hb dX10_type_109 (by decide) ?_
                      refine lv_iload hx hb dX10_type_67 (lv_at hl 0 rfl) ?_
                      refine lv_if_lt (tgt := 112) hx hb dX10_type_69 (by decide) (fun c_609 => absurd c_609 (by decide)) (fun c_609 => ?_)
                      refine lv_aload_n hx hb dX10_type_72 rfl (lv_at hl 1 rfl) ?_
                      refine va_get (D := (dC, dI)) (ci := 10) (v := .ref zr) (C := RX10) (T := TX10) (N := 10) hx hb hts (by decide +kernel) hown hK hP 0 rfl rfl 2 (by decide) (hts (.fieldLink RX10 22 "DripStone" "reader" "LDripStone$Reader;") (by decide +kernel)) (fun _ h9 => h9) rfl dX10_type_73 ?_
                      refine va_get (D := (dC, dI)) (ci := 6) (v := .ref zrt) (C := RX6) (T := TX6) (N := 4) hx hb hts (by decide +kernel) hown hK hP 1 rfl rfl 0 (by decide) (hts (.fieldLink RX10 119 "DripStone$Reader" "tape" "[I") (by decide +kernel)) (fun _ h9 => h9) rfl dX10_type_76 ?_
                      refine lv_aload_n hx hb dX10_type_79 rfl (lv_at hl 1 rfl) ?_
                      refine va_get (D := (dC, dI)) (ci := 10) (v := .ref zr) (C := RX10) (T := TX10) (N := 10) hx hb hts (by decide +kernel) hown hK hP 0 rfl rfl 2 (by decide) (hts (.fieldLink RX10 22 "DripStone" "reader" "LDripStone$Reader;") (by decide +kernel)) (fun _ h9 => h9) rfl dX10_type_80 ?_
                      refine va_get (D := (dC, dI)) (ci := 6) (v := .int 7) (C := RX6) (T := TX6) (N := 4) hx hb hts (by decide +kernel) hown hK hP 1 rfl rfl 1 (by decide) (hts (.fieldLink RX10 116 "DripStone$Reader" "typed" "I") (by decide +kernel)) (fun _ h9 => h9) rfl dX10_type_83 ?_
                      refine lv_lload_n hx hb dX10_type_86 rfl (lv_at hl 2 rfl) ?_
                      refine lv_iload hx hb dX10_type_87 (lv_at hl 0 rfl) ?_
                      refine cj_i (wc := []) (wr := [(zx, .inr (10, [.ref zn, .ref zk, .ref zr, .ref zl, .ref zc, .ref zs, .ref zw, .ref zt, .ref zm, .int 0])), (zr, .inr (6, [.ref zrt, .int 7, .int 0, .int 0])), (zrt, .inl (cy 0, 80, .inl (upd (upd (upd (upd (upd (upd (upd (fun _ => 0) (0 : Int32).toNatClampNeg r_576) (1 : Int32).toNatClampNeg r_581) (2 : Int32).toNatClampNeg r_586) (3 : Int32).toNatClampNeg r_591) (4 : Int32).toNatClampNeg r_596) (5 : Int32).toNatClampNeg r_601) (6 : Int32).toNatClampNeg r_606)))]) (w1 := fun (_ : Unit) => []) (va_runS (As := [.long zja, .int 0]) (rest := [.int 7, .ref zrt]) ⟨hx, hb, hml, hown, hts⟩ (c_byteOf_0 l dC dI cy H.size zja) (va_cwS 2 hts gX10_type_X10_byteOf rfl rfl rfl (by decide +kernel) ⟨(Nat.le_of_ble_eq_true rfl), (Nat.le_of_ble_eq_true rfl)⟩) (PRE.s (hP.sub [] rfl) hK (hD.sub [] (by decide) rfl) hN) rfl rfl hl.1 rfl (lv_room (Nat.le_of_ble_eq_true rfl)) dX10_type_89 ⟨(Nat.le_of_ble_eq_true rfl), (Nat.le_of_ble_eq_true rfl)⟩) hP hD hS hA [] [0, 1, 2] rfl rfl rfl (by decide) (fun r_611 u_610 H locs hw_612 hP hD hS => ?_)
                      have hP : va_P (dC, dI) vwCl [(zx, .inr (10, [.ref zn, .ref zk, .ref zr, .ref zl, .ref zc, .ref zs, .ref zw, .ref zt, .ref zm, .int 0])), (zr, .inr (6, [.ref zrt, .int 7, .int 0, .int 0])), (zrt, .inl (cy 0, 80, .inl (upd (upd (upd (upd (upd (upd (upd (fun _ => 0) (0 : Int32).toNatClampNeg r_576) (1 : Int32).toNatClampNeg r_581) (2 : Int32).toNatClampNeg r_586) (3 : Int32).toNatClampNeg r_591) (4 : Int32).toNatClampNeg r_596) (5 : Int32).toNatClampNeg r_601) (6 : Int32).toNatClampNeg r_606)))] H := hP
                      have hD : va_D A [(zx, .inr (10, [.ref zn, .ref zk, .ref zr, .ref zl, .ref zc, .ref zs, .ref zw, .ref zt, .ref zm, .int 0])), (zr, .inr (6, [.ref zrt, .int 7, .int 0, .int 0])), (zrt, .inl (cy 0, 80, .inl (upd (upd (upd (upd (upd (upd (upd (fun _ => 0) (0 : Int32).toNatClampNeg r_576) (1 : Int32).toNatClampNeg r_581) (2 : Int32).toNatClampNeg r_586) (3 : Int32).toNatClampNeg r_591) (4 : Int32).toNatClampNeg r_596) (5 : Int32).toNatClampNeg r_601) (6 : Int32).toNatClampNeg r_606)))] := hD
                      have hw_612 : r_611.toInt = by8 zja 0 := hw_612
                      refine va_iast hx hb hK hP hD hS 2 0 rfl rfl (vp_in_iff.mpr ⟨by decide, by decide⟩) dX10_type_92 (fun H locs hP hD hS => ?_)
                      have hP : va_P (dC, dI) vwCl [(zx, .inr (10, [.ref zn, .ref zk, .ref zr, .ref zl, .ref zc, .ref zs, .ref zw, .ref zt, .ref zm, .int 0])), (zr, .inr (6, [.ref zrt, .int 7, .int 0, .int 0])), (zrt, .inl (cy 0, 80, .inl (upd (upd (upd (upd (upd (upd (upd (upd (fun _ => 0) (0 : Int32).toNatClampNeg r_576) (1 : Int32).toNatClampNeg r_581) (2 : Int32).toNatClampNeg r_586) (3 : Int32).toNatClampNeg r_591) (4 : Int32).toNatClampNeg r_596) (5 : Int32).toNatClampNeg r_601) (6 : Int32).toNatClampNeg r_606) (7 : Int32).toNatClampNeg r_611)))] H := hP
                      have hD : va_D A [(zx, .inr (10, [.ref zn, .ref zk, .ref zr, .ref zl, .ref zc, .ref zs, .ref zw, .ref zt, .ref zm, .int 0])), (zr, .inr (6, [.ref zrt, .int 7, .int 0, .int 0])), (zrt, .inl (cy 0, 80, .inl (upd (upd (upd (upd (upd (upd (upd (upd (fun _ => 0) (0 : Int32).toNatClampNeg r_576) (1 : Int32).toNatClampNeg r_581) (2 : Int32).toNatClampNeg r_586) (3 : Int32).toNatClampNeg r_591) (4 : Int32).toNatClampNeg r_596) (5 : Int32).toNatClampNeg r_601) (6 : Int32).toNatClampNeg r_606) (7 : Int32).toNatClampNeg r_611)))] := hD
                      refine lv_aload_n hx hb dX10_type_93 rfl (lv_at hl 1 rfl) ?_
                      refine va_get (D := (dC, dI)) (ci := 10) (v := .ref zr) (C := RX10) (T := TX10) (N := 10) hx hb hts (by decide +kernel) hown hK hP 0 rfl rfl 2 (by decide) (hts (.fieldLink RX10 22 "DripStone" "reader" "LDripStone$Reader;") (by decide +kernel)) (fun _ h9 => h9) rfl dX10_type_94 ?_
                      refine lv_dup hx hb dX10_type_97 rfl ?_
                      refine va_get (D := (dC, dI)) (ci := 6) (v := .int 7) (C := RX6) (T := TX6) (N := 4) hx hb hts (by decide +kernel) hown hK hP 1 rfl rfl 1 (by decide) (hts (.fieldLink RX10 116 "DripStone$Reader" "typed" "I") (by decide +kernel)) (fun _ h9 => h9) rfl dX10_type_98 ?_
                      refine lv_iconst (v := 1) hx hb dX10_type_101 (by decide) ?_
                      refine lv_iadd hx hb dX10_type_102 ?_
                      refine lv_topi (fun v_613 ev_613 => ?_)
                      obtain rfl : v_613 = (8 : Int32) := ev_613.trans (by decide)
                      refine va_put (D := (dC, dI)) (ci := 6) (v := .int 8) (ty := .int) (C := RX6) (T := TX6) (N := 4) hx hb hts (by decide +kernel) tyX6 tyX6_ok nmX6 hown hK hP hD hS 1 rfl rfl 1 (by decide) (hts (.fieldLink RX10 116 "DripStone$Reader" "typed" "I") (by decide +kernel)) (fun _ h9 => h9) rfl (by decide +kernel) rfl rfl (Nat.le_of_ble_eq_true rfl) dX10_type_103 (fun H locs hP hD hS => ?_)
                      have hP : va_P (dC, dI) vwCl [(zx, .inr (10, [.ref zn, .ref zk, .ref zr, .ref zl, .ref zc, .ref zs, .ref zw, .ref zt, .ref zm, .int 0])), (zr, .inr (6, [.ref zrt, .int 8, .int 0, .int 0])), (zrt, .inl (cy 0, 80, .inl (upd (upd (upd (upd (upd (upd (upd (upd (fun _ => 0) (0 : Int32).toNatClampNeg r_576) (1 : Int32).toNatClampNeg r_581) (2 : Int32).toNatClampNeg r_586) (3 : Int32).toNatClampNeg r_591) (4 : Int32).toNatClampNeg r_596) (5 : Int32).toNatClampNeg r_601) (6 : Int32).toNatClampNeg r_606) (7 : Int32).toNatClampNeg r_611)))] H := hP
                      have hD : va_D A [(zx, .inr (10, [.ref zn, .ref zk, .ref zr, .ref zl, .ref zc, .ref zs, .ref zw, .ref zt, .ref zm, .int 0])), (zr, .inr (6, [.ref zrt, .int 8, .int 0, .int 0])), (zrt, .inl (cy 0, 80, .inl (upd (upd (upd (upd (upd (upd (upd (upd (fun _ => 0) (0 : Int32).toNatClampNeg r_576) (1 : Int32).toNatClampNeg r_581) (2 : Int32).toNatClampNeg r_586) (3 : Int32).toNatClampNeg r_591) (4 : Int32).toNatClampNeg r_596) (5 : Int32).toNatClampNeg r_601) (6 : Int32).toNatClampNeg r_606) (7 : Int32).toNatClampNeg r_611)))] := hD
                      refine lv_iinc (v := (-1)) (lv' := [(4, .int (-1)), (0, .ref zx), (1, .long zja), (3, .int 8)]) hx hb dX10_type_106 hl (k := 0) rfl (by decide) (by decide) rfl (fun ls hl => ?_)
                      refine lv_goto (tgt := 67) hx hb dX10_type_109 (by decide) ?_
                      refine lv_iload hx hb dX10_type_67 (lv_at hl 0 rfl) ?_
                      refine lv_if_lt (tgt := 112) hx hb dX10_type_69 (by decide) (fun c_614 => ?_) (fun c_614 => absurd (by decide) c_614)
                      refine lv_aload_n hx hb dX10_type_112 rfl (lv_at hl 1 rfl) ?_
                      refine va_get (D := (dC, dI)) (ci := 10) (v := .ref zr) (C := RX10) (T := TX10) (N := 10) hx hb hts (by decide +kernel) hown hK hP 0 rfl rfl 2 (by decide) (hts (.fieldLink RX10 22 "DripStone" "reader" "LDripStone$Reader;") (by decide +kernel)) (fun _ h9 => h9) rfl dX10_type_113 ?_
                      refine va_get (D := (dC, dI)) (ci := 6) (v := .int 8) (C := RX6) (T := TX6) (N := 4) hx hb hts (by decide +kernel) hown hK hP 1 rfl rfl 1 (by decide) (hts (.fieldLink RX10 116 "DripStone$Reader" "typed" "I") (by decide +kernel)) (fun _ h9 => h9) rfl dX10_type_116 ?_
                      have hP9 := hP.sub (ws' := []) [] rfl
                      have hD9 := hD.sub (ws' := []) [] (by decide) rfl
                      exact W.iret (v := 8) hx hb hr (fun t ht hW => ⟨⟨8, (), rfl, ((an_type_8 _).trans (if_pos ⟨g_499, g_509, g_519, g_529, g_539, g_549, g_559, g_569⟩)).symm, ⟨by rw [ht]; exact hP9, va_K.moved hW.alike hK, hD9⟩⟩, hS.F ht⟩) hS.2.2 dX10_type_119
                    · have f_568 : ¬ (32 ≤ r_562.toInt ∧ r_562.toInt ≤ 126) := bz_0 hw_566 c_567
                      have g_615 : ¬ okb zja 7 := by unfold okb; rw [← hw_563]; exact f_568
                      refine lv_iconst (v := (-1)) hx hb dX10_type_37 (by decide) ?_
                      have hP9 := hP.sub (ws' := []) [] rfl
                      have hD9 := hD.sub (ws' := []) [] (by decide) rfl
                      exact W.iret (v := (-1)) hx hb hr (fun t ht hW => ⟨⟨(-1), (), rfl, ((an_type_8 _).trans (if_neg (fun h => g_615 (h.2.2.2.2.2.2.2)))).symm, ⟨by rw [ht]; exact hP9, va_K.moved hW.alike hK, hD9⟩⟩, hS.F ht⟩) hS.2.2 dX10_type_38
                  · have f_558 : ¬ (32 ≤ r_552.toInt ∧ r_552.toInt ≤ 126) := bz_0 hw_556 c_557
                    have g_616 : ¬ okb zja 6 := by unfold okb; rw [← hw_553]; exact f_558
                    refine lv_iconst (v := (-1)) hx hb dX10_type_37 (by decide) ?_
                    have hP9 := hP.sub (ws' := []) [] rfl
                    have hD9 := hD.sub (ws' := []) [] (by decide) rfl
                    exact W.iret (v := (-1)) hx hb hr (fun t ht hW => ⟨⟨(-1), (), rfl, ((an_type_8 _).trans (if_neg (fun h => g_616 (h.2.2.2.2.2.2.1)))).symm, ⟨by rw [ht]; exact hP9, va_K.moved hW.alike hK, hD9⟩⟩, hS.F ht⟩) hS.2.2 dX10_type_38
                · have f_548 : ¬ (32 ≤ r_542.toInt ∧ r_542.toInt ≤ 126) := bz_0 hw_546 c_547
                  have g_617 : ¬ okb zja 5 := by unfold okb; rw [← hw_543]; exact f_548
                  refine lv_iconst (v := (-1)) hx hb dX10_type_37 (by decide) ?_
                  have hP9 := hP.sub (ws' := []) [] rfl
                  have hD9 := hD.sub (ws' := []) [] (by decide) rfl
                  exact W.iret (v := (-1)) hx hb hr (fun t ht hW => ⟨⟨(-1), (), rfl, ((an_type_8 _).trans (if_neg (fun h => g_617 (h.2.2.2.2.2.1)))).symm, ⟨by rw [ht]; exact hP9, va_K.moved hW.alike hK, hD9⟩⟩, hS.F ht⟩) hS.2.2 dX10_type_38
              · have f_538 : ¬ (32 ≤ r_532.toInt ∧ r_532.toInt ≤ 126) := bz_0 hw_536 c_537
                have g_618 : ¬ okb zja 4 := by unfold okb; rw [← hw_533]; exact f_538
                refine lv_iconst (v := (-1)) hx hb dX10_type_37 (by decide) ?_
                have hP9 := hP.sub (ws' := []) [] rfl
                have hD9 := hD.sub (ws' := []) [] (by decide) rfl
                exact W.iret (v := (-1)) hx hb hr (fun t ht hW => ⟨⟨(-1), (), rfl, ((an_type_8 _).trans (if_neg (fun h => g_618 (h.2.2.2.2.1)))).symm, ⟨by rw [ht]; exact hP9, va_K.moved hW.alike hK, hD9⟩⟩, hS.F ht⟩) hS.2.2 dX10_type_38
            · have f_528 : ¬ (32 ≤ r_522.toInt ∧ r_522.toInt ≤ 126) := bz_0 hw_526 c_527
              have g_619 : ¬ okb zja 3 := by unfold okb; rw [← hw_523]; exact f_528
              refine lv_iconst (v := (-1)) hx hb dX10_type_37 (by decide) ?_
              have hP9 := hP.sub (ws' := []) [] rfl
              have hD9 := hD.sub (ws' := []) [] (by decide) rfl
              exact W.iret (v := (-1)) hx hb hr (fun t ht hW => ⟨⟨(-1), (), rfl, ((an_type_8 _).trans (if_neg (fun h => g_619 (h.2.2.2.1)))).symm, ⟨by rw [ht]; exact hP9, va_K.moved hW.alike hK, hD9⟩⟩, hS.F ht⟩) hS.2.2 dX10_type_38
          · have f_518 : ¬ (32 ≤ r_512.toInt ∧ r_512.toInt ≤ 126) := bz_0 hw_516 c_517
            have g_620 : ¬ okb zja 2 := by unfold okb; rw [← hw_513]; exact f_518
            refine lv_iconst (v := (-1)) hx hb dX10_type_37 (by decide) ?_
            have hP9 := hP.sub (ws' := []) [] rfl
            have hD9 := hD.sub (ws' := []) [] (by decide) rfl
            exact W.iret (v := (-1)) hx hb hr (fun t ht hW => ⟨⟨(-1), (), rfl, ((an_type_8 _).trans (if_neg (fun h => g_620 (h.2.2.1)))).symm, ⟨by rw [ht]; exact hP9, va_K.moved hW.alike hK, hD9⟩⟩, hS.F ht⟩) hS.2.2 dX10_type_38
        · have f_508 : ¬ (32 ≤ r_502.toInt ∧ r_502.toInt ≤ 126) := bz_0 hw_506 c_507
          have g_621 : ¬ okb zja 1 := by unfold okb; rw [← hw_503]; exact f_508
          refine lv_iconst (v := (-1)) hx hb dX10_type_37 (by decide) ?_
          have hP9 := hP.sub (ws' := []) [] rfl
          have hD9 := hD.sub (ws' := []) [] (by decide) rfl
          exact W.iret (v := (-1)) hx hb hr (fun t ht hW => ⟨⟨(-1), (), rfl, ((an_type_8 _).trans (if_neg (fun h => g_621 (h.2.1)))).symm, ⟨by rw [ht]; exact hP9, va_K.moved hW.alike hK, hD9⟩⟩, hS.F ht⟩) hS.2.2 dX10_type_38
      · have f_498 : ¬ (32 ≤ r_492.toInt ∧ r_492.toInt ≤ 126) := bz_0 hw_496 c_497
        have g_622 : ¬ okb zja 0 := by unfold okb; rw [← hw_493]; exact f_498
        refine lv_iconst (v := (-1)) hx hb dX10_type_37 (by decide) ?_
        have hP9 := hP.sub (ws' := []) [] rfl
        have hD9 := hD.sub (ws' := []) [] (by decide) rfl
        exact W.iret (v := (-1)) hx hb hr (fun t ht hW => ⟨⟨(-1), (), rfl, ((an_type_8 _).trans (if_neg (fun h => g_622 (h.1)))).symm, ⟨by rw [ht]; exact hP9, va_K.moved hW.alike hK, hD9⟩⟩, hS.F ht⟩) hS.2.2 dX10_type_38
  · have f_5 : ¬ (1 ≤ zib.toInt ∧ zib.toInt ≤ 8) := bz_0 hw_3 c_4
    refine lv_iconst (v := (-1)) hx hb dX10_type_10 (by decide) ?_
    have hP9 := hP.sub (ws' := []) [] rfl
    have hD9 := hD.sub (ws' := []) [] (by decide) rfl
    exact W.iret (v := (-1)) hx hb hr (fun t ht hW => ⟨⟨(-1), (), rfl, (an_type_out (by omega)).symm, ⟨by rw [ht]; exact hP9, va_K.moved hW.alike hK, hD9⟩⟩, hS.F ht⟩) hS.2.2 dX10_type_11
