set_option maxHeartbeats 8000000 in
set_option maxRecDepth 100000 in
theorem c_J6_compare_7cf53 (l : Launch) (dC : Nat → ClassId) (dI : Nat → Nat → Nat) (cy : Nat → ClassId) (sz : Nat) (zia : Int32) (zib : Int32)  : Met l yJ6_compare_7cf53 wsJ6_compare_7cf53 ({ frames := 0, cells := 0, slots := 0, locals := 0 } : Room) (va_Pc [.int zia, .int zib] (PRE dC dI cy [] sz)) (va_Qi (fun (r : Int32) (u : Unit) => ((-1) ≤ r.toInt ∧ r.toInt ≤ 1)) (fun u t => POST dC dI cy (va_A [] sz) [] t) (va_A [] sz)) 0 0 (va_A [] sz) := by
  refine Met.ofW (cc := cJ6_compare_7cf53) (maxL := 2) (ret := (some .int)) (by decide) rfl ?_
  intro p e s m args below meth c s₁ B hml hv
  obtain ⟨rfl, hsz, hP, hK, hD0, hN⟩ := hv
  have hx := B.exec
  have hb := B.bytes
  have hr := B.returns
  have hts := atoms_spec (ws := wsJ6_compare_7cf53) B.pre
  have hown : s.vm.findClass RJ6 = some m.cls := findClass_of_methodNamed B.named
  have hlocks := B.notSynchronized
  subst hsz
  have hD := hD0.self (sz := s.heap.size)
  generalize hAe : va_A [] s.heap.size = A at hD ⊢
  have hA : ∀ q : Nat, s.heap.size ≤ q → A q := fun q h => by rw [← hAe]; exact Or.inr h
  have hS : va_S A s.heap s.heap [] := va_S.rf
  have hP : va_P (dC, dI) vwCl [] s.heap := hP
  have hl := lv_entry ([.int zia, .int zib] : List Value) (n := 2) (Nat.le_of_ble_eq_true rfl)
  rw [lg_entry_eq]
  generalize (lg_sl ([.int zia, .int zib] : List Value) ++ List.replicate (2 - (lg_sl ([.int zia, .int zib] : List Value)).length) Slot.unset).toArray = ls at hl ⊢
  have hl : lv_has ls 2 [(0, .int zia), (1, .int zib)] := hl
  refine w_q (fun Q hQ => ?_)
  refine lv_iload_n hx hb dJ6_compare_7cf53_0 rfl (lv_at hl 0 rfl) ?_
  refine lv_iload_n hx hb dJ6_compare_7cf53_1 rfl (lv_at hl 1 rfl) ?_
  refine lv_icmp_ge (tgt := 9) hx hb dJ6_compare_7cf53_2 (by decide) (fun c_1 => ?_) (fun c_1 => ?_)
  · have f_2 : zia.toInt ≥ zib.toInt := ic_ge (rfl) (rfl) c_1
    refine lv_iload_n hx hb dJ6_compare_7cf53_9 rfl (lv_at hl 0 rfl) ?_
    refine lv_iload_n hx hb dJ6_compare_7cf53_10 rfl (lv_at hl 1 rfl) ?_
    refine lv_icmp_ne (tgt := 18) hx hb dJ6_compare_7cf53_11 (by decide) (fun c_3 => ?_) (fun c_3 => ?_)
    · have f_4 : zia.toInt ≠ zib.toInt := ic_ne (rfl) (rfl) c_3
      refine lv_iconst (v := 1) hx hb dJ6_compare_7cf53_18 (by decide) ?_
      subst hQ
      have qc_1 : (1 : Int32).toInt = 1 := by decide
      have hP9 := hP.sub (ws' := []) [] rfl
      have hD9 := hD.sub (ws' := []) [] (by decide) rfl
      exact W.iret (v := (1 : Int32)) hx hb hr (fun t ht hW => ⟨⟨(1 : Int32), (), rfl, (show (-1) ≤ (1 : Int32).toInt ∧ (1 : Int32).toInt ≤ 1 from by omega), ⟨by rw [ht]; exact hP9, va_K.moved hW.alike hK, hD9⟩⟩, hS.F ht⟩) hS.2.2 dJ6_compare_7cf53_19
    · have f_4 : ¬ (zia.toInt ≠ zib.toInt) := ic_nne (rfl) (rfl) c_3
      refine lv_iconst (v := 0) hx hb dJ6_compare_7cf53_14 (by decide) ?_
      refine lv_goto (tgt := 19) hx hb dJ6_compare_7cf53_15 (by decide) ?_
      subst hQ
      have qc_0 : (0 : Int32).toInt = 0 := by decide
      have hP9 := hP.sub (ws' := []) [] rfl
      have hD9 := hD.sub (ws' := []) [] (by decide) rfl
      exact W.iret (v := (0 : Int32)) hx hb hr (fun t ht hW => ⟨⟨(0 : Int32), (), rfl, (show (-1) ≤ (0 : Int32).toInt ∧ (0 : Int32).toInt ≤ 1 from by omega), ⟨by rw [ht]; exact hP9, va_K.moved hW.alike hK, hD9⟩⟩, hS.F ht⟩) hS.2.2 dJ6_compare_7cf53_19
  · have f_2 : ¬ (zia.toInt ≥ zib.toInt) := ic_nge (rfl) (rfl) c_1
    refine lv_iconst (v := (-1)) hx hb dJ6_compare_7cf53_5 (by decide) ?_
    refine lv_goto (tgt := 19) hx hb dJ6_compare_7cf53_6 (by decide) ?_
    subst hQ
    have qc_m1 : (-1 : Int32).toInt = -1 := by decide
    have hP9 := hP.sub (ws' := []) [] rfl
    have hD9 := hD.sub (ws' := []) [] (by decide) rfl
    exact W.iret (v := (-1 : Int32)) hx hb hr (fun t ht hW => ⟨⟨(-1 : Int32), (), rfl, (show (-1) ≤ (-1 : Int32).toInt ∧ (-1 : Int32).toInt ≤ 1 from by omega), ⟨by rw [ht]; exact hP9, va_K.moved hW.alike hK, hD9⟩⟩, hS.F ht⟩) hS.2.2 dJ6_compare_7cf53_19
set_option maxHeartbeats 8000000 in
set_option maxRecDepth 100000 in
theorem c_J6_bitCount_0f7a4 (l : Launch) (dC : Nat → ClassId) (dI : Nat → Nat → Nat) (cy : Nat → ClassId) (sz : Nat) (zia : Int32)  : Met l yJ6_bitCount_0f7a4 wsJ6_bitCount_0f7a4 ({ frames := 0, cells := 0, slots := 0, locals := 0 } : Room) (va_Pc [.int zia] (PRE dC dI cy [] sz)) (va_Qi (fun (r : Int32) (u : Unit) => (0 ≤ r.toInt ∧ r.toInt ≤ 63)) (fun u t => POST dC dI cy (va_A [] sz) [] t) (va_A [] sz)) 0 0 (va_A [] sz) := by
  refine Met.ofW (cc := cJ6_bitCount_0f7a4) (maxL := 1) (ret := (some .int)) (by decide) rfl ?_
  intro p e s m args below meth c s₁ B hml hv
  obtain ⟨rfl, hsz, hP, hK, hD0, hN⟩ := hv
  have hx := B.exec
  have hb := B.bytes
  have hr := B.returns
  have hts := atoms_spec (ws := wsJ6_bitCount_0f7a4) B.pre
  have hown : s.vm.findClass RJ6 = some m.cls := findClass_of_methodNamed B.named
  have hlocks := B.notSynchronized
  subst hsz
  have hD := hD0.self (sz := s.heap.size)
  generalize hAe : va_A [] s.heap.size = A at hD ⊢
  have hA : ∀ q : Nat, s.heap.size ≤ q → A q := fun q h => by rw [← hAe]; exact Or.inr h
  have hS : va_S A s.heap s.heap [] := va_S.rf
  have hP : va_P (dC, dI) vwCl [] s.heap := hP
  have hl := lv_entry ([.int zia] : List Value) (n := 1) (Nat.le_of_ble_eq_true rfl)
  rw [lg_entry_eq]
  generalize (lg_sl ([.int zia] : List Value) ++ List.replicate (1 - (lg_sl ([.int zia] : List Value)).length) Slot.unset).toArray = ls at hl ⊢
  have hl : lv_has ls 1 [(0, .int zia)] := hl
  refine w_q (fun Q hQ => ?_)
  refine lv_iload_n hx hb dJ6_bitCount_0f7a4_0 rfl (lv_at hl 0 rfl) ?_
  refine lv_iload_n hx hb dJ6_bitCount_0f7a4_1 rfl (lv_at hl 0 rfl) ?_
  refine lv_iconst (v := 1) hx hb dJ6_bitCount_0f7a4_2 (by decide) ?_
  refine lv_iushr (v := ((zia : Int32).toUInt32 >>> ((1 : Int32).toUInt32 &&& Int32.toUInt32 31)).toInt32) hx hb dJ6_bitCount_0f7a4_3 rfl ?_
  refine lv_topi (fun zi_1 ezi_1 => ?_)
  refine lv_ldcw (v := 1431655765) hx hb hown (hts (.constant RJ6 265 1431655765) (by decide +kernel)) dJ6_bitCount_0f7a4_4 ?_
  refine lv_iand hx hb dJ6_bitCount_0f7a4_7 ?_
  refine lv_topi (fun zi_2 ezi_2 => ?_)
  have rzi_2 := rng zi_2
  refine lv_isub hx hb dJ6_bitCount_0f7a4_8 ?_
  refine lv_topi (fun zi_3 ezi_3 => ?_)
  refine lv_istore_n (lv' := [(0, .int zi_3)]) hx hb dJ6_bitCount_0f7a4_9 rfl hl (by decide) rfl (fun ls hl => ?_)
  refine lv_iload_n hx hb dJ6_bitCount_0f7a4_10 rfl (lv_at hl 0 rfl) ?_
  refine lv_ldcw (v := 858993459) hx hb hown (hts (.constant RJ6 266 858993459) (by decide +kernel)) dJ6_bitCount_0f7a4_11 ?_
  refine lv_iand hx hb dJ6_bitCount_0f7a4_14 ?_
  refine lv_topi (fun zi_4 ezi_4 => ?_)
  have rzi_4 := rng zi_4
  refine lv_iload_n hx hb dJ6_bitCount_0f7a4_15 rfl (lv_at hl 0 rfl) ?_
  refine lv_iconst (v := 2) hx hb dJ6_bitCount_0f7a4_16 (by decide) ?_
  refine lv_iushr (v := ((zi_3 : Int32).toUInt32 >>> ((2 : Int32).toUInt32 &&& Int32.toUInt32 31)).toInt32) hx hb dJ6_bitCount_0f7a4_17 rfl ?_
  refine lv_topi (fun zi_5 ezi_5 => ?_)
  refine lv_ldcw (v := 858993459) hx hb hown (hts (.constant RJ6 266 858993459) (by decide +kernel)) dJ6_bitCount_0f7a4_18 ?_
  refine lv_iand hx hb dJ6_bitCount_0f7a4_21 ?_
  refine lv_topi (fun zi_6 ezi_6 => ?_)
  have rzi_6 := rng zi_6
  refine lv_iadd hx hb dJ6_bitCount_0f7a4_22 ?_
  refine lv_topi (fun zi_7 ezi_7 => ?_)
  refine lv_istore_n (lv' := [(0, .int zi_7)]) hx hb dJ6_bitCount_0f7a4_23 rfl hl (by decide) rfl (fun ls hl => ?_)
  refine lv_iload_n hx hb dJ6_bitCount_0f7a4_24 rfl (lv_at hl 0 rfl) ?_
  refine lv_iload_n hx hb dJ6_bitCount_0f7a4_25 rfl (lv_at hl 0 rfl) ?_
  refine lv_iconst (v := 4) hx hb dJ6_bitCount_0f7a4_26 (by decide) ?_
  refine lv_iushr (v := ((zi_7 : Int32).toUInt32 >>> ((4 : Int32).toUInt32 &&& Int32.toUInt32 31)).toInt32) hx hb dJ6_bitCount_0f7a4_27 rfl ?_
  refine lv_topi (fun zi_8 ezi_8 => ?_)
  refine lv_iadd hx hb dJ6_bitCount_0f7a4_28 ?_
  refine lv_topi (fun zi_9 ezi_9 => ?_)
  refine lv_ldcw (v := 252645135) hx hb hown (hts (.constant RJ6 267 252645135) (by decide +kernel)) dJ6_bitCount_0f7a4_29 ?_
  refine lv_iand hx hb dJ6_bitCount_0f7a4_32 ?_
  refine lv_topi (fun zi_10 ezi_10 => ?_)
  have rzi_10 := rng zi_10
  refine lv_istore_n (lv' := [(0, .int zi_10)]) hx hb dJ6_bitCount_0f7a4_33 rfl hl (by decide) rfl (fun ls hl => ?_)
  refine lv_iload_n hx hb dJ6_bitCount_0f7a4_34 rfl (lv_at hl 0 rfl) ?_
  refine lv_iload_n hx hb dJ6_bitCount_0f7a4_35 rfl (lv_at hl 0 rfl) ?_
  refine lv_bipush (v := 8) hx hb dJ6_bitCount_0f7a4_36 (by decide) ?_
  refine lv_iushr (v := ((zi_10 : Int32).toUInt32 >>> ((8 : Int32).toUInt32 &&& Int32.toUInt32 31)).toInt32) hx hb dJ6_bitCount_0f7a4_38 rfl ?_
  refine lv_topi (fun zi_11 ezi_11 => ?_)
  refine lv_iadd hx hb dJ6_bitCount_0f7a4_39 ?_
  refine lv_topi (fun zi_12 ezi_12 => ?_)
  refine lv_istore_n (lv' := [(0, .int zi_12)]) hx hb dJ6_bitCount_0f7a4_40 rfl hl (by decide) rfl (fun ls hl => ?_)
  refine lv_iload_n hx hb dJ6_bitCount_0f7a4_41 rfl (lv_at hl 0 rfl) ?_
  refine lv_iload_n hx hb dJ6_bitCount_0f7a4_42 rfl (lv_at hl 0 rfl) ?_
  refine lv_bipush (v := 16) hx hb dJ6_bitCount_0f7a4_43 (by decide) ?_
  refine lv_iushr (v := ((zi_12 : Int32).toUInt32 >>> ((16 : Int32).toUInt32 &&& Int32.toUInt32 31)).toInt32) hx hb dJ6_bitCount_0f7a4_45 rfl ?_
  refine lv_topi (fun zi_13 ezi_13 => ?_)
  refine lv_iadd hx hb dJ6_bitCount_0f7a4_46 ?_
  refine lv_topi (fun zi_14 ezi_14 => ?_)
  refine lv_istore_n (lv' := [(0, .int zi_14)]) hx hb dJ6_bitCount_0f7a4_47 rfl hl (by decide) rfl (fun ls hl => ?_)
  refine lv_iload_n hx hb dJ6_bitCount_0f7a4_48 rfl (lv_at hl 0 rfl) ?_
  refine lv_bipush (v := 63) hx hb dJ6_bitCount_0f7a4_49 (by decide) ?_
  refine lv_iand hx hb dJ6_bitCount_0f7a4_51 ?_
  refine lv_topi (fun zi_15 ezi_15 => ?_)
  have tzi_15 : 0 ≤ zi_15.toInt ∧ zi_15.toInt ≤ 63 := by rw [ezi_15]; exact andb (k := 6) (by decide) (by decide) (by decide)
  subst hQ
  have hP9 := hP.sub (ws' := []) [] rfl
  have hD9 := hD.sub (ws' := []) [] (by decide) rfl
  exact W.iret (v := zi_15) hx hb hr (fun t ht hW => ⟨⟨zi_15, (), rfl, (show 0 ≤ zi_15.toInt ∧ zi_15.toInt ≤ 63 from by omega), ⟨by rw [ht]; exact hP9, va_K.moved hW.alike hK, hD9⟩⟩, hS.F ht⟩) hS.2.2 dJ6_bitCount_0f7a4_52
set_option maxHeartbeats 8000000 in
set_option maxRecDepth 100000 in
theorem c_J7_rangeCheck_23922 (l : Launch) (dC : Nat → ClassId) (dI : Nat → Nat → Nat) (cy : Nat → ClassId) (sz : Nat) (zia : Int32) (zib : Int32) (zic : Int32) (hx1 : 0 ≤ zib.toInt ∧ zib.toInt ≤ zic.toInt ∧ zic.toInt ≤ zia.toInt) : Met l yJ7_rangeCheck_23922 wsJ7_rangeCheck_23922 ({ frames := 0, cells := 0, slots := 0, locals := 0 } : Room) (va_Pc [.int zia, .int zib, .int zic] (PRE dC dI cy [] sz)) (va_Qv (fun (u : Unit) => True) (fun u t => POST dC dI cy (va_A [] sz) [] t) (va_A [] sz)) 0 0 (va_A [] sz) := by
  refine Met.ofW (cc := cJ7_rangeCheck_23922) (maxL := 3) (ret := none) (by decide) rfl ?_
  intro p e s m args below meth c s₁ B hml hv
  obtain ⟨rfl, hsz, hP, hK, hD0, hN⟩ := hv
  have hx := B.exec
  have hb := B.bytes
  have hr := B.returns
  have hts := atoms_spec (ws := wsJ7_rangeCheck_23922) B.pre
  have hown : s.vm.findClass RJ7 = some m.cls := findClass_of_methodNamed B.named
  have hlocks := B.notSynchronized
  subst hsz
  have hD := hD0.self (sz := s.heap.size)
  generalize hAe : va_A [] s.heap.size = A at hD ⊢
  have hA : ∀ q : Nat, s.heap.size ≤ q → A q := fun q h => by rw [← hAe]; exact Or.inr h
  have hS : va_S A s.heap s.heap [] := va_S.rf
  have hP : va_P (dC, dI) vwCl [] s.heap := hP
  have hl := lv_entry ([.int zia, .int zib, .int zic] : List Value) (n := 3) (Nat.le_of_ble_eq_true rfl)
  rw [lg_entry_eq]
  generalize (lg_sl ([.int zia, .int zib, .int zic] : List Value) ++ List.replicate (3 - (lg_sl ([.int zia, .int zib, .int zic] : List Value)).length) Slot.unset).toArray = ls at hl ⊢
  have hl : lv_has ls 3 [(0, .int zia), (1, .int zib), (2, .int zic)] := hl
  refine w_q (fun Q hQ => ?_)
  refine lv_iload_n hx hb dJ7_rangeCheck_23922_0 rfl (lv_at hl 1 rfl) ?_
  refine lv_iload_n hx hb dJ7_rangeCheck_23922_1 rfl (lv_at hl 2 rfl) ?_
  refine lv_icmp_le (tgt := 46) hx hb dJ7_rangeCheck_23922_2 (by decide) (fun c_1 => ?_) (fun c_1 => ?_)
  · have f_2 : zib.toInt ≤ zic.toInt := ic_le (rfl) (rfl) c_1
    refine lv_iload_n hx hb dJ7_rangeCheck_23922_46 rfl (lv_at hl 1 rfl) ?_
    refine lv_if_ge (tgt := 59) hx hb dJ7_rangeCheck_23922_47 (by decide) (fun c_3 => ?_) (fun c_3 => ?_)
    · have f_4 : zib.toInt ≥ 0 := ic_ge (rfl) (by decide) c_3
      refine lv_iload_n hx hb dJ7_rangeCheck_23922_59 rfl (lv_at hl 2 rfl) ?_
      refine lv_iload_n hx hb dJ7_rangeCheck_23922_60 rfl (lv_at hl 0 rfl) ?_
      refine lv_icmp_le (tgt := 73) hx hb dJ7_rangeCheck_23922_61 (by decide) (fun c_5 => ?_) (fun c_5 => ?_)
      · have f_6 : zic.toInt ≤ zia.toInt := ic_le (rfl) (rfl) c_5
        subst hQ
        have hP9 := hP.sub (ws' := []) [] rfl
        have hD9 := hD.sub (ws' := []) [] (by decide) rfl
        exact W.vret hx hb hr (fun t ht hW => ⟨⟨(), rfl, trivial, ⟨by rw [ht]; exact hP9, va_K.moved hW.alike hK, hD9⟩⟩, hS.F ht⟩) hS.2.2 dJ7_rangeCheck_23922_73
      · have f_6 : ¬ (zic.toInt ≤ zia.toInt) := ic_nle (rfl) (rfl) c_5
        exfalso; omega
    · have f_4 : ¬ (zib.toInt ≥ 0) := ic_nge (rfl) (by decide) c_3
      exfalso; omega
  · have f_2 : ¬ (zib.toInt ≤ zic.toInt) := ic_nle (rfl) (rfl) c_1
    exfalso; omega
set_option maxHeartbeats 8000000 in
set_option maxRecDepth 100000 in
theorem c_X10_byteOf (l : Launch) (dC : Nat → ClassId) (dI : Nat → Nat → Nat) (cy : Nat → ClassId) (sz : Nat) (zjw : Int64) (zia : Int32) (b_zia : 0 ≤ zia.toInt ∧ zia.toInt ≤ 7) : Met l yX10_byteOf wsX10_byteOf ({ frames := 0, cells := 0, slots := 0, locals := 0 } : Room) (va_Pc [.long zjw, .int zia] (PRE dC dI cy [] sz)) (va_Qi (fun (r : Int32) (u : Unit) => (0 ≤ r.toInt ∧ r.toInt ≤ 255)) (fun u t => POST dC dI cy (va_A [] sz) [] t) (va_A [] sz)) 0 0 (va_A [] sz) := by
  refine Met.ofW (cc := cX10_byteOf) (maxL := 3) (ret := (some .int)) (by decide) rfl ?_
  intro p e s m args below meth c s₁ B hml hv
  obtain ⟨rfl, hsz, hP, hK, hD0, hN⟩ := hv
  have hx := B.exec
  have hb := B.bytes
  have hr := B.returns
  have hts := atoms_spec (ws := wsX10_byteOf) B.pre
  have hown : s.vm.findClass RX10 = some m.cls := findClass_of_methodNamed B.named
  have hlocks := B.notSynchronized
  subst hsz
  have hD := hD0.self (sz := s.heap.size)
  generalize hAe : va_A [] s.heap.size = A at hD ⊢
  have hA : ∀ q : Nat, s.heap.size ≤ q → A q := fun q h => by rw [← hAe]; exact Or.inr h
  have hS : va_S A s.heap s.heap [] := va_S.rf
  have hP : va_P (dC, dI) vwCl [] s.heap := hP
  have hl := lv_entry ([.long zjw, .int zia] : List Value) (n := 3) (Nat.le_of_ble_eq_true rfl)
  rw [lg_entry_eq]
  generalize (lg_sl ([.long zjw, .int zia] : List Value) ++ List.replicate (3 - (lg_sl ([.long zjw, .int zia] : List Value)).length) Slot.unset).toArray = ls at hl ⊢
  have hl : lv_has ls 3 [(0, .long zjw), (2, .int zia)] := hl
  refine w_q (fun Q hQ => ?_)
  refine lv_lload_n hx hb dX10_byteOf_0 rfl (lv_at hl 0 rfl) ?_
  refine lv_bipush (v := 8) hx hb dX10_byteOf_1 (by decide) ?_
  refine lv_iload_n hx hb dX10_byteOf_3 rfl (lv_at hl 1 rfl) ?_
  refine lv_imul hx hb dX10_byteOf_4 ?_
  refine lv_topi (fun zi_1 ezi_1 => ?_)
  have tzi_1 : zi_1.toInt = (8 : Int) * zia.toInt := by rw [ezi_1]; exact timul (show (8 : Int32).toInt = 8 by decide) (rfl) (by omega) (by omega)
  refine lv_lushr (v := (zjw.toUInt64 >>> ((zi_1 : Int32).toInt64.toUInt64 &&& Int64.toUInt64 63)).toInt64) hx hb dX10_byteOf_5 rfl ?_
  refine lv_topl (fun zj_2 ezj_2 => ?_)
  refine lv_l2i (v := zj_2.toInt32) hx hb dX10_byteOf_6 rfl ?_
  refine lv_topi (fun zi_3 ezi_3 => ?_)
  refine lv_sipush (v := 255) hx hb dX10_byteOf_7 (by decide) ?_
  refine lv_iand hx hb dX10_byteOf_10 ?_
  refine lv_topi (fun zi_4 ezi_4 => ?_)
  have tzi_4 : 0 ≤ zi_4.toInt ∧ zi_4.toInt ≤ 255 := by rw [ezi_4]; exact andb (k := 8) (by decide) (by decide) (by decide)
  subst hQ
  have hP9 := hP.sub (ws' := []) [] rfl
  have hD9 := hD.sub (ws' := []) [] (by decide) rfl
  exact W.iret (v := zi_4) hx hb hr (fun t ht hW => ⟨⟨zi_4, (), rfl, (show 0 ≤ zi_4.toInt ∧ zi_4.toInt ≤ 255 from by omega), ⟨by rw [ht]; exact hP9, va_K.moved hW.alike hK, hD9⟩⟩, hS.F ht⟩) hS.2.2 dX10_byteOf_11
set_option maxHeartbeats 8000000 in
set_option maxRecDepth 100000 in
theorem c_X10_fitsStretch (l : Launch) (dC : Nat → ClassId) (dI : Nat → Nat → Nat) (cy : Nat → ClassId) (sz : Nat) (zia : Int32) (zib : Int32)  : Met l yX10_fitsStretch wsX10_fitsStretch ({ frames := 1, cells := 0, slots := 0, locals := 22 } : Room) (va_Pc [.int zia, .int zib] (PRE dC dI cy [] sz)) (va_Qi (fun (r : Int32) (u : Unit) => (0 ≤ r.toInt ∧ r.toInt ≤ 1) ∧ (r.toInt = 0 ∨ (0 ≤ zib.toInt ∧ zib.toInt ≤ 20))) (fun u t => POST dC dI cy (va_A [] sz) [] t) (va_A [] sz)) 0 0 (va_A [] sz) := by
  refine Met.ofW (cc := cX10_fitsStretch) (maxL := 2) (ret := (some .boolean)) (by decide) rfl ?_
  intro p e s m args below meth c s₁ B hml hv
  obtain ⟨rfl, hsz, hP, hK, hD0, hN⟩ := hv
  have hx := B.exec
  have hb := B.bytes
  have hr := B.returns
  have hts := atoms_spec (ws := wsX10_fitsStretch) B.pre
  have hown : s.vm.findClass RX10 = some m.cls := findClass_of_methodNamed B.named
  have hlocks := B.notSynchronized
  subst hsz
  have hD := hD0.self (sz := s.heap.size)
  generalize hAe : va_A [] s.heap.size = A at hD ⊢
  have hA : ∀ q : Nat, s.heap.size ≤ q → A q := fun q h => by rw [← hAe]; exact Or.inr h
  have hS : va_S A s.heap s.heap [] := va_S.rf
  have hP : va_P (dC, dI) vwCl [] s.heap := hP
  have hl := lv_entry ([.int zia, .int zib] : List Value) (n := 2) (Nat.le_of_ble_eq_true rfl)
  rw [lg_entry_eq]
  generalize (lg_sl ([.int zia, .int zib] : List Value) ++ List.replicate (2 - (lg_sl ([.int zia, .int zib] : List Value)).length) Slot.unset).toArray = ls at hl ⊢
  have hl : lv_has ls 2 [(0, .int zia), (1, .int zib)] := hl
  refine w_q (fun Q hQ => ?_)
  refine lv_iload_n hx hb dX10_fitsStretch_0 rfl (lv_at hl 0 rfl) ?_
  refine lv_if_ne (tgt := 14) hx hb dX10_fitsStretch_1 (by decide) (fun c_1 => ?_) (fun c_1 => ?_)
  · have f_2 : zia.toInt ≠ 0 := ic_ne (rfl) (by decide) c_1
    refine lv_iload_n hx hb dX10_fitsStretch_14 rfl (lv_at hl 0 rfl) ?_
    refine lv_iconst (v := 1) hx hb dX10_fitsStretch_15 (by decide) ?_
    refine lv_icmp_ne (tgt := 28) hx hb dX10_fitsStretch_16 (by decide) (fun c_3 => ?_) (fun c_3 => ?_)
    · have f_4 : zia.toInt ≠ (1 : Int) := ic_ne (rfl) (show (1 : Int32).toInt = 1 by decide) c_3
      refine lv_iload_n hx hb dX10_fitsStretch_28 rfl (lv_at hl 0 rfl) ?_
      refine lv_iconst (v := 2) hx hb dX10_fitsStretch_29 (by decide) ?_
      refine lv_icmp_ne (tgt := 47) hx hb dX10_fitsStretch_30 (by decide) (fun c_5 => ?_) (fun c_5 => ?_)
      · have f_6 : zia.toInt ≠ (2 : Int) := ic_ne (rfl) (show (2 : Int32).toInt = 2 by decide) c_5
        refine lv_iconst (v := 0) hx hb dX10_fitsStretch_47 (by decide) ?_
        subst hQ
        have qc_0 : (0 : Int32).toInt = 0 := by decide
        have hP9 := hP.sub (ws' := []) [] rfl
        have hD9 := hD.sub (ws' := []) [] (by decide) rfl
        exact W.zret (v := (0 : Int32)) hx hb hr rfl (fun t ht hW => ⟨⟨(0 : Int32), (), rfl, ⟨(show 0 ≤ (0 : Int32).toInt ∧ (0 : Int32).toInt ≤ 1 from by omega), (show (0 : Int32).toInt = 0 ∨ (0 ≤ zib.toInt ∧ zib.toInt ≤ 20) from by omega)⟩, ⟨by rw [ht]; exact hP9, va_K.moved hW.alike hK, hD9⟩⟩, hS.F ht⟩) hS.2.2 dX10_fitsStretch_48
      · have f_6 : ¬ (zia.toInt ≠ (2 : Int)) := ic_nne (rfl) (show (2 : Int32).toInt = 2 by decide) c_5
        refine lv_iload_n hx hb dX10_fitsStretch_33 rfl (lv_at hl 1 rfl) ?_
        refine lv_iconst (v := 1) hx hb dX10_fitsStretch_34 (by decide) ?_
        refine lv_bipush (v := 20) hx hb dX10_fitsStretch_35 (by decide) ?_
        refine cj_i (wc := []) (wr := []) (w1 := fun (_ : Unit) => []) (va_runS (As := [.int zib, .int 1, .int 20]) (rest := []) ⟨hx, hb, hml, hown, hts⟩ (c_X10_isWithin l dC dI cy s.heap.size zib 1 20 1 20 (by first | rfl | decide | omega | exact Int32.toInt_toInt64 _) (by first | rfl | decide | omega | exact Int32.toInt_toInt64 _)) (va_cwS 3 hts gX10_fitsStretch_X10_isWithin rfl rfl rfl (by decide +kernel) ⟨(Nat.le_of_ble_eq_true rfl), (Nat.le_of_ble_eq_true rfl)⟩) (PRE.s (hP.sub [] rfl) hK (hD.sub [] (by decide) rfl) hN) rfl rfl hl.1 rfl (lv_room (Nat.le_of_ble_eq_true rfl)) dX10_fitsStretch_37 ⟨(Nat.le_of_ble_eq_true rfl), (Nat.le_of_ble_eq_true rfl)⟩) hP hD hS hA [] [] rfl rfl rfl (by decide) (fun zi_8 u_7 H locs hw_9 hP hD hS => ?_)
        have hP : va_P (dC, dI) vwCl [] H := hP
        have hD : va_D A [] := hD
        have hw_9 : zi_8 = if 1 ≤ zib.toInt ∧ zib.toInt ≤ 20 then 1 else 0 := hw_9
        have b_zi_8 : 0 ≤ zi_8.toInt ∧ zi_8.toInt ≤ 1 := bz_b hw_9
        refine lv_if_eq (tgt := 47) hx hb dX10_fitsStretch_40 (by decide) (fun c_10 => ?_) (fun c_10 => ?_)
        · have f_11 : ¬ (1 ≤ zib.toInt ∧ zib.toInt ≤ 20) := bz_0 hw_9 c_10
          refine lv_iconst (v := 0) hx hb dX10_fitsStretch_47 (by decide) ?_
          subst hQ
          have qc_0 : (0 : Int32).toInt = 0 := by decide
          have hP9 := hP.sub (ws' := []) [] rfl
          have hD9 := hD.sub (ws' := []) [] (by decide) rfl
          exact W.zret (v := (0 : Int32)) hx hb hr rfl (fun t ht hW => ⟨⟨(0 : Int32), (), rfl, ⟨(show 0 ≤ (0 : Int32).toInt ∧ (0 : Int32).toInt ≤ 1 from by omega), (show (0 : Int32).toInt = 0 ∨ (0 ≤ zib.toInt ∧ zib.toInt ≤ 20) from by omega)⟩, ⟨by rw [ht]; exact hP9, va_K.moved hW.alike hK, hD9⟩⟩, hS.F ht⟩) hS.2.2 dX10_fitsStretch_48
        · have f_11 : 1 ≤ zib.toInt ∧ zib.toInt ≤ 20 := bz_1 hw_9 c_10
          refine lv_iconst (v := 1) hx hb dX10_fitsStretch_43 (by decide) ?_
          refine lv_goto (tgt := 48) hx hb dX10_fitsStretch_44 (by decide) ?_
          subst hQ
          have qc_1 : (1 : Int32).toInt = 1 := by decide
          have hP9 := hP.sub (ws' := []) [] rfl
          have hD9 := hD.sub (ws' := []) [] (by decide) rfl
          exact W.zret (v := (1 : Int32)) hx hb hr rfl (fun t ht hW => ⟨⟨(1 : Int32), (), rfl, ⟨(show 0 ≤ (1 : Int32).toInt ∧ (1 : Int32).toInt ≤ 1 from by omega), (show (1 : Int32).toInt = 0 ∨ (0 ≤ zib.toInt ∧ zib.toInt ≤ 20) from by omega)⟩, ⟨by rw [ht]; exact hP9, va_K.moved hW.alike hK, hD9⟩⟩, hS.F ht⟩) hS.2.2 dX10_fitsStretch_48
    · have f_4 : ¬ (zia.toInt ≠ (1 : Int)) := ic_nne (rfl) (show (1 : Int32).toInt = 1 by decide) c_3
      refine lv_iload_n hx hb dX10_fitsStretch_19 rfl (lv_at hl 1 rfl) ?_
      refine lv_iconst (v := 1) hx hb dX10_fitsStretch_20 (by decide) ?_
      refine lv_iconst (v := 4) hx hb dX10_fitsStretch_21 (by decide) ?_
      refine cj_i (wc := []) (wr := []) (w1 := fun (_ : Unit) => []) (va_runS (As := [.int zib, .int 1, .int 4]) (rest := []) ⟨hx, hb, hml, hown, hts⟩ (c_X10_isWithin l dC dI cy s.heap.size zib 1 4 1 4 (by first | rfl | decide | omega | exact Int32.toInt_toInt64 _) (by first | rfl | decide | omega | exact Int32.toInt_toInt64 _)) (va_cwS 3 hts gX10_fitsStretch_X10_isWithin rfl rfl rfl (by decide +kernel) ⟨(Nat.le_of_ble_eq_true rfl), (Nat.le_of_ble_eq_true rfl)⟩) (PRE.s (hP.sub [] rfl) hK (hD.sub [] (by decide) rfl) hN) rfl rfl hl.1 rfl (lv_room (Nat.le_of_ble_eq_true rfl)) dX10_fitsStretch_22 ⟨(Nat.le_of_ble_eq_true rfl), (Nat.le_of_ble_eq_true rfl)⟩) hP hD hS hA [] [] rfl rfl rfl (by decide) (fun zi_13 u_12 H locs hw_14 hP hD hS => ?_)
      have hP : va_P (dC, dI) vwCl [] H := hP
      have hD : va_D A [] := hD
      have hw_14 : zi_13 = if 1 ≤ zib.toInt ∧ zib.toInt ≤ 4 then 1 else 0 := hw_14
      have b_zi_13 : 0 ≤ zi_13.toInt ∧ zi_13.toInt ≤ 1 := bz_b hw_14
      refine lv_goto (tgt := 48) hx hb dX10_fitsStretch_25 (by decide) ?_
      have i_15 := bz_or hw_14
      subst hQ
      have hP9 := hP.sub (ws' := []) [] rfl
      have hD9 := hD.sub (ws' := []) [] (by decide) rfl
      exact W.zret (v := zi_13) hx hb hr (zb_n2 (by omega)) (fun t ht hW => ⟨⟨zi_13, (), rfl, ⟨(show 0 ≤ zi_13.toInt ∧ zi_13.toInt ≤ 1 from by omega), (show zi_13.toInt = 0 ∨ (0 ≤ zib.toInt ∧ zib.toInt ≤ 20) from by omega)⟩, ⟨by rw [ht]; exact hP9, va_K.moved hW.alike hK, hD9⟩⟩, hS.F ht⟩) hS.2.2 dX10_fitsStretch_48
  · have f_2 : ¬ (zia.toInt ≠ 0) := ic_nne (rfl) (by decide) c_1
    refine lv_iload_n hx hb dX10_fitsStretch_4 rfl (lv_at hl 1 rfl) ?_
    refine lv_if_ne (tgt := 12) hx hb dX10_fitsStretch_5 (by decide) (fun c_16 => ?_) (fun c_16 => ?_)
    · have f_17 : zib.toInt ≠ 0 := ic_ne (rfl) (by decide) c_16
      refine lv_iconst (v := 0) hx hb dX10_fitsStretch_12 (by decide) ?_
      subst hQ
      have qc_0 : (0 : Int32).toInt = 0 := by decide
      have hP9 := hP.sub (ws' := []) [] rfl
      have hD9 := hD.sub (ws' := []) [] (by decide) rfl
      exact W.zret (v := (0 : Int32)) hx hb hr rfl (fun t ht hW => ⟨⟨(0 : Int32), (), rfl, ⟨(show 0 ≤ (0 : Int32).toInt ∧ (0 : Int32).toInt ≤ 1 from by omega), (show (0 : Int32).toInt = 0 ∨ (0 ≤ zib.toInt ∧ zib.toInt ≤ 20) from by omega)⟩, ⟨by rw [ht]; exact hP9, va_K.moved hW.alike hK, hD9⟩⟩, hS.F ht⟩) hS.2.2 dX10_fitsStretch_13
    · have f_17 : ¬ (zib.toInt ≠ 0) := ic_nne (rfl) (by decide) c_16
      refine lv_iconst (v := 1) hx hb dX10_fitsStretch_8 (by decide) ?_
      refine lv_goto (tgt := 13) hx hb dX10_fitsStretch_9 (by decide) ?_
      subst hQ
      have qc_1 : (1 : Int32).toInt = 1 := by decide
      have hP9 := hP.sub (ws' := []) [] rfl
      have hD9 := hD.sub (ws' := []) [] (by decide) rfl
      exact W.zret (v := (1 : Int32)) hx hb hr rfl (fun t ht hW => ⟨⟨(1 : Int32), (), rfl, ⟨(show 0 ≤ (1 : Int32).toInt ∧ (1 : Int32).toInt ≤ 1 from by omega), (show (1 : Int32).toInt = 0 ∨ (0 ≤ zib.toInt ∧ zib.toInt ≤ 20) from by omega)⟩, ⟨by rw [ht]; exact hP9, va_K.moved hW.alike hK, hD9⟩⟩, hS.F ht⟩) hS.2.2 dX10_fitsStretch_13
set_option maxHeartbeats 8000000 in
set_option maxRecDepth 100000 in
theorem c_X10_greatestDivisor (l : Launch) (dC : Nat → ClassId) (dI : Nat → Nat → Nat) (cy : Nat → ClassId) (sz : Nat) (zja : Int64) (zjb : Int64)  : Met l yX10_greatestDivisor wsX10_greatestDivisor ({ frames := 0, cells := 0, slots := 0, locals := 0 } : Room) (va_Pc [.long zja, .long zjb] (PRE dC dI cy [] sz)) (va_Ql (fun (r : Int64) (u : Unit) => True) (fun u t => POST dC dI cy (va_A [] sz) [] t) (va_A [] sz)) 0 0 (va_A [] sz) := by
  refine Met.ofW (cc := cX10_greatestDivisor) (maxL := 11) (ret := (some .long)) (by decide) rfl ?_
  intro p e s m args below meth c s₁ B hml hv
  obtain ⟨rfl, hsz, hP, hK, hD0, hN⟩ := hv
  have hx := B.exec
  have hb := B.bytes
  have hr := B.returns
  have hts := atoms_spec (ws := wsX10_greatestDivisor) B.pre
  have hown : s.vm.findClass RX10 = some m.cls := findClass_of_methodNamed B.named
  have hlocks := B.notSynchronized
  subst hsz
  have hD := hD0.self (sz := s.heap.size)
  generalize hAe : va_A [] s.heap.size = A at hD ⊢
  have hA : ∀ q : Nat, s.heap.size ≤ q → A q := fun q h => by rw [← hAe]; exact Or.inr h
  have hS : va_S A s.heap s.heap [] := va_S.rf
  have hP : va_P (dC, dI) vwCl [] s.heap := hP
  have hl := lv_entry ([.long zja, .long zjb] : List Value) (n := 11) (Nat.le_of_ble_eq_true rfl)
  rw [lg_entry_eq]
  generalize (lg_sl ([.long zja, .long zjb] : List Value) ++ List.replicate (11 - (lg_sl ([.long zja, .long zjb] : List Value)).length) Slot.unset).toArray = ls at hl ⊢
  have hl : lv_has ls 11 [(0, .long zja), (2, .long zjb)] := hl
  refine w_q (fun Q hQ => ?_)
  refine lv_lload_n hx hb dX10_greatestDivisor_0 rfl (lv_at hl 0 rfl) ?_
  refine lv_lstore (lv' := [(4, .long zja), (0, .long zja), (2, .long zjb)]) hx hb dX10_greatestDivisor_1 hl (by decide) rfl (fun ls hl => ?_)
  refine lv_lload_n hx hb dX10_greatestDivisor_3 rfl (lv_at hl 2 rfl) ?_
  refine lv_lstore (lv' := [(6, .long zjb), (4, .long zja), (0, .long zja), (2, .long zjb)]) hx hb dX10_greatestDivisor_4 hl (by decide) rfl (fun ls hl => ?_)
  refine lv_iconst (v := 0) hx hb dX10_greatestDivisor_6 (by decide) ?_
  refine lv_istore (lv' := [(8, .int 0), (6, .long zjb), (4, .long zja), (0, .long zja), (2, .long zjb)]) hx hb dX10_greatestDivisor_7 hl (by decide) rfl (fun ls hl => ?_)
  have lp_43 : ∀ (n : Nat) (zj_33 : Int64) (zj_34 : Int64) (zi_35 : Int32) (H : Heap) (locs : List Loc) (ls : Array Slot), (200 - zi_35.toInt).toNat = n → (0 ≤ zi_35.toInt ∧ zi_35.toInt ≤ 200) → va_P (dC, dI) vwCl [] H → va_D A [] → va_S A s.heap H locs → lv_has ls 11 [(0, .long zja), (2, .long zjb), (4, .long zj_33), (6, .long zj_34), (8, .int zi_35)] → W p l e ({ frames := 0, cells := 0, slots := 0, locals := 0 } : Room) s m ([.long zja, .long zjb] : List Value).toArray below meth c H locs 0 0 Q (F0 m 9 ls []) := by
    intro n
    induction n using Nat.strongRecOn with
    | _ n ih_43 =>
      intro zj_33 zj_34 zi_35 H locs ls hn b_zi_35 hP hD hS hl
      refine lv_iload hx hb dX10_greatestDivisor_9 (lv_at hl 4 rfl) ?_
      refine lv_sipush (v := 200) hx hb dX10_greatestDivisor_11 (by decide) ?_
      refine lv_icmp_ge (tgt := 45) hx hb dX10_greatestDivisor_14 (by decide) (fun c_44 => ?_) (fun c_44 => ?_)
      · have f_45 : zi_35.toInt ≥ (200 : Int) := ic_ge (rfl) (show (200 : Int32).toInt = 200 by decide) c_44
        refine lv_lload hx hb dX10_greatestDivisor_45 (lv_at hl 2 rfl) ?_
        subst hQ
        have hP9 := hP.sub (ws' := []) [] rfl
        have hD9 := hD.sub (ws' := []) [] (by decide) rfl
        exact W.lret (v := zj_33) hx hb hr (fun t ht hW => ⟨⟨zj_33, (), rfl, trivial, ⟨by rw [ht]; exact hP9, va_K.moved hW.alike hK, hD9⟩⟩, hS.F ht⟩) hS.2.2 dX10_greatestDivisor_47
      · have f_45 : ¬ (zi_35.toInt ≥ (200 : Int)) := ic_nge (rfl) (show (200 : Int32).toInt = 200 by decide) c_44
        refine lv_lload hx hb dX10_greatestDivisor_17 (lv_at hl 3 rfl) ?_
        refine lv_lconst (v := 0) hx hb dX10_greatestDivisor_19 (by decide) ?_
        refine W.lcmp hx hb dX10_greatestDivisor_20 ?_
        refine lv_topi (fun zi_46 ezi_46 => ?_)
        refine lv_if_eq (tgt := 45) hx hb dX10_greatestDivisor_21 (by decide) (fun c_47 => ?_) (fun c_47 => ?_)
        · have f_48 : zj_34.toInt = (0 : Int) := lk_eq ezi_46 (rfl) (show (0 : Int64).toInt = 0 by decide) c_47
          refine lv_lload hx hb dX10_greatestDivisor_45 (lv_at hl 2 rfl) ?_
          subst hQ
          have hP9 := hP.sub (ws' := []) [] rfl
          have hD9 := hD.sub (ws' := []) [] (by decide) rfl
          exact W.lret (v := zj_33) hx hb hr (fun t ht hW => ⟨⟨zj_33, (), rfl, trivial, ⟨by rw [ht]; exact hP9, va_K.moved hW.alike hK, hD9⟩⟩, hS.F ht⟩) hS.2.2 dX10_greatestDivisor_47
        · have f_48 : ¬ (zj_34.toInt = (0 : Int)) := lk_neq ezi_46 (rfl) (show (0 : Int64).toInt = 0 by decide) c_47
          refine lv_lload hx hb dX10_greatestDivisor_24 (lv_at hl 2 rfl) ?_
          refine lv_lload hx hb dX10_greatestDivisor_26 (lv_at hl 3 rfl) ?_
          refine lv_lrem hx hb dX10_greatestDivisor_28 (nzl (by omega)) ?_
          refine lv_topl (fun zj_49 ezj_49 => ?_)
          refine lv_lstore (lv' := [(9, .long zj_49), (0, .long zja), (2, .long zjb), (4, .long zj_33), (6, .long zj_34), (8, .int zi_35)]) hx hb dX10_greatestDivisor_29 hl (by decide) rfl (fun ls hl => ?_)
          refine lv_lload hx hb dX10_greatestDivisor_31 (lv_at hl 4 rfl) ?_
          refine lv_lstore (lv' := [(4, .long zj_34), (9, .long zj_49), (0, .long zja), (2, .long zjb), (6, .long zj_34), (8, .int zi_35)]) hx hb dX10_greatestDivisor_33 hl (by decide) rfl (fun ls hl => ?_)
          refine lv_lload hx hb dX10_greatestDivisor_35 (lv_at hl 1 rfl) ?_
          refine lv_lstore (lv' := [(6, .long zj_49), (4, .long zj_34), (9, .long zj_49), (0, .long zja), (2, .long zjb), (8, .int zi_35)]) hx hb dX10_greatestDivisor_37 hl (by decide) rfl (fun ls hl => ?_)
          obtain ⟨zi_50, ezi_50⟩ : ∃ y : Int32, y = zi_35 + 1 := ⟨_, rfl⟩
          have tzi_50 : zi_50.toInt = zi_35.toInt + 1 := by rw [ezi_50]; exact tadd rfl (show (1 : Int32).toInt = 1 by decide) (by omega) (by omega)
          refine lv_iinc (v := zi_50) (lv' := [(8, .int zi_50), (6, .long zj_49), (4, .long zj_34), (9, .long zj_49), (0, .long zja), (2, .long zjb)]) hx hb dX10_greatestDivisor_39 hl (k := 5) rfl (by rw [ezi_50]; rfl) (by decide) rfl (fun ls hl => ?_)
          refine lv_goto (tgt := 9) hx hb dX10_greatestDivisor_42 (by decide) ?_
          exact ih_43 (200 - zi_50.toInt).toNat (by omega) zj_34 zj_49 zi_50 _ _ _ rfl (by omega) hP hD hS (lv_sub hl [4, 5, 2, 1, 0] rfl)
  exact lp_43 _ zja zjb (0 : Int32) _ _ _ rfl (by decide) hP hD hS (lv_sub hl [3, 4, 2, 1, 0] rfl)
set_option maxHeartbeats 8000000 in
set_option maxRecDepth 100000 in
theorem c_X10_oddsPart (l : Launch) (dC : Nat → ClassId) (dI : Nat → Nat → Nat) (cy : Nat → ClassId) (sz : Nat) (zja : Int64) (zjb : Int64) (zic : Int32)  : Met l yX10_oddsPart wsX10_oddsPart ({ frames := 1, cells := 0, slots := 0, locals := 30 } : Room) (va_Pc [.long zja, .long zjb, .int zic] (PRE dC dI cy [] sz)) (va_Ql (fun (r : Int64) (u : Unit) => True) (fun u t => POST dC dI cy (va_A [] sz) [] t) (va_A [] sz)) 0 0 (va_A [] sz) := by
  refine Met.ofW (cc := cX10_oddsPart) (maxL := 7) (ret := (some .long)) (by decide) rfl ?_
  intro p e s m args below meth c s₁ B hml hv
  obtain ⟨rfl, hsz, hP, hK, hD0, hN⟩ := hv
  have hx := B.exec
  have hb := B.bytes
  have hr := B.returns
  have hts := atoms_spec (ws := wsX10_oddsPart) B.pre
  have hown : s.vm.findClass RX10 = some m.cls := findClass_of_methodNamed B.named
  have hlocks := B.notSynchronized
  subst hsz
  have hD := hD0.self (sz := s.heap.size)
  generalize hAe : va_A [] s.heap.size = A at hD ⊢
  have hA : ∀ q : Nat, s.heap.size ≤ q → A q := fun q h => by rw [← hAe]; exact Or.inr h
  have hS : va_S A s.heap s.heap [] := va_S.rf
  have hP : va_P (dC, dI) vwCl [] s.heap := hP
  have hl := lv_entry ([.long zja, .long zjb, .int zic] : List Value) (n := 7) (Nat.le_of_ble_eq_true rfl)
  rw [lg_entry_eq]
  generalize (lg_sl ([.long zja, .long zjb, .int zic] : List Value) ++ List.replicate (7 - (lg_sl ([.long zja, .long zjb, .int zic] : List Value)).length) Slot.unset).toArray = ls at hl ⊢
  have hl : lv_has ls 7 [(0, .long zja), (2, .long zjb), (4, .int zic)] := hl
  refine w_q (fun Q hQ => ?_)
  refine lv_lload_n hx hb dX10_oddsPart_0 rfl (lv_at hl 1 rfl) ?_
  refine lv_lconst (v := 0) hx hb dX10_oddsPart_1 (by decide) ?_
  refine W.lcmp hx hb dX10_oddsPart_2 ?_
  refine lv_topi (fun zi_1 ezi_1 => ?_)
  refine lv_if_ne (tgt := 10) hx hb dX10_oddsPart_3 (by decide) (fun c_2 => ?_) (fun c_2 => ?_)
  · have f_3 : ¬ (zjb.toInt = (0 : Int)) := lk_ne ezi_1 (rfl) (show (0 : Int64).toInt = 0 by decide) c_2
    refine lv_lload_n hx hb dX10_oddsPart_10 rfl (lv_at hl 0 rfl) ?_
    refine lv_lload_n hx hb dX10_oddsPart_11 rfl (lv_at hl 1 rfl) ?_
    refine cj_l (wc := []) (wr := []) (w1 := fun (u : Unit) => []) (va_runS (As := [.long zja, .long zjb]) (rest := []) ⟨hx, hb, hml, hown, hts⟩ (c_X10_greatestDivisor l dC dI cy s.heap.size zja zjb) (va_cwS 2 hts gX10_oddsPart_X10_greatestDivisor rfl rfl rfl (by decide +kernel) ⟨(Nat.le_of_ble_eq_true rfl), (Nat.le_of_ble_eq_true rfl)⟩) (PRE.s (hP.sub [] rfl) hK (hD.sub [] (by decide) rfl) hN) rfl rfl hl.1 rfl (lv_room (Nat.le_of_ble_eq_true rfl)) dX10_oddsPart_12 ⟨(Nat.le_of_ble_eq_true rfl), (Nat.le_of_ble_eq_true rfl)⟩) hP hD hS hA [] [] rfl rfl rfl (by decide) (fun zj_5 u_4 H locs hw_6 hP hD hS => ?_)
    have hP : va_P (dC, dI) vwCl [] H := hP
    have hD : va_D A [] := hD
    refine lv_lstore (lv' := [(5, .long zj_5), (0, .long zja), (2, .long zjb), (4, .int zic)]) hx hb dX10_oddsPart_15 hl (by decide) rfl (fun ls hl => ?_)
    refine lv_iload hx hb dX10_oddsPart_17 (lv_at hl 3 rfl) ?_
    have jn_10 : ∀ (zj_9 : Int64) (H : Heap) (locs : List Loc) (ls : Array Slot), va_P (dC, dI) vwCl [] H → va_D A [] → va_S A s.heap H locs → lv_has ls 7 [(0, .long zja), (2, .long zjb), (4, .int zic), (5, .long zj_5)] → W p l e ({ frames := 1, cells := 0, slots := 0, locals := 30 } : Room) s m ([.long zja, .long zjb, .int zic] : List Value).toArray below meth c H locs 0 0 Q (F0 m 27 ls [.long zj_9]) := by
      intro zj_9 H locs ls  hP hD hS hl
      refine lv_lconst (v := 1) hx hb dX10_oddsPart_27 (by decide) ?_
      refine lv_lload hx hb dX10_oddsPart_28 (lv_at hl 3 rfl) ?_
      refine va_mmax_long hx hb (by rw [hml]; exact hl.1.symm) hown (hts (.methodLink RX10 319 Lib.MathLoose.max_long.x) (by decide +kernel)) (hts (.static Lib.MathLoose.max_long.x) (by decide +kernel)) (hts (.initialized "java/lang/Math") (by decide +kernel)) (hts (.code Lib.MathLoose.max_long.x Lib.MathLoose.max_long.code 4 (some .long)) (by decide +kernel)) (Nat.le_of_ble_eq_true rfl) (Nat.le_of_ble_eq_true rfl) (Nat.le_of_ble_eq_true rfl) (Nat.le_of_ble_eq_true rfl) dX10_oddsPart_30 ?_
      refine lv_topl (fun zj_11 ezj_11 => ?_)
      refine lv_ldiv hx hb dX10_oddsPart_33 (mxl_ne ezj_11 (by decide)) ?_
      refine lv_topl (fun zj_12 ezj_12 => ?_)
      subst hQ
      have hP9 := hP.sub (ws' := []) [] rfl
      have hD9 := hD.sub (ws' := []) [] (by decide) rfl
      exact W.lret (v := zj_12) hx hb hr (fun t ht hW => ⟨⟨zj_12, (), rfl, trivial, ⟨by rw [ht]; exact hP9, va_K.moved hW.alike hK, hD9⟩⟩, hS.F ht⟩) hS.2.2 dX10_oddsPart_34
    refine lv_if_ne (tgt := 26) hx hb dX10_oddsPart_19 (by decide) (fun c_13 => ?_) (fun c_13 => ?_)
    · have f_14 : zic.toInt ≠ 0 := ic_ne (rfl) (by decide) c_13
      refine lv_lload_n hx hb dX10_oddsPart_26 rfl (lv_at hl 2 rfl) ?_
      exact jn_10 zjb _ _ _  hP hD hS (lv_sub hl [1, 2, 3, 0] rfl)
    · have f_14 : ¬ (zic.toInt ≠ 0) := ic_nne (rfl) (by decide) c_13
      refine lv_lload_n hx hb dX10_oddsPart_22 rfl (lv_at hl 1 rfl) ?_
      refine lv_goto (tgt := 27) hx hb dX10_oddsPart_23 (by decide) ?_
      exact jn_10 zja _ _ _  hP hD hS (lv_sub hl [1, 2, 3, 0] rfl)
  · have f_3 : zjb.toInt = (0 : Int) := lk_nne ezi_1 (rfl) (show (0 : Int64).toInt = 0 by decide) c_2
    refine lv_ldc2 (v := (-4)) hx hb hown (hts (.constantLong RX10 276 (-4)) (by decide +kernel)) dX10_oddsPart_6 ?_
    subst hQ
    have hP9 := hP.sub (ws' := []) [] rfl
    have hD9 := hD.sub (ws' := []) [] (by decide) rfl
    exact W.lret (v := (-4 : Int64)) hx hb hr (fun t ht hW => ⟨⟨(-4 : Int64), (), rfl, trivial, ⟨by rw [ht]; exact hP9, va_K.moved hW.alike hK, hD9⟩⟩, hS.F ht⟩) hS.2.2 dX10_oddsPart_9
set_option maxHeartbeats 8000000 in
set_option maxRecDepth 100000 in
theorem t_J7_fill_53178 (l : Launch) (dC : Nat → ClassId) (dI : Nat → Nat → Nat) (cy : Nat → ClassId) (sz : Nat) (zL : List Nat) (zT : Nat → Nat) (zR : Nat → Nat → Nat) (zI : Nat → Nat → Int32) (zJ : Nat → Nat → Int64) (za : Nat) (hs : SKP zL zT zR) (hw : WT zT zR zI) (t_za : zT za = 36) : Met l yJ7_fill_53178 wsJ7_fill_53178 ({ frames := 0, cells := 0, slots := 0, locals := 0 } : Room) (va_Pc [.ref za, .int 0] (PRE dC dI cy (WL cy zL zT zR zI zJ) sz)) (va_Qv (fun (u : (Nat → Nat → Int32)) => (WM [3600] AL zT zR zI u) ∧ (FZ zI u za 24)) (fun u t => POST dC dI cy (va_A (WL cy zL zT zR zI zJ) sz) (WL cy zL zT zR u zJ) t) (va_A (WL cy zL zT zR zI zJ) sz)) 0 0 (va_A (WL cy zL zT zR zI zJ) sz) := by
  refine Met.ofW (cc := cJ7_fill_53178) (maxL := 4) (ret := none) (by decide) rfl ?_
  intro p e s m args below meth c s₁ B hml hv
  obtain ⟨rfl, hsz, hP, hK, hD0, hN⟩ := hv
  have hx := B.exec
  have hb := B.bytes
  have hr := B.returns
  have hts := atoms_spec (ws := wsJ7_fill_53178) B.pre
  have hown : s.vm.findClass RJ7 = some m.cls := findClass_of_methodNamed B.named
  have hlocks := B.notSynchronized
  subst hsz
  have hD := hD0.self (sz := s.heap.size)
  generalize hAe : va_A (WL cy zL zT zR zI zJ) s.heap.size = A at hD ⊢
  have hA : ∀ q : Nat, s.heap.size ≤ q → A q := fun q h => by rw [← hAe]; exact Or.inr h
  have hS : va_S A s.heap s.heap [] := va_S.rf
  have hP : va_P (dC, dI) vwCl (WL cy zL zT zR zI zJ) s.heap := hP
  have hl := lv_entry ([.ref za, .int 0] : List Value) (n := 4) (Nat.le_of_ble_eq_true rfl)
  rw [lg_entry_eq]
  generalize (lg_sl ([.ref za, .int 0] : List Value) ++ List.replicate (4 - (lg_sl ([.ref za, .int 0] : List Value)).length) Slot.unset).toArray = ls at hl ⊢
  have hl : lv_has ls 4 [(0, .ref za), (1, .int 0)] := hl
  refine w_q (fun Q hQ => ?_)
  have h_zI : WM [3600] AL zT zR zI zI := WM.rf hw
  refine lv_iconst (v := 0) hx hb dJ7_fill_53178_0 (by decide) ?_
  refine lv_istore_n (lv' := [(2, .int 0), (0, .ref za), (1, .int 0)]) hx hb dJ7_fill_53178_1 rfl hl (by decide) rfl (fun ls hl => ?_)
  refine lv_aload_n hx hb dJ7_fill_53178_2 rfl (lv_at hl 1 rfl) ?_
  refine ht_alen (v := 24) (n := 24) (q := 0) hx hb hK hP hs t_za (by decide) rfl rfl rfl dJ7_fill_53178_3 ?_
  refine lv_istore_n (lv' := [(3, .int 24), (2, .int 0), (0, .ref za), (1, .int 0)]) hx hb dJ7_fill_53178_4 rfl hl (by decide) rfl (fun ls hl => ?_)
  have lp_25 : ∀ (n : Nat) (zi_19 : Int32) (zI_20 : Nat → Nat → Int32) (H : Heap) (locs : List Loc) (ls : Array Slot), ((24 : Int) - zi_19.toInt).toNat = n → (0 ≤ zi_19.toInt ∧ zi_19.toInt ≤ 24) → (WM [3600] AL zT zR zI zI_20) → (FZ zI zI_20 za zi_19.toInt) → va_P (dC, dI) vwCl (WL cy zL zT zR zI_20 zJ) H → va_D A (WL cy zL zT zR zI_20 zJ) → va_S A s.heap H locs → lv_has ls 4 [(0, .ref za), (1, .int 0), (2, .int zi_19), (3, .int 24)] → W p l e ({ frames := 0, cells := 0, slots := 0, locals := 0 } : Room) s m ([.ref za, .int 0] : List Value).toArray below meth c H locs 0 0 Q (F0 m 5 ls []) := by
    intro n
    induction n using Nat.strongRecOn with
    | _ n ih_25 =>
      intro zi_19 zI_20 H locs ls hn b_zi_19 h_zI_20 e_lp_25_0 hP hD hS hl
      refine lv_iload_n hx hb dJ7_fill_53178_5 rfl (lv_at hl 2 rfl) ?_
      refine lv_iload_n hx hb dJ7_fill_53178_6 rfl (lv_at hl 3 rfl) ?_
      refine lv_icmp_ge (tgt := 20) hx hb dJ7_fill_53178_7 (by decide) (fun c_26 => ?_) (fun c_26 => ?_)
      · have f_27 : zi_19.toInt ≥ (24 : Int) := ic_ge (rfl) (show (24 : Int32).toInt = 24 by decide) c_26
        subst hQ
        exact W.vret hx hb hr (fun t ht hW => ⟨⟨zI_20, rfl, ⟨h_zI_20, (show FZ zI zI_20 za 24 from (FZ.e e_lp_25_0 (by omega)))⟩, ⟨by rw [ht]; exact hP, va_K.moved hW.alike hK, hD⟩⟩, hS.F ht⟩) hS.2.2 dJ7_fill_53178_20
      · have f_27 : ¬ (zi_19.toInt ≥ (24 : Int)) := ic_nge (rfl) (show (24 : Int32).toInt = 24 by decide) c_26
        refine lv_aload_n hx hb dJ7_fill_53178_10 rfl (lv_at hl 0 rfl) ?_
        refine lv_iload_n hx hb dJ7_fill_53178_11 rfl (lv_at hl 2 rfl) ?_
        refine lv_iload_n hx hb dJ7_fill_53178_12 rfl (lv_at hl 1 rfl) ?_
        refine ht_iast (v := (0 : Int32)) (n := 24) (q := 0) hx hb hK hP hD hS hs t_za (by decide) rfl rfl ⟨by omega, by omega⟩ dJ7_fill_53178_13 (fun H locs hP hD hS => ?_)
        have h_zI_28 : WM [3600] AL zT zR zI (u2 zI_20 za zi_19.toNatClampNeg (0 : Int32)) := h_zI_20.putA hs t_za rfl (rgF _) (by decide) (fun h => absurd h (by decide)) (by decide) trivial
        generalize uzI_28 : u2 zI_20 za zi_19.toNatClampNeg (0 : Int32) = zI_28 at hP hD h_zI_28
        obtain ⟨zi_29, ezi_29⟩ : ∃ y : Int32, y = zi_19 + 1 := ⟨_, rfl⟩
        have tzi_29 : zi_29.toInt = zi_19.toInt + 1 := by rw [ezi_29]; exact tadd rfl (show (1 : Int32).toInt = 1 by decide) (by omega) (by omega)
        refine lv_iinc (v := zi_29) (lv' := [(2, .int zi_29), (0, .ref za), (1, .int 0), (3, .int 24)]) hx hb dJ7_fill_53178_14 hl (k := 2) rfl (by rw [ezi_29]; rfl) (by decide) rfl (fun ls hl => ?_)
        refine lv_goto (tgt := 5) hx hb dJ7_fill_53178_17 (by decide) ?_
        exact ih_25 ((24 : Int) - zi_29.toInt).toNat (by omega) zi_29 zI_28 _ _ _ rfl (by omega) h_zI_28 (by rw [← uzI_28]; exact FZ.s (i := zi_19) e_lp_25_0 (by omega) rfl (by omega)) hP hD hS (lv_sub hl [1, 2, 0, 3] rfl)
  have qc_0 : (0 : Int32).toInt = 0 := by decide
  exact lp_25 _ (0 : Int32) zI _ _ _ rfl (by decide) h_zI FZ.z hP hD hS (lv_sub hl [2, 3, 1, 0] rfl)
set_option maxHeartbeats 8000000 in
set_option maxRecDepth 100000 in
theorem t_fill_50 (l : Launch) (dC : Nat → ClassId) (dI : Nat → Nat → Nat) (cy : Nat → ClassId) (sz : Nat) (zL : List Nat) (zT : Nat → Nat) (zR : Nat → Nat → Nat) (zI : Nat → Nat → Int32) (zJ : Nat → Nat → Int64) (za : Nat) (zjv : Int64) (hs : SKP zL zT zR) (hw : WT zT zR zI) (t_za : zT za = 50) : Met l yJ7_fill_d0a16 wsJ7_fill_d0a16 ({ frames := 0, cells := 0, slots := 0, locals := 0 } : Room) (va_Pc [.ref za, .long zjv] (PRE dC dI cy (WL cy zL zT zR zI zJ) sz)) (va_Qv (fun (u : (Nat → Nat → Int64)) => True) (fun u t => POST dC dI cy (va_A (WL cy zL zT zR zI zJ) sz) (WL cy zL zT zR zI u) t) (va_A (WL cy zL zT zR zI zJ) sz)) 0 0 (va_A (WL cy zL zT zR zI zJ) sz) := by
  refine Met.ofW (cc := cJ7_fill_d0a16) (maxL := 5) (ret := none) (by decide) rfl ?_
  intro p e s m args below meth c s₁ B hml hv
  obtain ⟨rfl, hsz, hP, hK, hD0, hN⟩ := hv
  have hx := B.exec
  have hb := B.bytes
  have hr := B.returns
  have hts := atoms_spec (ws := wsJ7_fill_d0a16) B.pre
  have hown : s.vm.findClass RJ7 = some m.cls := findClass_of_methodNamed B.named
  have hlocks := B.notSynchronized
  subst hsz
  have hD := hD0.self (sz := s.heap.size)
  generalize hAe : va_A (WL cy zL zT zR zI zJ) s.heap.size = A at hD ⊢
  have hA : ∀ q : Nat, s.heap.size ≤ q → A q := fun q h => by rw [← hAe]; exact Or.inr h
  have hS : va_S A s.heap s.heap [] := va_S.rf
  have hP : va_P (dC, dI) vwCl (WL cy zL zT zR zI zJ) s.heap := hP
  have hl := lv_entry ([.ref za, .long zjv] : List Value) (n := 5) (Nat.le_of_ble_eq_true rfl)
  rw [lg_entry_eq]
  generalize (lg_sl ([.ref za, .long zjv] : List Value) ++ List.replicate (5 - (lg_sl ([.ref za, .long zjv] : List Value)).length) Slot.unset).toArray = ls at hl ⊢
  have hl : lv_has ls 5 [(0, .ref za), (1, .long zjv)] := hl
  refine w_q (fun Q hQ => ?_)
  have h_zI : WM [] AL zT zR zI zI := WM.rf hw
  refine lv_iconst (v := 0) hx hb dJ7_fill_d0a16_0 (by decide) ?_
  refine lv_istore_n (lv' := [(3, .int 0), (0, .ref za), (1, .long zjv)]) hx hb dJ7_fill_d0a16_1 rfl hl (by decide) rfl (fun ls hl => ?_)
  refine lv_aload_n hx hb dJ7_fill_d0a16_2 rfl (lv_at hl 1 rfl) ?_
  refine ht_alen (v := 96) (n := 96) (q := 1) hx hb hK hP hs t_za (by decide) rfl rfl rfl dJ7_fill_d0a16_3 ?_
  refine lv_istore (lv' := [(4, .int 96), (3, .int 0), (0, .ref za), (1, .long zjv)]) hx hb dJ7_fill_d0a16_4 hl (by decide) rfl (fun ls hl => ?_)
  have lp_25 : ∀ (n : Nat) (zi_19 : Int32) (zJ_20 : Nat → Nat → Int64) (H : Heap) (locs : List Loc) (ls : Array Slot), ((96 : Int) - zi_19.toInt).toNat = n → (0 ≤ zi_19.toInt ∧ zi_19.toInt ≤ 96) → va_P (dC, dI) vwCl (WL cy zL zT zR zI zJ_20) H → va_D A (WL cy zL zT zR zI zJ_20) → va_S A s.heap H locs → lv_has ls 5 [(0, .ref za), (1, .long zjv), (3, .int zi_19), (4, .int 96)] → W p l e ({ frames := 0, cells := 0, slots := 0, locals := 0 } : Room) s m ([.ref za, .long zjv] : List Value).toArray below meth c H locs 0 0 Q (F0 m 6 ls []) := by
    intro n
    induction n using Nat.strongRecOn with
    | _ n ih_25 =>
      intro zi_19 zJ_20 H locs ls hn b_zi_19 hP hD hS hl
      refine lv_iload_n hx hb dJ7_fill_d0a16_6 rfl (lv_at hl 2 rfl) ?_
      refine lv_iload hx hb dJ7_fill_d0a16_7 (lv_at hl 3 rfl) ?_
      refine lv_icmp_ge (tgt := 22) hx hb dJ7_fill_d0a16_9 (by decide) (fun c_26 => ?_) (fun c_26 => ?_)
      · have f_27 : zi_19.toInt ≥ (96 : Int) := ic_ge (rfl) (show (96 : Int32).toInt = 96 by decide) c_26
        subst hQ
        exact W.vret hx hb hr (fun t ht hW => ⟨⟨zJ_20, rfl, trivial, ⟨by rw [ht]; exact hP, va_K.moved hW.alike hK, hD⟩⟩, hS.F ht⟩) hS.2.2 dJ7_fill_d0a16_22
      · have f_27 : ¬ (zi_19.toInt ≥ (96 : Int)) := ic_nge (rfl) (show (96 : Int32).toInt = 96 by decide) c_26
        refine lv_aload_n hx hb dJ7_fill_d0a16_12 rfl (lv_at hl 0 rfl) ?_
        refine lv_iload_n hx hb dJ7_fill_d0a16_13 rfl (lv_at hl 2 rfl) ?_
        refine lv_lload_n hx hb dJ7_fill_d0a16_14 rfl (lv_at hl 1 rfl) ?_
        refine ht_last (v := zjv) (n := 96) (q := 1) hx hb hK hP hD hS hs t_za (by decide) rfl rfl ⟨by omega, by omega⟩ dJ7_fill_d0a16_15 (fun H locs hP hD hS => ?_)
        generalize uzJ_28 : u2 zJ_20 za zi_19.toNatClampNeg zjv = zJ_28 at hP hD
        obtain ⟨zi_29, ezi_29⟩ : ∃ y : Int32, y = zi_19 + 1 := ⟨_, rfl⟩
        have tzi_29 : zi_29.toInt = zi_19.toInt + 1 := by rw [ezi_29]; exact tadd rfl (show (1 : Int32).toInt = 1 by decide) (by omega) (by omega)
        refine lv_iinc (v := zi_29) (lv' := [(3, .int zi_29), (0, .ref za), (1, .long zjv), (4, .int 96)]) hx hb dJ7_fill_d0a16_16 hl (k := 2) rfl (by rw [ezi_29]; rfl) (by decide) rfl (fun ls hl => ?_)
        refine lv_goto (tgt := 6) hx hb dJ7_fill_d0a16_19 (by decide) ?_
        exact ih_25 ((96 : Int) - zi_29.toInt).toNat (by omega) zi_29 zJ_28 _ _ _ rfl (by omega) hP hD hS (lv_sub hl [1, 2, 0, 3] rfl)
  exact lp_25 _ (0 : Int32) zJ _ _ _ rfl (by decide) hP hD hS (lv_sub hl [2, 3, 1, 0] rfl)
set_option maxHeartbeats 8000000 in
set_option maxRecDepth 100000 in
theorem t_fill_51 (l : Launch) (dC : Nat → ClassId) (dI : Nat → Nat → Nat) (cy : Nat → ClassId) (sz : Nat) (zL : List Nat) (zT : Nat → Nat) (zR : Nat → Nat → Nat) (zI : Nat → Nat → Int32) (zJ : Nat → Nat → Int64) (za : Nat) (zjv : Int64) (hs : SKP zL zT zR) (hw : WT zT zR zI) (t_za : zT za = 51) : Met l yJ7_fill_d0a16 wsJ7_fill_d0a16 ({ frames := 0, cells := 0, slots := 0, locals := 0 } : Room) (va_Pc [.ref za, .long zjv] (PRE dC dI cy (WL cy zL zT zR zI zJ) sz)) (va_Qv (fun (u : (Nat → Nat → Int64)) => True) (fun u t => POST dC dI cy (va_A (WL cy zL zT zR zI zJ) sz) (WL cy zL zT zR zI u) t) (va_A (WL cy zL zT zR zI zJ) sz)) 0 0 (va_A (WL cy zL zT zR zI zJ) sz) := by
  refine Met.ofW (cc := cJ7_fill_d0a16) (maxL := 5) (ret := none) (by decide) rfl ?_
  intro p e s m args below meth c s₁ B hml hv
  obtain ⟨rfl, hsz, hP, hK, hD0, hN⟩ := hv
  have hx := B.exec
  have hb := B.bytes
  have hr := B.returns
  have hts := atoms_spec (ws := wsJ7_fill_d0a16) B.pre
  have hown : s.vm.findClass RJ7 = some m.cls := findClass_of_methodNamed B.named
  have hlocks := B.notSynchronized
  subst hsz
  have hD := hD0.self (sz := s.heap.size)
  generalize hAe : va_A (WL cy zL zT zR zI zJ) s.heap.size = A at hD ⊢
  have hA : ∀ q : Nat, s.heap.size ≤ q → A q := fun q h => by rw [← hAe]; exact Or.inr h
  have hS : va_S A s.heap s.heap [] := va_S.rf
  have hP : va_P (dC, dI) vwCl (WL cy zL zT zR zI zJ) s.heap := hP
  have hl := lv_entry ([.ref za, .long zjv] : List Value) (n := 5) (Nat.le_of_ble_eq_true rfl)
  rw [lg_entry_eq]
  generalize (lg_sl ([.ref za, .long zjv] : List Value) ++ List.replicate (5 - (lg_sl ([.ref za, .long zjv] : List Value)).length) Slot.unset).toArray = ls at hl ⊢
  have hl : lv_has ls 5 [(0, .ref za), (1, .long zjv)] := hl
  refine w_q (fun Q hQ => ?_)
  have h_zI : WM [] AL zT zR zI zI := WM.rf hw
  refine lv_iconst (v := 0) hx hb dJ7_fill_d0a16_0 (by decide) ?_
  refine lv_istore_n (lv' := [(3, .int 0), (0, .ref za), (1, .long zjv)]) hx hb dJ7_fill_d0a16_1 rfl hl (by decide) rfl (fun ls hl => ?_)
  refine lv_aload_n hx hb dJ7_fill_d0a16_2 rfl (lv_at hl 1 rfl) ?_
  refine ht_alen (v := 24) (n := 24) (q := 1) hx hb hK hP hs t_za (by decide) rfl rfl rfl dJ7_fill_d0a16_3 ?_
  refine lv_istore (lv' := [(4, .int 24), (3, .int 0), (0, .ref za), (1, .long zjv)]) hx hb dJ7_fill_d0a16_4 hl (by decide) rfl (fun ls hl => ?_)
  have lp_25 : ∀ (n : Nat) (zi_19 : Int32) (zJ_20 : Nat → Nat → Int64) (H : Heap) (locs : List Loc) (ls : Array Slot), ((24 : Int) - zi_19.toInt).toNat = n → (0 ≤ zi_19.toInt ∧ zi_19.toInt ≤ 24) → va_P (dC, dI) vwCl (WL cy zL zT zR zI zJ_20) H → va_D A (WL cy zL zT zR zI zJ_20) → va_S A s.heap H locs → lv_has ls 5 [(0, .ref za), (1, .long zjv), (3, .int zi_19), (4, .int 24)] → W p l e ({ frames := 0, cells := 0, slots := 0, locals := 0 } : Room) s m ([.ref za, .long zjv] : List Value).toArray below meth c H locs 0 0 Q (F0 m 6 ls []) := by
    intro n
    induction n using Nat.strongRecOn with
    | _ n ih_25 =>
      intro zi_19 zJ_20 H locs ls hn b_zi_19 hP hD hS hl
      refine lv_iload_n hx hb dJ7_fill_d0a16_6 rfl (lv_at hl 2 rfl) ?_
      refine lv_iload hx hb dJ7_fill_d0a16_7 (lv_at hl 3 rfl) ?_
      refine lv_icmp_ge (tgt := 22) hx hb dJ7_fill_d0a16_9 (by decide) (fun c_26 => ?_) (fun c_26 => ?_)
      · have f_27 : zi_19.toInt ≥ (24 : Int) := ic_ge (rfl) (show (24 : Int32).toInt = 24 by decide) c_26
        subst hQ
        exact W.vret hx hb hr (fun t ht hW => ⟨⟨zJ_20, rfl, trivial, ⟨by rw [ht]; exact hP, va_K.moved hW.alike hK, hD⟩⟩, hS.F ht⟩) hS.2.2 dJ7_fill_d0a16_22
      · have f_27 : ¬ (zi_19.toInt ≥ (24 : Int)) := ic_nge (rfl) (show (24 : Int32).toInt = 24 by decide) c_26
        refine lv_aload_n hx hb dJ7_fill_d0a16_12 rfl (lv_at hl 0 rfl) ?_
        refine lv_iload_n hx hb dJ7_fill_d0a16_13 rfl (lv_at hl 2 rfl) ?_
        refine lv_lload_n hx hb dJ7_fill_d0a16_14 rfl (lv_at hl 1 rfl) ?_
        refine ht_last (v := zjv) (n := 24) (q := 1) hx hb hK hP hD hS hs t_za (by decide) rfl rfl ⟨by omega, by omega⟩ dJ7_fill_d0a16_15 (fun H locs hP hD hS => ?_)
        generalize uzJ_28 : u2 zJ_20 za zi_19.toNatClampNeg zjv = zJ_28 at hP hD
        obtain ⟨zi_29, ezi_29⟩ : ∃ y : Int32, y = zi_19 + 1 := ⟨_, rfl⟩
        have tzi_29 : zi_29.toInt = zi_19.toInt + 1 := by rw [ezi_29]; exact tadd rfl (show (1 : Int32).toInt = 1 by decide) (by omega) (by omega)
        refine lv_iinc (v := zi_29) (lv' := [(3, .int zi_29), (0, .ref za), (1, .long zjv), (4, .int 24)]) hx hb dJ7_fill_d0a16_16 hl (k := 2) rfl (by rw [ezi_29]; rfl) (by decide) rfl (fun ls hl => ?_)
        refine lv_goto (tgt := 6) hx hb dJ7_fill_d0a16_19 (by decide) ?_
        exact ih_25 ((24 : Int) - zi_29.toInt).toNat (by omega) zi_29 zJ_28 _ _ _ rfl (by omega) hP hD hS (lv_sub hl [1, 2, 0, 3] rfl)
  exact lp_25 _ (0 : Int32) zJ _ _ _ rfl (by decide) hP hD hS (lv_sub hl [2, 3, 1, 0] rfl)
set_option maxHeartbeats 8000000 in
set_option maxRecDepth 100000 in
theorem t_J7_fill_bad5a (l : Launch) (dC : Nat → ClassId) (dI : Nat → Nat → Nat) (cy : Nat → ClassId) (sz : Nat) (zL : List Nat) (zT : Nat → Nat) (zR : Nat → Nat → Nat) (zI : Nat → Nat → Int32) (zJ : Nat → Nat → Int64) (za : Nat) (zib : Int32) (zic : Int32) (zjv : Int64) (hs : SKP zL zT zR) (hw : WT zT zR zI) (t_za : zT za = 52) (b_zib : 0 ≤ zib.toInt ∧ zib.toInt ≤ 16224) (b_zic : 0 ≤ zic.toInt ∧ zic.toInt ≤ 16224) (hx1 : 0 ≤ zib.toInt ∧ zib.toInt ≤ zic.toInt ∧ zic.toInt ≤ 16224) : Met l yJ7_fill_bad5a wsJ7_fill_bad5a ({ frames := 1, cells := 0, slots := 0, locals := 22 } : Room) (va_Pc [.ref za, .int zib, .int zic, .long zjv] (PRE dC dI cy (WL cy zL zT zR zI zJ) sz)) (va_Qv (fun (u : (Nat → Nat → Int64)) => True) (fun u t => POST dC dI cy (va_A (WL cy zL zT zR zI zJ) sz) (WL cy zL zT zR zI u) t) (va_A (WL cy zL zT zR zI zJ) sz)) 0 0 (va_A (WL cy zL zT zR zI zJ) sz) := by
  refine Met.ofW (cc := cJ7_fill_bad5a) (maxL := 6) (ret := none) (by decide) rfl ?_
  intro p e s m args below meth c s₁ B hml hv
  obtain ⟨rfl, hsz, hP, hK, hD0, hN⟩ := hv
  have hx := B.exec
  have hb := B.bytes
  have hr := B.returns
  have hts := atoms_spec (ws := wsJ7_fill_bad5a) B.pre
  have hown : s.vm.findClass RJ7 = some m.cls := findClass_of_methodNamed B.named
  have hlocks := B.notSynchronized
  subst hsz
  have hD := hD0.self (sz := s.heap.size)
  generalize hAe : va_A (WL cy zL zT zR zI zJ) s.heap.size = A at hD ⊢
  have hA : ∀ q : Nat, s.heap.size ≤ q → A q := fun q h => by rw [← hAe]; exact Or.inr h
  have hS : va_S A s.heap s.heap [] := va_S.rf
  have hP : va_P (dC, dI) vwCl (WL cy zL zT zR zI zJ) s.heap := hP
  have hl := lv_entry ([.ref za, .int zib, .int zic, .long zjv] : List Value) (n := 6) (Nat.le_of_ble_eq_true rfl)
  rw [lg_entry_eq]
  generalize (lg_sl ([.ref za, .int zib, .int zic, .long zjv] : List Value) ++ List.replicate (6 - (lg_sl ([.ref za, .int zib, .int zic, .long zjv] : List Value)).length) Slot.unset).toArray = ls at hl ⊢
  have hl : lv_has ls 6 [(0, .ref za), (1, .int zib), (2, .int zic), (3, .long zjv)] := hl
  refine w_q (fun Q hQ => ?_)
  have h_zI : WM [] AL zT zR zI zI := WM.rf hw
  refine lv_aload_n hx hb dJ7_fill_bad5a_0 rfl (lv_at hl 0 rfl) ?_
  refine ht_alen (v := 16224) (n := 16224) (q := 1) hx hb hK hP hs t_za (by decide) rfl rfl rfl dJ7_fill_bad5a_1 ?_
  refine lv_iload_n hx hb dJ7_fill_bad5a_2 rfl (lv_at hl 1 rfl) ?_
  refine lv_iload_n hx hb dJ7_fill_bad5a_3 rfl (lv_at hl 2 rfl) ?_
  have qc_16224 : (16224 : Int32).toInt = 16224 := by decide
  refine hj0_v (ws := (WL cy zL zT zR zI zJ)) (va_runS (As := [.int 16224, .int zib, .int zic]) (rest := []) ⟨hx, hb, hml, hown, hts⟩ (c_J7_rangeCheck_23922 l dC dI cy s.heap.size (16224 : Int32) zib zic (by omega)) (va_cwS 3 hts gJ7_fill_bad5a_J7_rangeCheck_23922 rfl rfl rfl (by decide +kernel) ⟨(Nat.le_of_ble_eq_true rfl), (Nat.le_of_ble_eq_true rfl)⟩) (PRE.s (hP.sub [] rfl) hK (hD.sub [] (by decide) rfl) hN) rfl rfl hl.1 rfl (lv_room (Nat.le_of_ble_eq_true rfl)) dJ7_fill_bad5a_4 ⟨(Nat.le_of_ble_eq_true rfl), (Nat.le_of_ble_eq_true rfl)⟩) hP hD hS hA (fun u_3 H locs hw_2 hP hD hS => ?_)
  refine lv_iload_n hx hb dJ7_fill_bad5a_7 rfl (lv_at hl 1 rfl) ?_
  refine lv_istore (lv' := [(5, .int zib), (0, .ref za), (1, .int zib), (2, .int zic), (3, .long zjv)]) hx hb dJ7_fill_bad5a_8 hl (by decide) rfl (fun ls hl => ?_)
  have lp_18 : ∀ (n : Nat) (zi_8 : Int32) (zJ_9 : Nat → Nat → Int64) (H : Heap) (locs : List Loc) (ls : Array Slot), (zic.toInt - zi_8.toInt).toNat = n → (0 ≤ zi_8.toInt ∧ zi_8.toInt ≤ 16224) → va_P (dC, dI) vwCl (WL cy zL zT zR zI zJ_9) H → va_D A (WL cy zL zT zR zI zJ_9) → va_S A s.heap H locs → lv_has ls 6 [(0, .ref za), (1, .int zib), (2, .int zic), (3, .long zjv), (5, .int zi_8)] → W p l e ({ frames := 1, cells := 0, slots := 0, locals := 22 } : Room) s m ([.ref za, .int zib, .int zic, .long zjv] : List Value).toArray below meth c H locs 0 0 Q (F0 m 10 ls []) := by
    intro n
    induction n using Nat.strongRecOn with
    | _ n ih_18 =>
      intro zi_8 zJ_9 H locs ls hn b_zi_8 hP hD hS hl
      refine lv_iload hx hb dJ7_fill_bad5a_10 (lv_at hl 4 rfl) ?_
      refine lv_iload_n hx hb dJ7_fill_bad5a_12 rfl (lv_at hl 2 rfl) ?_
      refine lv_icmp_ge (tgt := 27) hx hb dJ7_fill_bad5a_13 (by decide) (fun c_19 => ?_) (fun c_19 => ?_)
      · have f_20 : zi_8.toInt ≥ zic.toInt := ic_ge (rfl) (rfl) c_19
        subst hQ
        exact W.vret hx hb hr (fun t ht hW => ⟨⟨zJ_9, rfl, trivial, ⟨by rw [ht]; exact hP, va_K.moved hW.alike hK, hD⟩⟩, hS.F ht⟩) hS.2.2 dJ7_fill_bad5a_27
      · have f_20 : ¬ (zi_8.toInt ≥ zic.toInt) := ic_nge (rfl) (rfl) c_19
        refine lv_aload_n hx hb dJ7_fill_bad5a_16 rfl (lv_at hl 0 rfl) ?_
        refine lv_iload hx hb dJ7_fill_bad5a_17 (lv_at hl 4 rfl) ?_
        refine lv_lload_n hx hb dJ7_fill_bad5a_19 rfl (lv_at hl 3 rfl) ?_
        refine ht_last (v := zjv) (n := 16224) (q := 1) hx hb hK hP hD hS hs t_za (by decide) rfl rfl ⟨by omega, by omega⟩ dJ7_fill_bad5a_20 (fun H locs hP hD hS => ?_)
        generalize uzJ_21 : u2 zJ_9 za zi_8.toNatClampNeg zjv = zJ_21 at hP hD
        obtain ⟨zi_22, ezi_22⟩ : ∃ y : Int32, y = zi_8 + 1 := ⟨_, rfl⟩
        have tzi_22 : zi_22.toInt = zi_8.toInt + 1 := by rw [ezi_22]; exact tadd rfl (show (1 : Int32).toInt = 1 by decide) (by omega) (by omega)
        refine lv_iinc (v := zi_22) (lv' := [(5, .int zi_22), (0, .ref za), (1, .int zib), (2, .int zic), (3, .long zjv)]) hx hb dJ7_fill_bad5a_21 hl (k := 4) rfl (by rw [ezi_22]; rfl) (by decide) rfl (fun ls hl => ?_)
        refine lv_goto (tgt := 10) hx hb dJ7_fill_bad5a_24 (by decide) ?_
        exact ih_18 (zic.toInt - zi_22.toInt).toNat (by omega) zi_22 zJ_21 _ _ _ rfl (by omega) hP hD hS (lv_sub hl [1, 2, 3, 4, 0] rfl)
  exact lp_18 _ zib zJ _ _ _ rfl (by omega) hP hD hS (lv_sub hl [1, 2, 3, 4, 0] rfl)
set_option maxHeartbeats 8000000 in
set_option maxRecDepth 100000 in
theorem t_copyRow_20_70 (l : Launch) (dC : Nat → ClassId) (dI : Nat → Nat → Nat) (cy : Nat → ClassId) (sz : Nat) (zL : List Nat) (zT : Nat → Nat) (zR : Nat → Nat → Nat) (zI : Nat → Nat → Int32) (zJ : Nat → Nat → Int64) (za : Nat) (zb : Nat) (hs : SKP zL zT zR) (hw : WT zT zR zI) (t_za : zT za = 20) (t_zb : zT zb = 70) : Met l yX10_copyRow wsX10_copyRow ({ frames := 1, cells := 0, slots := 0, locals := 30 } : Room) (va_Pc [.ref za, .ref zb] (PRE dC dI cy (WL cy zL zT zR zI zJ) sz)) (va_Qv (fun (u : (Nat → Nat → Int32)) => (WM [7000] AL zT zR zI u)) (fun u t => POST dC dI cy (va_A (WL cy zL zT zR zI zJ) sz) (WL cy zL zT zR u zJ) t) (va_A (WL cy zL zT zR zI zJ) sz)) 0 0 (va_A (WL cy zL zT zR zI zJ) sz) := by
  refine Met.ofW (cc := cX10_copyRow) (maxL := 2) (ret := none) (by decide) rfl ?_
  intro p e s m args below meth c s₁ B hml hv
  obtain ⟨rfl, hsz, hP, hK, hD0, hN⟩ := hv
  have hx := B.exec
  have hb := B.bytes
  have hr := B.returns
  have hts := atoms_spec (ws := wsX10_copyRow) B.pre
  have hown : s.vm.findClass RX10 = some m.cls := findClass_of_methodNamed B.named
  have hlocks := B.notSynchronized
  subst hsz
  have hD := hD0.self (sz := s.heap.size)
  generalize hAe : va_A (WL cy zL zT zR zI zJ) s.heap.size = A at hD ⊢
  have hA : ∀ q : Nat, s.heap.size ≤ q → A q := fun q h => by rw [← hAe]; exact Or.inr h
  have hS : va_S A s.heap s.heap [] := va_S.rf
  have hP : va_P (dC, dI) vwCl (WL cy zL zT zR zI zJ) s.heap := hP
  have hl := lv_entry ([.ref za, .ref zb] : List Value) (n := 2) (Nat.le_of_ble_eq_true rfl)
  rw [lg_entry_eq]
  generalize (lg_sl ([.ref za, .ref zb] : List Value) ++ List.replicate (2 - (lg_sl ([.ref za, .ref zb] : List Value)).length) Slot.unset).toArray = ls at hl ⊢
  have hl : lv_has ls 2 [(0, .ref za), (1, .ref zb)] := hl
  refine w_q (fun Q hQ => ?_)
  have h_zI : WM [7000] AL zT zR zI zI := WM.rf hw
  refine lv_aload_n hx hb dX10_copyRow_0 rfl (lv_at hl 0 rfl) ?_
  refine lv_iconst (v := 0) hx hb dX10_copyRow_1 (by decide) ?_
  refine lv_aload_n hx hb dX10_copyRow_2 rfl (lv_at hl 1 rfl) ?_
  refine lv_iconst (v := 0) hx hb dX10_copyRow_3 (by decide) ?_
  refine lv_aload_n hx hb dX10_copyRow_4 rfl (lv_at hl 0 rfl) ?_
  refine ht_alen (v := 12) (n := 12) (q := 0) hx hb hK hP hs t_za (by decide) rfl rfl rfl dX10_copyRow_5 ?_
  refine lv_aload_n hx hb dX10_copyRow_6 rfl (lv_at hl 1 rfl) ?_
  refine ht_alen (v := 12) (n := 12) (q := 0) hx hb hK hP hs t_zb (by decide) rfl rfl rfl dX10_copyRow_7 ?_
  refine va_mmin hx hb (by rw [hml]; exact hl.1.symm) hown (hts (.methodLink RX10 382 Lib.Math.min.name) (by decide +kernel)) (hts (.static Lib.Math.min.name) (by decide +kernel)) (hts (.initialized "java/lang/Math") (by decide +kernel)) (hts (.code Lib.Math.min.name Lib.Math.min.code 2 (some .int)) (by decide +kernel)) (Nat.le_of_ble_eq_true rfl) (Nat.le_of_ble_eq_true rfl) (Nat.le_of_ble_eq_true rfl) (Nat.le_of_ble_eq_true rfl) dX10_copyRow_8 ?_
  refine lv_topi (fun zi_1 ezi_1 => ?_)
  obtain rfl : zi_1 = (12 : Int32) := ezi_1.trans (by decide)
  refine ht_cpi (sp := (0 : Int32)) (dp := (0 : Int32)) (n := (12 : Int32)) (n1 := 12) (n2 := 12) (q := 0) hx hb (by rw [hml]; exact hl.1.symm) hown (hts (.methodLink RX10 385 arraycopyName) (by decide +kernel)) (hts (.native arraycopyName) (by decide +kernel)) (hts (.static arraycopyName) (by decide +kernel)) (hts (.initialized "java/lang/System") (by decide +kernel)) hK hP hD hS hs t_zb t_za (by decide) (by decide) rfl rfl rfl (by decide) (by decide) (by decide) (by decide) (by decide) (Nat.le_of_ble_eq_true rfl) (by decide) dX10_copyRow_11 (fun H locs hP hD hS => ?_)
  have h_zI_2 : WM [7000] AL zT zR zI (ur zI zb (va_cpy (zI za) (zI zb) (0 : Int32).toNatClampNeg (0 : Int32).toNatClampNeg (12 : Int32).toNatClampNeg)) := h_zI.cpy hs t_za t_zb (by decide) (by decide) rfl (by decide) (by decide) trivial
  generalize uzI_2 : ur zI zb (va_cpy (zI za) (zI zb) (0 : Int32).toNatClampNeg (0 : Int32).toNatClampNeg (12 : Int32).toNatClampNeg) = zI_2 at hP hD h_zI_2
  subst hQ
  exact W.vret hx hb hr (fun t ht hW => ⟨⟨zI_2, rfl, h_zI_2, ⟨by rw [ht]; exact hP, va_K.moved hW.alike hK, hD⟩⟩, hS.F ht⟩) hS.2.2 dX10_copyRow_14
set_option maxHeartbeats 8000000 in
set_option maxRecDepth 100000 in
theorem t_copyRow_70_20 (l : Launch) (dC : Nat → ClassId) (dI : Nat → Nat → Nat) (cy : Nat → ClassId) (sz : Nat) (zL : List Nat) (zT : Nat → Nat) (zR : Nat → Nat → Nat) (zI : Nat → Nat → Int32) (zJ : Nat → Nat → Int64) (za : Nat) (zb : Nat) (hs : SKP zL zT zR) (hw : WT zT zR zI) (t_za : zT za = 70) (t_zb : zT zb = 20) : Met l yX10_copyRow wsX10_copyRow ({ frames := 1, cells := 0, slots := 0, locals := 30 } : Room) (va_Pc [.ref za, .ref zb] (PRE dC dI cy (WL cy zL zT zR zI zJ) sz)) (va_Qv (fun (u : (Nat → Nat → Int32)) => (WM [2000] AL zT zR zI u)) (fun u t => POST dC dI cy (va_A (WL cy zL zT zR zI zJ) sz) (WL cy zL zT zR u zJ) t) (va_A (WL cy zL zT zR zI zJ) sz)) 0 0 (va_A (WL cy zL zT zR zI zJ) sz) := by
  refine Met.ofW (cc := cX10_copyRow) (maxL := 2) (ret := none) (by decide) rfl ?_
  intro p e s m args below meth c s₁ B hml hv
  obtain ⟨rfl, hsz, hP, hK, hD0, hN⟩ := hv
  have hx := B.exec
  have hb := B.bytes
  have hr := B.returns
  have hts := atoms_spec (ws := wsX10_copyRow) B.pre
  have hown : s.vm.findClass RX10 = some m.cls := findClass_of_methodNamed B.named
  have hlocks := B.notSynchronized
  subst hsz
  have hD := hD0.self (sz := s.heap.size)
  generalize hAe : va_A (WL cy zL zT zR zI zJ) s.heap.size = A at hD ⊢
  have hA : ∀ q : Nat, s.heap.size ≤ q → A q := fun q h => by rw [← hAe]; exact Or.inr h
  have hS : va_S A s.heap s.heap [] := va_S.rf
  have hP : va_P (dC, dI) vwCl (WL cy zL zT zR zI zJ) s.heap := hP
  have hl := lv_entry ([.ref za, .ref zb] : List Value) (n := 2) (Nat.le_of_ble_eq_true rfl)
  rw [lg_entry_eq]
  generalize (lg_sl ([.ref za, .ref zb] : List Value) ++ List.replicate (2 - (lg_sl ([.ref za, .ref zb] : List Value)).length) Slot.unset).toArray = ls at hl ⊢
  have hl : lv_has ls 2 [(0, .ref za), (1, .ref zb)] := hl
  refine w_q (fun Q hQ => ?_)
  have h_zI : WM [2000] AL zT zR zI zI := WM.rf hw
  refine lv_aload_n hx hb dX10_copyRow_0 rfl (lv_at hl 0 rfl) ?_
  refine lv_iconst (v := 0) hx hb dX10_copyRow_1 (by decide) ?_
  refine lv_aload_n hx hb dX10_copyRow_2 rfl (lv_at hl 1 rfl) ?_
  refine lv_iconst (v := 0) hx hb dX10_copyRow_3 (by decide) ?_
  refine lv_aload_n hx hb dX10_copyRow_4 rfl (lv_at hl 0 rfl) ?_
  refine ht_alen (v := 12) (n := 12) (q := 0) hx hb hK hP hs t_za (by decide) rfl rfl rfl dX10_copyRow_5 ?_
  refine lv_aload_n hx hb dX10_copyRow_6 rfl (lv_at hl 1 rfl) ?_
  refine ht_alen (v := 12) (n := 12) (q := 0) hx hb hK hP hs t_zb (by decide) rfl rfl rfl dX10_copyRow_7 ?_
  refine va_mmin hx hb (by rw [hml]; exact hl.1.symm) hown (hts (.methodLink RX10 382 Lib.Math.min.name) (by decide +kernel)) (hts (.static Lib.Math.min.name) (by decide +kernel)) (hts (.initialized "java/lang/Math") (by decide +kernel)) (hts (.code Lib.Math.min.name Lib.Math.min.code 2 (some .int)) (by decide +kernel)) (Nat.le_of_ble_eq_true rfl) (Nat.le_of_ble_eq_true rfl) (Nat.le_of_ble_eq_true rfl) (Nat.le_of_ble_eq_true rfl) dX10_copyRow_8 ?_
  refine lv_topi (fun zi_1 ezi_1 => ?_)
  obtain rfl : zi_1 = (12 : Int32) := ezi_1.trans (by decide)
  refine ht_cpi (sp := (0 : Int32)) (dp := (0 : Int32)) (n := (12 : Int32)) (n1 := 12) (n2 := 12) (q := 0) hx hb (by rw [hml]; exact hl.1.symm) hown (hts (.methodLink RX10 385 arraycopyName) (by decide +kernel)) (hts (.native arraycopyName) (by decide +kernel)) (hts (.static arraycopyName) (by decide +kernel)) (hts (.initialized "java/lang/System") (by decide +kernel)) hK hP hD hS hs t_zb t_za (by decide) (by decide) rfl rfl rfl (by decide) (by decide) (by decide) (by decide) (by decide) (Nat.le_of_ble_eq_true rfl) (by decide) dX10_copyRow_11 (fun H locs hP hD hS => ?_)
  have h_zI_2 : WM [2000] AL zT zR zI (ur zI zb (va_cpy (zI za) (zI zb) (0 : Int32).toNatClampNeg (0 : Int32).toNatClampNeg (12 : Int32).toNatClampNeg)) := h_zI.cpy hs t_za t_zb (by decide) (by decide) rfl (by decide) (by decide) trivial
  generalize uzI_2 : ur zI zb (va_cpy (zI za) (zI zb) (0 : Int32).toNatClampNeg (0 : Int32).toNatClampNeg (12 : Int32).toNatClampNeg) = zI_2 at hP hD h_zI_2
  subst hQ
  exact W.vret hx hb hr (fun t ht hW => ⟨⟨zI_2, rfl, h_zI_2, ⟨by rw [ht]; exact hP, va_K.moved hW.alike hK, hD⟩⟩, hS.F ht⟩) hS.2.2 dX10_copyRow_14
set_option maxHeartbeats 8000000 in
set_option maxRecDepth 100000 in
theorem t_copyRow_21_71 (l : Launch) (dC : Nat → ClassId) (dI : Nat → Nat → Nat) (cy : Nat → ClassId) (sz : Nat) (zL : List Nat) (zT : Nat → Nat) (zR : Nat → Nat → Nat) (zI : Nat → Nat → Int32) (zJ : Nat → Nat → Int64) (za : Nat) (zb : Nat) (hs : SKP zL zT zR) (hw : WT zT zR zI) (t_za : zT za = 21) (t_zb : zT zb = 71) : Met l yX10_copyRow wsX10_copyRow ({ frames := 1, cells := 0, slots := 0, locals := 30 } : Room) (va_Pc [.ref za, .ref zb] (PRE dC dI cy (WL cy zL zT zR zI zJ) sz)) (va_Qv (fun (u : (Nat → Nat → Int32)) => (WM [7100] AL zT zR zI u)) (fun u t => POST dC dI cy (va_A (WL cy zL zT zR zI zJ) sz) (WL cy zL zT zR u zJ) t) (va_A (WL cy zL zT zR zI zJ) sz)) 0 0 (va_A (WL cy zL zT zR zI zJ) sz) := by
  refine Met.ofW (cc := cX10_copyRow) (maxL := 2) (ret := none) (by decide) rfl ?_
  intro p e s m args below meth c s₁ B hml hv
  obtain ⟨rfl, hsz, hP, hK, hD0, hN⟩ := hv
  have hx := B.exec
  have hb := B.bytes
  have hr := B.returns
  have hts := atoms_spec (ws := wsX10_copyRow) B.pre
  have hown : s.vm.findClass RX10 = some m.cls := findClass_of_methodNamed B.named
  have hlocks := B.notSynchronized
  subst hsz
  have hD := hD0.self (sz := s.heap.size)
  generalize hAe : va_A (WL cy zL zT zR zI zJ) s.heap.size = A at hD ⊢
  have hA : ∀ q : Nat, s.heap.size ≤ q → A q := fun q h => by rw [← hAe]; exact Or.inr h
  have hS : va_S A s.heap s.heap [] := va_S.rf
  have hP : va_P (dC, dI) vwCl (WL cy zL zT zR zI zJ) s.heap := hP
  have hl := lv_entry ([.ref za, .ref zb] : List Value) (n := 2) (Nat.le_of_ble_eq_true rfl)
  rw [lg_entry_eq]
  generalize (lg_sl ([.ref za, .ref zb] : List Value) ++ List.replicate (2 - (lg_sl ([.ref za, .ref zb] : List Value)).length) Slot.unset).toArray = ls at hl ⊢
  have hl : lv_has ls 2 [(0, .ref za), (1, .ref zb)] := hl
  refine w_q (fun Q hQ => ?_)
  have h_zI : WM [7100] AL zT zR zI zI := WM.rf hw
  refine lv_aload_n hx hb dX10_copyRow_0 rfl (lv_at hl 0 rfl) ?_
  refine lv_iconst (v := 0) hx hb dX10_copyRow_1 (by decide) ?_
  refine lv_aload_n hx hb dX10_copyRow_2 rfl (lv_at hl 1 rfl) ?_
  refine lv_iconst (v := 0) hx hb dX10_copyRow_3 (by decide) ?_
  refine lv_aload_n hx hb dX10_copyRow_4 rfl (lv_at hl 0 rfl) ?_
  refine ht_alen (v := 12) (n := 12) (q := 0) hx hb hK hP hs t_za (by decide) rfl rfl rfl dX10_copyRow_5 ?_
  refine lv_aload_n hx hb dX10_copyRow_6 rfl (lv_at hl 1 rfl) ?_
  refine ht_alen (v := 12) (n := 12) (q := 0) hx hb hK hP hs t_zb (by decide) rfl rfl rfl dX10_copyRow_7 ?_
  refine va_mmin hx hb (by rw [hml]; exact hl.1.symm) hown (hts (.methodLink RX10 382 Lib.Math.min.name) (by decide +kernel)) (hts (.static Lib.Math.min.name) (by decide +kernel)) (hts (.initialized "java/lang/Math") (by decide +kernel)) (hts (.code Lib.Math.min.name Lib.Math.min.code 2 (some .int)) (by decide +kernel)) (Nat.le_of_ble_eq_true rfl) (Nat.le_of_ble_eq_true rfl) (Nat.le_of_ble_eq_true rfl) (Nat.le_of_ble_eq_true rfl) dX10_copyRow_8 ?_
  refine lv_topi (fun zi_1 ezi_1 => ?_)
  obtain rfl : zi_1 = (12 : Int32) := ezi_1.trans (by decide)
  refine ht_cpi (sp := (0 : Int32)) (dp := (0 : Int32)) (n := (12 : Int32)) (n1 := 12) (n2 := 12) (q := 0) hx hb (by rw [hml]; exact hl.1.symm) hown (hts (.methodLink RX10 385 arraycopyName) (by decide +kernel)) (hts (.native arraycopyName) (by decide +kernel)) (hts (.static arraycopyName) (by decide +kernel)) (hts (.initialized "java/lang/System") (by decide +kernel)) hK hP hD hS hs t_zb t_za (by decide) (by decide) rfl rfl rfl (by decide) (by decide) (by decide) (by decide) (by decide) (Nat.le_of_ble_eq_true rfl) (by decide) dX10_copyRow_11 (fun H locs hP hD hS => ?_)
  have h_zI_2 : WM [7100] AL zT zR zI (ur zI zb (va_cpy (zI za) (zI zb) (0 : Int32).toNatClampNeg (0 : Int32).toNatClampNeg (12 : Int32).toNatClampNeg)) := h_zI.cpy hs t_za t_zb (by decide) (by decide) rfl (by decide) (by decide) trivial
  generalize uzI_2 : ur zI zb (va_cpy (zI za) (zI zb) (0 : Int32).toNatClampNeg (0 : Int32).toNatClampNeg (12 : Int32).toNatClampNeg) = zI_2 at hP hD h_zI_2
  subst hQ
  exact W.vret hx hb hr (fun t ht hW => ⟨⟨zI_2, rfl, h_zI_2, ⟨by rw [ht]; exact hP, va_K.moved hW.alike hK, hD⟩⟩, hS.F ht⟩) hS.2.2 dX10_copyRow_14
set_option maxHeartbeats 8000000 in
set_option maxRecDepth 100000 in
theorem t_copyRow_71_21 (l : Launch) (dC : Nat → ClassId) (dI : Nat → Nat → Nat) (cy : Nat → ClassId) (sz : Nat) (zL : List Nat) (zT : Nat → Nat) (zR : Nat → Nat → Nat) (zI : Nat → Nat → Int32) (zJ : Nat → Nat → Int64) (za : Nat) (zb : Nat) (hs : SKP zL zT zR) (hw : WT zT zR zI) (t_za : zT za = 71) (t_zb : zT zb = 21) : Met l yX10_copyRow wsX10_copyRow ({ frames := 1, cells := 0, slots := 0, locals := 30 } : Room) (va_Pc [.ref za, .ref zb] (PRE dC dI cy (WL cy zL zT zR zI zJ) sz)) (va_Qv (fun (u : (Nat → Nat → Int32)) => (WM [2100] AL zT zR zI u)) (fun u t => POST dC dI cy (va_A (WL cy zL zT zR zI zJ) sz) (WL cy zL zT zR u zJ) t) (va_A (WL cy zL zT zR zI zJ) sz)) 0 0 (va_A (WL cy zL zT zR zI zJ) sz) := by
  refine Met.ofW (cc := cX10_copyRow) (maxL := 2) (ret := none) (by decide) rfl ?_
  intro p e s m args below meth c s₁ B hml hv
  obtain ⟨rfl, hsz, hP, hK, hD0, hN⟩ := hv
  have hx := B.exec
  have hb := B.bytes
  have hr := B.returns
  have hts := atoms_spec (ws := wsX10_copyRow) B.pre
  have hown : s.vm.findClass RX10 = some m.cls := findClass_of_methodNamed B.named
  have hlocks := B.notSynchronized
  subst hsz
  have hD := hD0.self (sz := s.heap.size)
  generalize hAe : va_A (WL cy zL zT zR zI zJ) s.heap.size = A at hD ⊢
  have hA : ∀ q : Nat, s.heap.size ≤ q → A q := fun q h => by rw [← hAe]; exact Or.inr h
  have hS : va_S A s.heap s.heap [] := va_S.rf
  have hP : va_P (dC, dI) vwCl (WL cy zL zT zR zI zJ) s.heap := hP
  have hl := lv_entry ([.ref za, .ref zb] : List Value) (n := 2) (Nat.le_of_ble_eq_true rfl)
  rw [lg_entry_eq]
  generalize (lg_sl ([.ref za, .ref zb] : List Value) ++ List.replicate (2 - (lg_sl ([.ref za, .ref zb] : List Value)).length) Slot.unset).toArray = ls at hl ⊢
  have hl : lv_has ls 2 [(0, .ref za), (1, .ref zb)] := hl
  refine w_q (fun Q hQ => ?_)
  have h_zI : WM [2100] AL zT zR zI zI := WM.rf hw
  refine lv_aload_n hx hb dX10_copyRow_0 rfl (lv_at hl 0 rfl) ?_
  refine lv_iconst (v := 0) hx hb dX10_copyRow_1 (by decide) ?_
  refine lv_aload_n hx hb dX10_copyRow_2 rfl (lv_at hl 1 rfl) ?_
  refine lv_iconst (v := 0) hx hb dX10_copyRow_3 (by decide) ?_
  refine lv_aload_n hx hb dX10_copyRow_4 rfl (lv_at hl 0 rfl) ?_
  refine ht_alen (v := 12) (n := 12) (q := 0) hx hb hK hP hs t_za (by decide) rfl rfl rfl dX10_copyRow_5 ?_
  refine lv_aload_n hx hb dX10_copyRow_6 rfl (lv_at hl 1 rfl) ?_
  refine ht_alen (v := 12) (n := 12) (q := 0) hx hb hK hP hs t_zb (by decide) rfl rfl rfl dX10_copyRow_7 ?_
  refine va_mmin hx hb (by rw [hml]; exact hl.1.symm) hown (hts (.methodLink RX10 382 Lib.Math.min.name) (by decide +kernel)) (hts (.static Lib.Math.min.name) (by decide +kernel)) (hts (.initialized "java/lang/Math") (by decide +kernel)) (hts (.code Lib.Math.min.name Lib.Math.min.code 2 (some .int)) (by decide +kernel)) (Nat.le_of_ble_eq_true rfl) (Nat.le_of_ble_eq_true rfl) (Nat.le_of_ble_eq_true rfl) (Nat.le_of_ble_eq_true rfl) dX10_copyRow_8 ?_
  refine lv_topi (fun zi_1 ezi_1 => ?_)
  obtain rfl : zi_1 = (12 : Int32) := ezi_1.trans (by decide)
  refine ht_cpi (sp := (0 : Int32)) (dp := (0 : Int32)) (n := (12 : Int32)) (n1 := 12) (n2 := 12) (q := 0) hx hb (by rw [hml]; exact hl.1.symm) hown (hts (.methodLink RX10 385 arraycopyName) (by decide +kernel)) (hts (.native arraycopyName) (by decide +kernel)) (hts (.static arraycopyName) (by decide +kernel)) (hts (.initialized "java/lang/System") (by decide +kernel)) hK hP hD hS hs t_zb t_za (by decide) (by decide) rfl rfl rfl (by decide) (by decide) (by decide) (by decide) (by decide) (Nat.le_of_ble_eq_true rfl) (by decide) dX10_copyRow_11 (fun H locs hP hD hS => ?_)
  have h_zI_2 : WM [2100] AL zT zR zI (ur zI zb (va_cpy (zI za) (zI zb) (0 : Int32).toNatClampNeg (0 : Int32).toNatClampNeg (12 : Int32).toNatClampNeg)) := h_zI.cpy hs t_za t_zb (by decide) (by decide) rfl (by decide) (by decide) trivial
  generalize uzI_2 : ur zI zb (va_cpy (zI za) (zI zb) (0 : Int32).toNatClampNeg (0 : Int32).toNatClampNeg (12 : Int32).toNatClampNeg) = zI_2 at hP hD h_zI_2
  subst hQ
  exact W.vret hx hb hr (fun t ht hW => ⟨⟨zI_2, rfl, h_zI_2, ⟨by rw [ht]; exact hP, va_K.moved hW.alike hK, hD⟩⟩, hS.F ht⟩) hS.2.2 dX10_copyRow_14
set_option maxHeartbeats 8000000 in
set_option maxRecDepth 100000 in
theorem t_copyRow_22_72 (l : Launch) (dC : Nat → ClassId) (dI : Nat → Nat → Nat) (cy : Nat → ClassId) (sz : Nat) (zL : List Nat) (zT : Nat → Nat) (zR : Nat → Nat → Nat) (zI : Nat → Nat → Int32) (zJ : Nat → Nat → Int64) (za : Nat) (zb : Nat) (hs : SKP zL zT zR) (hw : WT zT zR zI) (t_za : zT za = 22) (t_zb : zT zb = 72) : Met l yX10_copyRow wsX10_copyRow ({ frames := 1, cells := 0, slots := 0, locals := 30 } : Room) (va_Pc [.ref za, .ref zb] (PRE dC dI cy (WL cy zL zT zR zI zJ) sz)) (va_Qv (fun (u : (Nat → Nat → Int32)) => (WM [7200] AL zT zR zI u)) (fun u t => POST dC dI cy (va_A (WL cy zL zT zR zI zJ) sz) (WL cy zL zT zR u zJ) t) (va_A (WL cy zL zT zR zI zJ) sz)) 0 0 (va_A (WL cy zL zT zR zI zJ) sz) := by
  refine Met.ofW (cc := cX10_copyRow) (maxL := 2) (ret := none) (by decide) rfl ?_
  intro p e s m args below meth c s₁ B hml hv
  obtain ⟨rfl, hsz, hP, hK, hD0, hN⟩ := hv
  have hx := B.exec
  have hb := B.bytes
  have hr := B.returns
  have hts := atoms_spec (ws := wsX10_copyRow) B.pre
  have hown : s.vm.findClass RX10 = some m.cls := findClass_of_methodNamed B.named
  have hlocks := B.notSynchronized
  subst hsz
  have hD := hD0.self (sz := s.heap.size)
  generalize hAe : va_A (WL cy zL zT zR zI zJ) s.heap.size = A at hD ⊢
  have hA : ∀ q : Nat, s.heap.size ≤ q → A q := fun q h => by rw [← hAe]; exact Or.inr h
  have hS : va_S A s.heap s.heap [] := va_S.rf
  have hP : va_P (dC, dI) vwCl (WL cy zL zT zR zI zJ) s.heap := hP
  have hl := lv_entry ([.ref za, .ref zb] : List Value) (n := 2) (Nat.le_of_ble_eq_true rfl)
  rw [lg_entry_eq]
  generalize (lg_sl ([.ref za, .ref zb] : List Value) ++ List.replicate (2 - (lg_sl ([.ref za, .ref zb] : List Value)).length) Slot.unset).toArray = ls at hl ⊢
  have hl : lv_has ls 2 [(0, .ref za), (1, .ref zb)] := hl
  refine w_q (fun Q hQ => ?_)
  have h_zI : WM [7200] AL zT zR zI zI := WM.rf hw
  refine lv_aload_n hx hb dX10_copyRow_0 rfl (lv_at hl 0 rfl) ?_
  refine lv_iconst (v := 0) hx hb dX10_copyRow_1 (by decide) ?_
  refine lv_aload_n hx hb dX10_copyRow_2 rfl (lv_at hl 1 rfl) ?_
  refine lv_iconst (v := 0) hx hb dX10_copyRow_3 (by decide) ?_
  refine lv_aload_n hx hb dX10_copyRow_4 rfl (lv_at hl 0 rfl) ?_
  refine ht_alen (v := 6) (n := 6) (q := 0) hx hb hK hP hs t_za (by decide) rfl rfl rfl dX10_copyRow_5 ?_
  refine lv_aload_n hx hb dX10_copyRow_6 rfl (lv_at hl 1 rfl) ?_
  refine ht_alen (v := 6) (n := 6) (q := 0) hx hb hK hP hs t_zb (by decide) rfl rfl rfl dX10_copyRow_7 ?_
  refine va_mmin hx hb (by rw [hml]; exact hl.1.symm) hown (hts (.methodLink RX10 382 Lib.Math.min.name) (by decide +kernel)) (hts (.static Lib.Math.min.name) (by decide +kernel)) (hts (.initialized "java/lang/Math") (by decide +kernel)) (hts (.code Lib.Math.min.name Lib.Math.min.code 2 (some .int)) (by decide +kernel)) (Nat.le_of_ble_eq_true rfl) (Nat.le_of_ble_eq_true rfl) (Nat.le_of_ble_eq_true rfl) (Nat.le_of_ble_eq_true rfl) dX10_copyRow_8 ?_
  refine lv_topi (fun zi_1 ezi_1 => ?_)
  obtain rfl : zi_1 = (6 : Int32) := ezi_1.trans (by decide)
  refine ht_cpi (sp := (0 : Int32)) (dp := (0 : Int32)) (n := (6 : Int32)) (n1 := 6) (n2 := 6) (q := 0) hx hb (by rw [hml]; exact hl.1.symm) hown (hts (.methodLink RX10 385 arraycopyName) (by decide +kernel)) (hts (.native arraycopyName) (by decide +kernel)) (hts (.static arraycopyName) (by decide +kernel)) (hts (.initialized "java/lang/System") (by decide +kernel)) hK hP hD hS hs t_zb t_za (by decide) (by decide) rfl rfl rfl (by decide) (by decide) (by decide) (by decide) (by decide) (Nat.le_of_ble_eq_true rfl) (by decide) dX10_copyRow_11 (fun H locs hP hD hS => ?_)
  have h_zI_2 : WM [7200] AL zT zR zI (ur zI zb (va_cpy (zI za) (zI zb) (0 : Int32).toNatClampNeg (0 : Int32).toNatClampNeg (6 : Int32).toNatClampNeg)) := h_zI.cpy hs t_za t_zb (by decide) (by decide) rfl (by decide) (by decide) trivial
  generalize uzI_2 : ur zI zb (va_cpy (zI za) (zI zb) (0 : Int32).toNatClampNeg (0 : Int32).toNatClampNeg (6 : Int32).toNatClampNeg) = zI_2 at hP hD h_zI_2
  subst hQ
  exact W.vret hx hb hr (fun t ht hW => ⟨⟨zI_2, rfl, h_zI_2, ⟨by rw [ht]; exact hP, va_K.moved hW.alike hK, hD⟩⟩, hS.F ht⟩) hS.2.2 dX10_copyRow_14
set_option maxHeartbeats 8000000 in
set_option maxRecDepth 100000 in
theorem t_copyRow_72_22 (l : Launch) (dC : Nat → ClassId) (dI : Nat → Nat → Nat) (cy : Nat → ClassId) (sz : Nat) (zL : List Nat) (zT : Nat → Nat) (zR : Nat → Nat → Nat) (zI : Nat → Nat → Int32) (zJ : Nat → Nat → Int64) (za : Nat) (zb : Nat) (hs : SKP zL zT zR) (hw : WT zT zR zI) (t_za : zT za = 72) (t_zb : zT zb = 22) : Met l yX10_copyRow wsX10_copyRow ({ frames := 1, cells := 0, slots := 0, locals := 30 } : Room) (va_Pc [.ref za, .ref zb] (PRE dC dI cy (WL cy zL zT zR zI zJ) sz)) (va_Qv (fun (u : (Nat → Nat → Int32)) => (WM [2200] AL zT zR zI u)) (fun u t => POST dC dI cy (va_A (WL cy zL zT zR zI zJ) sz) (WL cy zL zT zR u zJ) t) (va_A (WL cy zL zT zR zI zJ) sz)) 0 0 (va_A (WL cy zL zT zR zI zJ) sz) := by
  refine Met.ofW (cc := cX10_copyRow) (maxL := 2) (ret := none) (by decide) rfl ?_
  intro p e s m args below meth c s₁ B hml hv
  obtain ⟨rfl, hsz, hP, hK, hD0, hN⟩ := hv
  have hx := B.exec
  have hb := B.bytes
  have hr := B.returns
  have hts := atoms_spec (ws := wsX10_copyRow) B.pre
  have hown : s.vm.findClass RX10 = some m.cls := findClass_of_methodNamed B.named
  have hlocks := B.notSynchronized
  subst hsz
  have hD := hD0.self (sz := s.heap.size)
  generalize hAe : va_A (WL cy zL zT zR zI zJ) s.heap.size = A at hD ⊢
  have hA : ∀ q : Nat, s.heap.size ≤ q → A q := fun q h => by rw [← hAe]; exact Or.inr h
  have hS : va_S A s.heap s.heap [] := va_S.rf
  have hP : va_P (dC, dI) vwCl (WL cy zL zT zR zI zJ) s.heap := hP
  have hl := lv_entry ([.ref za, .ref zb] : List Value) (n := 2) (Nat.le_of_ble_eq_true rfl)
  rw [lg_entry_eq]
  generalize (lg_sl ([.ref za, .ref zb] : List Value) ++ List.replicate (2 - (lg_sl ([.ref za, .ref zb] : List Value)).length) Slot.unset).toArray = ls at hl ⊢
  have hl : lv_has ls 2 [(0, .ref za), (1, .ref zb)] := hl
  refine w_q (fun Q hQ => ?_)
  have h_zI : WM [2200] AL zT zR zI zI := WM.rf hw
  refine lv_aload_n hx hb dX10_copyRow_0 rfl (lv_at hl 0 rfl) ?_
  refine lv_iconst (v := 0) hx hb dX10_copyRow_1 (by decide) ?_
  refine lv_aload_n hx hb dX10_copyRow_2 rfl (lv_at hl 1 rfl) ?_
  refine lv_iconst (v := 0) hx hb dX10_copyRow_3 (by decide) ?_
  refine lv_aload_n hx hb dX10_copyRow_4 rfl (lv_at hl 0 rfl) ?_
  refine ht_alen (v := 6) (n := 6) (q := 0) hx hb hK hP hs t_za (by decide) rfl rfl rfl dX10_copyRow_5 ?_
  refine lv_aload_n hx hb dX10_copyRow_6 rfl (lv_at hl 1 rfl) ?_
  refine ht_alen (v := 6) (n := 6) (q := 0) hx hb hK hP hs t_zb (by decide) rfl rfl rfl dX10_copyRow_7 ?_
  refine va_mmin hx hb (by rw [hml]; exact hl.1.symm) hown (hts (.methodLink RX10 382 Lib.Math.min.name) (by decide +kernel)) (hts (.static Lib.Math.min.name) (by decide +kernel)) (hts (.initialized "java/lang/Math") (by decide +kernel)) (hts (.code Lib.Math.min.name Lib.Math.min.code 2 (some .int)) (by decide +kernel)) (Nat.le_of_ble_eq_true rfl) (Nat.le_of_ble_eq_true rfl) (Nat.le_of_ble_eq_true rfl) (Nat.le_of_ble_eq_true rfl) dX10_copyRow_8 ?_
  refine lv_topi (fun zi_1 ezi_1 => ?_)
  obtain rfl : zi_1 = (6 : Int32) := ezi_1.trans (by decide)
  refine ht_cpi (sp := (0 : Int32)) (dp := (0 : Int32)) (n := (6 : Int32)) (n1 := 6) (n2 := 6) (q := 0) hx hb (by rw [hml]; exact hl.1.symm) hown (hts (.methodLink RX10 385 arraycopyName) (by decide +kernel)) (hts (.native arraycopyName) (by decide +kernel)) (hts (.static arraycopyName) (by decide +kernel)) (hts (.initialized "java/lang/System") (by decide +kernel)) hK hP hD hS hs t_zb t_za (by decide) (by decide) rfl rfl rfl (by decide) (by decide) (by decide) (by decide) (by decide) (Nat.le_of_ble_eq_true rfl) (by decide) dX10_copyRow_11 (fun H locs hP hD hS => ?_)
  have h_zI_2 : WM [2200] AL zT zR zI (ur zI zb (va_cpy (zI za) (zI zb) (0 : Int32).toNatClampNeg (0 : Int32).toNatClampNeg (6 : Int32).toNatClampNeg)) := h_zI.cpy hs t_za t_zb (by decide) (by decide) rfl (by decide) (by decide) trivial
  generalize uzI_2 : ur zI zb (va_cpy (zI za) (zI zb) (0 : Int32).toNatClampNeg (0 : Int32).toNatClampNeg (6 : Int32).toNatClampNeg) = zI_2 at hP hD h_zI_2
  subst hQ
  exact W.vret hx hb hr (fun t ht hW => ⟨⟨zI_2, rfl, h_zI_2, ⟨by rw [ht]; exact hP, va_K.moved hW.alike hK, hD⟩⟩, hS.F ht⟩) hS.2.2 dX10_copyRow_14
set_option maxHeartbeats 8000000 in
set_option maxRecDepth 100000 in
theorem t_copyRow_22_22 (l : Launch) (dC : Nat → ClassId) (dI : Nat → Nat → Nat) (cy : Nat → ClassId) (sz : Nat) (zL : List Nat) (zT : Nat → Nat) (zR : Nat → Nat → Nat) (zI : Nat → Nat → Int32) (zJ : Nat → Nat → Int64) (za : Nat) (zb : Nat) (hs : SKP zL zT zR) (hw : WT zT zR zI) (t_za : zT za = 22) (t_zb : zT zb = 22) : Met l yX10_copyRow wsX10_copyRow ({ frames := 1, cells := 0, slots := 0, locals := 30 } : Room) (va_Pc [.ref za, .ref zb] (PRE dC dI cy (WL cy zL zT zR zI zJ) sz)) (va_Qv (fun (u : (Nat → Nat → Int32)) => (WM [2200] AL zT zR zI u)) (fun u t => POST dC dI cy (va_A (WL cy zL zT zR zI zJ) sz) (WL cy zL zT zR u zJ) t) (va_A (WL cy zL zT zR zI zJ) sz)) 0 0 (va_A (WL cy zL zT zR zI zJ) sz) := by
  refine Met.ofW (cc := cX10_copyRow) (maxL := 2) (ret := none) (by decide) rfl ?_
  intro p e s m args below meth c s₁ B hml hv
  obtain ⟨rfl, hsz, hP, hK, hD0, hN⟩ := hv
  have hx := B.exec
  have hb := B.bytes
  have hr := B.returns
  have hts := atoms_spec (ws := wsX10_copyRow) B.pre
  have hown : s.vm.findClass RX10 = some m.cls := findClass_of_methodNamed B.named
  have hlocks := B.notSynchronized
  subst hsz
  have hD := hD0.self (sz := s.heap.size)
  generalize hAe : va_A (WL cy zL zT zR zI zJ) s.heap.size = A at hD ⊢
  have hA : ∀ q : Nat, s.heap.size ≤ q → A q := fun q h => by rw [← hAe]; exact Or.inr h
  have hS : va_S A s.heap s.heap [] := va_S.rf
  have hP : va_P (dC, dI) vwCl (WL cy zL zT zR zI zJ) s.heap := hP
  have hl := lv_entry ([.ref za, .ref zb] : List Value) (n := 2) (Nat.le_of_ble_eq_true rfl)
  rw [lg_entry_eq]
  generalize (lg_sl ([.ref za, .ref zb] : List Value) ++ List.replicate (2 - (lg_sl ([.ref za, .ref zb] : List Value)).length) Slot.unset).toArray = ls at hl ⊢
  have hl : lv_has ls 2 [(0, .ref za), (1, .ref zb)] := hl
  refine w_q (fun Q hQ => ?_)
  have h_zI : WM [2200] AL zT zR zI zI := WM.rf hw
  refine lv_aload_n hx hb dX10_copyRow_0 rfl (lv_at hl 0 rfl) ?_
  refine lv_iconst (v := 0) hx hb dX10_copyRow_1 (by decide) ?_
  refine lv_aload_n hx hb dX10_copyRow_2 rfl (lv_at hl 1 rfl) ?_
  refine lv_iconst (v := 0) hx hb dX10_copyRow_3 (by decide) ?_
  refine lv_aload_n hx hb dX10_copyRow_4 rfl (lv_at hl 0 rfl) ?_
  refine ht_alen (v := 6) (n := 6) (q := 0) hx hb hK hP hs t_za (by decide) rfl rfl rfl dX10_copyRow_5 ?_
  refine lv_aload_n hx hb dX10_copyRow_6 rfl (lv_at hl 1 rfl) ?_
  refine ht_alen (v := 6) (n := 6) (q := 0) hx hb hK hP hs t_zb (by decide) rfl rfl rfl dX10_copyRow_7 ?_
  refine va_mmin hx hb (by rw [hml]; exact hl.1.symm) hown (hts (.methodLink RX10 382 Lib.Math.min.name) (by decide +kernel)) (hts (.static Lib.Math.min.name) (by decide +kernel)) (hts (.initialized "java/lang/Math") (by decide +kernel)) (hts (.code Lib.Math.min.name Lib.Math.min.code 2 (some .int)) (by decide +kernel)) (Nat.le_of_ble_eq_true rfl) (Nat.le_of_ble_eq_true rfl) (Nat.le_of_ble_eq_true rfl) (Nat.le_of_ble_eq_true rfl) dX10_copyRow_8 ?_
  refine lv_topi (fun zi_1 ezi_1 => ?_)
  obtain rfl : zi_1 = (6 : Int32) := ezi_1.trans (by decide)
  refine ht_cpi (sp := (0 : Int32)) (dp := (0 : Int32)) (n := (6 : Int32)) (n1 := 6) (n2 := 6) (q := 0) hx hb (by rw [hml]; exact hl.1.symm) hown (hts (.methodLink RX10 385 arraycopyName) (by decide +kernel)) (hts (.native arraycopyName) (by decide +kernel)) (hts (.static arraycopyName) (by decide +kernel)) (hts (.initialized "java/lang/System") (by decide +kernel)) hK hP hD hS hs t_zb t_za (by decide) (by decide) rfl rfl rfl (by decide) (by decide) (by decide) (by decide) (by decide) (Nat.le_of_ble_eq_true rfl) (by decide) dX10_copyRow_11 (fun H locs hP hD hS => ?_)
  have h_zI_2 : WM [2200] AL zT zR zI (ur zI zb (va_cpy (zI za) (zI zb) (0 : Int32).toNatClampNeg (0 : Int32).toNatClampNeg (6 : Int32).toNatClampNeg)) := h_zI.cpy hs t_za t_zb (by decide) (by decide) rfl (by decide) (by decide) trivial
  generalize uzI_2 : ur zI zb (va_cpy (zI za) (zI zb) (0 : Int32).toNatClampNeg (0 : Int32).toNatClampNeg (6 : Int32).toNatClampNeg) = zI_2 at hP hD h_zI_2
  subst hQ
  exact W.vret hx hb hr (fun t ht hW => ⟨⟨zI_2, rfl, h_zI_2, ⟨by rw [ht]; exact hP, va_K.moved hW.alike hK, hD⟩⟩, hS.F ht⟩) hS.2.2 dX10_copyRow_14
set_option maxHeartbeats 8000000 in
set_option maxRecDepth 100000 in
theorem t_copyRow_23_73 (l : Launch) (dC : Nat → ClassId) (dI : Nat → Nat → Nat) (cy : Nat → ClassId) (sz : Nat) (zL : List Nat) (zT : Nat → Nat) (zR : Nat → Nat → Nat) (zI : Nat → Nat → Int32) (zJ : Nat → Nat → Int64) (za : Nat) (zb : Nat) (hs : SKP zL zT zR) (hw : WT zT zR zI) (t_za : zT za = 23) (t_zb : zT zb = 73) : Met l yX10_copyRow wsX10_copyRow ({ frames := 1, cells := 0, slots := 0, locals := 30 } : Room) (va_Pc [.ref za, .ref zb] (PRE dC dI cy (WL cy zL zT zR zI zJ) sz)) (va_Qv (fun (u : (Nat → Nat → Int32)) => (WM [7300] AL zT zR zI u)) (fun u t => POST dC dI cy (va_A (WL cy zL zT zR zI zJ) sz) (WL cy zL zT zR u zJ) t) (va_A (WL cy zL zT zR zI zJ) sz)) 0 0 (va_A (WL cy zL zT zR zI zJ) sz) := by
  refine Met.ofW (cc := cX10_copyRow) (maxL := 2) (ret := none) (by decide) rfl ?_
  intro p e s m args below meth c s₁ B hml hv
  obtain ⟨rfl, hsz, hP, hK, hD0, hN⟩ := hv
  have hx := B.exec
  have hb := B.bytes
  have hr := B.returns
  have hts := atoms_spec (ws := wsX10_copyRow) B.pre
  have hown : s.vm.findClass RX10 = some m.cls := findClass_of_methodNamed B.named
  have hlocks := B.notSynchronized
  subst hsz
  have hD := hD0.self (sz := s.heap.size)
  generalize hAe : va_A (WL cy zL zT zR zI zJ) s.heap.size = A at hD ⊢
  have hA : ∀ q : Nat, s.heap.size ≤ q → A q := fun q h => by rw [← hAe]; exact Or.inr h
  have hS : va_S A s.heap s.heap [] := va_S.rf
  have hP : va_P (dC, dI) vwCl (WL cy zL zT zR zI zJ) s.heap := hP
  have hl := lv_entry ([.ref za, .ref zb] : List Value) (n := 2) (Nat.le_of_ble_eq_true rfl)
  rw [lg_entry_eq]
  generalize (lg_sl ([.ref za, .ref zb] : List Value) ++ List.replicate (2 - (lg_sl ([.ref za, .ref zb] : List Value)).length) Slot.unset).toArray = ls at hl ⊢
  have hl : lv_has ls 2 [(0, .ref za), (1, .ref zb)] := hl
  refine w_q (fun Q hQ => ?_)
  have h_zI : WM [7300] AL zT zR zI zI := WM.rf hw
  refine lv_aload_n hx hb dX10_copyRow_0 rfl (lv_at hl 0 rfl) ?_
  refine lv_iconst (v := 0) hx hb dX10_copyRow_1 (by decide) ?_
  refine lv_aload_n hx hb dX10_copyRow_2 rfl (lv_at hl 1 rfl) ?_
  refine lv_iconst (v := 0) hx hb dX10_copyRow_3 (by decide) ?_
  refine lv_aload_n hx hb dX10_copyRow_4 rfl (lv_at hl 0 rfl) ?_
  refine ht_alen (v := 6) (n := 6) (q := 0) hx hb hK hP hs t_za (by decide) rfl rfl rfl dX10_copyRow_5 ?_
  refine lv_aload_n hx hb dX10_copyRow_6 rfl (lv_at hl 1 rfl) ?_
  refine ht_alen (v := 6) (n := 6) (q := 0) hx hb hK hP hs t_zb (by decide) rfl rfl rfl dX10_copyRow_7 ?_
  refine va_mmin hx hb (by rw [hml]; exact hl.1.symm) hown (hts (.methodLink RX10 382 Lib.Math.min.name) (by decide +kernel)) (hts (.static Lib.Math.min.name) (by decide +kernel)) (hts (.initialized "java/lang/Math") (by decide +kernel)) (hts (.code Lib.Math.min.name Lib.Math.min.code 2 (some .int)) (by decide +kernel)) (Nat.le_of_ble_eq_true rfl) (Nat.le_of_ble_eq_true rfl) (Nat.le_of_ble_eq_true rfl) (Nat.le_of_ble_eq_true rfl) dX10_copyRow_8 ?_
  refine lv_topi (fun zi_1 ezi_1 => ?_)
  obtain rfl : zi_1 = (6 : Int32) := ezi_1.trans (by decide)
  refine ht_cpi (sp := (0 : Int32)) (dp := (0 : Int32)) (n := (6 : Int32)) (n1 := 6) (n2 := 6) (q := 0) hx hb (by rw [hml]; exact hl.1.symm) hown (hts (.methodLink RX10 385 arraycopyName) (by decide +kernel)) (hts (.native arraycopyName) (by decide +kernel)) (hts (.static arraycopyName) (by decide +kernel)) (hts (.initialized "java/lang/System") (by decide +kernel)) hK hP hD hS hs t_zb t_za (by decide) (by decide) rfl rfl rfl (by decide) (by decide) (by decide) (by decide) (by decide) (Nat.le_of_ble_eq_true rfl) (by decide) dX10_copyRow_11 (fun H locs hP hD hS => ?_)
  have h_zI_2 : WM [7300] AL zT zR zI (ur zI zb (va_cpy (zI za) (zI zb) (0 : Int32).toNatClampNeg (0 : Int32).toNatClampNeg (6 : Int32).toNatClampNeg)) := h_zI.cpy hs t_za t_zb (by decide) (by decide) rfl (by decide) (by decide) trivial
  generalize uzI_2 : ur zI zb (va_cpy (zI za) (zI zb) (0 : Int32).toNatClampNeg (0 : Int32).toNatClampNeg (6 : Int32).toNatClampNeg) = zI_2 at hP hD h_zI_2
  subst hQ
  exact W.vret hx hb hr (fun t ht hW => ⟨⟨zI_2, rfl, h_zI_2, ⟨by rw [ht]; exact hP, va_K.moved hW.alike hK, hD⟩⟩, hS.F ht⟩) hS.2.2 dX10_copyRow_14
set_option maxHeartbeats 8000000 in
set_option maxRecDepth 100000 in
theorem t_copyRow_73_23 (l : Launch) (dC : Nat → ClassId) (dI : Nat → Nat → Nat) (cy : Nat → ClassId) (sz : Nat) (zL : List Nat) (zT : Nat → Nat) (zR : Nat → Nat → Nat) (zI : Nat → Nat → Int32) (zJ : Nat → Nat → Int64) (za : Nat) (zb : Nat) (hs : SKP zL zT zR) (hw : WT zT zR zI) (t_za : zT za = 73) (t_zb : zT zb = 23) : Met l yX10_copyRow wsX10_copyRow ({ frames := 1, cells := 0, slots := 0, locals := 30 } : Room) (va_Pc [.ref za, .ref zb] (PRE dC dI cy (WL cy zL zT zR zI zJ) sz)) (va_Qv (fun (u : (Nat → Nat → Int32)) => (WM [2300] AL zT zR zI u)) (fun u t => POST dC dI cy (va_A (WL cy zL zT zR zI zJ) sz) (WL cy zL zT zR u zJ) t) (va_A (WL cy zL zT zR zI zJ) sz)) 0 0 (va_A (WL cy zL zT zR zI zJ) sz) := by
  refine Met.ofW (cc := cX10_copyRow) (maxL := 2) (ret := none) (by decide) rfl ?_
  intro p e s m args below meth c s₁ B hml hv
  obtain ⟨rfl, hsz, hP, hK, hD0, hN⟩ := hv
  have hx := B.exec
  have hb := B.bytes
  have hr := B.returns
  have hts := atoms_spec (ws := wsX10_copyRow) B.pre
  have hown : s.vm.findClass RX10 = some m.cls := findClass_of_methodNamed B.named
  have hlocks := B.notSynchronized
  subst hsz
  have hD := hD0.self (sz := s.heap.size)
  generalize hAe : va_A (WL cy zL zT zR zI zJ) s.heap.size = A at hD ⊢
  have hA : ∀ q : Nat, s.heap.size ≤ q → A q := fun q h => by rw [← hAe]; exact Or.inr h
  have hS : va_S A s.heap s.heap [] := va_S.rf
  have hP : va_P (dC, dI) vwCl (WL cy zL zT zR zI zJ) s.heap := hP
  have hl := lv_entry ([.ref za, .ref zb] : List Value) (n := 2) (Nat.le_of_ble_eq_true rfl)
  rw [lg_entry_eq]
  generalize (lg_sl ([.ref za, .ref zb] : List Value) ++ List.replicate (2 - (lg_sl ([.ref za, .ref zb] : List Value)).length) Slot.unset).toArray = ls at hl ⊢
  have hl : lv_has ls 2 [(0, .ref za), (1, .ref zb)] := hl
  refine w_q (fun Q hQ => ?_)
  have h_zI : WM [2300] AL zT zR zI zI := WM.rf hw
  refine lv_aload_n hx hb dX10_copyRow_0 rfl (lv_at hl 0 rfl) ?_
  refine lv_iconst (v := 0) hx hb dX10_copyRow_1 (by decide) ?_
  refine lv_aload_n hx hb dX10_copyRow_2 rfl (lv_at hl 1 rfl) ?_
  refine lv_iconst (v := 0) hx hb dX10_copyRow_3 (by decide) ?_
  refine lv_aload_n hx hb dX10_copyRow_4 rfl (lv_at hl 0 rfl) ?_
  refine ht_alen (v := 6) (n := 6) (q := 0) hx hb hK hP hs t_za (by decide) rfl rfl rfl dX10_copyRow_5 ?_
  refine lv_aload_n hx hb dX10_copyRow_6 rfl (lv_at hl 1 rfl) ?_
  refine ht_alen (v := 6) (n := 6) (q := 0) hx hb hK hP hs t_zb (by decide) rfl rfl rfl dX10_copyRow_7 ?_
  refine va_mmin hx hb (by rw [hml]; exact hl.1.symm) hown (hts (.methodLink RX10 382 Lib.Math.min.name) (by decide +kernel)) (hts (.static Lib.Math.min.name) (by decide +kernel)) (hts (.initialized "java/lang/Math") (by decide +kernel)) (hts (.code Lib.Math.min.name Lib.Math.min.code 2 (some .int)) (by decide +kernel)) (Nat.le_of_ble_eq_true rfl) (Nat.le_of_ble_eq_true rfl) (Nat.le_of_ble_eq_true rfl) (Nat.le_of_ble_eq_true rfl) dX10_copyRow_8 ?_
  refine lv_topi (fun zi_1 ezi_1 => ?_)
  obtain rfl : zi_1 = (6 : Int32) := ezi_1.trans (by decide)
  refine ht_cpi (sp := (0 : Int32)) (dp := (0 : Int32)) (n := (6 : Int32)) (n1 := 6) (n2 := 6) (q := 0) hx hb (by rw [hml]; exact hl.1.symm) hown (hts (.methodLink RX10 385 arraycopyName) (by decide +kernel)) (hts (.native arraycopyName) (by decide +kernel)) (hts (.static arraycopyName) (by decide +kernel)) (hts (.initialized "java/lang/System") (by decide +kernel)) hK hP hD hS hs t_zb t_za (by decide) (by decide) rfl rfl rfl (by decide) (by decide) (by decide) (by decide) (by decide) (Nat.le_of_ble_eq_true rfl) (by decide) dX10_copyRow_11 (fun H locs hP hD hS => ?_)
  have h_zI_2 : WM [2300] AL zT zR zI (ur zI zb (va_cpy (zI za) (zI zb) (0 : Int32).toNatClampNeg (0 : Int32).toNatClampNeg (6 : Int32).toNatClampNeg)) := h_zI.cpy hs t_za t_zb (by decide) (by decide) rfl (by decide) (by decide) trivial
  generalize uzI_2 : ur zI zb (va_cpy (zI za) (zI zb) (0 : Int32).toNatClampNeg (0 : Int32).toNatClampNeg (6 : Int32).toNatClampNeg) = zI_2 at hP hD h_zI_2
  subst hQ
  exact W.vret hx hb hr (fun t ht hW => ⟨⟨zI_2, rfl, h_zI_2, ⟨by rw [ht]; exact hP, va_K.moved hW.alike hK, hD⟩⟩, hS.F ht⟩) hS.2.2 dX10_copyRow_14
set_option maxHeartbeats 8000000 in
set_option maxRecDepth 100000 in
theorem t_copyRow_24_74 (l : Launch) (dC : Nat → ClassId) (dI : Nat → Nat → Nat) (cy : Nat → ClassId) (sz : Nat) (zL : List Nat) (zT : Nat → Nat) (zR : Nat → Nat → Nat) (zI : Nat → Nat → Int32) (zJ : Nat → Nat → Int64) (za : Nat) (zb : Nat) (hs : SKP zL zT zR) (hw : WT zT zR zI) (t_za : zT za = 24) (t_zb : zT zb = 74) : Met l yX10_copyRow wsX10_copyRow ({ frames := 1, cells := 0, slots := 0, locals := 30 } : Room) (va_Pc [.ref za, .ref zb] (PRE dC dI cy (WL cy zL zT zR zI zJ) sz)) (va_Qv (fun (u : (Nat → Nat → Int32)) => (WM [7400] AL zT zR zI u)) (fun u t => POST dC dI cy (va_A (WL cy zL zT zR zI zJ) sz) (WL cy zL zT zR u zJ) t) (va_A (WL cy zL zT zR zI zJ) sz)) 0 0 (va_A (WL cy zL zT zR zI zJ) sz) := by
  refine Met.ofW (cc := cX10_copyRow) (maxL := 2) (ret := none) (by decide) rfl ?_
  intro p e s m args below meth c s₁ B hml hv
  obtain ⟨rfl, hsz, hP, hK, hD0, hN⟩ := hv
  have hx := B.exec
  have hb := B.bytes
  have hr := B.returns
  have hts := atoms_spec (ws := wsX10_copyRow) B.pre
  have hown : s.vm.findClass RX10 = some m.cls := findClass_of_methodNamed B.named
  have hlocks := B.notSynchronized
  subst hsz
  have hD := hD0.self (sz := s.heap.size)
  generalize hAe : va_A (WL cy zL zT zR zI zJ) s.heap.size = A at hD ⊢
  have hA : ∀ q : Nat, s.heap.size ≤ q → A q := fun q h => by rw [← hAe]; exact Or.inr h
  have hS : va_S A s.heap s.heap [] := va_S.rf
  have hP : va_P (dC, dI) vwCl (WL cy zL zT zR zI zJ) s.heap := hP
  have hl := lv_entry ([.ref za, .ref zb] : List Value) (n := 2) (Nat.le_of_ble_eq_true rfl)
  rw [lg_entry_eq]
  generalize (lg_sl ([.ref za, .ref zb] : List Value) ++ List.replicate (2 - (lg_sl ([.ref za, .ref zb] : List Value)).length) Slot.unset).toArray = ls at hl ⊢
  have hl : lv_has ls 2 [(0, .ref za), (1, .ref zb)] := hl
  refine w_q (fun Q hQ => ?_)
  have h_zI : WM [7400] AL zT zR zI zI := WM.rf hw
  refine lv_aload_n hx hb dX10_copyRow_0 rfl (lv_at hl 0 rfl) ?_
  refine lv_iconst (v := 0) hx hb dX10_copyRow_1 (by decide) ?_
  refine lv_aload_n hx hb dX10_copyRow_2 rfl (lv_at hl 1 rfl) ?_
  refine lv_iconst (v := 0) hx hb dX10_copyRow_3 (by decide) ?_
  refine lv_aload_n hx hb dX10_copyRow_4 rfl (lv_at hl 0 rfl) ?_
  refine ht_alen (v := 8) (n := 8) (q := 0) hx hb hK hP hs t_za (by decide) rfl rfl rfl dX10_copyRow_5 ?_
  refine lv_aload_n hx hb dX10_copyRow_6 rfl (lv_at hl 1 rfl) ?_
  refine ht_alen (v := 8) (n := 8) (q := 0) hx hb hK hP hs t_zb (by decide) rfl rfl rfl dX10_copyRow_7 ?_
  refine va_mmin hx hb (by rw [hml]; exact hl.1.symm) hown (hts (.methodLink RX10 382 Lib.Math.min.name) (by decide +kernel)) (hts (.static Lib.Math.min.name) (by decide +kernel)) (hts (.initialized "java/lang/Math") (by decide +kernel)) (hts (.code Lib.Math.min.name Lib.Math.min.code 2 (some .int)) (by decide +kernel)) (Nat.le_of_ble_eq_true rfl) (Nat.le_of_ble_eq_true rfl) (Nat.le_of_ble_eq_true rfl) (Nat.le_of_ble_eq_true rfl) dX10_copyRow_8 ?_
  refine lv_topi (fun zi_1 ezi_1 => ?_)
  obtain rfl : zi_1 = (8 : Int32) := ezi_1.trans (by decide)
  refine ht_cpi (sp := (0 : Int32)) (dp := (0 : Int32)) (n := (8 : Int32)) (n1 := 8) (n2 := 8) (q := 0) hx hb (by rw [hml]; exact hl.1.symm) hown (hts (.methodLink RX10 385 arraycopyName) (by decide +kernel)) (hts (.native arraycopyName) (by decide +kernel)) (hts (.static arraycopyName) (by decide +kernel)) (hts (.initialized "java/lang/System") (by decide +kernel)) hK hP hD hS hs t_zb t_za (by decide) (by decide) rfl rfl rfl (by decide) (by decide) (by decide) (by decide) (by decide) (Nat.le_of_ble_eq_true rfl) (by decide) dX10_copyRow_11 (fun H locs hP hD hS => ?_)
  have h_zI_2 : WM [7400] AL zT zR zI (ur zI zb (va_cpy (zI za) (zI zb) (0 : Int32).toNatClampNeg (0 : Int32).toNatClampNeg (8 : Int32).toNatClampNeg)) := h_zI.cpy hs t_za t_zb (by decide) (by decide) rfl (by decide) (by decide) trivial
  generalize uzI_2 : ur zI zb (va_cpy (zI za) (zI zb) (0 : Int32).toNatClampNeg (0 : Int32).toNatClampNeg (8 : Int32).toNatClampNeg) = zI_2 at hP hD h_zI_2
  subst hQ
  exact W.vret hx hb hr (fun t ht hW => ⟨⟨zI_2, rfl, h_zI_2, ⟨by rw [ht]; exact hP, va_K.moved hW.alike hK, hD⟩⟩, hS.F ht⟩) hS.2.2 dX10_copyRow_14
set_option maxHeartbeats 8000000 in
set_option maxRecDepth 100000 in
theorem t_copyRow_74_24 (l : Launch) (dC : Nat → ClassId) (dI : Nat → Nat → Nat) (cy : Nat → ClassId) (sz : Nat) (zL : List Nat) (zT : Nat → Nat) (zR : Nat → Nat → Nat) (zI : Nat → Nat → Int32) (zJ : Nat → Nat → Int64) (za : Nat) (zb : Nat) (hs : SKP zL zT zR) (hw : WT zT zR zI) (t_za : zT za = 74) (t_zb : zT zb = 24) : Met l yX10_copyRow wsX10_copyRow ({ frames := 1, cells := 0, slots := 0, locals := 30 } : Room) (va_Pc [.ref za, .ref zb] (PRE dC dI cy (WL cy zL zT zR zI zJ) sz)) (va_Qv (fun (u : (Nat → Nat → Int32)) => (WM [2400] AL zT zR zI u)) (fun u t => POST dC dI cy (va_A (WL cy zL zT zR zI zJ) sz) (WL cy zL zT zR u zJ) t) (va_A (WL cy zL zT zR zI zJ) sz)) 0 0 (va_A (WL cy zL zT zR zI zJ) sz) := by
  refine Met.ofW (cc := cX10_copyRow) (maxL := 2) (ret := none) (by decide) rfl ?_
  intro p e s m args below meth c s₁ B hml hv
  obtain ⟨rfl, hsz, hP, hK, hD0, hN⟩ := hv
  have hx := B.exec
  have hb := B.bytes
  have hr := B.returns
  have hts := atoms_spec (ws := wsX10_copyRow) B.pre
  have hown : s.vm.findClass RX10 = some m.cls := findClass_of_methodNamed B.named
  have hlocks := B.notSynchronized
  subst hsz
  have hD := hD0.self (sz := s.heap.size)
  generalize hAe : va_A (WL cy zL zT zR zI zJ) s.heap.size = A at hD ⊢
  have hA : ∀ q : Nat, s.heap.size ≤ q → A q := fun q h => by rw [← hAe]; exact Or.inr h
  have hS : va_S A s.heap s.heap [] := va_S.rf
  have hP : va_P (dC, dI) vwCl (WL cy zL zT zR zI zJ) s.heap := hP
  have hl := lv_entry ([.ref za, .ref zb] : List Value) (n := 2) (Nat.le_of_ble_eq_true rfl)
  rw [lg_entry_eq]
  generalize (lg_sl ([.ref za, .ref zb] : List Value) ++ List.replicate (2 - (lg_sl ([.ref za, .ref zb] : List Value)).length) Slot.unset).toArray = ls at hl ⊢
  have hl : lv_has ls 2 [(0, .ref za), (1, .ref zb)] := hl
  refine w_q (fun Q hQ => ?_)
  have h_zI : WM [2400] AL zT zR zI zI := WM.rf hw
  refine lv_aload_n hx hb dX10_copyRow_0 rfl (lv_at hl 0 rfl) ?_
  refine lv_iconst (v := 0) hx hb dX10_copyRow_1 (by decide) ?_
  refine lv_aload_n hx hb dX10_copyRow_2 rfl (lv_at hl 1 rfl) ?_
  refine lv_iconst (v := 0) hx hb dX10_copyRow_3 (by decide) ?_
  refine lv_aload_n hx hb dX10_copyRow_4 rfl (lv_at hl 0 rfl) ?_
  refine ht_alen (v := 8) (n := 8) (q := 0) hx hb hK hP hs t_za (by decide) rfl rfl rfl dX10_copyRow_5 ?_
  refine lv_aload_n hx hb dX10_copyRow_6 rfl (lv_at hl 1 rfl) ?_
  refine ht_alen (v := 8) (n := 8) (q := 0) hx hb hK hP hs t_zb (by decide) rfl rfl rfl dX10_copyRow_7 ?_
  refine va_mmin hx hb (by rw [hml]; exact hl.1.symm) hown (hts (.methodLink RX10 382 Lib.Math.min.name) (by decide +kernel)) (hts (.static Lib.Math.min.name) (by decide +kernel)) (hts (.initialized "java/lang/Math") (by decide +kernel)) (hts (.code Lib.Math.min.name Lib.Math.min.code 2 (some .int)) (by decide +kernel)) (Nat.le_of_ble_eq_true rfl) (Nat.le_of_ble_eq_true rfl) (Nat.le_of_ble_eq_true rfl) (Nat.le_of_ble_eq_true rfl) dX10_copyRow_8 ?_
  refine lv_topi (fun zi_1 ezi_1 => ?_)
  obtain rfl : zi_1 = (8 : Int32) := ezi_1.trans (by decide)
  refine ht_cpi (sp := (0 : Int32)) (dp := (0 : Int32)) (n := (8 : Int32)) (n1 := 8) (n2 := 8) (q := 0) hx hb (by rw [hml]; exact hl.1.symm) hown (hts (.methodLink RX10 385 arraycopyName) (by decide +kernel)) (hts (.native arraycopyName) (by decide +kernel)) (hts (.static arraycopyName) (by decide +kernel)) (hts (.initialized "java/lang/System") (by decide +kernel)) hK hP hD hS hs t_zb t_za (by decide) (by decide) rfl rfl rfl (by decide) (by decide) (by decide) (by decide) (by decide) (Nat.le_of_ble_eq_true rfl) (by decide) dX10_copyRow_11 (fun H locs hP hD hS => ?_)
  have h_zI_2 : WM [2400] AL zT zR zI (ur zI zb (va_cpy (zI za) (zI zb) (0 : Int32).toNatClampNeg (0 : Int32).toNatClampNeg (8 : Int32).toNatClampNeg)) := h_zI.cpy hs t_za t_zb (by decide) (by decide) rfl (by decide) (by decide) trivial
  generalize uzI_2 : ur zI zb (va_cpy (zI za) (zI zb) (0 : Int32).toNatClampNeg (0 : Int32).toNatClampNeg (8 : Int32).toNatClampNeg) = zI_2 at hP hD h_zI_2
  subst hQ
  exact W.vret hx hb hr (fun t ht hW => ⟨⟨zI_2, rfl, h_zI_2, ⟨by rw [ht]; exact hP, va_K.moved hW.alike hK, hD⟩⟩, hS.F ht⟩) hS.2.2 dX10_copyRow_14
set_option maxHeartbeats 8000000 in
set_option maxRecDepth 100000 in
theorem t_copyRow_25_75 (l : Launch) (dC : Nat → ClassId) (dI : Nat → Nat → Nat) (cy : Nat → ClassId) (sz : Nat) (zL : List Nat) (zT : Nat → Nat) (zR : Nat → Nat → Nat) (zI : Nat → Nat → Int32) (zJ : Nat → Nat → Int64) (za : Nat) (zb : Nat) (hs : SKP zL zT zR) (hw : WT zT zR zI) (t_za : zT za = 25) (t_zb : zT zb = 75) : Met l yX10_copyRow wsX10_copyRow ({ frames := 1, cells := 0, slots := 0, locals := 30 } : Room) (va_Pc [.ref za, .ref zb] (PRE dC dI cy (WL cy zL zT zR zI zJ) sz)) (va_Qv (fun (u : (Nat → Nat → Int32)) => (WM [7500] AL zT zR zI u)) (fun u t => POST dC dI cy (va_A (WL cy zL zT zR zI zJ) sz) (WL cy zL zT zR u zJ) t) (va_A (WL cy zL zT zR zI zJ) sz)) 0 0 (va_A (WL cy zL zT zR zI zJ) sz) := by
  refine Met.ofW (cc := cX10_copyRow) (maxL := 2) (ret := none) (by decide) rfl ?_
  intro p e s m args below meth c s₁ B hml hv
  obtain ⟨rfl, hsz, hP, hK, hD0, hN⟩ := hv
  have hx := B.exec
  have hb := B.bytes
  have hr := B.returns
  have hts := atoms_spec (ws := wsX10_copyRow) B.pre
  have hown : s.vm.findClass RX10 = some m.cls := findClass_of_methodNamed B.named
  have hlocks := B.notSynchronized
  subst hsz
  have hD := hD0.self (sz := s.heap.size)
  generalize hAe : va_A (WL cy zL zT zR zI zJ) s.heap.size = A at hD ⊢
  have hA : ∀ q : Nat, s.heap.size ≤ q → A q := fun q h => by rw [← hAe]; exact Or.inr h
  have hS : va_S A s.heap s.heap [] := va_S.rf
  have hP : va_P (dC, dI) vwCl (WL cy zL zT zR zI zJ) s.heap := hP
  have hl := lv_entry ([.ref za, .ref zb] : List Value) (n := 2) (Nat.le_of_ble_eq_true rfl)
  rw [lg_entry_eq]
  generalize (lg_sl ([.ref za, .ref zb] : List Value) ++ List.replicate (2 - (lg_sl ([.ref za, .ref zb] : List Value)).length) Slot.unset).toArray = ls at hl ⊢
  have hl : lv_has ls 2 [(0, .ref za), (1, .ref zb)] := hl
  refine w_q (fun Q hQ => ?_)
  have h_zI : WM [7500] AL zT zR zI zI := WM.rf hw
  refine lv_aload_n hx hb dX10_copyRow_0 rfl (lv_at hl 0 rfl) ?_
  refine lv_iconst (v := 0) hx hb dX10_copyRow_1 (by decide) ?_
  refine lv_aload_n hx hb dX10_copyRow_2 rfl (lv_at hl 1 rfl) ?_
  refine lv_iconst (v := 0) hx hb dX10_copyRow_3 (by decide) ?_
  refine lv_aload_n hx hb dX10_copyRow_4 rfl (lv_at hl 0 rfl) ?_
  refine ht_alen (v := 8) (n := 8) (q := 0) hx hb hK hP hs t_za (by decide) rfl rfl rfl dX10_copyRow_5 ?_
  refine lv_aload_n hx hb dX10_copyRow_6 rfl (lv_at hl 1 rfl) ?_
  refine ht_alen (v := 8) (n := 8) (q := 0) hx hb hK hP hs t_zb (by decide) rfl rfl rfl dX10_copyRow_7 ?_
  refine va_mmin hx hb (by rw [hml]; exact hl.1.symm) hown (hts (.methodLink RX10 382 Lib.Math.min.name) (by decide +kernel)) (hts (.static Lib.Math.min.name) (by decide +kernel)) (hts (.initialized "java/lang/Math") (by decide +kernel)) (hts (.code Lib.Math.min.name Lib.Math.min.code 2 (some .int)) (by decide +kernel)) (Nat.le_of_ble_eq_true rfl) (Nat.le_of_ble_eq_true rfl) (Nat.le_of_ble_eq_true rfl) (Nat.le_of_ble_eq_true rfl) dX10_copyRow_8 ?_
  refine lv_topi (fun zi_1 ezi_1 => ?_)
  obtain rfl : zi_1 = (8 : Int32) := ezi_1.trans (by decide)
  refine ht_cpi (sp := (0 : Int32)) (dp := (0 : Int32)) (n := (8 : Int32)) (n1 := 8) (n2 := 8) (q := 0) hx hb (by rw [hml]; exact hl.1.symm) hown (hts (.methodLink RX10 385 arraycopyName) (by decide +kernel)) (hts (.native arraycopyName) (by decide +kernel)) (hts (.static arraycopyName) (by decide +kernel)) (hts (.initialized "java/lang/System") (by decide +kernel)) hK hP hD hS hs t_zb t_za (by decide) (by decide) rfl rfl rfl (by decide) (by decide) (by decide) (by decide) (by decide) (Nat.le_of_ble_eq_true rfl) (by decide) dX10_copyRow_11 (fun H locs hP hD hS => ?_)
  have h_zI_2 : WM [7500] AL zT zR zI (ur zI zb (va_cpy (zI za) (zI zb) (0 : Int32).toNatClampNeg (0 : Int32).toNatClampNeg (8 : Int32).toNatClampNeg)) := h_zI.cpy hs t_za t_zb (by decide) (by decide) rfl (by decide) (by decide) trivial
  generalize uzI_2 : ur zI zb (va_cpy (zI za) (zI zb) (0 : Int32).toNatClampNeg (0 : Int32).toNatClampNeg (8 : Int32).toNatClampNeg) = zI_2 at hP hD h_zI_2
  subst hQ
  exact W.vret hx hb hr (fun t ht hW => ⟨⟨zI_2, rfl, h_zI_2, ⟨by rw [ht]; exact hP, va_K.moved hW.alike hK, hD⟩⟩, hS.F ht⟩) hS.2.2 dX10_copyRow_14
set_option maxHeartbeats 8000000 in
set_option maxRecDepth 100000 in
theorem t_copyRow_75_25 (l : Launch) (dC : Nat → ClassId) (dI : Nat → Nat → Nat) (cy : Nat → ClassId) (sz : Nat) (zL : List Nat) (zT : Nat → Nat) (zR : Nat → Nat → Nat) (zI : Nat → Nat → Int32) (zJ : Nat → Nat → Int64) (za : Nat) (zb : Nat) (hs : SKP zL zT zR) (hw : WT zT zR zI) (t_za : zT za = 75) (t_zb : zT zb = 25) : Met l yX10_copyRow wsX10_copyRow ({ frames := 1, cells := 0, slots := 0, locals := 30 } : Room) (va_Pc [.ref za, .ref zb] (PRE dC dI cy (WL cy zL zT zR zI zJ) sz)) (va_Qv (fun (u : (Nat → Nat → Int32)) => (WM [2500] AL zT zR zI u)) (fun u t => POST dC dI cy (va_A (WL cy zL zT zR zI zJ) sz) (WL cy zL zT zR u zJ) t) (va_A (WL cy zL zT zR zI zJ) sz)) 0 0 (va_A (WL cy zL zT zR zI zJ) sz) := by
  refine Met.ofW (cc := cX10_copyRow) (maxL := 2) (ret := none) (by decide) rfl ?_
  intro p e s m args below meth c s₁ B hml hv
  obtain ⟨rfl, hsz, hP, hK, hD0, hN⟩ := hv
  have hx := B.exec
  have hb := B.bytes
  have hr := B.returns
  have hts := atoms_spec (ws := wsX10_copyRow) B.pre
  have hown : s.vm.findClass RX10 = some m.cls := findClass_of_methodNamed B.named
  have hlocks := B.notSynchronized
  subst hsz
  have hD := hD0.self (sz := s.heap.size)
  generalize hAe : va_A (WL cy zL zT zR zI zJ) s.heap.size = A at hD ⊢
  have hA : ∀ q : Nat, s.heap.size ≤ q → A q := fun q h => by rw [← hAe]; exact Or.inr h
  have hS : va_S A s.heap s.heap [] := va_S.rf
  have hP : va_P (dC, dI) vwCl (WL cy zL zT zR zI zJ) s.heap := hP
  have hl := lv_entry ([.ref za, .ref zb] : List Value) (n := 2) (Nat.le_of_ble_eq_true rfl)
  rw [lg_entry_eq]
  generalize (lg_sl ([.ref za, .ref zb] : List Value) ++ List.replicate (2 - (lg_sl ([.ref za, .ref zb] : List Value)).length) Slot.unset).toArray = ls at hl ⊢
  have hl : lv_has ls 2 [(0, .ref za), (1, .ref zb)] := hl
  refine w_q (fun Q hQ => ?_)
  have h_zI : WM [2500] AL zT zR zI zI := WM.rf hw
  refine lv_aload_n hx hb dX10_copyRow_0 rfl (lv_at hl 0 rfl) ?_
  refine lv_iconst (v := 0) hx hb dX10_copyRow_1 (by decide) ?_
  refine lv_aload_n hx hb dX10_copyRow_2 rfl (lv_at hl 1 rfl) ?_
  refine lv_iconst (v := 0) hx hb dX10_copyRow_3 (by decide) ?_
  refine lv_aload_n hx hb dX10_copyRow_4 rfl (lv_at hl 0 rfl) ?_
  refine ht_alen (v := 8) (n := 8) (q := 0) hx hb hK hP hs t_za (by decide) rfl rfl rfl dX10_copyRow_5 ?_
  refine lv_aload_n hx hb dX10_copyRow_6 rfl (lv_at hl 1 rfl) ?_
  refine ht_alen (v := 8) (n := 8) (q := 0) hx hb hK hP hs t_zb (by decide) rfl rfl rfl dX10_copyRow_7 ?_
  refine va_mmin hx hb (by rw [hml]; exact hl.1.symm) hown (hts (.methodLink RX10 382 Lib.Math.min.name) (by decide +kernel)) (hts (.static Lib.Math.min.name) (by decide +kernel)) (hts (.initialized "java/lang/Math") (by decide +kernel)) (hts (.code Lib.Math.min.name Lib.Math.min.code 2 (some .int)) (by decide +kernel)) (Nat.le_of_ble_eq_true rfl) (Nat.le_of_ble_eq_true rfl) (Nat.le_of_ble_eq_true rfl) (Nat.le_of_ble_eq_true rfl) dX10_copyRow_8 ?_
  refine lv_topi (fun zi_1 ezi_1 => ?_)
  obtain rfl : zi_1 = (8 : Int32) := ezi_1.trans (by decide)
  refine ht_cpi (sp := (0 : Int32)) (dp := (0 : Int32)) (n := (8 : Int32)) (n1 := 8) (n2 := 8) (q := 0) hx hb (by rw [hml]; exact hl.1.symm) hown (hts (.methodLink RX10 385 arraycopyName) (by decide +kernel)) (hts (.native arraycopyName) (by decide +kernel)) (hts (.static arraycopyName) (by decide +kernel)) (hts (.initialized "java/lang/System") (by decide +kernel)) hK hP hD hS hs t_zb t_za (by decide) (by decide) rfl rfl rfl (by decide) (by decide) (by decide) (by decide) (by decide) (Nat.le_of_ble_eq_true rfl) (by decide) dX10_copyRow_11 (fun H locs hP hD hS => ?_)
  have h_zI_2 : WM [2500] AL zT zR zI (ur zI zb (va_cpy (zI za) (zI zb) (0 : Int32).toNatClampNeg (0 : Int32).toNatClampNeg (8 : Int32).toNatClampNeg)) := h_zI.cpy hs t_za t_zb (by decide) (by decide) rfl (by decide) (by decide) trivial
  generalize uzI_2 : ur zI zb (va_cpy (zI za) (zI zb) (0 : Int32).toNatClampNeg (0 : Int32).toNatClampNeg (8 : Int32).toNatClampNeg) = zI_2 at hP hD h_zI_2
  subst hQ
  exact W.vret hx hb hr (fun t ht hW => ⟨⟨zI_2, rfl, h_zI_2, ⟨by rw [ht]; exact hP, va_K.moved hW.alike hK, hD⟩⟩, hS.F ht⟩) hS.2.2 dX10_copyRow_14
set_option maxHeartbeats 8000000 in
set_option maxRecDepth 100000 in
theorem t_copyRow_26_76 (l : Launch) (dC : Nat → ClassId) (dI : Nat → Nat → Nat) (cy : Nat → ClassId) (sz : Nat) (zL : List Nat) (zT : Nat → Nat) (zR : Nat → Nat → Nat) (zI : Nat → Nat → Int32) (zJ : Nat → Nat → Int64) (za : Nat) (zb : Nat) (hs : SKP zL zT zR) (hw : WT zT zR zI) (t_za : zT za = 26) (t_zb : zT zb = 76) : Met l yX10_copyRow wsX10_copyRow ({ frames := 1, cells := 0, slots := 0, locals := 30 } : Room) (va_Pc [.ref za, .ref zb] (PRE dC dI cy (WL cy zL zT zR zI zJ) sz)) (va_Qv (fun (u : (Nat → Nat → Int32)) => (WM [7600] AL zT zR zI u)) (fun u t => POST dC dI cy (va_A (WL cy zL zT zR zI zJ) sz) (WL cy zL zT zR u zJ) t) (va_A (WL cy zL zT zR zI zJ) sz)) 0 0 (va_A (WL cy zL zT zR zI zJ) sz) := by
  refine Met.ofW (cc := cX10_copyRow) (maxL := 2) (ret := none) (by decide) rfl ?_
  intro p e s m args below meth c s₁ B hml hv
  obtain ⟨rfl, hsz, hP, hK, hD0, hN⟩ := hv
  have hx := B.exec
  have hb := B.bytes
  have hr := B.returns
  have hts := atoms_spec (ws := wsX10_copyRow) B.pre
  have hown : s.vm.findClass RX10 = some m.cls := findClass_of_methodNamed B.named
  have hlocks := B.notSynchronized
  subst hsz
  have hD := hD0.self (sz := s.heap.size)
  generalize hAe : va_A (WL cy zL zT zR zI zJ) s.heap.size = A at hD ⊢
  have hA : ∀ q : Nat, s.heap.size ≤ q → A q := fun q h => by rw [← hAe]; exact Or.inr h
  have hS : va_S A s.heap s.heap [] := va_S.rf
  have hP : va_P (dC, dI) vwCl (WL cy zL zT zR zI zJ) s.heap := hP
  have hl := lv_entry ([.ref za, .ref zb] : List Value) (n := 2) (Nat.le_of_ble_eq_true rfl)
  rw [lg_entry_eq]
  generalize (lg_sl ([.ref za, .ref zb] : List Value) ++ List.replicate (2 - (lg_sl ([.ref za, .ref zb] : List Value)).length) Slot.unset).toArray = ls at hl ⊢
  have hl : lv_has ls 2 [(0, .ref za), (1, .ref zb)] := hl
  refine w_q (fun Q hQ => ?_)
  have h_zI : WM [7600] AL zT zR zI zI := WM.rf hw
  refine lv_aload_n hx hb dX10_copyRow_0 rfl (lv_at hl 0 rfl) ?_
  refine lv_iconst (v := 0) hx hb dX10_copyRow_1 (by decide) ?_
  refine lv_aload_n hx hb dX10_copyRow_2 rfl (lv_at hl 1 rfl) ?_
  refine lv_iconst (v := 0) hx hb dX10_copyRow_3 (by decide) ?_
  refine lv_aload_n hx hb dX10_copyRow_4 rfl (lv_at hl 0 rfl) ?_
  refine ht_alen (v := 8) (n := 8) (q := 0) hx hb hK hP hs t_za (by decide) rfl rfl rfl dX10_copyRow_5 ?_
  refine lv_aload_n hx hb dX10_copyRow_6 rfl (lv_at hl 1 rfl) ?_
  refine ht_alen (v := 8) (n := 8) (q := 0) hx hb hK hP hs t_zb (by decide) rfl rfl rfl dX10_copyRow_7 ?_
  refine va_mmin hx hb (by rw [hml]; exact hl.1.symm) hown (hts (.methodLink RX10 382 Lib.Math.min.name) (by decide +kernel)) (hts (.static Lib.Math.min.name) (by decide +kernel)) (hts (.initialized "java/lang/Math") (by decide +kernel)) (hts (.code Lib.Math.min.name Lib.Math.min.code 2 (some .int)) (by decide +kernel)) (Nat.le_of_ble_eq_true rfl) (Nat.le_of_ble_eq_true rfl) (Nat.le_of_ble_eq_true rfl) (Nat.le_of_ble_eq_true rfl) dX10_copyRow_8 ?_
  refine lv_topi (fun zi_1 ezi_1 => ?_)
  obtain rfl : zi_1 = (8 : Int32) := ezi_1.trans (by decide)
  refine ht_cpi (sp := (0 : Int32)) (dp := (0 : Int32)) (n := (8 : Int32)) (n1 := 8) (n2 := 8) (q := 0) hx hb (by rw [hml]; exact hl.1.symm) hown (hts (.methodLink RX10 385 arraycopyName) (by decide +kernel)) (hts (.native arraycopyName) (by decide +kernel)) (hts (.static arraycopyName) (by decide +kernel)) (hts (.initialized "java/lang/System") (by decide +kernel)) hK hP hD hS hs t_zb t_za (by decide) (by decide) rfl rfl rfl (by decide) (by decide) (by decide) (by decide) (by decide) (Nat.le_of_ble_eq_true rfl) (by decide) dX10_copyRow_11 (fun H locs hP hD hS => ?_)
  have h_zI_2 : WM [7600] AL zT zR zI (ur zI zb (va_cpy (zI za) (zI zb) (0 : Int32).toNatClampNeg (0 : Int32).toNatClampNeg (8 : Int32).toNatClampNeg)) := h_zI.cpy hs t_za t_zb (by decide) (by decide) rfl (by decide) (by decide) trivial
  generalize uzI_2 : ur zI zb (va_cpy (zI za) (zI zb) (0 : Int32).toNatClampNeg (0 : Int32).toNatClampNeg (8 : Int32).toNatClampNeg) = zI_2 at hP hD h_zI_2
  subst hQ
  exact W.vret hx hb hr (fun t ht hW => ⟨⟨zI_2, rfl, h_zI_2, ⟨by rw [ht]; exact hP, va_K.moved hW.alike hK, hD⟩⟩, hS.F ht⟩) hS.2.2 dX10_copyRow_14
set_option maxHeartbeats 8000000 in
set_option maxRecDepth 100000 in
theorem t_copyRow_76_26 (l : Launch) (dC : Nat → ClassId) (dI : Nat → Nat → Nat) (cy : Nat → ClassId) (sz : Nat) (zL : List Nat) (zT : Nat → Nat) (zR : Nat → Nat → Nat) (zI : Nat → Nat → Int32) (zJ : Nat → Nat → Int64) (za : Nat) (zb : Nat) (hs : SKP zL zT zR) (hw : WT zT zR zI) (t_za : zT za = 76) (t_zb : zT zb = 26) : Met l yX10_copyRow wsX10_copyRow ({ frames := 1, cells := 0, slots := 0, locals := 30 } : Room) (va_Pc [.ref za, .ref zb] (PRE dC dI cy (WL cy zL zT zR zI zJ) sz)) (va_Qv (fun (u : (Nat → Nat → Int32)) => (WM [2600] AL zT zR zI u)) (fun u t => POST dC dI cy (va_A (WL cy zL zT zR zI zJ) sz) (WL cy zL zT zR u zJ) t) (va_A (WL cy zL zT zR zI zJ) sz)) 0 0 (va_A (WL cy zL zT zR zI zJ) sz) := by
  refine Met.ofW (cc := cX10_copyRow) (maxL := 2) (ret := none) (by decide) rfl ?_
  intro p e s m args below meth c s₁ B hml hv
  obtain ⟨rfl, hsz, hP, hK, hD0, hN⟩ := hv
  have hx := B.exec
  have hb := B.bytes
  have hr := B.returns
  have hts := atoms_spec (ws := wsX10_copyRow) B.pre
  have hown : s.vm.findClass RX10 = some m.cls := findClass_of_methodNamed B.named
  have hlocks := B.notSynchronized
  subst hsz
  have hD := hD0.self (sz := s.heap.size)
  generalize hAe : va_A (WL cy zL zT zR zI zJ) s.heap.size = A at hD ⊢
  have hA : ∀ q : Nat, s.heap.size ≤ q → A q := fun q h => by rw [← hAe]; exact Or.inr h
  have hS : va_S A s.heap s.heap [] := va_S.rf
  have hP : va_P (dC, dI) vwCl (WL cy zL zT zR zI zJ) s.heap := hP
  have hl := lv_entry ([.ref za, .ref zb] : List Value) (n := 2) (Nat.le_of_ble_eq_true rfl)
  rw [lg_entry_eq]
  generalize (lg_sl ([.ref za, .ref zb] : List Value) ++ List.replicate (2 - (lg_sl ([.ref za, .ref zb] : List Value)).length) Slot.unset).toArray = ls at hl ⊢
  have hl : lv_has ls 2 [(0, .ref za), (1, .ref zb)] := hl
  refine w_q (fun Q hQ => ?_)
  have h_zI : WM [2600] AL zT zR zI zI := WM.rf hw
  refine lv_aload_n hx hb dX10_copyRow_0 rfl (lv_at hl 0 rfl) ?_
  refine lv_iconst (v := 0) hx hb dX10_copyRow_1 (by decide) ?_
  refine lv_aload_n hx hb dX10_copyRow_2 rfl (lv_at hl 1 rfl) ?_
  refine lv_iconst (v := 0) hx hb dX10_copyRow_3 (by decide) ?_
  refine lv_aload_n hx hb dX10_copyRow_4 rfl (lv_at hl 0 rfl) ?_
  refine ht_alen (v := 8) (n := 8) (q := 0) hx hb hK hP hs t_za (by decide) rfl rfl rfl dX10_copyRow_5 ?_
  refine lv_aload_n hx hb dX10_copyRow_6 rfl (lv_at hl 1 rfl) ?_
  refine ht_alen (v := 8) (n := 8) (q := 0) hx hb hK hP hs t_zb (by decide) rfl rfl rfl dX10_copyRow_7 ?_
  refine va_mmin hx hb (by rw [hml]; exact hl.1.symm) hown (hts (.methodLink RX10 382 Lib.Math.min.name) (by decide +kernel)) (hts (.static Lib.Math.min.name) (by decide +kernel)) (hts (.initialized "java/lang/Math") (by decide +kernel)) (hts (.code Lib.Math.min.name Lib.Math.min.code 2 (some .int)) (by decide +kernel)) (Nat.le_of_ble_eq_true rfl) (Nat.le_of_ble_eq_true rfl) (Nat.le_of_ble_eq_true rfl) (Nat.le_of_ble_eq_true rfl) dX10_copyRow_8 ?_
  refine lv_topi (fun zi_1 ezi_1 => ?_)
  obtain rfl : zi_1 = (8 : Int32) := ezi_1.trans (by decide)
  refine ht_cpi (sp := (0 : Int32)) (dp := (0 : Int32)) (n := (8 : Int32)) (n1 := 8) (n2 := 8) (q := 0) hx hb (by rw [hml]; exact hl.1.symm) hown (hts (.methodLink RX10 385 arraycopyName) (by decide +kernel)) (hts (.native arraycopyName) (by decide +kernel)) (hts (.static arraycopyName) (by decide +kernel)) (hts (.initialized "java/lang/System") (by decide +kernel)) hK hP hD hS hs t_zb t_za (by decide) (by decide) rfl rfl rfl (by decide) (by decide) (by decide) (by decide) (by decide) (Nat.le_of_ble_eq_true rfl) (by decide) dX10_copyRow_11 (fun H locs hP hD hS => ?_)
  have h_zI_2 : WM [2600] AL zT zR zI (ur zI zb (va_cpy (zI za) (zI zb) (0 : Int32).toNatClampNeg (0 : Int32).toNatClampNeg (8 : Int32).toNatClampNeg)) := h_zI.cpy hs t_za t_zb (by decide) (by decide) rfl (by decide) (by decide) trivial
  generalize uzI_2 : ur zI zb (va_cpy (zI za) (zI zb) (0 : Int32).toNatClampNeg (0 : Int32).toNatClampNeg (8 : Int32).toNatClampNeg) = zI_2 at hP hD h_zI_2
  subst hQ
  exact W.vret hx hb hr (fun t ht hW => ⟨⟨zI_2, rfl, h_zI_2, ⟨by rw [ht]; exact hP, va_K.moved hW.alike hK, hD⟩⟩, hS.F ht⟩) hS.2.2 dX10_copyRow_14
set_option maxHeartbeats 8000000 in
set_option maxRecDepth 100000 in
theorem t_copyRow_27_77 (l : Launch) (dC : Nat → ClassId) (dI : Nat → Nat → Nat) (cy : Nat → ClassId) (sz : Nat) (zL : List Nat) (zT : Nat → Nat) (zR : Nat → Nat → Nat) (zI : Nat → Nat → Int32) (zJ : Nat → Nat → Int64) (za : Nat) (zb : Nat) (hs : SKP zL zT zR) (hw : WT zT zR zI) (t_za : zT za = 27) (t_zb : zT zb = 77) : Met l yX10_copyRow wsX10_copyRow ({ frames := 1, cells := 0, slots := 0, locals := 30 } : Room) (va_Pc [.ref za, .ref zb] (PRE dC dI cy (WL cy zL zT zR zI zJ) sz)) (va_Qv (fun (u : (Nat → Nat → Int32)) => (WM [7700] AL zT zR zI u)) (fun u t => POST dC dI cy (va_A (WL cy zL zT zR zI zJ) sz) (WL cy zL zT zR u zJ) t) (va_A (WL cy zL zT zR zI zJ) sz)) 0 0 (va_A (WL cy zL zT zR zI zJ) sz) := by
  refine Met.ofW (cc := cX10_copyRow) (maxL := 2) (ret := none) (by decide) rfl ?_
  intro p e s m args below meth c s₁ B hml hv
  obtain ⟨rfl, hsz, hP, hK, hD0, hN⟩ := hv
  have hx := B.exec
  have hb := B.bytes
  have hr := B.returns
  have hts := atoms_spec (ws := wsX10_copyRow) B.pre
  have hown : s.vm.findClass RX10 = some m.cls := findClass_of_methodNamed B.named
  have hlocks := B.notSynchronized
  subst hsz
  have hD := hD0.self (sz := s.heap.size)
  generalize hAe : va_A (WL cy zL zT zR zI zJ) s.heap.size = A at hD ⊢
  have hA : ∀ q : Nat, s.heap.size ≤ q → A q := fun q h => by rw [← hAe]; exact Or.inr h
  have hS : va_S A s.heap s.heap [] := va_S.rf
  have hP : va_P (dC, dI) vwCl (WL cy zL zT zR zI zJ) s.heap := hP
  have hl := lv_entry ([.ref za, .ref zb] : List Value) (n := 2) (Nat.le_of_ble_eq_true rfl)
  rw [lg_entry_eq]
  generalize (lg_sl ([.ref za, .ref zb] : List Value) ++ List.replicate (2 - (lg_sl ([.ref za, .ref zb] : List Value)).length) Slot.unset).toArray = ls at hl ⊢
  have hl : lv_has ls 2 [(0, .ref za), (1, .ref zb)] := hl
  refine w_q (fun Q hQ => ?_)
  have h_zI : WM [7700] AL zT zR zI zI := WM.rf hw
  refine lv_aload_n hx hb dX10_copyRow_0 rfl (lv_at hl 0 rfl) ?_
  refine lv_iconst (v := 0) hx hb dX10_copyRow_1 (by decide) ?_
  refine lv_aload_n hx hb dX10_copyRow_2 rfl (lv_at hl 1 rfl) ?_
  refine lv_iconst (v := 0) hx hb dX10_copyRow_3 (by decide) ?_
  refine lv_aload_n hx hb dX10_copyRow_4 rfl (lv_at hl 0 rfl) ?_
  refine ht_alen (v := 8) (n := 8) (q := 0) hx hb hK hP hs t_za (by decide) rfl rfl rfl dX10_copyRow_5 ?_
  refine lv_aload_n hx hb dX10_copyRow_6 rfl (lv_at hl 1 rfl) ?_
  refine ht_alen (v := 8) (n := 8) (q := 0) hx hb hK hP hs t_zb (by decide) rfl rfl rfl dX10_copyRow_7 ?_
  refine va_mmin hx hb (by rw [hml]; exact hl.1.symm) hown (hts (.methodLink RX10 382 Lib.Math.min.name) (by decide +kernel)) (hts (.static Lib.Math.min.name) (by decide +kernel)) (hts (.initialized "java/lang/Math") (by decide +kernel)) (hts (.code Lib.Math.min.name Lib.Math.min.code 2 (some .int)) (by decide +kernel)) (Nat.le_of_ble_eq_true rfl) (Nat.le_of_ble_eq_true rfl) (Nat.le_of_ble_eq_true rfl) (Nat.le_of_ble_eq_true rfl) dX10_copyRow_8 ?_
  refine lv_topi (fun zi_1 ezi_1 => ?_)
  obtain rfl : zi_1 = (8 : Int32) := ezi_1.trans (by decide)
  refine ht_cpi (sp := (0 : Int32)) (dp := (0 : Int32)) (n := (8 : Int32)) (n1 := 8) (n2 := 8) (q := 0) hx hb (by rw [hml]; exact hl.1.symm) hown (hts (.methodLink RX10 385 arraycopyName) (by decide +kernel)) (hts (.native arraycopyName) (by decide +kernel)) (hts (.static arraycopyName) (by decide +kernel)) (hts (.initialized "java/lang/System") (by decide +kernel)) hK hP hD hS hs t_zb t_za (by decide) (by decide) rfl rfl rfl (by decide) (by decide) (by decide) (by decide) (by decide) (Nat.le_of_ble_eq_true rfl) (by decide) dX10_copyRow_11 (fun H locs hP hD hS => ?_)
  have h_zI_2 : WM [7700] AL zT zR zI (ur zI zb (va_cpy (zI za) (zI zb) (0 : Int32).toNatClampNeg (0 : Int32).toNatClampNeg (8 : Int32).toNatClampNeg)) := h_zI.cpy hs t_za t_zb (by decide) (by decide) rfl (by decide) (by decide) trivial
  generalize uzI_2 : ur zI zb (va_cpy (zI za) (zI zb) (0 : Int32).toNatClampNeg (0 : Int32).toNatClampNeg (8 : Int32).toNatClampNeg) = zI_2 at hP hD h_zI_2
  subst hQ
  exact W.vret hx hb hr (fun t ht hW => ⟨⟨zI_2, rfl, h_zI_2, ⟨by rw [ht]; exact hP, va_K.moved hW.alike hK, hD⟩⟩, hS.F ht⟩) hS.2.2 dX10_copyRow_14
set_option maxHeartbeats 8000000 in
set_option maxRecDepth 100000 in
theorem t_copyRow_77_27 (l : Launch) (dC : Nat → ClassId) (dI : Nat → Nat → Nat) (cy : Nat → ClassId) (sz : Nat) (zL : List Nat) (zT : Nat → Nat) (zR : Nat → Nat → Nat) (zI : Nat → Nat → Int32) (zJ : Nat → Nat → Int64) (za : Nat) (zb : Nat) (hs : SKP zL zT zR) (hw : WT zT zR zI) (t_za : zT za = 77) (t_zb : zT zb = 27) : Met l yX10_copyRow wsX10_copyRow ({ frames := 1, cells := 0, slots := 0, locals := 30 } : Room) (va_Pc [.ref za, .ref zb] (PRE dC dI cy (WL cy zL zT zR zI zJ) sz)) (va_Qv (fun (u : (Nat → Nat → Int32)) => (WM [2700] AL zT zR zI u)) (fun u t => POST dC dI cy (va_A (WL cy zL zT zR zI zJ) sz) (WL cy zL zT zR u zJ) t) (va_A (WL cy zL zT zR zI zJ) sz)) 0 0 (va_A (WL cy zL zT zR zI zJ) sz) := by
  refine Met.ofW (cc := cX10_copyRow) (maxL := 2) (ret := none) (by decide) rfl ?_
  intro p e s m args below meth c s₁ B hml hv
  obtain ⟨rfl, hsz, hP, hK, hD0, hN⟩ := hv
  have hx := B.exec
  have hb := B.bytes
  have hr := B.returns
  have hts := atoms_spec (ws := wsX10_copyRow) B.pre
  have hown : s.vm.findClass RX10 = some m.cls := findClass_of_methodNamed B.named
  have hlocks := B.notSynchronized
  subst hsz
  have hD := hD0.self (sz := s.heap.size)
  generalize hAe : va_A (WL cy zL zT zR zI zJ) s.heap.size = A at hD ⊢
  have hA : ∀ q : Nat, s.heap.size ≤ q → A q := fun q h => by rw [← hAe]; exact Or.inr h
  have hS : va_S A s.heap s.heap [] := va_S.rf
  have hP : va_P (dC, dI) vwCl (WL cy zL zT zR zI zJ) s.heap := hP
  have hl := lv_entry ([.ref za, .ref zb] : List Value) (n := 2) (Nat.le_of_ble_eq_true rfl)
  rw [lg_entry_eq]
  generalize (lg_sl ([.ref za, .ref zb] : List Value) ++ List.replicate (2 - (lg_sl ([.ref za, .ref zb] : List Value)).length) Slot.unset).toArray = ls at hl ⊢
  have hl : lv_has ls 2 [(0, .ref za), (1, .ref zb)] := hl
  refine w_q (fun Q hQ => ?_)
  have h_zI : WM [2700] AL zT zR zI zI := WM.rf hw
  refine lv_aload_n hx hb dX10_copyRow_0 rfl (lv_at hl 0 rfl) ?_
  refine lv_iconst (v := 0) hx hb dX10_copyRow_1 (by decide) ?_
  refine lv_aload_n hx hb dX10_copyRow_2 rfl (lv_at hl 1 rfl) ?_
  refine lv_iconst (v := 0) hx hb dX10_copyRow_3 (by decide) ?_
  refine lv_aload_n hx hb dX10_copyRow_4 rfl (lv_at hl 0 rfl) ?_
  refine ht_alen (v := 8) (n := 8) (q := 0) hx hb hK hP hs t_za (by decide) rfl rfl rfl dX10_copyRow_5 ?_
  refine lv_aload_n hx hb dX10_copyRow_6 rfl (lv_at hl 1 rfl) ?_
  refine ht_alen (v := 8) (n := 8) (q := 0) hx hb hK hP hs t_zb (by decide) rfl rfl rfl dX10_copyRow_7 ?_
  refine va_mmin hx hb (by rw [hml]; exact hl.1.symm) hown (hts (.methodLink RX10 382 Lib.Math.min.name) (by decide +kernel)) (hts (.static Lib.Math.min.name) (by decide +kernel)) (hts (.initialized "java/lang/Math") (by decide +kernel)) (hts (.code Lib.Math.min.name Lib.Math.min.code 2 (some .int)) (by decide +kernel)) (Nat.le_of_ble_eq_true rfl) (Nat.le_of_ble_eq_true rfl) (Nat.le_of_ble_eq_true rfl) (Nat.le_of_ble_eq_true rfl) dX10_copyRow_8 ?_
  refine lv_topi (fun zi_1 ezi_1 => ?_)
  obtain rfl : zi_1 = (8 : Int32) := ezi_1.trans (by decide)
  refine ht_cpi (sp := (0 : Int32)) (dp := (0 : Int32)) (n := (8 : Int32)) (n1 := 8) (n2 := 8) (q := 0) hx hb (by rw [hml]; exact hl.1.symm) hown (hts (.methodLink RX10 385 arraycopyName) (by decide +kernel)) (hts (.native arraycopyName) (by decide +kernel)) (hts (.static arraycopyName) (by decide +kernel)) (hts (.initialized "java/lang/System") (by decide +kernel)) hK hP hD hS hs t_zb t_za (by decide) (by decide) rfl rfl rfl (by decide) (by decide) (by decide) (by decide) (by decide) (Nat.le_of_ble_eq_true rfl) (by decide) dX10_copyRow_11 (fun H locs hP hD hS => ?_)
  have h_zI_2 : WM [2700] AL zT zR zI (ur zI zb (va_cpy (zI za) (zI zb) (0 : Int32).toNatClampNeg (0 : Int32).toNatClampNeg (8 : Int32).toNatClampNeg)) := h_zI.cpy hs t_za t_zb (by decide) (by decide) rfl (by decide) (by decide) trivial
  generalize uzI_2 : ur zI zb (va_cpy (zI za) (zI zb) (0 : Int32).toNatClampNeg (0 : Int32).toNatClampNeg (8 : Int32).toNatClampNeg) = zI_2 at hP hD h_zI_2
  subst hQ
  exact W.vret hx hb hr (fun t ht hW => ⟨⟨zI_2, rfl, h_zI_2, ⟨by rw [ht]; exact hP, va_K.moved hW.alike hK, hD⟩⟩, hS.F ht⟩) hS.2.2 dX10_copyRow_14
set_option maxHeartbeats 8000000 in
set_option maxRecDepth 100000 in
theorem t_copyRow_29_79 (l : Launch) (dC : Nat → ClassId) (dI : Nat → Nat → Nat) (cy : Nat → ClassId) (sz : Nat) (zL : List Nat) (zT : Nat → Nat) (zR : Nat → Nat → Nat) (zI : Nat → Nat → Int32) (zJ : Nat → Nat → Int64) (za : Nat) (zb : Nat) (hs : SKP zL zT zR) (hw : WT zT zR zI) (t_za : zT za = 29) (t_zb : zT zb = 79) : Met l yX10_copyRow wsX10_copyRow ({ frames := 1, cells := 0, slots := 0, locals := 30 } : Room) (va_Pc [.ref za, .ref zb] (PRE dC dI cy (WL cy zL zT zR zI zJ) sz)) (va_Qv (fun (u : (Nat → Nat → Int32)) => (WM [7900] AL zT zR zI u)) (fun u t => POST dC dI cy (va_A (WL cy zL zT zR zI zJ) sz) (WL cy zL zT zR u zJ) t) (va_A (WL cy zL zT zR zI zJ) sz)) 0 0 (va_A (WL cy zL zT zR zI zJ) sz) := by
  refine Met.ofW (cc := cX10_copyRow) (maxL := 2) (ret := none) (by decide) rfl ?_
  intro p e s m args below meth c s₁ B hml hv
  obtain ⟨rfl, hsz, hP, hK, hD0, hN⟩ := hv
  have hx := B.exec
  have hb := B.bytes
  have hr := B.returns
  have hts := atoms_spec (ws := wsX10_copyRow) B.pre
  have hown : s.vm.findClass RX10 = some m.cls := findClass_of_methodNamed B.named
  have hlocks := B.notSynchronized
  subst hsz
  have hD := hD0.self (sz := s.heap.size)
  generalize hAe : va_A (WL cy zL zT zR zI zJ) s.heap.size = A at hD ⊢
  have hA : ∀ q : Nat, s.heap.size ≤ q → A q := fun q h => by rw [← hAe]; exact Or.inr h
  have hS : va_S A s.heap s.heap [] := va_S.rf
  have hP : va_P (dC, dI) vwCl (WL cy zL zT zR zI zJ) s.heap := hP
  have hl := lv_entry ([.ref za, .ref zb] : List Value) (n := 2) (Nat.le_of_ble_eq_true rfl)
  rw [lg_entry_eq]
  generalize (lg_sl ([.ref za, .ref zb] : List Value) ++ List.replicate (2 - (lg_sl ([.ref za, .ref zb] : List Value)).length) Slot.unset).toArray = ls at hl ⊢
  have hl : lv_has ls 2 [(0, .ref za), (1, .ref zb)] := hl
  refine w_q (fun Q hQ => ?_)
  have h_zI : WM [7900] AL zT zR zI zI := WM.rf hw
  refine lv_aload_n hx hb dX10_copyRow_0 rfl (lv_at hl 0 rfl) ?_
  refine lv_iconst (v := 0) hx hb dX10_copyRow_1 (by decide) ?_
  refine lv_aload_n hx hb dX10_copyRow_2 rfl (lv_at hl 1 rfl) ?_
  refine lv_iconst (v := 0) hx hb dX10_copyRow_3 (by decide) ?_
  refine lv_aload_n hx hb dX10_copyRow_4 rfl (lv_at hl 0 rfl) ?_
  refine ht_alen (v := 6) (n := 6) (q := 0) hx hb hK hP hs t_za (by decide) rfl rfl rfl dX10_copyRow_5 ?_
  refine lv_aload_n hx hb dX10_copyRow_6 rfl (lv_at hl 1 rfl) ?_
  refine ht_alen (v := 6) (n := 6) (q := 0) hx hb hK hP hs t_zb (by decide) rfl rfl rfl dX10_copyRow_7 ?_
  refine va_mmin hx hb (by rw [hml]; exact hl.1.symm) hown (hts (.methodLink RX10 382 Lib.Math.min.name) (by decide +kernel)) (hts (.static Lib.Math.min.name) (by decide +kernel)) (hts (.initialized "java/lang/Math") (by decide +kernel)) (hts (.code Lib.Math.min.name Lib.Math.min.code 2 (some .int)) (by decide +kernel)) (Nat.le_of_ble_eq_true rfl) (Nat.le_of_ble_eq_true rfl) (Nat.le_of_ble_eq_true rfl) (Nat.le_of_ble_eq_true rfl) dX10_copyRow_8 ?_
  refine lv_topi (fun zi_1 ezi_1 => ?_)
  obtain rfl : zi_1 = (6 : Int32) := ezi_1.trans (by decide)
  refine ht_cpi (sp := (0 : Int32)) (dp := (0 : Int32)) (n := (6 : Int32)) (n1 := 6) (n2 := 6) (q := 0) hx hb (by rw [hml]; exact hl.1.symm) hown (hts (.methodLink RX10 385 arraycopyName) (by decide +kernel)) (hts (.native arraycopyName) (by decide +kernel)) (hts (.static arraycopyName) (by decide +kernel)) (hts (.initialized "java/lang/System") (by decide +kernel)) hK hP hD hS hs t_zb t_za (by decide) (by decide) rfl rfl rfl (by decide) (by decide) (by decide) (by decide) (by decide) (Nat.le_of_ble_eq_true rfl) (by decide) dX10_copyRow_11 (fun H locs hP hD hS => ?_)
  have h_zI_2 : WM [7900] AL zT zR zI (ur zI zb (va_cpy (zI za) (zI zb) (0 : Int32).toNatClampNeg (0 : Int32).toNatClampNeg (6 : Int32).toNatClampNeg)) := h_zI.cpy hs t_za t_zb (by decide) (by decide) rfl (by decide) (by decide) trivial
  generalize uzI_2 : ur zI zb (va_cpy (zI za) (zI zb) (0 : Int32).toNatClampNeg (0 : Int32).toNatClampNeg (6 : Int32).toNatClampNeg) = zI_2 at hP hD h_zI_2
  subst hQ
  exact W.vret hx hb hr (fun t ht hW => ⟨⟨zI_2, rfl, h_zI_2, ⟨by rw [ht]; exact hP, va_K.moved hW.alike hK, hD⟩⟩, hS.F ht⟩) hS.2.2 dX10_copyRow_14
set_option maxHeartbeats 8000000 in
set_option maxRecDepth 100000 in
theorem t_copyRow_79_29 (l : Launch) (dC : Nat → ClassId) (dI : Nat → Nat → Nat) (cy : Nat → ClassId) (sz : Nat) (zL : List Nat) (zT : Nat → Nat) (zR : Nat → Nat → Nat) (zI : Nat → Nat → Int32) (zJ : Nat → Nat → Int64) (za : Nat) (zb : Nat) (hs : SKP zL zT zR) (hw : WT zT zR zI) (t_za : zT za = 79) (t_zb : zT zb = 29) : Met l yX10_copyRow wsX10_copyRow ({ frames := 1, cells := 0, slots := 0, locals := 30 } : Room) (va_Pc [.ref za, .ref zb] (PRE dC dI cy (WL cy zL zT zR zI zJ) sz)) (va_Qv (fun (u : (Nat → Nat → Int32)) => (WM [2900] AL zT zR zI u)) (fun u t => POST dC dI cy (va_A (WL cy zL zT zR zI zJ) sz) (WL cy zL zT zR u zJ) t) (va_A (WL cy zL zT zR zI zJ) sz)) 0 0 (va_A (WL cy zL zT zR zI zJ) sz) := by
  refine Met.ofW (cc := cX10_copyRow) (maxL := 2) (ret := none) (by decide) rfl ?_
  intro p e s m args below meth c s₁ B hml hv
  obtain ⟨rfl, hsz, hP, hK, hD0, hN⟩ := hv
  have hx := B.exec
  have hb := B.bytes
  have hr := B.returns
  have hts := atoms_spec (ws := wsX10_copyRow) B.pre
  have hown : s.vm.findClass RX10 = some m.cls := findClass_of_methodNamed B.named
  have hlocks := B.notSynchronized
  subst hsz
  have hD := hD0.self (sz := s.heap.size)
  generalize hAe : va_A (WL cy zL zT zR zI zJ) s.heap.size = A at hD ⊢
  have hA : ∀ q : Nat, s.heap.size ≤ q → A q := fun q h => by rw [← hAe]; exact Or.inr h
  have hS : va_S A s.heap s.heap [] := va_S.rf
  have hP : va_P (dC, dI) vwCl (WL cy zL zT zR zI zJ) s.heap := hP
  have hl := lv_entry ([.ref za, .ref zb] : List Value) (n := 2) (Nat.le_of_ble_eq_true rfl)
  rw [lg_entry_eq]
  generalize (lg_sl ([.ref za, .ref zb] : List Value) ++ List.replicate (2 - (lg_sl ([.ref za, .ref zb] : List Value)).length) Slot.unset).toArray = ls at hl ⊢
  have hl : lv_has ls 2 [(0, .ref za), (1, .ref zb)] := hl
  refine w_q (fun Q hQ => ?_)
  have h_zI : WM [2900] AL zT zR zI zI := WM.rf hw
  refine lv_aload_n hx hb dX10_copyRow_0 rfl (lv_at hl 0 rfl) ?_
  refine lv_iconst (v := 0) hx hb dX10_copyRow_1 (by decide) ?_
  refine lv_aload_n hx hb dX10_copyRow_2 rfl (lv_at hl 1 rfl) ?_
  refine lv_iconst (v := 0) hx hb dX10_copyRow_3 (by decide) ?_
  refine lv_aload_n hx hb dX10_copyRow_4 rfl (lv_at hl 0 rfl) ?_
  refine ht_alen (v := 6) (n := 6) (q := 0) hx hb hK hP hs t_za (by decide) rfl rfl rfl dX10_copyRow_5 ?_
  refine lv_aload_n hx hb dX10_copyRow_6 rfl (lv_at hl 1 rfl) ?_
  refine ht_alen (v := 6) (n := 6) (q := 0) hx hb hK hP hs t_zb (by decide) rfl rfl rfl dX10_copyRow_7 ?_
  refine va_mmin hx hb (by rw [hml]; exact hl.1.symm) hown (hts (.methodLink RX10 382 Lib.Math.min.name) (by decide +kernel)) (hts (.static Lib.Math.min.name) (by decide +kernel)) (hts (.initialized "java/lang/Math") (by decide +kernel)) (hts (.code Lib.Math.min.name Lib.Math.min.code 2 (some .int)) (by decide +kernel)) (Nat.le_of_ble_eq_true rfl) (Nat.le_of_ble_eq_true rfl) (Nat.le_of_ble_eq_true rfl) (Nat.le_of_ble_eq_true rfl) dX10_copyRow_8 ?_
  refine lv_topi (fun zi_1 ezi_1 => ?_)
  obtain rfl : zi_1 = (6 : Int32) := ezi_1.trans (by decide)
  refine ht_cpi (sp := (0 : Int32)) (dp := (0 : Int32)) (n := (6 : Int32)) (n1 := 6) (n2 := 6) (q := 0) hx hb (by rw [hml]; exact hl.1.symm) hown (hts (.methodLink RX10 385 arraycopyName) (by decide +kernel)) (hts (.native arraycopyName) (by decide +kernel)) (hts (.static arraycopyName) (by decide +kernel)) (hts (.initialized "java/lang/System") (by decide +kernel)) hK hP hD hS hs t_zb t_za (by decide) (by decide) rfl rfl rfl (by decide) (by decide) (by decide) (by decide) (by decide) (Nat.le_of_ble_eq_true rfl) (by decide) dX10_copyRow_11 (fun H locs hP hD hS => ?_)
  have h_zI_2 : WM [2900] AL zT zR zI (ur zI zb (va_cpy (zI za) (zI zb) (0 : Int32).toNatClampNeg (0 : Int32).toNatClampNeg (6 : Int32).toNatClampNeg)) := h_zI.cpy hs t_za t_zb (by decide) (by decide) rfl (by decide) (by decide) trivial
  generalize uzI_2 : ur zI zb (va_cpy (zI za) (zI zb) (0 : Int32).toNatClampNeg (0 : Int32).toNatClampNeg (6 : Int32).toNatClampNeg) = zI_2 at hP hD h_zI_2
  subst hQ
  exact W.vret hx hb hr (fun t ht hW => ⟨⟨zI_2, rfl, h_zI_2, ⟨by rw [ht]; exact hP, va_K.moved hW.alike hK, hD⟩⟩, hS.F ht⟩) hS.2.2 dX10_copyRow_14
set_option maxHeartbeats 8000000 in
set_option maxRecDepth 100000 in
theorem t_copyRow_29_29 (l : Launch) (dC : Nat → ClassId) (dI : Nat → Nat → Nat) (cy : Nat → ClassId) (sz : Nat) (zL : List Nat) (zT : Nat → Nat) (zR : Nat → Nat → Nat) (zI : Nat → Nat → Int32) (zJ : Nat → Nat → Int64) (za : Nat) (zb : Nat) (hs : SKP zL zT zR) (hw : WT zT zR zI) (t_za : zT za = 29) (t_zb : zT zb = 29) : Met l yX10_copyRow wsX10_copyRow ({ frames := 1, cells := 0, slots := 0, locals := 30 } : Room) (va_Pc [.ref za, .ref zb] (PRE dC dI cy (WL cy zL zT zR zI zJ) sz)) (va_Qv (fun (u : (Nat → Nat → Int32)) => (WM [2900] AL zT zR zI u)) (fun u t => POST dC dI cy (va_A (WL cy zL zT zR zI zJ) sz) (WL cy zL zT zR u zJ) t) (va_A (WL cy zL zT zR zI zJ) sz)) 0 0 (va_A (WL cy zL zT zR zI zJ) sz) := by
  refine Met.ofW (cc := cX10_copyRow) (maxL := 2) (ret := none) (by decide) rfl ?_
  intro p e s m args below meth c s₁ B hml hv
  obtain ⟨rfl, hsz, hP, hK, hD0, hN⟩ := hv
  have hx := B.exec
  have hb := B.bytes
  have hr := B.returns
  have hts := atoms_spec (ws := wsX10_copyRow) B.pre
  have hown : s.vm.findClass RX10 = some m.cls := findClass_of_methodNamed B.named
  have hlocks := B.notSynchronized
  subst hsz
  have hD := hD0.self (sz := s.heap.size)
  generalize hAe : va_A (WL cy zL zT zR zI zJ) s.heap.size = A at hD ⊢
  have hA : ∀ q : Nat, s.heap.size ≤ q → A q := fun q h => by rw [← hAe]; exact Or.inr h
  have hS : va_S A s.heap s.heap [] := va_S.rf
  have hP : va_P (dC, dI) vwCl (WL cy zL zT zR zI zJ) s.heap := hP
  have hl := lv_entry ([.ref za, .ref zb] : List Value) (n := 2) (Nat.le_of_ble_eq_true rfl)
  rw [lg_entry_eq]
  generalize (lg_sl ([.ref za, .ref zb] : List Value) ++ List.replicate (2 - (lg_sl ([.ref za, .ref zb] : List Value)).length) Slot.unset).toArray = ls at hl ⊢
  have hl : lv_has ls 2 [(0, .ref za), (1, .ref zb)] := hl
  refine w_q (fun Q hQ => ?_)
  have h_zI : WM [2900] AL zT zR zI zI := WM.rf hw
  refine lv_aload_n hx hb dX10_copyRow_0 rfl (lv_at hl 0 rfl) ?_
  refine lv_iconst (v := 0) hx hb dX10_copyRow_1 (by decide) ?_
  refine lv_aload_n hx hb dX10_copyRow_2 rfl (lv_at hl 1 rfl) ?_
  refine lv_iconst (v := 0) hx hb dX10_copyRow_3 (by decide) ?_
  refine lv_aload_n hx hb dX10_copyRow_4 rfl (lv_at hl 0 rfl) ?_
  refine ht_alen (v := 6) (n := 6) (q := 0) hx hb hK hP hs t_za (by decide) rfl rfl rfl dX10_copyRow_5 ?_
  refine lv_aload_n hx hb dX10_copyRow_6 rfl (lv_at hl 1 rfl) ?_
  refine ht_alen (v := 6) (n := 6) (q := 0) hx hb hK hP hs t_zb (by decide) rfl rfl rfl dX10_copyRow_7 ?_
  refine va_mmin hx hb (by rw [hml]; exact hl.1.symm) hown (hts (.methodLink RX10 382 Lib.Math.min.name) (by decide +kernel)) (hts (.static Lib.Math.min.name) (by decide +kernel)) (hts (.initialized "java/lang/Math") (by decide +kernel)) (hts (.code Lib.Math.min.name Lib.Math.min.code 2 (some .int)) (by decide +kernel)) (Nat.le_of_ble_eq_true rfl) (Nat.le_of_ble_eq_true rfl) (Nat.le_of_ble_eq_true rfl) (Nat.le_of_ble_eq_true rfl) dX10_copyRow_8 ?_
  refine lv_topi (fun zi_1 ezi_1 => ?_)
  obtain rfl : zi_1 = (6 : Int32) := ezi_1.trans (by decide)
  refine ht_cpi (sp := (0 : Int32)) (dp := (0 : Int32)) (n := (6 : Int32)) (n1 := 6) (n2 := 6) (q := 0) hx hb (by rw [hml]; exact hl.1.symm) hown (hts (.methodLink RX10 385 arraycopyName) (by decide +kernel)) (hts (.native arraycopyName) (by decide +kernel)) (hts (.static arraycopyName) (by decide +kernel)) (hts (.initialized "java/lang/System") (by decide +kernel)) hK hP hD hS hs t_zb t_za (by decide) (by decide) rfl rfl rfl (by decide) (by decide) (by decide) (by decide) (by decide) (Nat.le_of_ble_eq_true rfl) (by decide) dX10_copyRow_11 (fun H locs hP hD hS => ?_)
  have h_zI_2 : WM [2900] AL zT zR zI (ur zI zb (va_cpy (zI za) (zI zb) (0 : Int32).toNatClampNeg (0 : Int32).toNatClampNeg (6 : Int32).toNatClampNeg)) := h_zI.cpy hs t_za t_zb (by decide) (by decide) rfl (by decide) (by decide) trivial
  generalize uzI_2 : ur zI zb (va_cpy (zI za) (zI zb) (0 : Int32).toNatClampNeg (0 : Int32).toNatClampNeg (6 : Int32).toNatClampNeg) = zI_2 at hP hD h_zI_2
  subst hQ
  exact W.vret hx hb hr (fun t ht hW => ⟨⟨zI_2, rfl, h_zI_2, ⟨by rw [ht]; exact hP, va_K.moved hW.alike hK, hD⟩⟩, hS.F ht⟩) hS.2.2 dX10_copyRow_14
set_option maxHeartbeats 8000000 in
set_option maxRecDepth 100000 in
theorem t_copyRow_30_80 (l : Launch) (dC : Nat → ClassId) (dI : Nat → Nat → Nat) (cy : Nat → ClassId) (sz : Nat) (zL : List Nat) (zT : Nat → Nat) (zR : Nat → Nat → Nat) (zI : Nat → Nat → Int32) (zJ : Nat → Nat → Int64) (za : Nat) (zb : Nat) (hs : SKP zL zT zR) (hw : WT zT zR zI) (t_za : zT za = 30) (t_zb : zT zb = 80) : Met l yX10_copyRow wsX10_copyRow ({ frames := 1, cells := 0, slots := 0, locals := 30 } : Room) (va_Pc [.ref za, .ref zb] (PRE dC dI cy (WL cy zL zT zR zI zJ) sz)) (va_Qv (fun (u : (Nat → Nat → Int32)) => (WM [8000] AL zT zR zI u)) (fun u t => POST dC dI cy (va_A (WL cy zL zT zR zI zJ) sz) (WL cy zL zT zR u zJ) t) (va_A (WL cy zL zT zR zI zJ) sz)) 0 0 (va_A (WL cy zL zT zR zI zJ) sz) := by
  refine Met.ofW (cc := cX10_copyRow) (maxL := 2) (ret := none) (by decide) rfl ?_
  intro p e s m args below meth c s₁ B hml hv
  obtain ⟨rfl, hsz, hP, hK, hD0, hN⟩ := hv
  have hx := B.exec
  have hb := B.bytes
  have hr := B.returns
  have hts := atoms_spec (ws := wsX10_copyRow) B.pre
  have hown : s.vm.findClass RX10 = some m.cls := findClass_of_methodNamed B.named
  have hlocks := B.notSynchronized
  subst hsz
  have hD := hD0.self (sz := s.heap.size)
  generalize hAe : va_A (WL cy zL zT zR zI zJ) s.heap.size = A at hD ⊢
  have hA : ∀ q : Nat, s.heap.size ≤ q → A q := fun q h => by rw [← hAe]; exact Or.inr h
  have hS : va_S A s.heap s.heap [] := va_S.rf
  have hP : va_P (dC, dI) vwCl (WL cy zL zT zR zI zJ) s.heap := hP
  have hl := lv_entry ([.ref za, .ref zb] : List Value) (n := 2) (Nat.le_of_ble_eq_true rfl)
  rw [lg_entry_eq]
  generalize (lg_sl ([.ref za, .ref zb] : List Value) ++ List.replicate (2 - (lg_sl ([.ref za, .ref zb] : List Value)).length) Slot.unset).toArray = ls at hl ⊢
  have hl : lv_has ls 2 [(0, .ref za), (1, .ref zb)] := hl
  refine w_q (fun Q hQ => ?_)
  have h_zI : WM [8000] AL zT zR zI zI := WM.rf hw
  refine lv_aload_n hx hb dX10_copyRow_0 rfl (lv_at hl 0 rfl) ?_
  refine lv_iconst (v := 0) hx hb dX10_copyRow_1 (by decide) ?_
  refine lv_aload_n hx hb dX10_copyRow_2 rfl (lv_at hl 1 rfl) ?_
  refine lv_iconst (v := 0) hx hb dX10_copyRow_3 (by decide) ?_
  refine lv_aload_n hx hb dX10_copyRow_4 rfl (lv_at hl 0 rfl) ?_
  refine ht_alen (v := 18) (n := 18) (q := 0) hx hb hK hP hs t_za (by decide) rfl rfl rfl dX10_copyRow_5 ?_
  refine lv_aload_n hx hb dX10_copyRow_6 rfl (lv_at hl 1 rfl) ?_
  refine ht_alen (v := 18) (n := 18) (q := 0) hx hb hK hP hs t_zb (by decide) rfl rfl rfl dX10_copyRow_7 ?_
  refine va_mmin hx hb (by rw [hml]; exact hl.1.symm) hown (hts (.methodLink RX10 382 Lib.Math.min.name) (by decide +kernel)) (hts (.static Lib.Math.min.name) (by decide +kernel)) (hts (.initialized "java/lang/Math") (by decide +kernel)) (hts (.code Lib.Math.min.name Lib.Math.min.code 2 (some .int)) (by decide +kernel)) (Nat.le_of_ble_eq_true rfl) (Nat.le_of_ble_eq_true rfl) (Nat.le_of_ble_eq_true rfl) (Nat.le_of_ble_eq_true rfl) dX10_copyRow_8 ?_
  refine lv_topi (fun zi_1 ezi_1 => ?_)
  obtain rfl : zi_1 = (18 : Int32) := ezi_1.trans (by decide)
  refine ht_cpi (sp := (0 : Int32)) (dp := (0 : Int32)) (n := (18 : Int32)) (n1 := 18) (n2 := 18) (q := 0) hx hb (by rw [hml]; exact hl.1.symm) hown (hts (.methodLink RX10 385 arraycopyName) (by decide +kernel)) (hts (.native arraycopyName) (by decide +kernel)) (hts (.static arraycopyName) (by decide +kernel)) (hts (.initialized "java/lang/System") (by decide +kernel)) hK hP hD hS hs t_zb t_za (by decide) (by decide) rfl rfl rfl (by decide) (by decide) (by decide) (by decide) (by decide) (Nat.le_of_ble_eq_true rfl) (by decide) dX10_copyRow_11 (fun H locs hP hD hS => ?_)
  have h_zI_2 : WM [8000] AL zT zR zI (ur zI zb (va_cpy (zI za) (zI zb) (0 : Int32).toNatClampNeg (0 : Int32).toNatClampNeg (18 : Int32).toNatClampNeg)) := h_zI.cpy hs t_za t_zb (by decide) (by decide) rfl (by decide) (by decide) trivial
  generalize uzI_2 : ur zI zb (va_cpy (zI za) (zI zb) (0 : Int32).toNatClampNeg (0 : Int32).toNatClampNeg (18 : Int32).toNatClampNeg) = zI_2 at hP hD h_zI_2
  subst hQ
  exact W.vret hx hb hr (fun t ht hW => ⟨⟨zI_2, rfl, h_zI_2, ⟨by rw [ht]; exact hP, va_K.moved hW.alike hK, hD⟩⟩, hS.F ht⟩) hS.2.2 dX10_copyRow_14
set_option maxHeartbeats 8000000 in
set_option maxRecDepth 100000 in
theorem t_copyRow_80_30 (l : Launch) (dC : Nat → ClassId) (dI : Nat → Nat → Nat) (cy : Nat → ClassId) (sz : Nat) (zL : List Nat) (zT : Nat → Nat) (zR : Nat → Nat → Nat) (zI : Nat → Nat → Int32) (zJ : Nat → Nat → Int64) (za : Nat) (zb : Nat) (hs : SKP zL zT zR) (hw : WT zT zR zI) (t_za : zT za = 80) (t_zb : zT zb = 30) : Met l yX10_copyRow wsX10_copyRow ({ frames := 1, cells := 0, slots := 0, locals := 30 } : Room) (va_Pc [.ref za, .ref zb] (PRE dC dI cy (WL cy zL zT zR zI zJ) sz)) (va_Qv (fun (u : (Nat → Nat → Int32)) => (WM [3000] AL zT zR zI u)) (fun u t => POST dC dI cy (va_A (WL cy zL zT zR zI zJ) sz) (WL cy zL zT zR u zJ) t) (va_A (WL cy zL zT zR zI zJ) sz)) 0 0 (va_A (WL cy zL zT zR zI zJ) sz) := by
  refine Met.ofW (cc := cX10_copyRow) (maxL := 2) (ret := none) (by decide) rfl ?_
  intro p e s m args below meth c s₁ B hml hv
  obtain ⟨rfl, hsz, hP, hK, hD0, hN⟩ := hv
  have hx := B.exec
  have hb := B.bytes
  have hr := B.returns
  have hts := atoms_spec (ws := wsX10_copyRow) B.pre
  have hown : s.vm.findClass RX10 = some m.cls := findClass_of_methodNamed B.named
  have hlocks := B.notSynchronized
  subst hsz
  have hD := hD0.self (sz := s.heap.size)
  generalize hAe : va_A (WL cy zL zT zR zI zJ) s.heap.size = A at hD ⊢
  have hA : ∀ q : Nat, s.heap.size ≤ q → A q := fun q h => by rw [← hAe]; exact Or.inr h
  have hS : va_S A s.heap s.heap [] := va_S.rf
  have hP : va_P (dC, dI) vwCl (WL cy zL zT zR zI zJ) s.heap := hP
  have hl := lv_entry ([.ref za, .ref zb] : List Value) (n := 2) (Nat.le_of_ble_eq_true rfl)
  rw [lg_entry_eq]
  generalize (lg_sl ([.ref za, .ref zb] : List Value) ++ List.replicate (2 - (lg_sl ([.ref za, .ref zb] : List Value)).length) Slot.unset).toArray = ls at hl ⊢
  have hl : lv_has ls 2 [(0, .ref za), (1, .ref zb)] := hl
  refine w_q (fun Q hQ => ?_)
  have h_zI : WM [3000] AL zT zR zI zI := WM.rf hw
  refine lv_aload_n hx hb dX10_copyRow_0 rfl (lv_at hl 0 rfl) ?_
  refine lv_iconst (v := 0) hx hb dX10_copyRow_1 (by decide) ?_
  refine lv_aload_n hx hb dX10_copyRow_2 rfl (lv_at hl 1 rfl) ?_
  refine lv_iconst (v := 0) hx hb dX10_copyRow_3 (by decide) ?_
  refine lv_aload_n hx hb dX10_copyRow_4 rfl (lv_at hl 0 rfl) ?_
  refine ht_alen (v := 18) (n := 18) (q := 0) hx hb hK hP hs t_za (by decide) rfl rfl rfl dX10_copyRow_5 ?_
  refine lv_aload_n hx hb dX10_copyRow_6 rfl (lv_at hl 1 rfl) ?_
  refine ht_alen (v := 18) (n := 18) (q := 0) hx hb hK hP hs t_zb (by decide) rfl rfl rfl dX10_copyRow_7 ?_
  refine va_mmin hx hb (by rw [hml]; exact hl.1.symm) hown (hts (.methodLink RX10 382 Lib.Math.min.name) (by decide +kernel)) (hts (.static Lib.Math.min.name) (by decide +kernel)) (hts (.initialized "java/lang/Math") (by decide +kernel)) (hts (.code Lib.Math.min.name Lib.Math.min.code 2 (some .int)) (by decide +kernel)) (Nat.le_of_ble_eq_true rfl) (Nat.le_of_ble_eq_true rfl) (Nat.le_of_ble_eq_true rfl) (Nat.le_of_ble_eq_true rfl) dX10_copyRow_8 ?_
  refine lv_topi (fun zi_1 ezi_1 => ?_)
  obtain rfl : zi_1 = (18 : Int32) := ezi_1.trans (by decide)
  refine ht_cpi (sp := (0 : Int32)) (dp := (0 : Int32)) (n := (18 : Int32)) (n1 := 18) (n2 := 18) (q := 0) hx hb (by rw [hml]; exact hl.1.symm) hown (hts (.methodLink RX10 385 arraycopyName) (by decide +kernel)) (hts (.native arraycopyName) (by decide +kernel)) (hts (.static arraycopyName) (by decide +kernel)) (hts (.initialized "java/lang/System") (by decide +kernel)) hK hP hD hS hs t_zb t_za (by decide) (by decide) rfl rfl rfl (by decide) (by decide) (by decide) (by decide) (by decide) (Nat.le_of_ble_eq_true rfl) (by decide) dX10_copyRow_11 (fun H locs hP hD hS => ?_)
  have h_zI_2 : WM [3000] AL zT zR zI (ur zI zb (va_cpy (zI za) (zI zb) (0 : Int32).toNatClampNeg (0 : Int32).toNatClampNeg (18 : Int32).toNatClampNeg)) := h_zI.cpy hs t_za t_zb (by decide) (by decide) rfl (by decide) (by decide) trivial
  generalize uzI_2 : ur zI zb (va_cpy (zI za) (zI zb) (0 : Int32).toNatClampNeg (0 : Int32).toNatClampNeg (18 : Int32).toNatClampNeg) = zI_2 at hP hD h_zI_2
  subst hQ
  exact W.vret hx hb hr (fun t ht hW => ⟨⟨zI_2, rfl, h_zI_2, ⟨by rw [ht]; exact hP, va_K.moved hW.alike hK, hD⟩⟩, hS.F ht⟩) hS.2.2 dX10_copyRow_14
set_option maxHeartbeats 8000000 in
set_option maxRecDepth 100000 in
theorem t_copyRow_30_30 (l : Launch) (dC : Nat → ClassId) (dI : Nat → Nat → Nat) (cy : Nat → ClassId) (sz : Nat) (zL : List Nat) (zT : Nat → Nat) (zR : Nat → Nat → Nat) (zI : Nat → Nat → Int32) (zJ : Nat → Nat → Int64) (za : Nat) (zb : Nat) (hs : SKP zL zT zR) (hw : WT zT zR zI) (t_za : zT za = 30) (t_zb : zT zb = 30) : Met l yX10_copyRow wsX10_copyRow ({ frames := 1, cells := 0, slots := 0, locals := 30 } : Room) (va_Pc [.ref za, .ref zb] (PRE dC dI cy (WL cy zL zT zR zI zJ) sz)) (va_Qv (fun (u : (Nat → Nat → Int32)) => (WM [3000] AL zT zR zI u)) (fun u t => POST dC dI cy (va_A (WL cy zL zT zR zI zJ) sz) (WL cy zL zT zR u zJ) t) (va_A (WL cy zL zT zR zI zJ) sz)) 0 0 (va_A (WL cy zL zT zR zI zJ) sz) := by
  refine Met.ofW (cc := cX10_copyRow) (maxL := 2) (ret := none) (by decide) rfl ?_
  intro p e s m args below meth c s₁ B hml hv
  obtain ⟨rfl, hsz, hP, hK, hD0, hN⟩ := hv
  have hx := B.exec
  have hb := B.bytes
  have hr := B.returns
  have hts := atoms_spec (ws := wsX10_copyRow) B.pre
  have hown : s.vm.findClass RX10 = some m.cls := findClass_of_methodNamed B.named
  have hlocks := B.notSynchronized
  subst hsz
  have hD := hD0.self (sz := s.heap.size)
  generalize hAe : va_A (WL cy zL zT zR zI zJ) s.heap.size = A at hD ⊢
  have hA : ∀ q : Nat, s.heap.size ≤ q → A q := fun q h => by rw [← hAe]; exact Or.inr h
  have hS : va_S A s.heap s.heap [] := va_S.rf
  have hP : va_P (dC, dI) vwCl (WL cy zL zT zR zI zJ) s.heap := hP
  have hl := lv_entry ([.ref za, .ref zb] : List Value) (n := 2) (Nat.le_of_ble_eq_true rfl)
  rw [lg_entry_eq]
  generalize (lg_sl ([.ref za, .ref zb] : List Value) ++ List.replicate (2 - (lg_sl ([.ref za, .ref zb] : List Value)).length) Slot.unset).toArray = ls at hl ⊢
  have hl : lv_has ls 2 [(0, .ref za), (1, .ref zb)] := hl
  refine w_q (fun Q hQ => ?_)
  have h_zI : WM [3000] AL zT zR zI zI := WM.rf hw
  refine lv_aload_n hx hb dX10_copyRow_0 rfl (lv_at hl 0 rfl) ?_
  refine lv_iconst (v := 0) hx hb dX10_copyRow_1 (by decide) ?_
  refine lv_aload_n hx hb dX10_copyRow_2 rfl (lv_at hl 1 rfl) ?_
  refine lv_iconst (v := 0) hx hb dX10_copyRow_3 (by decide) ?_
  refine lv_aload_n hx hb dX10_copyRow_4 rfl (lv_at hl 0 rfl) ?_
  refine ht_alen (v := 18) (n := 18) (q := 0) hx hb hK hP hs t_za (by decide) rfl rfl rfl dX10_copyRow_5 ?_
  refine lv_aload_n hx hb dX10_copyRow_6 rfl (lv_at hl 1 rfl) ?_
  refine ht_alen (v := 18) (n := 18) (q := 0) hx hb hK hP hs t_zb (by decide) rfl rfl rfl dX10_copyRow_7 ?_
  refine va_mmin hx hb (by rw [hml]; exact hl.1.symm) hown (hts (.methodLink RX10 382 Lib.Math.min.name) (by decide +kernel)) (hts (.static Lib.Math.min.name) (by decide +kernel)) (hts (.initialized "java/lang/Math") (by decide +kernel)) (hts (.code Lib.Math.min.name Lib.Math.min.code 2 (some .int)) (by decide +kernel)) (Nat.le_of_ble_eq_true rfl) (Nat.le_of_ble_eq_true rfl) (Nat.le_of_ble_eq_true rfl) (Nat.le_of_ble_eq_true rfl) dX10_copyRow_8 ?_
  refine lv_topi (fun zi_1 ezi_1 => ?_)
  obtain rfl : zi_1 = (18 : Int32) := ezi_1.trans (by decide)
  refine ht_cpi (sp := (0 : Int32)) (dp := (0 : Int32)) (n := (18 : Int32)) (n1 := 18) (n2 := 18) (q := 0) hx hb (by rw [hml]; exact hl.1.symm) hown (hts (.methodLink RX10 385 arraycopyName) (by decide +kernel)) (hts (.native arraycopyName) (by decide +kernel)) (hts (.static arraycopyName) (by decide +kernel)) (hts (.initialized "java/lang/System") (by decide +kernel)) hK hP hD hS hs t_zb t_za (by decide) (by decide) rfl rfl rfl (by decide) (by decide) (by decide) (by decide) (by decide) (Nat.le_of_ble_eq_true rfl) (by decide) dX10_copyRow_11 (fun H locs hP hD hS => ?_)
  have h_zI_2 : WM [3000] AL zT zR zI (ur zI zb (va_cpy (zI za) (zI zb) (0 : Int32).toNatClampNeg (0 : Int32).toNatClampNeg (18 : Int32).toNatClampNeg)) := h_zI.cpy hs t_za t_zb (by decide) (by decide) rfl (by decide) (by decide) trivial
  generalize uzI_2 : ur zI zb (va_cpy (zI za) (zI zb) (0 : Int32).toNatClampNeg (0 : Int32).toNatClampNeg (18 : Int32).toNatClampNeg) = zI_2 at hP hD h_zI_2
  subst hQ
  exact W.vret hx hb hr (fun t ht hW => ⟨⟨zI_2, rfl, h_zI_2, ⟨by rw [ht]; exact hP, va_K.moved hW.alike hK, hD⟩⟩, hS.F ht⟩) hS.2.2 dX10_copyRow_14
set_option maxHeartbeats 8000000 in
set_option maxRecDepth 100000 in
theorem t_copyRow_31_81 (l : Launch) (dC : Nat → ClassId) (dI : Nat → Nat → Nat) (cy : Nat → ClassId) (sz : Nat) (zL : List Nat) (zT : Nat → Nat) (zR : Nat → Nat → Nat) (zI : Nat → Nat → Int32) (zJ : Nat → Nat → Int64) (za : Nat) (zb : Nat) (hs : SKP zL zT zR) (hw : WT zT zR zI) (t_za : zT za = 31) (t_zb : zT zb = 81) : Met l yX10_copyRow wsX10_copyRow ({ frames := 1, cells := 0, slots := 0, locals := 30 } : Room) (va_Pc [.ref za, .ref zb] (PRE dC dI cy (WL cy zL zT zR zI zJ) sz)) (va_Qv (fun (u : (Nat → Nat → Int32)) => (WM [8100] AL zT zR zI u)) (fun u t => POST dC dI cy (va_A (WL cy zL zT zR zI zJ) sz) (WL cy zL zT zR u zJ) t) (va_A (WL cy zL zT zR zI zJ) sz)) 0 0 (va_A (WL cy zL zT zR zI zJ) sz) := by
  refine Met.ofW (cc := cX10_copyRow) (maxL := 2) (ret := none) (by decide) rfl ?_
  intro p e s m args below meth c s₁ B hml hv
  obtain ⟨rfl, hsz, hP, hK, hD0, hN⟩ := hv
  have hx := B.exec
  have hb := B.bytes
  have hr := B.returns
  have hts := atoms_spec (ws := wsX10_copyRow) B.pre
  have hown : s.vm.findClass RX10 = some m.cls := findClass_of_methodNamed B.named
  have hlocks := B.notSynchronized
  subst hsz
  have hD := hD0.self (sz := s.heap.size)
  generalize hAe : va_A (WL cy zL zT zR zI zJ) s.heap.size = A at hD ⊢
  have hA : ∀ q : Nat, s.heap.size ≤ q → A q := fun q h => by rw [← hAe]; exact Or.inr h
  have hS : va_S A s.heap s.heap [] := va_S.rf
  have hP : va_P (dC, dI) vwCl (WL cy zL zT zR zI zJ) s.heap := hP
  have hl := lv_entry ([.ref za, .ref zb] : List Value) (n := 2) (Nat.le_of_ble_eq_true rfl)
  rw [lg_entry_eq]
  generalize (lg_sl ([.ref za, .ref zb] : List Value) ++ List.replicate (2 - (lg_sl ([.ref za, .ref zb] : List Value)).length) Slot.unset).toArray = ls at hl ⊢
  have hl : lv_has ls 2 [(0, .ref za), (1, .ref zb)] := hl
  refine w_q (fun Q hQ => ?_)
  have h_zI : WM [8100] AL zT zR zI zI := WM.rf hw
  refine lv_aload_n hx hb dX10_copyRow_0 rfl (lv_at hl 0 rfl) ?_
  refine lv_iconst (v := 0) hx hb dX10_copyRow_1 (by decide) ?_
  refine lv_aload_n hx hb dX10_copyRow_2 rfl (lv_at hl 1 rfl) ?_
  refine lv_iconst (v := 0) hx hb dX10_copyRow_3 (by decide) ?_
  refine lv_aload_n hx hb dX10_copyRow_4 rfl (lv_at hl 0 rfl) ?_
  refine ht_alen (v := 2) (n := 2) (q := 0) hx hb hK hP hs t_za (by decide) rfl rfl rfl dX10_copyRow_5 ?_
  refine lv_aload_n hx hb dX10_copyRow_6 rfl (lv_at hl 1 rfl) ?_
  refine ht_alen (v := 2) (n := 2) (q := 0) hx hb hK hP hs t_zb (by decide) rfl rfl rfl dX10_copyRow_7 ?_
  refine va_mmin hx hb (by rw [hml]; exact hl.1.symm) hown (hts (.methodLink RX10 382 Lib.Math.min.name) (by decide +kernel)) (hts (.static Lib.Math.min.name) (by decide +kernel)) (hts (.initialized "java/lang/Math") (by decide +kernel)) (hts (.code Lib.Math.min.name Lib.Math.min.code 2 (some .int)) (by decide +kernel)) (Nat.le_of_ble_eq_true rfl) (Nat.le_of_ble_eq_true rfl) (Nat.le_of_ble_eq_true rfl) (Nat.le_of_ble_eq_true rfl) dX10_copyRow_8 ?_
  refine lv_topi (fun zi_1 ezi_1 => ?_)
  obtain rfl : zi_1 = (2 : Int32) := ezi_1.trans (by decide)
  refine ht_cpi (sp := (0 : Int32)) (dp := (0 : Int32)) (n := (2 : Int32)) (n1 := 2) (n2 := 2) (q := 0) hx hb (by rw [hml]; exact hl.1.symm) hown (hts (.methodLink RX10 385 arraycopyName) (by decide +kernel)) (hts (.native arraycopyName) (by decide +kernel)) (hts (.static arraycopyName) (by decide +kernel)) (hts (.initialized "java/lang/System") (by decide +kernel)) hK hP hD hS hs t_zb t_za (by decide) (by decide) rfl rfl rfl (by decide) (by decide) (by decide) (by decide) (by decide) (Nat.le_of_ble_eq_true rfl) (by decide) dX10_copyRow_11 (fun H locs hP hD hS => ?_)
  have h_zI_2 : WM [8100] AL zT zR zI (ur zI zb (va_cpy (zI za) (zI zb) (0 : Int32).toNatClampNeg (0 : Int32).toNatClampNeg (2 : Int32).toNatClampNeg)) := h_zI.cpy hs t_za t_zb (by decide) (by decide) rfl (by decide) (by decide) trivial
  generalize uzI_2 : ur zI zb (va_cpy (zI za) (zI zb) (0 : Int32).toNatClampNeg (0 : Int32).toNatClampNeg (2 : Int32).toNatClampNeg) = zI_2 at hP hD h_zI_2
  subst hQ
  exact W.vret hx hb hr (fun t ht hW => ⟨⟨zI_2, rfl, h_zI_2, ⟨by rw [ht]; exact hP, va_K.moved hW.alike hK, hD⟩⟩, hS.F ht⟩) hS.2.2 dX10_copyRow_14
set_option maxHeartbeats 8000000 in
set_option maxRecDepth 100000 in
theorem t_copyRow_81_31 (l : Launch) (dC : Nat → ClassId) (dI : Nat → Nat → Nat) (cy : Nat → ClassId) (sz : Nat) (zL : List Nat) (zT : Nat → Nat) (zR : Nat → Nat → Nat) (zI : Nat → Nat → Int32) (zJ : Nat → Nat → Int64) (za : Nat) (zb : Nat) (hs : SKP zL zT zR) (hw : WT zT zR zI) (t_za : zT za = 81) (t_zb : zT zb = 31) : Met l yX10_copyRow wsX10_copyRow ({ frames := 1, cells := 0, slots := 0, locals := 30 } : Room) (va_Pc [.ref za, .ref zb] (PRE dC dI cy (WL cy zL zT zR zI zJ) sz)) (va_Qv (fun (u : (Nat → Nat → Int32)) => (WM [3100] AL zT zR zI u)) (fun u t => POST dC dI cy (va_A (WL cy zL zT zR zI zJ) sz) (WL cy zL zT zR u zJ) t) (va_A (WL cy zL zT zR zI zJ) sz)) 0 0 (va_A (WL cy zL zT zR zI zJ) sz) := by
  refine Met.ofW (cc := cX10_copyRow) (maxL := 2) (ret := none) (by decide) rfl ?_
  intro p e s m args below meth c s₁ B hml hv
  obtain ⟨rfl, hsz, hP, hK, hD0, hN⟩ := hv
  have hx := B.exec
  have hb := B.bytes
  have hr := B.returns
  have hts := atoms_spec (ws := wsX10_copyRow) B.pre
  have hown : s.vm.findClass RX10 = some m.cls := findClass_of_methodNamed B.named
  have hlocks := B.notSynchronized
  subst hsz
  have hD := hD0.self (sz := s.heap.size)
  generalize hAe : va_A (WL cy zL zT zR zI zJ) s.heap.size = A at hD ⊢
  have hA : ∀ q : Nat, s.heap.size ≤ q → A q := fun q h => by rw [← hAe]; exact Or.inr h
  have hS : va_S A s.heap s.heap [] := va_S.rf
  have hP : va_P (dC, dI) vwCl (WL cy zL zT zR zI zJ) s.heap := hP
  have hl := lv_entry ([.ref za, .ref zb] : List Value) (n := 2) (Nat.le_of_ble_eq_true rfl)
  rw [lg_entry_eq]
  generalize (lg_sl ([.ref za, .ref zb] : List Value) ++ List.replicate (2 - (lg_sl ([.ref za, .ref zb] : List Value)).length) Slot.unset).toArray = ls at hl ⊢
  have hl : lv_has ls 2 [(0, .ref za), (1, .ref zb)] := hl
  refine w_q (fun Q hQ => ?_)
  have h_zI : WM [3100] AL zT zR zI zI := WM.rf hw
  refine lv_aload_n hx hb dX10_copyRow_0 rfl (lv_at hl 0 rfl) ?_
  refine lv_iconst (v := 0) hx hb dX10_copyRow_1 (by decide) ?_
  refine lv_aload_n hx hb dX10_copyRow_2 rfl (lv_at hl 1 rfl) ?_
  refine lv_iconst (v := 0) hx hb dX10_copyRow_3 (by decide) ?_
  refine lv_aload_n hx hb dX10_copyRow_4 rfl (lv_at hl 0 rfl) ?_
  refine ht_alen (v := 2) (n := 2) (q := 0) hx hb hK hP hs t_za (by decide) rfl rfl rfl dX10_copyRow_5 ?_
  refine lv_aload_n hx hb dX10_copyRow_6 rfl (lv_at hl 1 rfl) ?_
  refine ht_alen (v := 2) (n := 2) (q := 0) hx hb hK hP hs t_zb (by decide) rfl rfl rfl dX10_copyRow_7 ?_
  refine va_mmin hx hb (by rw [hml]; exact hl.1.symm) hown (hts (.methodLink RX10 382 Lib.Math.min.name) (by decide +kernel)) (hts (.static Lib.Math.min.name) (by decide +kernel)) (hts (.initialized "java/lang/Math") (by decide +kernel)) (hts (.code Lib.Math.min.name Lib.Math.min.code 2 (some .int)) (by decide +kernel)) (Nat.le_of_ble_eq_true rfl) (Nat.le_of_ble_eq_true rfl) (Nat.le_of_ble_eq_true rfl) (Nat.le_of_ble_eq_true rfl) dX10_copyRow_8 ?_
  refine lv_topi (fun zi_1 ezi_1 => ?_)
  obtain rfl : zi_1 = (2 : Int32) := ezi_1.trans (by decide)
  refine ht_cpi (sp := (0 : Int32)) (dp := (0 : Int32)) (n := (2 : Int32)) (n1 := 2) (n2 := 2) (q := 0) hx hb (by rw [hml]; exact hl.1.symm) hown (hts (.methodLink RX10 385 arraycopyName) (by decide +kernel)) (hts (.native arraycopyName) (by decide +kernel)) (hts (.static arraycopyName) (by decide +kernel)) (hts (.initialized "java/lang/System") (by decide +kernel)) hK hP hD hS hs t_zb t_za (by decide) (by decide) rfl rfl rfl (by decide) (by decide) (by decide) (by decide) (by decide) (Nat.le_of_ble_eq_true rfl) (by decide) dX10_copyRow_11 (fun H locs hP hD hS => ?_)
  have h_zI_2 : WM [3100] AL zT zR zI (ur zI zb (va_cpy (zI za) (zI zb) (0 : Int32).toNatClampNeg (0 : Int32).toNatClampNeg (2 : Int32).toNatClampNeg)) := h_zI.cpy hs t_za t_zb (by decide) (by decide) rfl (by decide) (by decide) trivial
  generalize uzI_2 : ur zI zb (va_cpy (zI za) (zI zb) (0 : Int32).toNatClampNeg (0 : Int32).toNatClampNeg (2 : Int32).toNatClampNeg) = zI_2 at hP hD h_zI_2
  subst hQ
  exact W.vret hx hb hr (fun t ht hW => ⟨⟨zI_2, rfl, h_zI_2, ⟨by rw [ht]; exact hP, va_K.moved hW.alike hK, hD⟩⟩, hS.F ht⟩) hS.2.2 dX10_copyRow_14
set_option maxHeartbeats 8000000 in
set_option maxRecDepth 100000 in
theorem t_copyRow_31_31 (l : Launch) (dC : Nat → ClassId) (dI : Nat → Nat → Nat) (cy : Nat → ClassId) (sz : Nat) (zL : List Nat) (zT : Nat → Nat) (zR : Nat → Nat → Nat) (zI : Nat → Nat → Int32) (zJ : Nat → Nat → Int64) (za : Nat) (zb : Nat) (hs : SKP zL zT zR) (hw : WT zT zR zI) (t_za : zT za = 31) (t_zb : zT zb = 31) : Met l yX10_copyRow wsX10_copyRow ({ frames := 1, cells := 0, slots := 0, locals := 30 } : Room) (va_Pc [.ref za, .ref zb] (PRE dC dI cy (WL cy zL zT zR zI zJ) sz)) (va_Qv (fun (u : (Nat → Nat → Int32)) => (WM [3100] AL zT zR zI u)) (fun u t => POST dC dI cy (va_A (WL cy zL zT zR zI zJ) sz) (WL cy zL zT zR u zJ) t) (va_A (WL cy zL zT zR zI zJ) sz)) 0 0 (va_A (WL cy zL zT zR zI zJ) sz) := by
  refine Met.ofW (cc := cX10_copyRow) (maxL := 2) (ret := none) (by decide) rfl ?_
  intro p e s m args below meth c s₁ B hml hv
  obtain ⟨rfl, hsz, hP, hK, hD0, hN⟩ := hv
  have hx := B.exec
  have hb := B.bytes
  have hr := B.returns
  have hts := atoms_spec (ws := wsX10_copyRow) B.pre
  have hown : s.vm.findClass RX10 = some m.cls := findClass_of_methodNamed B.named
  have hlocks := B.notSynchronized
  subst hsz
  have hD := hD0.self (sz := s.heap.size)
  generalize hAe : va_A (WL cy zL zT zR zI zJ) s.heap.size = A at hD ⊢
  have hA : ∀ q : Nat, s.heap.size ≤ q → A q := fun q h => by rw [← hAe]; exact Or.inr h
  have hS : va_S A s.heap s.heap [] := va_S.rf
  have hP : va_P (dC, dI) vwCl (WL cy zL zT zR zI zJ) s.heap := hP
  have hl := lv_entry ([.ref za, .ref zb] : List Value) (n := 2) (Nat.le_of_ble_eq_true rfl)
  rw [lg_entry_eq]
  generalize (lg_sl ([.ref za, .ref zb] : List Value) ++ List.replicate (2 - (lg_sl ([.ref za, .ref zb] : List Value)).length) Slot.unset).toArray = ls at hl ⊢
  have hl : lv_has ls 2 [(0, .ref za), (1, .ref zb)] := hl
  refine w_q (fun Q hQ => ?_)
  have h_zI : WM [3100] AL zT zR zI zI := WM.rf hw
  refine lv_aload_n hx hb dX10_copyRow_0 rfl (lv_at hl 0 rfl) ?_
  refine lv_iconst (v := 0) hx hb dX10_copyRow_1 (by decide) ?_
  refine lv_aload_n hx hb dX10_copyRow_2 rfl (lv_at hl 1 rfl) ?_
  refine lv_iconst (v := 0) hx hb dX10_copyRow_3 (by decide) ?_
  refine lv_aload_n hx hb dX10_copyRow_4 rfl (lv_at hl 0 rfl) ?_
  refine ht_alen (v := 2) (n := 2) (q := 0) hx hb hK hP hs t_za (by decide) rfl rfl rfl dX10_copyRow_5 ?_
  refine lv_aload_n hx hb dX10_copyRow_6 rfl (lv_at hl 1 rfl) ?_
  refine ht_alen (v := 2) (n := 2) (q := 0) hx hb hK hP hs t_zb (by decide) rfl rfl rfl dX10_copyRow_7 ?_
  refine va_mmin hx hb (by rw [hml]; exact hl.1.symm) hown (hts (.methodLink RX10 382 Lib.Math.min.name) (by decide +kernel)) (hts (.static Lib.Math.min.name) (by decide +kernel)) (hts (.initialized "java/lang/Math") (by decide +kernel)) (hts (.code Lib.Math.min.name Lib.Math.min.code 2 (some .int)) (by decide +kernel)) (Nat.le_of_ble_eq_true rfl) (Nat.le_of_ble_eq_true rfl) (Nat.le_of_ble_eq_true rfl) (Nat.le_of_ble_eq_true rfl) dX10_copyRow_8 ?_
  refine lv_topi (fun zi_1 ezi_1 => ?_)
  obtain rfl : zi_1 = (2 : Int32) := ezi_1.trans (by decide)
  refine ht_cpi (sp := (0 : Int32)) (dp := (0 : Int32)) (n := (2 : Int32)) (n1 := 2) (n2 := 2) (q := 0) hx hb (by rw [hml]; exact hl.1.symm) hown (hts (.methodLink RX10 385 arraycopyName) (by decide +kernel)) (hts (.native arraycopyName) (by decide +kernel)) (hts (.static arraycopyName) (by decide +kernel)) (hts (.initialized "java/lang/System") (by decide +kernel)) hK hP hD hS hs t_zb t_za (by decide) (by decide) rfl rfl rfl (by decide) (by decide) (by decide) (by decide) (by decide) (Nat.le_of_ble_eq_true rfl) (by decide) dX10_copyRow_11 (fun H locs hP hD hS => ?_)
  have h_zI_2 : WM [3100] AL zT zR zI (ur zI zb (va_cpy (zI za) (zI zb) (0 : Int32).toNatClampNeg (0 : Int32).toNatClampNeg (2 : Int32).toNatClampNeg)) := h_zI.cpy hs t_za t_zb (by decide) (by decide) rfl (by decide) (by decide) trivial
  generalize uzI_2 : ur zI zb (va_cpy (zI za) (zI zb) (0 : Int32).toNatClampNeg (0 : Int32).toNatClampNeg (2 : Int32).toNatClampNeg) = zI_2 at hP hD h_zI_2
  subst hQ
  exact W.vret hx hb hr (fun t ht hW => ⟨⟨zI_2, rfl, h_zI_2, ⟨by rw [ht]; exact hP, va_K.moved hW.alike hK, hD⟩⟩, hS.F ht⟩) hS.2.2 dX10_copyRow_14
set_option maxHeartbeats 8000000 in
set_option maxRecDepth 100000 in
theorem t_copyRow_32_82 (l : Launch) (dC : Nat → ClassId) (dI : Nat → Nat → Nat) (cy : Nat → ClassId) (sz : Nat) (zL : List Nat) (zT : Nat → Nat) (zR : Nat → Nat → Nat) (zI : Nat → Nat → Int32) (zJ : Nat → Nat → Int64) (za : Nat) (zb : Nat) (hs : SKP zL zT zR) (hw : WT zT zR zI) (t_za : zT za = 32) (t_zb : zT zb = 82) : Met l yX10_copyRow wsX10_copyRow ({ frames := 1, cells := 0, slots := 0, locals := 30 } : Room) (va_Pc [.ref za, .ref zb] (PRE dC dI cy (WL cy zL zT zR zI zJ) sz)) (va_Qv (fun (u : (Nat → Nat → Int32)) => (WM [8200] AL zT zR zI u)) (fun u t => POST dC dI cy (va_A (WL cy zL zT zR zI zJ) sz) (WL cy zL zT zR u zJ) t) (va_A (WL cy zL zT zR zI zJ) sz)) 0 0 (va_A (WL cy zL zT zR zI zJ) sz) := by
  refine Met.ofW (cc := cX10_copyRow) (maxL := 2) (ret := none) (by decide) rfl ?_
  intro p e s m args below meth c s₁ B hml hv
  obtain ⟨rfl, hsz, hP, hK, hD0, hN⟩ := hv
  have hx := B.exec
  have hb := B.bytes
  have hr := B.returns
  have hts := atoms_spec (ws := wsX10_copyRow) B.pre
  have hown : s.vm.findClass RX10 = some m.cls := findClass_of_methodNamed B.named
  have hlocks := B.notSynchronized
  subst hsz
  have hD := hD0.self (sz := s.heap.size)
  generalize hAe : va_A (WL cy zL zT zR zI zJ) s.heap.size = A at hD ⊢
  have hA : ∀ q : Nat, s.heap.size ≤ q → A q := fun q h => by rw [← hAe]; exact Or.inr h
  have hS : va_S A s.heap s.heap [] := va_S.rf
  have hP : va_P (dC, dI) vwCl (WL cy zL zT zR zI zJ) s.heap := hP
  have hl := lv_entry ([.ref za, .ref zb] : List Value) (n := 2) (Nat.le_of_ble_eq_true rfl)
  rw [lg_entry_eq]
  generalize (lg_sl ([.ref za, .ref zb] : List Value) ++ List.replicate (2 - (lg_sl ([.ref za, .ref zb] : List Value)).length) Slot.unset).toArray = ls at hl ⊢
  have hl : lv_has ls 2 [(0, .ref za), (1, .ref zb)] := hl
  refine w_q (fun Q hQ => ?_)
  have h_zI : WM [8200] AL zT zR zI zI := WM.rf hw
  refine lv_aload_n hx hb dX10_copyRow_0 rfl (lv_at hl 0 rfl) ?_
  refine lv_iconst (v := 0) hx hb dX10_copyRow_1 (by decide) ?_
  refine lv_aload_n hx hb dX10_copyRow_2 rfl (lv_at hl 1 rfl) ?_
  refine lv_iconst (v := 0) hx hb dX10_copyRow_3 (by decide) ?_
  refine lv_aload_n hx hb dX10_copyRow_4 rfl (lv_at hl 0 rfl) ?_
  refine ht_alen (v := 2) (n := 2) (q := 0) hx hb hK hP hs t_za (by decide) rfl rfl rfl dX10_copyRow_5 ?_
  refine lv_aload_n hx hb dX10_copyRow_6 rfl (lv_at hl 1 rfl) ?_
  refine ht_alen (v := 2) (n := 2) (q := 0) hx hb hK hP hs t_zb (by decide) rfl rfl rfl dX10_copyRow_7 ?_
  refine va_mmin hx hb (by rw [hml]; exact hl.1.symm) hown (hts (.methodLink RX10 382 Lib.Math.min.name) (by decide +kernel)) (hts (.static Lib.Math.min.name) (by decide +kernel)) (hts (.initialized "java/lang/Math") (by decide +kernel)) (hts (.code Lib.Math.min.name Lib.Math.min.code 2 (some .int)) (by decide +kernel)) (Nat.le_of_ble_eq_true rfl) (Nat.le_of_ble_eq_true rfl) (Nat.le_of_ble_eq_true rfl) (Nat.le_of_ble_eq_true rfl) dX10_copyRow_8 ?_
  refine lv_topi (fun zi_1 ezi_1 => ?_)
  obtain rfl : zi_1 = (2 : Int32) := ezi_1.trans (by decide)
  refine ht_cpi (sp := (0 : Int32)) (dp := (0 : Int32)) (n := (2 : Int32)) (n1 := 2) (n2 := 2) (q := 0) hx hb (by rw [hml]; exact hl.1.symm) hown (hts (.methodLink RX10 385 arraycopyName) (by decide +kernel)) (hts (.native arraycopyName) (by decide +kernel)) (hts (.static arraycopyName) (by decide +kernel)) (hts (.initialized "java/lang/System") (by decide +kernel)) hK hP hD hS hs t_zb t_za (by decide) (by decide) rfl rfl rfl (by decide) (by decide) (by decide) (by decide) (by decide) (Nat.le_of_ble_eq_true rfl) (by decide) dX10_copyRow_11 (fun H locs hP hD hS => ?_)
  have h_zI_2 : WM [8200] AL zT zR zI (ur zI zb (va_cpy (zI za) (zI zb) (0 : Int32).toNatClampNeg (0 : Int32).toNatClampNeg (2 : Int32).toNatClampNeg)) := h_zI.cpy hs t_za t_zb (by decide) (by decide) rfl (by decide) (by decide) trivial
  generalize uzI_2 : ur zI zb (va_cpy (zI za) (zI zb) (0 : Int32).toNatClampNeg (0 : Int32).toNatClampNeg (2 : Int32).toNatClampNeg) = zI_2 at hP hD h_zI_2
  subst hQ
  exact W.vret hx hb hr (fun t ht hW => ⟨⟨zI_2, rfl, h_zI_2, ⟨by rw [ht]; exact hP, va_K.moved hW.alike hK, hD⟩⟩, hS.F ht⟩) hS.2.2 dX10_copyRow_14
set_option maxHeartbeats 8000000 in
set_option maxRecDepth 100000 in
theorem t_copyRow_82_32 (l : Launch) (dC : Nat → ClassId) (dI : Nat → Nat → Nat) (cy : Nat → ClassId) (sz : Nat) (zL : List Nat) (zT : Nat → Nat) (zR : Nat → Nat → Nat) (zI : Nat → Nat → Int32) (zJ : Nat → Nat → Int64) (za : Nat) (zb : Nat) (hs : SKP zL zT zR) (hw : WT zT zR zI) (t_za : zT za = 82) (t_zb : zT zb = 32) : Met l yX10_copyRow wsX10_copyRow ({ frames := 1, cells := 0, slots := 0, locals := 30 } : Room) (va_Pc [.ref za, .ref zb] (PRE dC dI cy (WL cy zL zT zR zI zJ) sz)) (va_Qv (fun (u : (Nat → Nat → Int32)) => (WM [3200] AL zT zR zI u)) (fun u t => POST dC dI cy (va_A (WL cy zL zT zR zI zJ) sz) (WL cy zL zT zR u zJ) t) (va_A (WL cy zL zT zR zI zJ) sz)) 0 0 (va_A (WL cy zL zT zR zI zJ) sz) := by
  refine Met.ofW (cc := cX10_copyRow) (maxL := 2) (ret := none) (by decide) rfl ?_
  intro p e s m args below meth c s₁ B hml hv
  obtain ⟨rfl, hsz, hP, hK, hD0, hN⟩ := hv
  have hx := B.exec
  have hb := B.bytes
  have hr := B.returns
  have hts := atoms_spec (ws := wsX10_copyRow) B.pre
  have hown : s.vm.findClass RX10 = some m.cls := findClass_of_methodNamed B.named
  have hlocks := B.notSynchronized
  subst hsz
  have hD := hD0.self (sz := s.heap.size)
  generalize hAe : va_A (WL cy zL zT zR zI zJ) s.heap.size = A at hD ⊢
  have hA : ∀ q : Nat, s.heap.size ≤ q → A q := fun q h => by rw [← hAe]; exact Or.inr h
  have hS : va_S A s.heap s.heap [] := va_S.rf
  have hP : va_P (dC, dI) vwCl (WL cy zL zT zR zI zJ) s.heap := hP
  have hl := lv_entry ([.ref za, .ref zb] : List Value) (n := 2) (Nat.le_of_ble_eq_true rfl)
  rw [lg_entry_eq]
  generalize (lg_sl ([.ref za, .ref zb] : List Value) ++ List.replicate (2 - (lg_sl ([.ref za, .ref zb] : List Value)).length) Slot.unset).toArray = ls at hl ⊢
  have hl : lv_has ls 2 [(0, .ref za), (1, .ref zb)] := hl
  refine w_q (fun Q hQ => ?_)
  have h_zI : WM [3200] AL zT zR zI zI := WM.rf hw
  refine lv_aload_n hx hb dX10_copyRow_0 rfl (lv_at hl 0 rfl) ?_
  refine lv_iconst (v := 0) hx hb dX10_copyRow_1 (by decide) ?_
  refine lv_aload_n hx hb dX10_copyRow_2 rfl (lv_at hl 1 rfl) ?_
  refine lv_iconst (v := 0) hx hb dX10_copyRow_3 (by decide) ?_
  refine lv_aload_n hx hb dX10_copyRow_4 rfl (lv_at hl 0 rfl) ?_
  refine ht_alen (v := 2) (n := 2) (q := 0) hx hb hK hP hs t_za (by decide) rfl rfl rfl dX10_copyRow_5 ?_
  refine lv_aload_n hx hb dX10_copyRow_6 rfl (lv_at hl 1 rfl) ?_
  refine ht_alen (v := 2) (n := 2) (q := 0) hx hb hK hP hs t_zb (by decide) rfl rfl rfl dX10_copyRow_7 ?_
  refine va_mmin hx hb (by rw [hml]; exact hl.1.symm) hown (hts (.methodLink RX10 382 Lib.Math.min.name) (by decide +kernel)) (hts (.static Lib.Math.min.name) (by decide +kernel)) (hts (.initialized "java/lang/Math") (by decide +kernel)) (hts (.code Lib.Math.min.name Lib.Math.min.code 2 (some .int)) (by decide +kernel)) (Nat.le_of_ble_eq_true rfl) (Nat.le_of_ble_eq_true rfl) (Nat.le_of_ble_eq_true rfl) (Nat.le_of_ble_eq_true rfl) dX10_copyRow_8 ?_
  refine lv_topi (fun zi_1 ezi_1 => ?_)
  obtain rfl : zi_1 = (2 : Int32) := ezi_1.trans (by decide)
  refine ht_cpi (sp := (0 : Int32)) (dp := (0 : Int32)) (n := (2 : Int32)) (n1 := 2) (n2 := 2) (q := 0) hx hb (by rw [hml]; exact hl.1.symm) hown (hts (.methodLink RX10 385 arraycopyName) (by decide +kernel)) (hts (.native arraycopyName) (by decide +kernel)) (hts (.static arraycopyName) (by decide +kernel)) (hts (.initialized "java/lang/System") (by decide +kernel)) hK hP hD hS hs t_zb t_za (by decide) (by decide) rfl rfl rfl (by decide) (by decide) (by decide) (by decide) (by decide) (Nat.le_of_ble_eq_true rfl) (by decide) dX10_copyRow_11 (fun H locs hP hD hS => ?_)
  have h_zI_2 : WM [3200] AL zT zR zI (ur zI zb (va_cpy (zI za) (zI zb) (0 : Int32).toNatClampNeg (0 : Int32).toNatClampNeg (2 : Int32).toNatClampNeg)) := h_zI.cpy hs t_za t_zb (by decide) (by decide) rfl (by decide) (by decide) trivial
  generalize uzI_2 : ur zI zb (va_cpy (zI za) (zI zb) (0 : Int32).toNatClampNeg (0 : Int32).toNatClampNeg (2 : Int32).toNatClampNeg) = zI_2 at hP hD h_zI_2
  subst hQ
  exact W.vret hx hb hr (fun t ht hW => ⟨⟨zI_2, rfl, h_zI_2, ⟨by rw [ht]; exact hP, va_K.moved hW.alike hK, hD⟩⟩, hS.F ht⟩) hS.2.2 dX10_copyRow_14
set_option maxHeartbeats 8000000 in
set_option maxRecDepth 100000 in
theorem t_copyRow_32_32 (l : Launch) (dC : Nat → ClassId) (dI : Nat → Nat → Nat) (cy : Nat → ClassId) (sz : Nat) (zL : List Nat) (zT : Nat → Nat) (zR : Nat → Nat → Nat) (zI : Nat → Nat → Int32) (zJ : Nat → Nat → Int64) (za : Nat) (zb : Nat) (hs : SKP zL zT zR) (hw : WT zT zR zI) (t_za : zT za = 32) (t_zb : zT zb = 32) : Met l yX10_copyRow wsX10_copyRow ({ frames := 1, cells := 0, slots := 0, locals := 30 } : Room) (va_Pc [.ref za, .ref zb] (PRE dC dI cy (WL cy zL zT zR zI zJ) sz)) (va_Qv (fun (u : (Nat → Nat → Int32)) => (WM [3200] AL zT zR zI u)) (fun u t => POST dC dI cy (va_A (WL cy zL zT zR zI zJ) sz) (WL cy zL zT zR u zJ) t) (va_A (WL cy zL zT zR zI zJ) sz)) 0 0 (va_A (WL cy zL zT zR zI zJ) sz) := by
  refine Met.ofW (cc := cX10_copyRow) (maxL := 2) (ret := none) (by decide) rfl ?_
  intro p e s m args below meth c s₁ B hml hv
  obtain ⟨rfl, hsz, hP, hK, hD0, hN⟩ := hv
  have hx := B.exec
  have hb := B.bytes
  have hr := B.returns
  have hts := atoms_spec (ws := wsX10_copyRow) B.pre
  have hown : s.vm.findClass RX10 = some m.cls := findClass_of_methodNamed B.named
  have hlocks := B.notSynchronized
  subst hsz
  have hD := hD0.self (sz := s.heap.size)
  generalize hAe : va_A (WL cy zL zT zR zI zJ) s.heap.size = A at hD ⊢
  have hA : ∀ q : Nat, s.heap.size ≤ q → A q := fun q h => by rw [← hAe]; exact Or.inr h
  have hS : va_S A s.heap s.heap [] := va_S.rf
  have hP : va_P (dC, dI) vwCl (WL cy zL zT zR zI zJ) s.heap := hP
  have hl := lv_entry ([.ref za, .ref zb] : List Value) (n := 2) (Nat.le_of_ble_eq_true rfl)
  rw [lg_entry_eq]
  generalize (lg_sl ([.ref za, .ref zb] : List Value) ++ List.replicate (2 - (lg_sl ([.ref za, .ref zb] : List Value)).length) Slot.unset).toArray = ls at hl ⊢
  have hl : lv_has ls 2 [(0, .ref za), (1, .ref zb)] := hl
  refine w_q (fun Q hQ => ?_)
  have h_zI : WM [3200] AL zT zR zI zI := WM.rf hw
  refine lv_aload_n hx hb dX10_copyRow_0 rfl (lv_at hl 0 rfl) ?_
  refine lv_iconst (v := 0) hx hb dX10_copyRow_1 (by decide) ?_
  refine lv_aload_n hx hb dX10_copyRow_2 rfl (lv_at hl 1 rfl) ?_
  refine lv_iconst (v := 0) hx hb dX10_copyRow_3 (by decide) ?_
  refine lv_aload_n hx hb dX10_copyRow_4 rfl (lv_at hl 0 rfl) ?_
  refine ht_alen (v := 2) (n := 2) (q := 0) hx hb hK hP hs t_za (by decide) rfl rfl rfl dX10_copyRow_5 ?_
  refine lv_aload_n hx hb dX10_copyRow_6 rfl (lv_at hl 1 rfl) ?_
  refine ht_alen (v := 2) (n := 2) (q := 0) hx hb hK hP hs t_zb (by decide) rfl rfl rfl dX10_copyRow_7 ?_
  refine va_mmin hx hb (by rw [hml]; exact hl.1.symm) hown (hts (.methodLink RX10 382 Lib.Math.min.name) (by decide +kernel)) (hts (.static Lib.Math.min.name) (by decide +kernel)) (hts (.initialized "java/lang/Math") (by decide +kernel)) (hts (.code Lib.Math.min.name Lib.Math.min.code 2 (some .int)) (by decide +kernel)) (Nat.le_of_ble_eq_true rfl) (Nat.le_of_ble_eq_true rfl) (Nat.le_of_ble_eq_true rfl) (Nat.le_of_ble_eq_true rfl) dX10_copyRow_8 ?_
  refine lv_topi (fun zi_1 ezi_1 => ?_)
  obtain rfl : zi_1 = (2 : Int32) := ezi_1.trans (by decide)
  refine ht_cpi (sp := (0 : Int32)) (dp := (0 : Int32)) (n := (2 : Int32)) (n1 := 2) (n2 := 2) (q := 0) hx hb (by rw [hml]; exact hl.1.symm) hown (hts (.methodLink RX10 385 arraycopyName) (by decide +kernel)) (hts (.native arraycopyName) (by decide +kernel)) (hts (.static arraycopyName) (by decide +kernel)) (hts (.initialized "java/lang/System") (by decide +kernel)) hK hP hD hS hs t_zb t_za (by decide) (by decide) rfl rfl rfl (by decide) (by decide) (by decide) (by decide) (by decide) (Nat.le_of_ble_eq_true rfl) (by decide) dX10_copyRow_11 (fun H locs hP hD hS => ?_)
  have h_zI_2 : WM [3200] AL zT zR zI (ur zI zb (va_cpy (zI za) (zI zb) (0 : Int32).toNatClampNeg (0 : Int32).toNatClampNeg (2 : Int32).toNatClampNeg)) := h_zI.cpy hs t_za t_zb (by decide) (by decide) rfl (by decide) (by decide) trivial
  generalize uzI_2 : ur zI zb (va_cpy (zI za) (zI zb) (0 : Int32).toNatClampNeg (0 : Int32).toNatClampNeg (2 : Int32).toNatClampNeg) = zI_2 at hP hD h_zI_2
  subst hQ
  exact W.vret hx hb hr (fun t ht hW => ⟨⟨zI_2, rfl, h_zI_2, ⟨by rw [ht]; exact hP, va_K.moved hW.alike hK, hD⟩⟩, hS.F ht⟩) hS.2.2 dX10_copyRow_14
set_option maxHeartbeats 8000000 in
set_option maxRecDepth 100000 in
theorem t_copyRow_34_84 (l : Launch) (dC : Nat → ClassId) (dI : Nat → Nat → Nat) (cy : Nat → ClassId) (sz : Nat) (zL : List Nat) (zT : Nat → Nat) (zR : Nat → Nat → Nat) (zI : Nat → Nat → Int32) (zJ : Nat → Nat → Int64) (za : Nat) (zb : Nat) (hs : SKP zL zT zR) (hw : WT zT zR zI) (t_za : zT za = 34) (t_zb : zT zb = 84) : Met l yX10_copyRow wsX10_copyRow ({ frames := 1, cells := 0, slots := 0, locals := 30 } : Room) (va_Pc [.ref za, .ref zb] (PRE dC dI cy (WL cy zL zT zR zI zJ) sz)) (va_Qv (fun (u : (Nat → Nat → Int32)) => (WM [8400] AL zT zR zI u) ∧ (∀ y9 : Nat, y9 < 24 → u zb y9 = zI za y9) ∧ (∀ a9 : Nat, ¬ a9 = zb → u a9 = zI a9)) (fun u t => POST dC dI cy (va_A (WL cy zL zT zR zI zJ) sz) (WL cy zL zT zR u zJ) t) (va_A (WL cy zL zT zR zI zJ) sz)) 0 0 (va_A (WL cy zL zT zR zI zJ) sz) := by
  refine Met.ofW (cc := cX10_copyRow) (maxL := 2) (ret := none) (by decide) rfl ?_
  intro p e s m args below meth c s₁ B hml hv
  obtain ⟨rfl, hsz, hP, hK, hD0, hN⟩ := hv
  have hx := B.exec
  have hb := B.bytes
  have hr := B.returns
  have hts := atoms_spec (ws := wsX10_copyRow) B.pre
  have hown : s.vm.findClass RX10 = some m.cls := findClass_of_methodNamed B.named
  have hlocks := B.notSynchronized
  subst hsz
  have hD := hD0.self (sz := s.heap.size)
  generalize hAe : va_A (WL cy zL zT zR zI zJ) s.heap.size = A at hD ⊢
  have hA : ∀ q : Nat, s.heap.size ≤ q → A q := fun q h => by rw [← hAe]; exact Or.inr h
  have hS : va_S A s.heap s.heap [] := va_S.rf
  have hP : va_P (dC, dI) vwCl (WL cy zL zT zR zI zJ) s.heap := hP
  have hl := lv_entry ([.ref za, .ref zb] : List Value) (n := 2) (Nat.le_of_ble_eq_true rfl)
  rw [lg_entry_eq]
  generalize (lg_sl ([.ref za, .ref zb] : List Value) ++ List.replicate (2 - (lg_sl ([.ref za, .ref zb] : List Value)).length) Slot.unset).toArray = ls at hl ⊢
  have hl : lv_has ls 2 [(0, .ref za), (1, .ref zb)] := hl
  refine w_q (fun Q hQ => ?_)
  have h_zI : WM [8400] AL zT zR zI zI := WM.rf hw
  refine lv_aload_n hx hb dX10_copyRow_0 rfl (lv_at hl 0 rfl) ?_
  refine lv_iconst (v := 0) hx hb dX10_copyRow_1 (by decide) ?_
  refine lv_aload_n hx hb dX10_copyRow_2 rfl (lv_at hl 1 rfl) ?_
  refine lv_iconst (v := 0) hx hb dX10_copyRow_3 (by decide) ?_
  refine lv_aload_n hx hb dX10_copyRow_4 rfl (lv_at hl 0 rfl) ?_
  refine ht_alen (v := 24) (n := 24) (q := 0) hx hb hK hP hs t_za (by decide) rfl rfl rfl dX10_copyRow_5 ?_
  refine lv_aload_n hx hb dX10_copyRow_6 rfl (lv_at hl 1 rfl) ?_
  refine ht_alen (v := 24) (n := 24) (q := 0) hx hb hK hP hs t_zb (by decide) rfl rfl rfl dX10_copyRow_7 ?_
  refine va_mmin hx hb (by rw [hml]; exact hl.1.symm) hown (hts (.methodLink RX10 382 Lib.Math.min.name) (by decide +kernel)) (hts (.static Lib.Math.min.name) (by decide +kernel)) (hts (.initialized "java/lang/Math") (by decide +kernel)) (hts (.code Lib.Math.min.name Lib.Math.min.code 2 (some .int)) (by decide +kernel)) (Nat.le_of_ble_eq_true rfl) (Nat.le_of_ble_eq_true rfl) (Nat.le_of_ble_eq_true rfl) (Nat.le_of_ble_eq_true rfl) dX10_copyRow_8 ?_
  refine lv_topi (fun zi_1 ezi_1 => ?_)
  obtain rfl : zi_1 = (24 : Int32) := ezi_1.trans (by decide)
  refine ht_cpi (sp := (0 : Int32)) (dp := (0 : Int32)) (n := (24 : Int32)) (n1 := 24) (n2 := 24) (q := 0) hx hb (by rw [hml]; exact hl.1.symm) hown (hts (.methodLink RX10 385 arraycopyName) (by decide +kernel)) (hts (.native arraycopyName) (by decide +kernel)) (hts (.static arraycopyName) (by decide +kernel)) (hts (.initialized "java/lang/System") (by decide +kernel)) hK hP hD hS hs t_zb t_za (by decide) (by decide) rfl rfl rfl (by decide) (by decide) (by decide) (by decide) (by decide) (Nat.le_of_ble_eq_true rfl) (by decide) dX10_copyRow_11 (fun H locs hP hD hS => ?_)
  have h_zI_2 : WM [8400] AL zT zR zI (ur zI zb (va_cpy (zI za) (zI zb) (0 : Int32).toNatClampNeg (0 : Int32).toNatClampNeg (24 : Int32).toNatClampNeg)) := h_zI.cpy hs t_za t_zb (by decide) (by decide) rfl (by decide) (by decide) trivial
  generalize uzI_2 : ur zI zb (va_cpy (zI za) (zI zb) (0 : Int32).toNatClampNeg (0 : Int32).toNatClampNeg (24 : Int32).toNatClampNeg) = zI_2 at hP hD h_zI_2
  subst hQ
  exact W.vret hx hb hr (fun t ht hW => ⟨⟨zI_2, rfl, ⟨h_zI_2, (show ∀ y9 : Nat, y9 < 24 → zI_2 zb y9 = zI za y9 from (fun y9 h9 => by rw [← uzI_2, ur_s]; exact cpy24 y9 h9)), (show ∀ a9 : Nat, ¬ a9 = zb → zI_2 a9 = zI a9 from (fun a9 h9 => by rw [← uzI_2]; exact ur_n h9))⟩, ⟨by rw [ht]; exact hP, va_K.moved hW.alike hK, hD⟩⟩, hS.F ht⟩) hS.2.2 dX10_copyRow_14
set_option maxHeartbeats 8000000 in
set_option maxRecDepth 100000 in
theorem t_copyRow_84_34 (l : Launch) (dC : Nat → ClassId) (dI : Nat → Nat → Nat) (cy : Nat → ClassId) (sz : Nat) (zL : List Nat) (zT : Nat → Nat) (zR : Nat → Nat → Nat) (zI : Nat → Nat → Int32) (zJ : Nat → Nat → Int64) (za : Nat) (zb : Nat) (hs : SKP zL zT zR) (hw : WT zT zR zI) (t_za : zT za = 84) (t_zb : zT zb = 34) : Met l yX10_copyRow wsX10_copyRow ({ frames := 1, cells := 0, slots := 0, locals := 30 } : Room) (va_Pc [.ref za, .ref zb] (PRE dC dI cy (WL cy zL zT zR zI zJ) sz)) (va_Qv (fun (u : (Nat → Nat → Int32)) => (WM [3400] AL zT zR zI u) ∧ (∀ y9 : Nat, y9 < 24 → u zb y9 = zI za y9) ∧ (∀ a9 : Nat, ¬ a9 = zb → u a9 = zI a9)) (fun u t => POST dC dI cy (va_A (WL cy zL zT zR zI zJ) sz) (WL cy zL zT zR u zJ) t) (va_A (WL cy zL zT zR zI zJ) sz)) 0 0 (va_A (WL cy zL zT zR zI zJ) sz) := by
  refine Met.ofW (cc := cX10_copyRow) (maxL := 2) (ret := none) (by decide) rfl ?_
  intro p e s m args below meth c s₁ B hml hv
  obtain ⟨rfl, hsz, hP, hK, hD0, hN⟩ := hv
  have hx := B.exec
  have hb := B.bytes
  have hr := B.returns
  have hts := atoms_spec (ws := wsX10_copyRow) B.pre
  have hown : s.vm.findClass RX10 = some m.cls := findClass_of_methodNamed B.named
  have hlocks := B.notSynchronized
  subst hsz
  have hD := hD0.self (sz := s.heap.size)
  generalize hAe : va_A (WL cy zL zT zR zI zJ) s.heap.size = A at hD ⊢
  have hA : ∀ q : Nat, s.heap.size ≤ q → A q := fun q h => by rw [← hAe]; exact Or.inr h
  have hS : va_S A s.heap s.heap [] := va_S.rf
  have hP : va_P (dC, dI) vwCl (WL cy zL zT zR zI zJ) s.heap := hP
  have hl := lv_entry ([.ref za, .ref zb] : List Value) (n := 2) (Nat.le_of_ble_eq_true rfl)
  rw [lg_entry_eq]
  generalize (lg_sl ([.ref za, .ref zb] : List Value) ++ List.replicate (2 - (lg_sl ([.ref za, .ref zb] : List Value)).length) Slot.unset).toArray = ls at hl ⊢
  have hl : lv_has ls 2 [(0, .ref za), (1, .ref zb)] := hl
  refine w_q (fun Q hQ => ?_)
  have h_zI : WM [3400] AL zT zR zI zI := WM.rf hw
  refine lv_aload_n hx hb dX10_copyRow_0 rfl (lv_at hl 0 rfl) ?_
  refine lv_iconst (v := 0) hx hb dX10_copyRow_1 (by decide) ?_
  refine lv_aload_n hx hb dX10_copyRow_2 rfl (lv_at hl 1 rfl) ?_
  refine lv_iconst (v := 0) hx hb dX10_copyRow_3 (by decide) ?_
  refine lv_aload_n hx hb dX10_copyRow_4 rfl (lv_at hl 0 rfl) ?_
  refine ht_alen (v := 24) (n := 24) (q := 0) hx hb hK hP hs t_za (by decide) rfl rfl rfl dX10_copyRow_5 ?_
  refine lv_aload_n hx hb dX10_copyRow_6 rfl (lv_at hl 1 rfl) ?_
  refine ht_alen (v := 24) (n := 24) (q := 0) hx hb hK hP hs t_zb (by decide) rfl rfl rfl dX10_copyRow_7 ?_
  refine va_mmin hx hb (by rw [hml]; exact hl.1.symm) hown (hts (.methodLink RX10 382 Lib.Math.min.name) (by decide +kernel)) (hts (.static Lib.Math.min.name) (by decide +kernel)) (hts (.initialized "java/lang/Math") (by decide +kernel)) (hts (.code Lib.Math.min.name Lib.Math.min.code 2 (some .int)) (by decide +kernel)) (Nat.le_of_ble_eq_true rfl) (Nat.le_of_ble_eq_true rfl) (Nat.le_of_ble_eq_true rfl) (Nat.le_of_ble_eq_true rfl) dX10_copyRow_8 ?_
  refine lv_topi (fun zi_1 ezi_1 => ?_)
  obtain rfl : zi_1 = (24 : Int32) := ezi_1.trans (by decide)
  refine ht_cpi (sp := (0 : Int32)) (dp := (0 : Int32)) (n := (24 : Int32)) (n1 := 24) (n2 := 24) (q := 0) hx hb (by rw [hml]; exact hl.1.symm) hown (hts (.methodLink RX10 385 arraycopyName) (by decide +kernel)) (hts (.native arraycopyName) (by decide +kernel)) (hts (.static arraycopyName) (by decide +kernel)) (hts (.initialized "java/lang/System") (by decide +kernel)) hK hP hD hS hs t_zb t_za (by decide) (by decide) rfl rfl rfl (by decide) (by decide) (by decide) (by decide) (by decide) (Nat.le_of_ble_eq_true rfl) (by decide) dX10_copyRow_11 (fun H locs hP hD hS => ?_)
  have h_zI_2 : WM [3400] AL zT zR zI (ur zI zb (va_cpy (zI za) (zI zb) (0 : Int32).toNatClampNeg (0 : Int32).toNatClampNeg (24 : Int32).toNatClampNeg)) := h_zI.cpy hs t_za t_zb (by decide) (by decide) rfl (by decide) (by decide) trivial
  generalize uzI_2 : ur zI zb (va_cpy (zI za) (zI zb) (0 : Int32).toNatClampNeg (0 : Int32).toNatClampNeg (24 : Int32).toNatClampNeg) = zI_2 at hP hD h_zI_2
  subst hQ
  exact W.vret hx hb hr (fun t ht hW => ⟨⟨zI_2, rfl, ⟨h_zI_2, (show ∀ y9 : Nat, y9 < 24 → zI_2 zb y9 = zI za y9 from (fun y9 h9 => by rw [← uzI_2, ur_s]; exact cpy24 y9 h9)), (show ∀ a9 : Nat, ¬ a9 = zb → zI_2 a9 = zI a9 from (fun a9 h9 => by rw [← uzI_2]; exact ur_n h9))⟩, ⟨by rw [ht]; exact hP, va_K.moved hW.alike hK, hD⟩⟩, hS.F ht⟩) hS.2.2 dX10_copyRow_14
set_option maxHeartbeats 8000000 in
set_option maxRecDepth 100000 in
theorem t_copyRow_48_98 (l : Launch) (dC : Nat → ClassId) (dI : Nat → Nat → Nat) (cy : Nat → ClassId) (sz : Nat) (zL : List Nat) (zT : Nat → Nat) (zR : Nat → Nat → Nat) (zI : Nat → Nat → Int32) (zJ : Nat → Nat → Int64) (za : Nat) (zb : Nat) (hs : SKP zL zT zR) (hw : WT zT zR zI) (t_za : zT za = 48) (t_zb : zT zb = 98) : Met l yX10_copyRow wsX10_copyRow ({ frames := 1, cells := 0, slots := 0, locals := 30 } : Room) (va_Pc [.ref za, .ref zb] (PRE dC dI cy (WL cy zL zT zR zI zJ) sz)) (va_Qv (fun (u : (Nat → Nat → Int32)) => (WM [9800] AL zT zR zI u)) (fun u t => POST dC dI cy (va_A (WL cy zL zT zR zI zJ) sz) (WL cy zL zT zR u zJ) t) (va_A (WL cy zL zT zR zI zJ) sz)) 0 0 (va_A (WL cy zL zT zR zI zJ) sz) := by
  refine Met.ofW (cc := cX10_copyRow) (maxL := 2) (ret := none) (by decide) rfl ?_
  intro p e s m args below meth c s₁ B hml hv
  obtain ⟨rfl, hsz, hP, hK, hD0, hN⟩ := hv
  have hx := B.exec
  have hb := B.bytes
  have hr := B.returns
  have hts := atoms_spec (ws := wsX10_copyRow) B.pre
  have hown : s.vm.findClass RX10 = some m.cls := findClass_of_methodNamed B.named
  have hlocks := B.notSynchronized
  subst hsz
  have hD := hD0.self (sz := s.heap.size)
  generalize hAe : va_A (WL cy zL zT zR zI zJ) s.heap.size = A at hD ⊢
  have hA : ∀ q : Nat, s.heap.size ≤ q → A q := fun q h => by rw [← hAe]; exact Or.inr h
  have hS : va_S A s.heap s.heap [] := va_S.rf
  have hP : va_P (dC, dI) vwCl (WL cy zL zT zR zI zJ) s.heap := hP
  have hl := lv_entry ([.ref za, .ref zb] : List Value) (n := 2) (Nat.le_of_ble_eq_true rfl)
  rw [lg_entry_eq]
  generalize (lg_sl ([.ref za, .ref zb] : List Value) ++ List.replicate (2 - (lg_sl ([.ref za, .ref zb] : List Value)).length) Slot.unset).toArray = ls at hl ⊢
  have hl : lv_has ls 2 [(0, .ref za), (1, .ref zb)] := hl
  refine w_q (fun Q hQ => ?_)
  have h_zI : WM [9800] AL zT zR zI zI := WM.rf hw
  refine lv_aload_n hx hb dX10_copyRow_0 rfl (lv_at hl 0 rfl) ?_
  refine lv_iconst (v := 0) hx hb dX10_copyRow_1 (by decide) ?_
  refine lv_aload_n hx hb dX10_copyRow_2 rfl (lv_at hl 1 rfl) ?_
  refine lv_iconst (v := 0) hx hb dX10_copyRow_3 (by decide) ?_
  refine lv_aload_n hx hb dX10_copyRow_4 rfl (lv_at hl 0 rfl) ?_
  refine ht_alen (v := 5) (n := 5) (q := 0) hx hb hK hP hs t_za (by decide) rfl rfl rfl dX10_copyRow_5 ?_
  refine lv_aload_n hx hb dX10_copyRow_6 rfl (lv_at hl 1 rfl) ?_
  refine ht_alen (v := 5) (n := 5) (q := 0) hx hb hK hP hs t_zb (by decide) rfl rfl rfl dX10_copyRow_7 ?_
  refine va_mmin hx hb (by rw [hml]; exact hl.1.symm) hown (hts (.methodLink RX10 382 Lib.Math.min.name) (by decide +kernel)) (hts (.static Lib.Math.min.name) (by decide +kernel)) (hts (.initialized "java/lang/Math") (by decide +kernel)) (hts (.code Lib.Math.min.name Lib.Math.min.code 2 (some .int)) (by decide +kernel)) (Nat.le_of_ble_eq_true rfl) (Nat.le_of_ble_eq_true rfl) (Nat.le_of_ble_eq_true rfl) (Nat.le_of_ble_eq_true rfl) dX10_copyRow_8 ?_
  refine lv_topi (fun zi_1 ezi_1 => ?_)
  obtain rfl : zi_1 = (5 : Int32) := ezi_1.trans (by decide)
  refine ht_cpi (sp := (0 : Int32)) (dp := (0 : Int32)) (n := (5 : Int32)) (n1 := 5) (n2 := 5) (q := 0) hx hb (by rw [hml]; exact hl.1.symm) hown (hts (.methodLink RX10 385 arraycopyName) (by decide +kernel)) (hts (.native arraycopyName) (by decide +kernel)) (hts (.static arraycopyName) (by decide +kernel)) (hts (.initialized "java/lang/System") (by decide +kernel)) hK hP hD hS hs t_zb t_za (by decide) (by decide) rfl rfl rfl (by decide) (by decide) (by decide) (by decide) (by decide) (Nat.le_of_ble_eq_true rfl) (by decide) dX10_copyRow_11 (fun H locs hP hD hS => ?_)
  have h_zI_2 : WM [9800] AL zT zR zI (ur zI zb (va_cpy (zI za) (zI zb) (0 : Int32).toNatClampNeg (0 : Int32).toNatClampNeg (5 : Int32).toNatClampNeg)) := h_zI.cpy hs t_za t_zb (by decide) (by decide) rfl (by decide) (by decide) trivial
  generalize uzI_2 : ur zI zb (va_cpy (zI za) (zI zb) (0 : Int32).toNatClampNeg (0 : Int32).toNatClampNeg (5 : Int32).toNatClampNeg) = zI_2 at hP hD h_zI_2
  subst hQ
  exact W.vret hx hb hr (fun t ht hW => ⟨⟨zI_2, rfl, h_zI_2, ⟨by rw [ht]; exact hP, va_K.moved hW.alike hK, hD⟩⟩, hS.F ht⟩) hS.2.2 dX10_copyRow_14
set_option maxHeartbeats 8000000 in
set_option maxRecDepth 100000 in
theorem t_copyRow_98_48 (l : Launch) (dC : Nat → ClassId) (dI : Nat → Nat → Nat) (cy : Nat → ClassId) (sz : Nat) (zL : List Nat) (zT : Nat → Nat) (zR : Nat → Nat → Nat) (zI : Nat → Nat → Int32) (zJ : Nat → Nat → Int64) (za : Nat) (zb : Nat) (hs : SKP zL zT zR) (hw : WT zT zR zI) (t_za : zT za = 98) (t_zb : zT zb = 48) : Met l yX10_copyRow wsX10_copyRow ({ frames := 1, cells := 0, slots := 0, locals := 30 } : Room) (va_Pc [.ref za, .ref zb] (PRE dC dI cy (WL cy zL zT zR zI zJ) sz)) (va_Qv (fun (u : (Nat → Nat → Int32)) => (WM [4800] AL zT zR zI u)) (fun u t => POST dC dI cy (va_A (WL cy zL zT zR zI zJ) sz) (WL cy zL zT zR u zJ) t) (va_A (WL cy zL zT zR zI zJ) sz)) 0 0 (va_A (WL cy zL zT zR zI zJ) sz) := by
  refine Met.ofW (cc := cX10_copyRow) (maxL := 2) (ret := none) (by decide) rfl ?_
  intro p e s m args below meth c s₁ B hml hv
  obtain ⟨rfl, hsz, hP, hK, hD0, hN⟩ := hv
  have hx := B.exec
  have hb := B.bytes
  have hr := B.returns
  have hts := atoms_spec (ws := wsX10_copyRow) B.pre
  have hown : s.vm.findClass RX10 = some m.cls := findClass_of_methodNamed B.named
  have hlocks := B.notSynchronized
  subst hsz
  have hD := hD0.self (sz := s.heap.size)
  generalize hAe : va_A (WL cy zL zT zR zI zJ) s.heap.size = A at hD ⊢
  have hA : ∀ q : Nat, s.heap.size ≤ q → A q := fun q h => by rw [← hAe]; exact Or.inr h
  have hS : va_S A s.heap s.heap [] := va_S.rf
  have hP : va_P (dC, dI) vwCl (WL cy zL zT zR zI zJ) s.heap := hP
  have hl := lv_entry ([.ref za, .ref zb] : List Value) (n := 2) (Nat.le_of_ble_eq_true rfl)
  rw [lg_entry_eq]
  generalize (lg_sl ([.ref za, .ref zb] : List Value) ++ List.replicate (2 - (lg_sl ([.ref za, .ref zb] : List Value)).length) Slot.unset).toArray = ls at hl ⊢
  have hl : lv_has ls 2 [(0, .ref za), (1, .ref zb)] := hl
  refine w_q (fun Q hQ => ?_)
  have h_zI : WM [4800] AL zT zR zI zI := WM.rf hw
  refine lv_aload_n hx hb dX10_copyRow_0 rfl (lv_at hl 0 rfl) ?_
  refine lv_iconst (v := 0) hx hb dX10_copyRow_1 (by decide) ?_
  refine lv_aload_n hx hb dX10_copyRow_2 rfl (lv_at hl 1 rfl) ?_
  refine lv_iconst (v := 0) hx hb dX10_copyRow_3 (by decide) ?_
  refine lv_aload_n hx hb dX10_copyRow_4 rfl (lv_at hl 0 rfl) ?_
  refine ht_alen (v := 5) (n := 5) (q := 0) hx hb hK hP hs t_za (by decide) rfl rfl rfl dX10_copyRow_5 ?_
  refine lv_aload_n hx hb dX10_copyRow_6 rfl (lv_at hl 1 rfl) ?_
  refine ht_alen (v := 5) (n := 5) (q := 0) hx hb hK hP hs t_zb (by decide) rfl rfl rfl dX10_copyRow_7 ?_
  refine va_mmin hx hb (by rw [hml]; exact hl.1.symm) hown (hts (.methodLink RX10 382 Lib.Math.min.name) (by decide +kernel)) (hts (.static Lib.Math.min.name) (by decide +kernel)) (hts (.initialized "java/lang/Math") (by decide +kernel)) (hts (.code Lib.Math.min.name Lib.Math.min.code 2 (some .int)) (by decide +kernel)) (Nat.le_of_ble_eq_true rfl) (Nat.le_of_ble_eq_true rfl) (Nat.le_of_ble_eq_true rfl) (Nat.le_of_ble_eq_true rfl) dX10_copyRow_8 ?_
  refine lv_topi (fun zi_1 ezi_1 => ?_)
  obtain rfl : zi_1 = (5 : Int32) := ezi_1.trans (by decide)
  refine ht_cpi (sp := (0 : Int32)) (dp := (0 : Int32)) (n := (5 : Int32)) (n1 := 5) (n2 := 5) (q := 0) hx hb (by rw [hml]; exact hl.1.symm) hown (hts (.methodLink RX10 385 arraycopyName) (by decide +kernel)) (hts (.native arraycopyName) (by decide +kernel)) (hts (.static arraycopyName) (by decide +kernel)) (hts (.initialized "java/lang/System") (by decide +kernel)) hK hP hD hS hs t_zb t_za (by decide) (by decide) rfl rfl rfl (by decide) (by decide) (by decide) (by decide) (by decide) (Nat.le_of_ble_eq_true rfl) (by decide) dX10_copyRow_11 (fun H locs hP hD hS => ?_)
  have h_zI_2 : WM [4800] AL zT zR zI (ur zI zb (va_cpy (zI za) (zI zb) (0 : Int32).toNatClampNeg (0 : Int32).toNatClampNeg (5 : Int32).toNatClampNeg)) := h_zI.cpy hs t_za t_zb (by decide) (by decide) rfl (by decide) (by decide) trivial
  generalize uzI_2 : ur zI zb (va_cpy (zI za) (zI zb) (0 : Int32).toNatClampNeg (0 : Int32).toNatClampNeg (5 : Int32).toNatClampNeg) = zI_2 at hP hD h_zI_2
  subst hQ
  exact W.vret hx hb hr (fun t ht hW => ⟨⟨zI_2, rfl, h_zI_2, ⟨by rw [ht]; exact hP, va_K.moved hW.alike hK, hD⟩⟩, hS.F ht⟩) hS.2.2 dX10_copyRow_14
