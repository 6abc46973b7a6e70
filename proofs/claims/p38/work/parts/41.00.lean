set_option maxHeartbeats 8000000 in
set_option maxRecDepth 100000 in
theorem c_J6_compare_7cf53 (l : Launch) (dC : Nat → ClassId) (dI : Nat → Nat → Nat) (cy : Nat → ClassId) (sz : Nat) (zia : Int32) (zib : Int32)  : Met l yJ6_compare_7cf53 wsJ6_compare_7cf53 ({ frames := 0, cells := 0, slots := 0, locals := 0 } : Room) (va_Pc [.int zia, .int zib] (PRE dC dI cy [] sz)) (va_Qi (fun (r : Int32) (u : Unit) => ((-1) ≤ r.toInt ∧ r.toInt ≤ 1)) (fun u t => POST dC dI cy (va_A [] sz) [] t) (va_A [] sz)) 0 0 (va_A [] sz) := by
  refine Met.ofW (cc := cJ6_compare_7cf53) (maxL := 2) (ret := (some .int)) (by decide) rfl ?_
  intro p e s m args below meth c s₁ B hml hv
  obtain ⟨rfl, hsz, hP, hK, hD0, hN⟩ := hv
  have hx := B.exec
  have hb := B.bytes
  have hr := B.returns
  have hts := atoms_spec (ws := wsJ6_compare_7cf53) B.pre
  have hown : s.vm.findClass RJ6 = some m.cls := findClass_of_methodNamed B.named
  have hlocks := B.notSynchronized
  subst hsz
  have hD := hD0.self (sz := s.heap.size)
  generalize hAe : va_A [] s.heap.size = A at hD ⊢
  have hA : ∀ q : Nat, s.heap.size ≤ q → A q := fun q h => by rw [← hAe]; exact Or.inr h
  have hS : va_S A s.heap s.heap [] := va_S.rf
  have hP : va_P (dC, dI) vwCl [] s.heap := hP
  have hl := lv_entry ([.int zia, .int zib] : List Value) (n := 2) (Nat.le_of_ble_eq_true rfl)
  rw [lg_entry_eq]
  generalize (lg_sl ([.int zia, .int zib] : List Value) ++ List.replicate (2 - (lg_sl ([.int zia, .int zib] : List Value)).length) Slot.unset).toArray = ls at hl ⊢
  have hl : lv_has ls 2 [(0, .int zia), (1, .int zib)] := hl
  refine w_q (fun Q hQ => ?_)
  refine lv_iload_n hx hb dJ6_compare_7cf53_0 rfl (lv_at hl 0 rfl) ?_
  refine lv_iload_n hx hb dJ6_compare_7cf53_1 rfl (lv_at hl 1 rfl) ?_
  refine lv_icmp_ge (tgt := 9) hx hb dJ6_compare_7cf53_2 (by decide) (fun c_1 => ?_) (fun c_1 => ?_)
  · have f_2 : zia.toInt ≥ zib.toInt := ic_ge (rfl) (rfl) c_1
    refine lv_iload_n hx hb dJ6_compare_7cf53_9 rfl (lv_at hl 0 rfl) ?_
    refine lv_iload_n hx hb dJ6_compare_7cf53_10 rfl (lv_at hl 1 rfl) ?_
    refine lv_icmp_ne (tgt := 18) hx hb dJ6_compare_7cf53_11 (by decide) (fun c_3 => ?_) (fun c_3 => ?_)
    · have f_4 : zia.toInt ≠ zib.toInt := ic_ne (rfl) (rfl) c_3
      refine lv_iconst (v := 1) hx hb dJ6_compare_7cf53_18 (by decide) ?_
      subst hQ
      have qc_1 : (1 : Int32).toInt = 1 := by decide
      have hP9 := hP.sub (ws' := []) [] rfl
      have hD9 := hD.sub (ws' := []) [] (by decide) rfl
      exact W.iret (v := (1 : Int32)) hx hb hr (fun t ht hW => ⟨⟨(1 : Int32), (), rfl, (show (-1) ≤ (1 : Int32).toInt ∧ (1 : Int32).toInt ≤ 1 from by omega), ⟨by rw [ht]; exact hP9, va_K.moved hW.alike hK, hD9⟩⟩, hS.F ht⟩) hS.2.2 dJ6_compare_7cf53_19
    · have f_4 : ¬ (zia.toInt ≠ zib.toInt) := ic_nne (rfl) (rfl) c_3
      refine lv_iconst (v := 0) hx hb dJ6_compare_7cf53_14 (by decide) ?_
      refine lv_goto (tgt := 19) hx hb dJ6_compare_7cf53_15 (by decide) ?_
      subst hQ
      have qc_0 : (0 : Int32).toInt = 0 := by decide
      have hP9 := hP.sub (ws' := []) [] rfl
      have hD9 := hD.sub (ws' := []) [] (by decide) rfl
      exact W.iret (v := (0 : Int32)) hx hb hr (fun t ht hW => ⟨⟨(0 : Int32), (), rfl, (show (-1) ≤ (0 : Int32).toInt ∧ (0 : Int32).toInt ≤ 1 from by omega), ⟨by rw [ht]; exact hP9, va_K.moved hW.alike hK, hD9⟩⟩, hS.F ht⟩) hS.2.2 dJ6_compare_7cf53_19
  · have f_2 : ¬ (zia.toInt ≥ zib.toInt) := ic_nge (rfl) (rfl) c_1
    refine lv_iconst (v := (-1)) hx hb dJ6_compare_7cf53_5 (by decide) ?_
    refine lv_goto (tgt := 19) hx hb dJ6_compare_7cf53_6 (by decide) ?_
    subst hQ
    have qc_m1 : (-1 : Int32).toInt = -1 := by decide
    have hP9 := hP.sub (ws' := []) [] rfl
    have hD9 := hD.sub (ws' := []) [] (by decide) rfl
    exact W.iret (v := (-1 : Int32)) hx hb hr (fun t ht hW => ⟨⟨(-1 : Int32), (), rfl, (show (-1) ≤ (-1 : Int32).toInt ∧ (-1 : Int32).toInt ≤ 1 from by omega), ⟨by rw [ht]; exact hP9, va_K.moved hW.alike hK, hD9⟩⟩, hS.F ht⟩) hS.2.2 dJ6_compare_7cf53_19
set_option maxHeartbeats 8000000 in
set_option maxRecDepth 100000 in
theorem c_J6_bitCount_0f7a4 (l : Launch) (dC : Nat → ClassId) (dI : Nat → Nat → Nat) (cy : Nat → ClassId) (sz : Nat) (zia : Int32)  : Met l yJ6_bitCount_0f7a4 wsJ6_bitCount_0f7a4 ({ frames := 0, cells := 0, slots := 0, locals := 0 } : Room) (va_Pc [.int zia] (PRE dC dI cy [] sz)) (va_Qi (fun (r : Int32) (u : Unit) => (0 ≤ r.toInt ∧ r.toInt ≤ 63)) (fun u t => POST dC dI cy (va_A [] sz) [] t) (va_A [] sz)) 0 0 (va_A [] sz) := by
  refine Met.ofW (cc := cJ6_bitCount_0f7a4) (maxL := 1) (ret := (some .int)) (by decide) rfl ?_
  intro p e s m args below meth c s₁ B hml hv
  obtain ⟨rfl, hsz, hP, hK, hD0, hN⟩ := hv
  have hx := B.exec
  have hb := B.bytes
  have hr := B.returns
  have hts := atoms_spec (ws := wsJ6_bitCount_0f7a4) B.pre
  have hown : s.vm.findClass RJ6 = some m.cls := findClass_of_methodNamed B.named
  have hlocks := B.notSynchronized
  subst hsz
  have hD := hD0.self (sz := s.heap.size)
  generalize hAe : va_A [] s.heap.size = A at hD ⊢
  have hA : ∀ q : Nat, s.heap.size ≤ q → A q := fun q h => by rw [← hAe]; exact Or.inr h
  have hS : va_S A s.heap s.heap [] := va_S.rf
  have hP : va_P (dC, dI) vwCl [] s.heap := hP
  have hl := lv_entry ([.int zia] : List Value) (n := 1) (Nat.le_of_ble_eq_true rfl)
  rw [lg_entry_eq]
  generalize (lg_sl ([.int zia] : List Value) ++ List.replicate (1 - (lg_sl ([.int zia] : List Value)).length) Slot.unset).toArray = ls at hl ⊢
  have hl : lv_has ls 1 [(0, .int zia)] := hl
  refine w_q (fun Q hQ => ?_)
  refine lv_iload_n hx hb dJ6_bitCount_0f7a4_0 rfl (lv_at hl 0 rfl) ?_
  refine lv_iload_n hx hb dJ6_bitCount_0f7a4_1 rfl (lv_at hl 0 rfl) ?_
  refine lv_iconst (v := 1) hx hb dJ6_bitCount_0f7a4_2 (by decide) ?_
  refine lv_iushr (v := ((zia : Int32).toUInt32 >>> ((1 : Int32).toUInt32 &&& Int32.toUInt32 31)).toInt32) hx hb dJ6_bitCount_0f7a4_3 rfl ?_
  refine lv_topi (fun zi_1 ezi_1 => ?_)
  refine lv_ldcw (v := 1431655765) hx hb hown (hts (.constant RJ6 265 1431655765) (by decide +kernel)) dJ6_bitCount_0f7a4_4 ?_
  refine lv_iand hx hb dJ6_bitCount_0f7a4_7 ?_
  refine lv_topi (fun zi_2 ezi_2 => ?_)
  have rzi_2 := rng zi_2
  refine lv_isub hx hb dJ6_bitCount_0f7a4_8 ?_
  refine lv_topi (fun zi_3 ezi_3 => ?_)
  refine lv_istore_n (lv' := [(0, .int zi_3)]) hx hb dJ6_bitCount_0f7a4_9 rfl hl (by decide) rfl (fun ls hl => ?_)
  refine lv_iload_n hx hb dJ6_bitCount_0f7a4_10 rfl (lv_at hl 0 rfl) ?_
  refine lv_ldcw (v := 858993459) hx hb hown (hts (.constant RJ6 266 858993459) (by decide +kernel)) dJ6_bitCount_0f7a4_11 ?_
  refine lv_iand hx hb dJ6_bitCount_0f7a4_14 ?_
  refine lv_topi (fun zi_4 ezi_4 => ?_)
  have rzi_4 := rng zi_4
  refine lv_iload_n hx hb dJ6_bitCount_0f7a4_15 rfl (lv_at hl 0 rfl) ?_
  refine lv_iconst (v := 2) hx hb dJ6_bitCount_0f7a4_16 (by decide) ?_
  refine lv_iushr (v := ((zi_3 : Int32).toUInt32 >>> ((2 : Int32).toUInt32 &&& Int32.toUInt32 31)).toInt32) hx hb dJ6_bitCount_0f7a4_17 rfl ?_
  refine lv_topi (fun zi_5 ezi_5 => ?_)
  refine lv_ldcw (v := 858993459) hx hb hown (hts (.constant RJ6 266 858993459) (by decide +kernel)) dJ6_bitCount_0f7a4_18 ?_
  refine lv_iand hx hb dJ6_bitCount_0f7a4_21 ?_
  refine lv_topi (fun zi_6 ezi_6 => ?_)
  have rzi_6 := rng zi_6
  refine lv_iadd hx hb dJ6_bitCount_0f7a4_22 ?_
  refine lv_topi (fun zi_7 ezi_7 => ?_)
  refine lv_istore_n (lv' := [(0, .int zi_7)]) hx hb dJ6_bitCount_0f7a4_23 rfl hl (by decide) rfl (fun ls hl => ?_)
  refine lv_iload_n hx hb dJ6_bitCount_0f7a4_24 rfl (lv_at hl 0 rfl) ?_
  refine lv_iload_n hx hb dJ6_bitCount_0f7a4_25 rfl (lv_at hl 0 rfl) ?_
  refine lv_iconst (v := 4) hx hb dJ6_bitCount_0f7a4_26 (by decide) ?_
  refine lv_iushr (v := ((zi_7 : Int32).toUInt32 >>> ((4 : Int32).toUInt32 &&& Int32.toUInt32 31)).toInt32) hx hb dJ6_bitCount_0f7a4_27 rfl ?_
  refine lv_topi (fun zi_8 ezi_8 => ?_)
  refine lv_iadd hx hb dJ6_bitCount_0f7a4_28 ?_
  refine lv_topi (fun zi_9 ezi_9 => ?_)
  refine lv_ldcw (v := 252645135) hx hb hown (hts (.constant RJ6 267 252645135) (by decide +kernel)) dJ6_bitCount_0f7a4_29 ?_
  refine lv_iand hx hb dJ6_bitCount_0f7a4_32 ?_
  refine lv_topi (fun zi_10 ezi_10 => ?_)
  have rzi_10 := rng zi_10
  refine lv_istore_n (lv' := [(0, .int zi_10)]) hx hb dJ6_bitCount_0f7a4_33 rfl hl (by decide) rfl (fun ls hl => ?_)
  refine lv_iload_n hx hb dJ6_bitCount_0f7a4_34 rfl (lv_at hl 0 rfl) ?_
  refine lv_iload_n hx hb dJ6_bitCount_0f7a4_35 rfl (lv_at hl 0 rfl) ?_
  refine lv_bipush (v := 8) hx hb dJ6_bitCount_0f7a4_36 (by decide) ?_
  refine lv_iushr (v := ((zi_10 : Int32).toUInt32 >>> ((8 : Int32).toUInt32 &&& Int32.toUInt32 31)).toInt32) hx hb dJ6_bitCount_0f7a4_38 rfl ?_
  refine lv_topi (fun zi_11 ezi_11 => ?_)
  refine lv_iadd hx hb dJ6_bitCount_0f7a4_39 ?_
  refine lv_topi (fun zi_12 ezi_12 => ?_)
  refine lv_istore_n (lv' := [(0, .int zi_12)]) hx hb dJ6_bitCount_0f7a4_40 rfl hl (by decide) rfl (fun ls hl => ?_)
  refine lv_iload_n hx hb dJ6_bitCount_0f7a4_41 rfl (lv_at hl 0 rfl) ?_
  refine lv_iload_n hx hb dJ6_bitCount_0f7a4_42 rfl (lv_at hl 0 rfl) ?_
  refine lv_bipush (v := 16) hx hb dJ6_bitCount_0f7a4_43 (by decide) ?_
  refine lv_iushr (v := ((zi_12 : Int32).toUInt32 >>> ((16 : Int32).toUInt32 &&& Int32.toUInt32 31)).toInt32) hx hb dJ6_bitCount_0f7a4_45 rfl ?_
  refine lv_topi (fun zi_13 ezi_13 => ?_)
  refine lv_iadd hx hb dJ6_bitCount_0f7a4_46 ?_
  refine lv_topi (fun zi_14 ezi_14 => ?_)
  refine lv_istore_n (lv' := [(0, .int zi_14)]) hx hb dJ6_bitCount_0f7a4_47 rfl hl (by decide) rfl (fun ls hl => ?_)
  refine lv_iload_n hx hb dJ6_bitCount_0f7a4_48 rfl (lv_at hl 0 rfl) ?_
  refine lv_bipush (v := 63) hx hb dJ6_bitCount_0f7a4_49 (by decide) ?_
  refine lv_iand hx hb dJ6_bitCount_0f7a4_51 ?_
  refine lv_topi (fun zi_15 ezi_15 => ?_)
  have tzi_15 : 0 ≤ zi_15.toInt ∧ zi_15.toInt ≤ 63 := by rw [ezi_15]; exact andb (k := 6) (by decide) (by decide) (by decide)
  subst hQ
  have hP9 := hP.sub (ws' := []) [] rfl
  have hD9 := hD.sub (ws' := []) [] (by decide) rfl
  exact W.iret (v := zi_15) hx hb hr (fun t ht hW => ⟨⟨zi_15, (), rfl, (show 0 ≤ zi_15.toInt ∧ zi_15.toInt ≤ 63 from by omega), ⟨by rw [ht]; exact hP9, va_K.moved hW.alike hK, hD9⟩⟩, hS.F ht⟩) hS.2.2 dJ6_bitCount_0f7a4_52
set_option maxHeartbeats 8000000 in
set_option maxRecDepth 100000 in
theorem c_J7_fill_53178 (l : Launch) (dC : Nat → ClassId) (dI : Nat → Nat → Nat) (cy : Nat → ClassId) (sz : Nat) (za1 : Nat) (zfa : Nat → Int32)  : Met l yJ7_fill_53178 wsJ7_fill_53178 ({ frames := 0, cells := 0, slots := 0, locals := 0 } : Room) (va_Pc [.ref za1, .int 0] (PRE dC dI cy [(za1, .inl (cy 0, 24, .inl zfa))] sz)) (va_Qv (fun (u : (Nat → Int32)) => True) (fun u t => POST dC dI cy (va_A [(za1, .inl (cy 0, 24, .inl zfa))] sz) [(za1, .inl (cy 0, 24, .inl u))] t) (va_A [(za1, .inl (cy 0, 24, .inl zfa))] sz)) 0 0 (va_A [(za1, .inl (cy 0, 24, .inl zfa))] sz) := by
  refine Met.ofW (cc := cJ7_fill_53178) (maxL := 4) (ret := none) (by decide) rfl ?_
  intro p e s m args below meth c s₁ B hml hv
  obtain ⟨rfl, hsz, hP, hK, hD0, hN⟩ := hv
  have hx := B.exec
  have hb := B.bytes
  have hr := B.returns
  have hts := atoms_spec (ws := wsJ7_fill_53178) B.pre
  have hown : s.vm.findClass RJ7 = some m.cls := findClass_of_methodNamed B.named
  have hlocks := B.notSynchronized
  subst hsz
  have hD := hD0.self (sz := s.heap.size)
  generalize hAe : va_A [(za1, .inl (cy 0, 24, .inl zfa))] s.heap.size = A at hD ⊢
  have hA : ∀ q : Nat, s.heap.size ≤ q → A q := fun q h => by rw [← hAe]; exact Or.inr h
  have hS : va_S A s.heap s.heap [] := va_S.rf
  have hP : va_P (dC, dI) vwCl [(za1, .inl (cy 0, 24, .inl zfa))] s.heap := hP
  have hl := lv_entry ([.ref za1, .int 0] : List Value) (n := 4) (Nat.le_of_ble_eq_true rfl)
  rw [lg_entry_eq]
  generalize (lg_sl ([.ref za1, .int 0] : List Value) ++ List.replicate (4 - (lg_sl ([.ref za1, .int 0] : List Value)).length) Slot.unset).toArray = ls at hl ⊢
  have hl : lv_has ls 4 [(0, .ref za1), (1, .int 0)] := hl
  refine w_q (fun Q hQ => ?_)
  refine lv_iconst (v := 0) hx hb dJ7_fill_53178_0 (by decide) ?_
  refine lv_istore_n (lv' := [(2, .int 0), (0, .ref za1), (1, .int 0)]) hx hb dJ7_fill_53178_1 rfl hl (by decide) rfl (fun ls hl => ?_)
  refine lv_aload_n hx hb dJ7_fill_53178_2 rfl (lv_at hl 1 rfl) ?_
  refine va_alen (v := 24) hx hb hK hP 0 0 rfl rfl rfl dJ7_fill_53178_3 ?_
  refine lv_istore_n (lv' := [(3, .int 24), (2, .int 0), (0, .ref za1), (1, .int 0)]) hx hb dJ7_fill_53178_4 rfl hl (by decide) rfl (fun ls hl => ?_)
  have lp_25 : ∀ (n : Nat) (zi_19 : Int32) (zf_20 : Nat → Int32) (H : Heap) (locs : List Loc) (ls : Array Slot), ((24 : Int) - zi_19.toInt).toNat = n → (0 ≤ zi_19.toInt ∧ zi_19.toInt ≤ 24) → va_P (dC, dI) vwCl [(za1, .inl (cy 0, 24, .inl zf_20))] H → va_D A [(za1, .inl (cy 0, 24, .inl zf_20))] → va_S A s.heap H locs → lv_has ls 4 [(0, .ref za1), (1, .int 0), (2, .int zi_19), (3, .int 24)] → W p l e ({ frames := 0, cells := 0, slots := 0, locals := 0 } : Room) s m ([.ref za1, .int 0] : List Value).toArray below meth c H locs 0 0 Q (F0 m 5 ls []) := by
    intro n
    induction n using Nat.strongRecOn with
    | _ n ih =>
      intro zi_19 zf_20 H locs ls hn b_zi_19 hP hD hS hl
      refine lv_iload_n hx hb dJ7_fill_53178_5 rfl (lv_at hl 2 rfl) ?_
      refine lv_iload_n hx hb dJ7_fill_53178_6 rfl (lv_at hl 3 rfl) ?_
      refine lv_icmp_ge (tgt := 20) hx hb dJ7_fill_53178_7 (by decide) (fun c_26 => ?_) (fun c_26 => ?_)
      · have f_27 : zi_19.toInt ≥ (24 : Int) := ic_ge (rfl) (show (24 : Int32).toInt = 24 by decide) c_26
        subst hQ
        have hP9 := hP.sub (ws' := [(za1, .inl (cy 0, 24, .inl zf_20))]) [0] rfl
        have hD9 := hD.sub (ws' := [(za1, .inl (cy 0, 24, .inl zf_20))]) [0] (by decide) rfl
        exact W.vret hx hb hr (fun t ht hW => ⟨⟨zf_20, rfl, trivial, ⟨by rw [ht]; exact hP9, va_K.moved hW.alike hK, hD9⟩⟩, hS.F ht⟩) hS.2.2 dJ7_fill_53178_20
      · have f_27 : ¬ (zi_19.toInt ≥ (24 : Int)) := ic_nge (rfl) (show (24 : Int32).toInt = 24 by decide) c_26
        refine lv_aload_n hx hb dJ7_fill_53178_10 rfl (lv_at hl 0 rfl) ?_
        refine lv_iload_n hx hb dJ7_fill_53178_11 rfl (lv_at hl 2 rfl) ?_
        refine lv_iload_n hx hb dJ7_fill_53178_12 rfl (lv_at hl 1 rfl) ?_
        refine va_iast hx hb hK hP hD hS 0 0 rfl rfl (vp_in_iff.mpr ⟨by omega, by omega⟩) dJ7_fill_53178_13 (fun H locs hP hD hS => ?_)
        have hP : va_P (dC, dI) vwCl [(za1, .inl (cy 0, 24, .inl (upd zf_20 zi_19.toNatClampNeg (0 : Int32))))] H := hP
        have hD : va_D A [(za1, .inl (cy 0, 24, .inl (upd zf_20 zi_19.toNatClampNeg (0 : Int32))))] := hD
        generalize uzf_28 : upd zf_20 zi_19.toNatClampNeg (0 : Int32) = zf_28 at hP hD
        obtain ⟨zi_29, ezi_29⟩ : ∃ y : Int32, y = zi_19 + 1 := ⟨_, rfl⟩
        have tzi_29 : zi_29.toInt = zi_19.toInt + 1 := by rw [ezi_29]; exact tadd rfl (show (1 : Int32).toInt = 1 by decide) (by omega) (by omega)
        refine lv_iinc (v := zi_29) (lv' := [(2, .int zi_29), (0, .ref za1), (1, .int 0), (3, .int 24)]) hx hb dJ7_fill_53178_14 hl (k := 2) rfl (by rw [ezi_29]; rfl) (by decide) rfl (fun ls hl => ?_)
        refine lv_goto (tgt := 5) hx hb dJ7_fill_53178_17 (by decide) ?_
        exact ih ((24 : Int) - zi_29.toInt).toNat (by omega) zi_29 zf_28 _ _ _ rfl (by omega) hP hD hS (lv_sub hl [1, 2, 0, 3] rfl)
  exact lp_25 _ (0 : Int32) zfa _ _ _ rfl (by decide) hP hD hS (lv_sub hl [2, 3, 1, 0] rfl)
set_option maxHeartbeats 8000000 in
set_option maxRecDepth 100000 in
theorem c_fill_96 (l : Launch) (dC : Nat → ClassId) (dI : Nat → Nat → Nat) (cy : Nat → ClassId) (sz : Nat) (za1 : Nat) (zjv : Int64) (zga : Nat → Int64)  : Met l yJ7_fill_d0a16 wsJ7_fill_d0a16 ({ frames := 0, cells := 0, slots := 0, locals := 0 } : Room) (va_Pc [.ref za1, .long zjv] (PRE dC dI cy [(za1, .inl (cy 1, 96, .inr (.inl zga)))] sz)) (va_Qv (fun (u : (Nat → Int64)) => True) (fun u t => POST dC dI cy (va_A [(za1, .inl (cy 1, 96, .inr (.inl zga)))] sz) [(za1, .inl (cy 1, 96, .inr (.inl u)))] t) (va_A [(za1, .inl (cy 1, 96, .inr (.inl zga)))] sz)) 0 0 (va_A [(za1, .inl (cy 1, 96, .inr (.inl zga)))] sz) := by
  refine Met.ofW (cc := cJ7_fill_d0a16) (maxL := 5) (ret := none) (by decide) rfl ?_
  intro p e s m args below meth c s₁ B hml hv
  obtain ⟨rfl, hsz, hP, hK, hD0, hN⟩ := hv
  have hx := B.exec
  have hb := B.bytes
  have hr := B.returns
  have hts := atoms_spec (ws := wsJ7_fill_d0a16) B.pre
  have hown : s.vm.findClass RJ7 = some m.cls := findClass_of_methodNamed B.named
  have hlocks := B.notSynchronized
  subst hsz
  have hD := hD0.self (sz := s.heap.size)
  generalize hAe : va_A [(za1, .inl (cy 1, 96, .inr (.inl zga)))] s.heap.size = A at hD ⊢
  have hA : ∀ q : Nat, s.heap.size ≤ q → A q := fun q h => by rw [← hAe]; exact Or.inr h
  have hS : va_S A s.heap s.heap [] := va_S.rf
  have hP : va_P (dC, dI) vwCl [(za1, .inl (cy 1, 96, .inr (.inl zga)))] s.heap := hP
  have hl := lv_entry ([.ref za1, .long zjv] : List Value) (n := 5) (Nat.le_of_ble_eq_true rfl)
  rw [lg_entry_eq]
  generalize (lg_sl ([.ref za1, .long zjv] : List Value) ++ List.replicate (5 - (lg_sl ([.ref za1, .long zjv] : List Value)).length) Slot.unset).toArray = ls at hl ⊢
  have hl : lv_has ls 5 [(0, .ref za1), (1, .long zjv)] := hl
  refine w_q (fun Q hQ => ?_)
  refine lv_iconst (v := 0) hx hb dJ7_fill_d0a16_0 (by decide) ?_
  refine lv_istore_n (lv' := [(3, .int 0), (0, .ref za1), (1, .long zjv)]) hx hb dJ7_fill_d0a16_1 rfl hl (by decide) rfl (fun ls hl => ?_)
  refine lv_aload_n hx hb dJ7_fill_d0a16_2 rfl (lv_at hl 1 rfl) ?_
  refine va_alen (v := 96) hx hb hK hP 0 1 rfl rfl rfl dJ7_fill_d0a16_3 ?_
  refine lv_istore (lv' := [(4, .int 96), (3, .int 0), (0, .ref za1), (1, .long zjv)]) hx hb dJ7_fill_d0a16_4 hl (by decide) rfl (fun ls hl => ?_)
  have lp_25 : ∀ (n : Nat) (zi_19 : Int32) (zg_20 : Nat → Int64) (H : Heap) (locs : List Loc) (ls : Array Slot), ((96 : Int) - zi_19.toInt).toNat = n → (0 ≤ zi_19.toInt ∧ zi_19.toInt ≤ 96) → va_P (dC, dI) vwCl [(za1, .inl (cy 1, 96, .inr (.inl zg_20)))] H → va_D A [(za1, .inl (cy 1, 96, .inr (.inl zg_20)))] → va_S A s.heap H locs → lv_has ls 5 [(0, .ref za1), (1, .long zjv), (3, .int zi_19), (4, .int 96)] → W p l e ({ frames := 0, cells := 0, slots := 0, locals := 0 } : Room) s m ([.ref za1, .long zjv] : List Value).toArray below meth c H locs 0 0 Q (F0 m 6 ls []) := by
    intro n
    induction n using Nat.strongRecOn with
    | _ n ih =>
      intro zi_19 zg_20 H locs ls hn b_zi_19 hP hD hS hl
      refine lv_iload_n hx hb dJ7_fill_d0a16_6 rfl (lv_at hl 2 rfl) ?_
      refine lv_iload hx hb dJ7_fill_d0a16_7 (lv_at hl 3 rfl) ?_
      refine lv_icmp_ge (tgt := 22) hx hb dJ7_fill_d0a16_9 (by decide) (fun c_26 => ?_) (fun c_26 => ?_)
      · have f_27 : zi_19.toInt ≥ (96 : Int) := ic_ge (rfl) (show (96 : Int32).toInt = 96 by decide) c_26
        subst hQ
        have hP9 := hP.sub (ws' := [(za1, .inl (cy 1, 96, .inr (.inl zg_20)))]) [0] rfl
        have hD9 := hD.sub (ws' := [(za1, .inl (cy 1, 96, .inr (.inl zg_20)))]) [0] (by decide) rfl
        exact W.vret hx hb hr (fun t ht hW => ⟨⟨zg_20, rfl, trivial, ⟨by rw [ht]; exact hP9, va_K.moved hW.alike hK, hD9⟩⟩, hS.F ht⟩) hS.2.2 dJ7_fill_d0a16_22
      · have f_27 : ¬ (zi_19.toInt ≥ (96 : Int)) := ic_nge (rfl) (show (96 : Int32).toInt = 96 by decide) c_26
        refine lv_aload_n hx hb dJ7_fill_d0a16_12 rfl (lv_at hl 0 rfl) ?_
        refine lv_iload_n hx hb dJ7_fill_d0a16_13 rfl (lv_at hl 2 rfl) ?_
        refine lv_lload_n hx hb dJ7_fill_d0a16_14 rfl (lv_at hl 1 rfl) ?_
        refine va_last hx hb hK hP hD hS 0 1 rfl rfl (vp_in_iff.mpr ⟨by omega, by omega⟩) dJ7_fill_d0a16_15 (fun H locs hP hD hS => ?_)
        have hP : va_P (dC, dI) vwCl [(za1, .inl (cy 1, 96, .inr (.inl (vp_updL zg_20 zi_19.toNatClampNeg zjv))))] H := hP
        have hD : va_D A [(za1, .inl (cy 1, 96, .inr (.inl (vp_updL zg_20 zi_19.toNatClampNeg zjv))))] := hD
        generalize uzg_28 : vp_updL zg_20 zi_19.toNatClampNeg zjv = zg_28 at hP hD
        obtain ⟨zi_29, ezi_29⟩ : ∃ y : Int32, y = zi_19 + 1 := ⟨_, rfl⟩
        have tzi_29 : zi_29.toInt = zi_19.toInt + 1 := by rw [ezi_29]; exact tadd rfl (show (1 : Int32).toInt = 1 by decide) (by omega) (by omega)
        refine lv_iinc (v := zi_29) (lv' := [(3, .int zi_29), (0, .ref za1), (1, .long zjv), (4, .int 96)]) hx hb dJ7_fill_d0a16_16 hl (k := 2) rfl (by rw [ezi_29]; rfl) (by decide) rfl (fun ls hl => ?_)
        refine lv_goto (tgt := 6) hx hb dJ7_fill_d0a16_19 (by decide) ?_
        exact ih ((96 : Int) - zi_29.toInt).toNat (by omega) zi_29 zg_28 _ _ _ rfl (by omega) hP hD hS (lv_sub hl [1, 2, 0, 3] rfl)
  exact lp_25 _ (0 : Int32) zga _ _ _ rfl (by decide) hP hD hS (lv_sub hl [2, 3, 1, 0] rfl)
set_option maxHeartbeats 8000000 in
set_option maxRecDepth 100000 in
theorem c_fill_24 (l : Launch) (dC : Nat → ClassId) (dI : Nat → Nat → Nat) (cy : Nat → ClassId) (sz : Nat) (za1 : Nat) (zjv : Int64) (zga : Nat → Int64)  : Met l yJ7_fill_d0a16 wsJ7_fill_d0a16 ({ frames := 0, cells := 0, slots := 0, locals := 0 } : Room) (va_Pc [.ref za1, .long zjv] (PRE dC dI cy [(za1, .inl (cy 1, 24, .inr (.inl zga)))] sz)) (va_Qv (fun (u : (Nat → Int64)) => True) (fun u t => POST dC dI cy (va_A [(za1, .inl (cy 1, 24, .inr (.inl zga)))] sz) [(za1, .inl (cy 1, 24, .inr (.inl u)))] t) (va_A [(za1, .inl (cy 1, 24, .inr (.inl zga)))] sz)) 0 0 (va_A [(za1, .inl (cy 1, 24, .inr (.inl zga)))] sz) := by
  refine Met.ofW (cc := cJ7_fill_d0a16) (maxL := 5) (ret := none) (by decide) rfl ?_
  intro p e s m args below meth c s₁ B hml hv
  obtain ⟨rfl, hsz, hP, hK, hD0, hN⟩ := hv
  have hx := B.exec
  have hb := B.bytes
  have hr := B.returns
  have hts := atoms_spec (ws := wsJ7_fill_d0a16) B.pre
  have hown : s.vm.findClass RJ7 = some m.cls := findClass_of_methodNamed B.named
  have hlocks := B.notSynchronized
  subst hsz
  have hD := hD0.self (sz := s.heap.size)
  generalize hAe : va_A [(za1, .inl (cy 1, 24, .inr (.inl zga)))] s.heap.size = A at hD ⊢
  have hA : ∀ q : Nat, s.heap.size ≤ q → A q := fun q h => by rw [← hAe]; exact Or.inr h
  have hS : va_S A s.heap s.heap [] := va_S.rf
  have hP : va_P (dC, dI) vwCl [(za1, .inl (cy 1, 24, .inr (.inl zga)))] s.heap := hP
  have hl := lv_entry ([.ref za1, .long zjv] : List Value) (n := 5) (Nat.le_of_ble_eq_true rfl)
  rw [lg_entry_eq]
  generalize (lg_sl ([.ref za1, .long zjv] : List Value) ++ List.replicate (5 - (lg_sl ([.ref za1, .long zjv] : List Value)).length) Slot.unset).toArray = ls at hl ⊢
  have hl : lv_has ls 5 [(0, .ref za1), (1, .long zjv)] := hl
  refine w_q (fun Q hQ => ?_)
  refine lv_iconst (v := 0) hx hb dJ7_fill_d0a16_0 (by decide) ?_
  refine lv_istore_n (lv' := [(3, .int 0), (0, .ref za1), (1, .long zjv)]) hx hb dJ7_fill_d0a16_1 rfl hl (by decide) rfl (fun ls hl => ?_)
  refine lv_aload_n hx hb dJ7_fill_d0a16_2 rfl (lv_at hl 1 rfl) ?_
  refine va_alen (v := 24) hx hb hK hP 0 1 rfl rfl rfl dJ7_fill_d0a16_3 ?_
  refine lv_istore (lv' := [(4, .int 24), (3, .int 0), (0, .ref za1), (1, .long zjv)]) hx hb dJ7_fill_d0a16_4 hl (by decide) rfl (fun ls hl => ?_)
  have lp_25 : ∀ (n : Nat) (zi_19 : Int32) (zg_20 : Nat → Int64) (H : Heap) (locs : List Loc) (ls : Array Slot), ((24 : Int) - zi_19.toInt).toNat = n → (0 ≤ zi_19.toInt ∧ zi_19.toInt ≤ 24) → va_P (dC, dI) vwCl [(za1, .inl (cy 1, 24, .inr (.inl zg_20)))] H → va_D A [(za1, .inl (cy 1, 24, .inr (.inl zg_20)))] → va_S A s.heap H locs → lv_has ls 5 [(0, .ref za1), (1, .long zjv), (3, .int zi_19), (4, .int 24)] → W p l e ({ frames := 0, cells := 0, slots := 0, locals := 0 } : Room) s m ([.ref za1, .long zjv] : List Value).toArray below meth c H locs 0 0 Q (F0 m 6 ls []) := by
    intro n
    induction n using Nat.strongRecOn with
    | _ n ih =>
      intro zi_19 zg_20 H locs ls hn b_zi_19 hP hD hS hl
      refine lv_iload_n hx hb dJ7_fill_d0a16_6 rfl (lv_at hl 2 rfl) ?_
      refine lv_iload hx hb dJ7_fill_d0a16_7 (lv_at hl 3 rfl) ?_
      refine lv_icmp_ge (tgt := 22) hx hb dJ7_fill_d0a16_9 (by decide) (fun c_26 => ?_) (fun c_26 => ?_)
      · have f_27 : zi_19.toInt ≥ (24 : Int) := ic_ge (rfl) (show (24 : Int32).toInt = 24 by decide) c_26
        subst hQ
        have hP9 := hP.sub (ws' := [(za1, .inl (cy 1, 24, .inr (.inl zg_20)))]) [0] rfl
        have hD9 := hD.sub (ws' := [(za1, .inl (cy 1, 24, .inr (.inl zg_20)))]) [0] (by decide) rfl
        exact W.vret hx hb hr (fun t ht hW => ⟨⟨zg_20, rfl, trivial, ⟨by rw [ht]; exact hP9, va_K.moved hW.alike hK, hD9⟩⟩, hS.F ht⟩) hS.2.2 dJ7_fill_d0a16_22
      · have f_27 : ¬ (zi_19.toInt ≥ (24 : Int)) := ic_nge (rfl) (show (24 : Int32).toInt = 24 by decide) c_26
        refine lv_aload_n hx hb dJ7_fill_d0a16_12 rfl (lv_at hl 0 rfl) ?_
        refine lv_iload_n hx hb dJ7_fill_d0a16_13 rfl (lv_at hl 2 rfl) ?_
        refine lv_lload_n hx hb dJ7_fill_d0a16_14 rfl (lv_at hl 1 rfl) ?_
        refine va_last hx hb hK hP hD hS 0 1 rfl rfl (vp_in_iff.mpr ⟨by omega, by omega⟩) dJ7_fill_d0a16_15 (fun H locs hP hD hS => ?_)
        have hP : va_P (dC, dI) vwCl [(za1, .inl (cy 1, 24, .inr (.inl (vp_updL zg_20 zi_19.toNatClampNeg zjv))))] H := hP
        have hD : va_D A [(za1, .inl (cy 1, 24, .inr (.inl (vp_updL zg_20 zi_19.toNatClampNeg zjv))))] := hD
        generalize uzg_28 : vp_updL zg_20 zi_19.toNatClampNeg zjv = zg_28 at hP hD
        obtain ⟨zi_29, ezi_29⟩ : ∃ y : Int32, y = zi_19 + 1 := ⟨_, rfl⟩
        have tzi_29 : zi_29.toInt = zi_19.toInt + 1 := by rw [ezi_29]; exact tadd rfl (show (1 : Int32).toInt = 1 by decide) (by omega) (by omega)
        refine lv_iinc (v := zi_29) (lv' := [(3, .int zi_29), (0, .ref za1), (1, .long zjv), (4, .int 24)]) hx hb dJ7_fill_d0a16_16 hl (k := 2) rfl (by rw [ezi_29]; rfl) (by decide) rfl (fun ls hl => ?_)
        refine lv_goto (tgt := 6) hx hb dJ7_fill_d0a16_19 (by decide) ?_
        exact ih ((24 : Int) - zi_29.toInt).toNat (by omega) zi_29 zg_28 _ _ _ rfl (by omega) hP hD hS (lv_sub hl [1, 2, 0, 3] rfl)
  exact lp_25 _ (0 : Int32) zga _ _ _ rfl (by decide) hP hD hS (lv_sub hl [2, 3, 1, 0] rfl)
set_option maxHeartbeats 8000000 in
set_option maxRecDepth 100000 in
theorem c_copyRow_2 (l : Launch) (dC : Nat → ClassId) (dI : Nat → Nat → Nat) (cy : Nat → ClassId) (sz : Nat) (za1 : Nat) (za2 : Nat) (zfa : Nat → Int32) (zfb : Nat → Int32)  : Met l yX10_copyRow wsX10_copyRow ({ frames := 1, cells := 0, slots := 0, locals := 30 } : Room) (va_Pc [.ref za1, .ref za2] (PRE dC dI cy [(za1, .inl (cy 0, 2, .inl zfa)), (za2, .inl (cy 0, 2, .inl zfb))] sz)) (va_Qv (fun (u : (Nat → Int32)) => True) (fun u t => POST dC dI cy (va_A [(za1, .inl (cy 0, 2, .inl zfa)), (za2, .inl (cy 0, 2, .inl zfb))] sz) [(za1, .inl (cy 0, 2, .inl zfa)), (za2, .inl (cy 0, 2, .inl u))] t) (va_A [(za1, .inl (cy 0, 2, .inl zfa)), (za2, .inl (cy 0, 2, .inl zfb))] sz)) 0 0 (va_A [(za1, .inl (cy 0, 2, .inl zfa)), (za2, .inl (cy 0, 2, .inl zfb))] sz) := by
  refine Met.ofW (cc := cX10_copyRow) (maxL := 2) (ret := none) (by decide) rfl ?_
  intro p e s m args below meth c s₁ B hml hv
  obtain ⟨rfl, hsz, hP, hK, hD0, hN⟩ := hv
  have hx := B.exec
  have hb := B.bytes
  have hr := B.returns
  have hts := atoms_spec (ws := wsX10_copyRow) B.pre
  have hown : s.vm.findClass RX10 = some m.cls := findClass_of_methodNamed B.named
  have hlocks := B.notSynchronized
  subst hsz
  have hD := hD0.self (sz := s.heap.size)
  generalize hAe : va_A [(za1, .inl (cy 0, 2, .inl zfa)), (za2, .inl (cy 0, 2, .inl zfb))] s.heap.size = A at hD ⊢
  have hA : ∀ q : Nat, s.heap.size ≤ q → A q := fun q h => by rw [← hAe]; exact Or.inr h
  have hS : va_S A s.heap s.heap [] := va_S.rf
  have hP : va_P (dC, dI) vwCl [(za1, .inl (cy 0, 2, .inl zfa)), (za2, .inl (cy 0, 2, .inl zfb))] s.heap := hP
  have hl := lv_entry ([.ref za1, .ref za2] : List Value) (n := 2) (Nat.le_of_ble_eq_true rfl)
  rw [lg_entry_eq]
  generalize (lg_sl ([.ref za1, .ref za2] : List Value) ++ List.replicate (2 - (lg_sl ([.ref za1, .ref za2] : List Value)).length) Slot.unset).toArray = ls at hl ⊢
  have hl : lv_has ls 2 [(0, .ref za1), (1, .ref za2)] := hl
  refine w_q (fun Q hQ => ?_)
  refine lv_aload_n hx hb dX10_copyRow_0 rfl (lv_at hl 0 rfl) ?_
  refine lv_iconst (v := 0) hx hb dX10_copyRow_1 (by decide) ?_
  refine lv_aload_n hx hb dX10_copyRow_2 rfl (lv_at hl 1 rfl) ?_
  refine lv_iconst (v := 0) hx hb dX10_copyRow_3 (by decide) ?_
  refine lv_aload_n hx hb dX10_copyRow_4 rfl (lv_at hl 0 rfl) ?_
  refine va_alen (v := 2) hx hb hK hP 0 0 rfl rfl rfl dX10_copyRow_5 ?_
  refine lv_aload_n hx hb dX10_copyRow_6 rfl (lv_at hl 1 rfl) ?_
  refine va_alen (v := 2) hx hb hK hP 1 0 rfl rfl rfl dX10_copyRow_7 ?_
  refine va_mmin hx hb (by rw [hml]; exact hl.1.symm) hown (hts (.methodLink RX10 382 Lib.Math.min.name) (by decide +kernel)) (hts (.static Lib.Math.min.name) (by decide +kernel)) (hts (.initialized "java/lang/Math") (by decide +kernel)) (hts (.code Lib.Math.min.name Lib.Math.min.code 2 (some .int)) (by decide +kernel)) (Nat.le_of_ble_eq_true rfl) (Nat.le_of_ble_eq_true rfl) (Nat.le_of_ble_eq_true rfl) (Nat.le_of_ble_eq_true rfl) dX10_copyRow_8 ?_
  refine lv_topi (fun zi_1 ezi_1 => ?_)
  obtain rfl : zi_1 = (2 : Int32) := ezi_1.trans (by decide)
  refine va_copyi hx hb (by rw [hml]; exact hl.1.symm) hown (hts (.methodLink RX10 385 arraycopyName) (by decide +kernel)) (hts (.native arraycopyName) (by decide +kernel)) (hts (.static arraycopyName) (by decide +kernel)) (hts (.initialized "java/lang/System") (by decide +kernel)) hK hP hD hS 0 1 0 0 rfl rfl rfl rfl rfl (by decide) (by decide) (by decide) (by decide) (by decide) (fun _ _ => rfl) (Nat.le_of_ble_eq_true rfl) (by decide) dX10_copyRow_11 (fun H locs hP hD hS => ?_)
  have hP : va_P (dC, dI) vwCl [(za1, .inl (cy 0, 2, .inl zfa)), (za2, .inl (cy 0, 2, .inl (va_cpy zfa zfb (0 : Int32).toNatClampNeg (0 : Int32).toNatClampNeg (2 : Int32).toNatClampNeg)))] H := hP
  have hD : va_D A [(za1, .inl (cy 0, 2, .inl zfa)), (za2, .inl (cy 0, 2, .inl (va_cpy zfa zfb (0 : Int32).toNatClampNeg (0 : Int32).toNatClampNeg (2 : Int32).toNatClampNeg)))] := hD
  generalize uzf_2 : (va_cpy zfa zfb (0 : Int32).toNatClampNeg (0 : Int32).toNatClampNeg (2 : Int32).toNatClampNeg) = zf_2 at hP hD
  subst hQ
  have hP9 := hP.sub (ws' := [(za1, .inl (cy 0, 2, .inl zfa)), (za2, .inl (cy 0, 2, .inl zf_2))]) [0, 1] rfl
  have hD9 := hD.sub (ws' := [(za1, .inl (cy 0, 2, .inl zfa)), (za2, .inl (cy 0, 2, .inl zf_2))]) [0, 1] (by decide) rfl
  exact W.vret hx hb hr (fun t ht hW => ⟨⟨zf_2, rfl, trivial, ⟨by rw [ht]; exact hP9, va_K.moved hW.alike hK, hD9⟩⟩, hS.F ht⟩) hS.2.2 dX10_copyRow_14
set_option maxHeartbeats 8000000 in
set_option maxRecDepth 100000 in
theorem c_copyRow_2_m1_12 (l : Launch) (dC : Nat → ClassId) (dI : Nat → Nat → Nat) (cy : Nat → ClassId) (sz : Nat) (za1 : Nat) (za2 : Nat) (zfa : Nat → Int32) (zfb : Nat → Int32) (h_zfa : RG zfa 2 (-1) 12) (h_zfb : RG zfb 2 (-1) 12) : Met l yX10_copyRow wsX10_copyRow ({ frames := 1, cells := 0, slots := 0, locals := 30 } : Room) (va_Pc [.ref za1, .ref za2] (PRE dC dI cy [(za1, .inl (cy 0, 2, .inl zfa)), (za2, .inl (cy 0, 2, .inl zfb))] sz)) (va_Qv (fun (u : (Nat → Int32)) => (RG u 2 (-1) 12)) (fun u t => POST dC dI cy (va_A [(za1, .inl (cy 0, 2, .inl zfa)), (za2, .inl (cy 0, 2, .inl zfb))] sz) [(za1, .inl (cy 0, 2, .inl zfa)), (za2, .inl (cy 0, 2, .inl u))] t) (va_A [(za1, .inl (cy 0, 2, .inl zfa)), (za2, .inl (cy 0, 2, .inl zfb))] sz)) 0 0 (va_A [(za1, .inl (cy 0, 2, .inl zfa)), (za2, .inl (cy 0, 2, .inl zfb))] sz) := by
  refine Met.ofW (cc := cX10_copyRow) (maxL := 2) (ret := none) (by decide) rfl ?_
  intro p e s m args below meth c s₁ B hml hv
  obtain ⟨rfl, hsz, hP, hK, hD0, hN⟩ := hv
  have hx := B.exec
  have hb := B.bytes
  have hr := B.returns
  have hts := atoms_spec (ws := wsX10_copyRow) B.pre
  have hown : s.vm.findClass RX10 = some m.cls := findClass_of_methodNamed B.named
  have hlocks := B.notSynchronized
  subst hsz
  have hD := hD0.self (sz := s.heap.size)
  generalize hAe : va_A [(za1, .inl (cy 0, 2, .inl zfa)), (za2, .inl (cy 0, 2, .inl zfb))] s.heap.size = A at hD ⊢
  have hA : ∀ q : Nat, s.heap.size ≤ q → A q := fun q h => by rw [← hAe]; exact Or.inr h
  have hS : va_S A s.heap s.heap [] := va_S.rf
  have hP : va_P (dC, dI) vwCl [(za1, .inl (cy 0, 2, .inl zfa)), (za2, .inl (cy 0, 2, .inl zfb))] s.heap := hP
  have hl := lv_entry ([.ref za1, .ref za2] : List Value) (n := 2) (Nat.le_of_ble_eq_true rfl)
  rw [lg_entry_eq]
  generalize (lg_sl ([.ref za1, .ref za2] : List Value) ++ List.replicate (2 - (lg_sl ([.ref za1, .ref za2] : List Value)).length) Slot.unset).toArray = ls at hl ⊢
  have hl : lv_has ls 2 [(0, .ref za1), (1, .ref za2)] := hl
  refine w_q (fun Q hQ => ?_)
  refine lv_aload_n hx hb dX10_copyRow_0 rfl (lv_at hl 0 rfl) ?_
  refine lv_iconst (v := 0) hx hb dX10_copyRow_1 (by decide) ?_
  refine lv_aload_n hx hb dX10_copyRow_2 rfl (lv_at hl 1 rfl) ?_
  refine lv_iconst (v := 0) hx hb dX10_copyRow_3 (by decide) ?_
  refine lv_aload_n hx hb dX10_copyRow_4 rfl (lv_at hl 0 rfl) ?_
  refine va_alen (v := 2) hx hb hK hP 0 0 rfl rfl rfl dX10_copyRow_5 ?_
  refine lv_aload_n hx hb dX10_copyRow_6 rfl (lv_at hl 1 rfl) ?_
  refine va_alen (v := 2) hx hb hK hP 1 0 rfl rfl rfl dX10_copyRow_7 ?_
  refine va_mmin hx hb (by rw [hml]; exact hl.1.symm) hown (hts (.methodLink RX10 382 Lib.Math.min.name) (by decide +kernel)) (hts (.static Lib.Math.min.name) (by decide +kernel)) (hts (.initialized "java/lang/Math") (by decide +kernel)) (hts (.code Lib.Math.min.name Lib.Math.min.code 2 (some .int)) (by decide +kernel)) (Nat.le_of_ble_eq_true rfl) (Nat.le_of_ble_eq_true rfl) (Nat.le_of_ble_eq_true rfl) (Nat.le_of_ble_eq_true rfl) dX10_copyRow_8 ?_
  refine lv_topi (fun zi_1 ezi_1 => ?_)
  obtain rfl : zi_1 = (2 : Int32) := ezi_1.trans (by decide)
  refine va_copyi hx hb (by rw [hml]; exact hl.1.symm) hown (hts (.methodLink RX10 385 arraycopyName) (by decide +kernel)) (hts (.native arraycopyName) (by decide +kernel)) (hts (.static arraycopyName) (by decide +kernel)) (hts (.initialized "java/lang/System") (by decide +kernel)) hK hP hD hS 0 1 0 0 rfl rfl rfl rfl rfl (by decide) (by decide) (by decide) (by decide) (by decide) (fun _ _ => rfl) (Nat.le_of_ble_eq_true rfl) (by decide) dX10_copyRow_11 (fun H locs hP hD hS => ?_)
  have hP : va_P (dC, dI) vwCl [(za1, .inl (cy 0, 2, .inl zfa)), (za2, .inl (cy 0, 2, .inl (va_cpy zfa zfb (0 : Int32).toNatClampNeg (0 : Int32).toNatClampNeg (2 : Int32).toNatClampNeg)))] H := hP
  have hD : va_D A [(za1, .inl (cy 0, 2, .inl zfa)), (za2, .inl (cy 0, 2, .inl (va_cpy zfa zfb (0 : Int32).toNatClampNeg (0 : Int32).toNatClampNeg (2 : Int32).toNatClampNeg)))] := hD
  have h_zf_2 : RG (va_cpy zfa zfb (0 : Int32).toNatClampNeg (0 : Int32).toNatClampNeg (2 : Int32).toNatClampNeg) 2 (-1) 12 := RG.cpy h_zfa h_zfb (by decide)
  generalize uzf_2 : (va_cpy zfa zfb (0 : Int32).toNatClampNeg (0 : Int32).toNatClampNeg (2 : Int32).toNatClampNeg) = zf_2 at hP hD h_zf_2
  subst hQ
  have hP9 := hP.sub (ws' := [(za1, .inl (cy 0, 2, .inl zfa)), (za2, .inl (cy 0, 2, .inl zf_2))]) [0, 1] rfl
  have hD9 := hD.sub (ws' := [(za1, .inl (cy 0, 2, .inl zfa)), (za2, .inl (cy 0, 2, .inl zf_2))]) [0, 1] (by decide) rfl
  exact W.vret hx hb hr (fun t ht hW => ⟨⟨zf_2, rfl, h_zf_2, ⟨by rw [ht]; exact hP9, va_K.moved hW.alike hK, hD9⟩⟩, hS.F ht⟩) hS.2.2 dX10_copyRow_14
set_option maxHeartbeats 8000000 in
set_option maxRecDepth 100000 in
theorem c_copyRow_5 (l : Launch) (dC : Nat → ClassId) (dI : Nat → Nat → Nat) (cy : Nat → ClassId) (sz : Nat) (za1 : Nat) (za2 : Nat) (zfa : Nat → Int32) (zfb : Nat → Int32)  : Met l yX10_copyRow wsX10_copyRow ({ frames := 1, cells := 0, slots := 0, locals := 30 } : Room) (va_Pc [.ref za1, .ref za2] (PRE dC dI cy [(za1, .inl (cy 0, 5, .inl zfa)), (za2, .inl (cy 0, 5, .inl zfb))] sz)) (va_Qv (fun (u : (Nat → Int32)) => True) (fun u t => POST dC dI cy (va_A [(za1, .inl (cy 0, 5, .inl zfa)), (za2, .inl (cy 0, 5, .inl zfb))] sz) [(za1, .inl (cy 0, 5, .inl zfa)), (za2, .inl (cy 0, 5, .inl u))] t) (va_A [(za1, .inl (cy 0, 5, .inl zfa)), (za2, .inl (cy 0, 5, .inl zfb))] sz)) 0 0 (va_A [(za1, .inl (cy 0, 5, .inl zfa)), (za2, .inl (cy 0, 5, .inl zfb))] sz) := by
  refine Met.ofW (cc := cX10_copyRow) (maxL := 2) (ret := none) (by decide) rfl ?_
  intro p e s m args below meth c s₁ B hml hv
  obtain ⟨rfl, hsz, hP, hK, hD0, hN⟩ := hv
  have hx := B.exec
  have hb := B.bytes
  have hr := B.returns
  have hts := atoms_spec (ws := wsX10_copyRow) B.pre
  have hown : s.vm.findClass RX10 = some m.cls := findClass_of_methodNamed B.named
  have hlocks := B.notSynchronized
  subst hsz
  have hD := hD0.self (sz := s.heap.size)
  generalize hAe : va_A [(za1, .inl (cy 0, 5, .inl zfa)), (za2, .inl (cy 0, 5, .inl zfb))] s.heap.size = A at hD ⊢
  have hA : ∀ q : Nat, s.heap.size ≤ q → A q := fun q h => by rw [← hAe]; exact Or.inr h
  have hS : va_S A s.heap s.heap [] := va_S.rf
  have hP : va_P (dC, dI) vwCl [(za1, .inl (cy 0, 5, .inl zfa)), (za2, .inl (cy 0, 5, .inl zfb))] s.heap := hP
  have hl := lv_entry ([.ref za1, .ref za2] : List Value) (n := 2) (Nat.le_of_ble_eq_true rfl)
  rw [lg_entry_eq]
  generalize (lg_sl ([.ref za1, .ref za2] : List Value) ++ List.replicate (2 - (lg_sl ([.ref za1, .ref za2] : List Value)).length) Slot.unset).toArray = ls at hl ⊢
  have hl : lv_has ls 2 [(0, .ref za1), (1, .ref za2)] := hl
  refine w_q (fun Q hQ => ?_)
  refine lv_aload_n hx hb dX10_copyRow_0 rfl (lv_at hl 0 rfl) ?_
  refine lv_iconst (v := 0) hx hb dX10_copyRow_1 (by decide) ?_
  refine lv_aload_n hx hb dX10_copyRow_2 rfl (lv_at hl 1 rfl) ?_
  refine lv_iconst (v := 0) hx hb dX10_copyRow_3 (by decide) ?_
  refine lv_aload_n hx hb dX10_copyRow_4 rfl (lv_at hl 0 rfl) ?_
  refine va_alen (v := 5) hx hb hK hP 0 0 rfl rfl rfl dX10_copyRow_5 ?_
  refine lv_aload_n hx hb dX10_copyRow_6 rfl (lv_at hl 1 rfl) ?_
  refine va_alen (v := 5) hx hb hK hP 1 0 rfl rfl rfl dX10_copyRow_7 ?_
  refine va_mmin hx hb (by rw [hml]; exact hl.1.symm) hown (hts (.methodLink RX10 382 Lib.Math.min.name) (by decide +kernel)) (hts (.static Lib.Math.min.name) (by decide +kernel)) (hts (.initialized "java/lang/Math") (by decide +kernel)) (hts (.code Lib.Math.min.name Lib.Math.min.code 2 (some .int)) (by decide +kernel)) (Nat.le_of_ble_eq_true rfl) (Nat.le_of_ble_eq_true rfl) (Nat.le_of_ble_eq_true rfl) (Nat.le_of_ble_eq_true rfl) dX10_copyRow_8 ?_
  refine lv_topi (fun zi_1 ezi_1 => ?_)
  obtain rfl : zi_1 = (5 : Int32) := ezi_1.trans (by decide)
  refine va_copyi hx hb (by rw [hml]; exact hl.1.symm) hown (hts (.methodLink RX10 385 arraycopyName) (by decide +kernel)) (hts (.native arraycopyName) (by decide +kernel)) (hts (.static arraycopyName) (by decide +kernel)) (hts (.initialized "java/lang/System") (by decide +kernel)) hK hP hD hS 0 1 0 0 rfl rfl rfl rfl rfl (by decide) (by decide) (by decide) (by decide) (by decide) (fun _ _ => rfl) (Nat.le_of_ble_eq_true rfl) (by decide) dX10_copyRow_11 (fun H locs hP hD hS => ?_)
  have hP : va_P (dC, dI) vwCl [(za1, .inl (cy 0, 5, .inl zfa)), (za2, .inl (cy 0, 5, .inl (va_cpy zfa zfb (0 : Int32).toNatClampNeg (0 : Int32).toNatClampNeg (5 : Int32).toNatClampNeg)))] H := hP
  have hD : va_D A [(za1, .inl (cy 0, 5, .inl zfa)), (za2, .inl (cy 0, 5, .inl (va_cpy zfa zfb (0 : Int32).toNatClampNeg (0 : Int32).toNatClampNeg (5 : Int32).toNatClampNeg)))] := hD
  generalize uzf_2 : (va_cpy zfa zfb (0 : Int32).toNatClampNeg (0 : Int32).toNatClampNeg (5 : Int32).toNatClampNeg) = zf_2 at hP hD
  subst hQ
  have hP9 := hP.sub (ws' := [(za1, .inl (cy 0, 5, .inl zfa)), (za2, .inl (cy 0, 5, .inl zf_2))]) [0, 1] rfl
  have hD9 := hD.sub (ws' := [(za1, .inl (cy 0, 5, .inl zfa)), (za2, .inl (cy 0, 5, .inl zf_2))]) [0, 1] (by decide) rfl
  exact W.vret hx hb hr (fun t ht hW => ⟨⟨zf_2, rfl, trivial, ⟨by rw [ht]; exact hP9, va_K.moved hW.alike hK, hD9⟩⟩, hS.F ht⟩) hS.2.2 dX10_copyRow_14
set_option maxHeartbeats 8000000 in
set_option maxRecDepth 100000 in
theorem c_copyRow_6 (l : Launch) (dC : Nat → ClassId) (dI : Nat → Nat → Nat) (cy : Nat → ClassId) (sz : Nat) (za1 : Nat) (za2 : Nat) (zfa : Nat → Int32) (zfb : Nat → Int32)  : Met l yX10_copyRow wsX10_copyRow ({ frames := 1, cells := 0, slots := 0, locals := 30 } : Room) (va_Pc [.ref za1, .ref za2] (PRE dC dI cy [(za1, .inl (cy 0, 6, .inl zfa)), (za2, .inl (cy 0, 6, .inl zfb))] sz)) (va_Qv (fun (u : (Nat → Int32)) => True) (fun u t => POST dC dI cy (va_A [(za1, .inl (cy 0, 6, .inl zfa)), (za2, .inl (cy 0, 6, .inl zfb))] sz) [(za1, .inl (cy 0, 6, .inl zfa)), (za2, .inl (cy 0, 6, .inl u))] t) (va_A [(za1, .inl (cy 0, 6, .inl zfa)), (za2, .inl (cy 0, 6, .inl zfb))] sz)) 0 0 (va_A [(za1, .inl (cy 0, 6, .inl zfa)), (za2, .inl (cy 0, 6, .inl zfb))] sz) := by
  refine Met.ofW (cc := cX10_copyRow) (maxL := 2) (ret := none) (by decide) rfl ?_
  intro p e s m args below meth c s₁ B hml hv
  obtain ⟨rfl, hsz, hP, hK, hD0, hN⟩ := hv
  have hx := B.exec
  have hb := B.bytes
  have hr := B.returns
  have hts := atoms_spec (ws := wsX10_copyRow) B.pre
  have hown : s.vm.findClass RX10 = some m.cls := findClass_of_methodNamed B.named
  have hlocks := B.notSynchronized
  subst hsz
  have hD := hD0.self (sz := s.heap.size)
  generalize hAe : va_A [(za1, .inl (cy 0, 6, .inl zfa)), (za2, .inl (cy 0, 6, .inl zfb))] s.heap.size = A at hD ⊢
  have hA : ∀ q : Nat, s.heap.size ≤ q → A q := fun q h => by rw [← hAe]; exact Or.inr h
  have hS : va_S A s.heap s.heap [] := va_S.rf
  have hP : va_P (dC, dI) vwCl [(za1, .inl (cy 0, 6, .inl zfa)), (za2, .inl (cy 0, 6, .inl zfb))] s.heap := hP
  have hl := lv_entry ([.ref za1, .ref za2] : List Value) (n := 2) (Nat.le_of_ble_eq_true rfl)
  rw [lg_entry_eq]
  generalize (lg_sl ([.ref za1, .ref za2] : List Value) ++ List.replicate (2 - (lg_sl ([.ref za1, .ref za2] : List Value)).length) Slot.unset).toArray = ls at hl ⊢
  have hl : lv_has ls 2 [(0, .ref za1), (1, .ref za2)] := hl
  refine w_q (fun Q hQ => ?_)
  refine lv_aload_n hx hb dX10_copyRow_0 rfl (lv_at hl 0 rfl) ?_
  refine lv_iconst (v := 0) hx hb dX10_copyRow_1 (by decide) ?_
  refine lv_aload_n hx hb dX10_copyRow_2 rfl (lv_at hl 1 rfl) ?_
  refine lv_iconst (v := 0) hx hb dX10_copyRow_3 (by decide) ?_
  refine lv_aload_n hx hb dX10_copyRow_4 rfl (lv_at hl 0 rfl) ?_
  refine va_alen (v := 6) hx hb hK hP 0 0 rfl rfl rfl dX10_copyRow_5 ?_
  refine lv_aload_n hx hb dX10_copyRow_6 rfl (lv_at hl 1 rfl) ?_
  refine va_alen (v := 6) hx hb hK hP 1 0 rfl rfl rfl dX10_copyRow_7 ?_
  refine va_mmin hx hb (by rw [hml]; exact hl.1.symm) hown (hts (.methodLink RX10 382 Lib.Math.min.name) (by decide +kernel)) (hts (.static Lib.Math.min.name) (by decide +kernel)) (hts (.initialized "java/lang/Math") (by decide +kernel)) (hts (.code Lib.Math.min.name Lib.Math.min.code 2 (some .int)) (by decide +kernel)) (Nat.le_of_ble_eq_true rfl) (Nat.le_of_ble_eq_true rfl) (Nat.le_of_ble_eq_true rfl) (Nat.le_of_ble_eq_true rfl) dX10_copyRow_8 ?_
  refine lv_topi (fun zi_1 ezi_1 => ?_)
  obtain rfl : zi_1 = (6 : Int32) := ezi_1.trans (by decide)
  refine va_copyi hx hb (by rw [hml]; exact hl.1.symm) hown (hts (.methodLink RX10 385 arraycopyName) (by decide +kernel)) (hts (.native arraycopyName) (by decide +kernel)) (hts (.static arraycopyName) (by decide +kernel)) (hts (.initialized "java/lang/System") (by decide +kernel)) hK hP hD hS 0 1 0 0 rfl rfl rfl rfl rfl (by decide) (by decide) (by decide) (by decide) (by decide) (fun _ _ => rfl) (Nat.le_of_ble_eq_true rfl) (by decide) dX10_copyRow_11 (fun H locs hP hD hS => ?_)
  have hP : va_P (dC, dI) vwCl [(za1, .inl (cy 0, 6, .inl zfa)), (za2, .inl (cy 0, 6, .inl (va_cpy zfa zfb (0 : Int32).toNatClampNeg (0 : Int32).toNatClampNeg (6 : Int32).toNatClampNeg)))] H := hP
  have hD : va_D A [(za1, .inl (cy 0, 6, .inl zfa)), (za2, .inl (cy 0, 6, .inl (va_cpy zfa zfb (0 : Int32).toNatClampNeg (0 : Int32).toNatClampNeg (6 : Int32).toNatClampNeg)))] := hD
  generalize uzf_2 : (va_cpy zfa zfb (0 : Int32).toNatClampNeg (0 : Int32).toNatClampNeg (6 : Int32).toNatClampNeg) = zf_2 at hP hD
  subst hQ
  have hP9 := hP.sub (ws' := [(za1, .inl (cy 0, 6, .inl zfa)), (za2, .inl (cy 0, 6, .inl zf_2))]) [0, 1] rfl
  have hD9 := hD.sub (ws' := [(za1, .inl (cy 0, 6, .inl zfa)), (za2, .inl (cy 0, 6, .inl zf_2))]) [0, 1] (by decide) rfl
  exact W.vret hx hb hr (fun t ht hW => ⟨⟨zf_2, rfl, trivial, ⟨by rw [ht]; exact hP9, va_K.moved hW.alike hK, hD9⟩⟩, hS.F ht⟩) hS.2.2 dX10_copyRow_14
set_option maxHeartbeats 8000000 in
set_option maxRecDepth 100000 in
theorem c_copyRow_6_0_3 (l : Launch) (dC : Nat → ClassId) (dI : Nat → Nat → Nat) (cy : Nat → ClassId) (sz : Nat) (za1 : Nat) (za2 : Nat) (zfa : Nat → Int32) (zfb : Nat → Int32) (h_zfa : RG zfa 6 0 3) (h_zfb : RG zfb 6 0 3) : Met l yX10_copyRow wsX10_copyRow ({ frames := 1, cells := 0, slots := 0, locals := 30 } : Room) (va_Pc [.ref za1, .ref za2] (PRE dC dI cy [(za1, .inl (cy 0, 6, .inl zfa)), (za2, .inl (cy 0, 6, .inl zfb))] sz)) (va_Qv (fun (u : (Nat → Int32)) => (RG u 6 0 3)) (fun u t => POST dC dI cy (va_A [(za1, .inl (cy 0, 6, .inl zfa)), (za2, .inl (cy 0, 6, .inl zfb))] sz) [(za1, .inl (cy 0, 6, .inl zfa)), (za2, .inl (cy 0, 6, .inl u))] t) (va_A [(za1, .inl (cy 0, 6, .inl zfa)), (za2, .inl (cy 0, 6, .inl zfb))] sz)) 0 0 (va_A [(za1, .inl (cy 0, 6, .inl zfa)), (za2, .inl (cy 0, 6, .inl zfb))] sz) := by
  refine Met.ofW (cc := cX10_copyRow) (maxL := 2) (ret := none) (by decide) rfl ?_
  intro p e s m args below meth c s₁ B hml hv
  obtain ⟨rfl, hsz, hP, hK, hD0, hN⟩ := hv
  have hx := B.exec
  have hb := B.bytes
  have hr := B.returns
  have hts := atoms_spec (ws := wsX10_copyRow) B.pre
  have hown : s.vm.findClass RX10 = some m.cls := findClass_of_methodNamed B.named
  have hlocks := B.notSynchronized
  subst hsz
  have hD := hD0.self (sz := s.heap.size)
  generalize hAe : va_A [(za1, .inl (cy 0, 6, .inl zfa)), (za2, .inl (cy 0, 6, .inl zfb))] s.heap.size = A at hD ⊢
  have hA : ∀ q : Nat, s.heap.size ≤ q → A q := fun q h => by rw [← hAe]; exact Or.inr h
  have hS : va_S A s.heap s.heap [] := va_S.rf
  have hP : va_P (dC, dI) vwCl [(za1, .inl (cy 0, 6, .inl zfa)), (za2, .inl (cy 0, 6, .inl zfb))] s.heap := hP
  have hl := lv_entry ([.ref za1, .ref za2] : List Value) (n := 2) (Nat.le_of_ble_eq_true rfl)
  rw [lg_entry_eq]
  generalize (lg_sl ([.ref za1, .ref za2] : List Value) ++ List.replicate (2 - (lg_sl ([.ref za1, .ref za2] : List Value)).length) Slot.unset).toArray = ls at hl ⊢
  have hl : lv_has ls 2 [(0, .ref za1), (1, .ref za2)] := hl
  refine w_q (fun Q hQ => ?_)
  refine lv_aload_n hx hb dX10_copyRow_0 rfl (lv_at hl 0 rfl) ?_
  refine lv_iconst (v := 0) hx hb dX10_copyRow_1 (by decide) ?_
  refine lv_aload_n hx hb dX10_copyRow_2 rfl (lv_at hl 1 rfl) ?_
  refine lv_iconst (v := 0) hx hb dX10_copyRow_3 (by decide) ?_
  refine lv_aload_n hx hb dX10_copyRow_4 rfl (lv_at hl 0 rfl) ?_
  refine va_alen (v := 6) hx hb hK hP 0 0 rfl rfl rfl dX10_copyRow_5 ?_
  refine lv_aload_n hx hb dX10_copyRow_6 rfl (lv_at hl 1 rfl) ?_
  refine va_alen (v := 6) hx hb hK hP 1 0 rfl rfl rfl dX10_copyRow_7 ?_
  refine va_mmin hx hb (by rw [hml]; exact hl.1.symm) hown (hts (.methodLink RX10 382 Lib.Math.min.name) (by decide +kernel)) (hts (.static Lib.Math.min.name) (by decide +kernel)) (hts (.initialized "java/lang/Math") (by decide +kernel)) (hts (.code Lib.Math.min.name Lib.Math.min.code 2 (some .int)) (by decide +kernel)) (Nat.le_of_ble_eq_true rfl) (Nat.le_of_ble_eq_true rfl) (Nat.le_of_ble_eq_true rfl) (Nat.le_of_ble_eq_true rfl) dX10_copyRow_8 ?_
  refine lv_topi (fun zi_1 ezi_1 => ?_)
  obtain rfl : zi_1 = (6 : Int32) := ezi_1.trans (by decide)
  refine va_copyi hx hb (by rw [hml]; exact hl.1.symm) hown (hts (.methodLink RX10 385 arraycopyName) (by decide +kernel)) (hts (.native arraycopyName) (by decide +kernel)) (hts (.static arraycopyName) (by decide +kernel)) (hts (.initialized "java/lang/System") (by decide +kernel)) hK hP hD hS 0 1 0 0 rfl rfl rfl rfl rfl (by decide) (by decide) (by decide) (by decide) (by decide) (fun _ _ => rfl) (Nat.le_of_ble_eq_true rfl) (by decide) dX10_copyRow_11 (fun H locs hP hD hS => ?_)
  have hP : va_P (dC, dI) vwCl [(za1, .inl (cy 0, 6, .inl zfa)), (za2, .inl (cy 0, 6, .inl (va_cpy zfa zfb (0 : Int32).toNatClampNeg (0 : Int32).toNatClampNeg (6 : Int32).toNatClampNeg)))] H := hP
  have hD : va_D A [(za1, .inl (cy 0, 6, .inl zfa)), (za2, .inl (cy 0, 6, .inl (va_cpy zfa zfb (0 : Int32).toNatClampNeg (0 : Int32).toNatClampNeg (6 : Int32).toNatClampNeg)))] := hD
  have h_zf_2 : RG (va_cpy zfa zfb (0 : Int32).toNatClampNeg (0 : Int32).toNatClampNeg (6 : Int32).toNatClampNeg) 6 0 3 := RG.cpy h_zfa h_zfb (by decide)
  generalize uzf_2 : (va_cpy zfa zfb (0 : Int32).toNatClampNeg (0 : Int32).toNatClampNeg (6 : Int32).toNatClampNeg) = zf_2 at hP hD h_zf_2
  subst hQ
  have hP9 := hP.sub (ws' := [(za1, .inl (cy 0, 6, .inl zfa)), (za2, .inl (cy 0, 6, .inl zf_2))]) [0, 1] rfl
  have hD9 := hD.sub (ws' := [(za1, .inl (cy 0, 6, .inl zfa)), (za2, .inl (cy 0, 6, .inl zf_2))]) [0, 1] (by decide) rfl
  exact W.vret hx hb hr (fun t ht hW => ⟨⟨zf_2, rfl, h_zf_2, ⟨by rw [ht]; exact hP9, va_K.moved hW.alike hK, hD9⟩⟩, hS.F ht⟩) hS.2.2 dX10_copyRow_14
set_option maxHeartbeats 8000000 in
set_option maxRecDepth 100000 in
theorem c_copyRow_6_0_20 (l : Launch) (dC : Nat → ClassId) (dI : Nat → Nat → Nat) (cy : Nat → ClassId) (sz : Nat) (za1 : Nat) (za2 : Nat) (zfa : Nat → Int32) (zfb : Nat → Int32) (h_zfa : RG zfa 6 0 20) (h_zfb : RG zfb 6 0 20) : Met l yX10_copyRow wsX10_copyRow ({ frames := 1, cells := 0, slots := 0, locals := 30 } : Room) (va_Pc [.ref za1, .ref za2] (PRE dC dI cy [(za1, .inl (cy 0, 6, .inl zfa)), (za2, .inl (cy 0, 6, .inl zfb))] sz)) (va_Qv (fun (u : (Nat → Int32)) => (RG u 6 0 20)) (fun u t => POST dC dI cy (va_A [(za1, .inl (cy 0, 6, .inl zfa)), (za2, .inl (cy 0, 6, .inl zfb))] sz) [(za1, .inl (cy 0, 6, .inl zfa)), (za2, .inl (cy 0, 6, .inl u))] t) (va_A [(za1, .inl (cy 0, 6, .inl zfa)), (za2, .inl (cy 0, 6, .inl zfb))] sz)) 0 0 (va_A [(za1, .inl (cy 0, 6, .inl zfa)), (za2, .inl (cy 0, 6, .inl zfb))] sz) := by
  refine Met.ofW (cc := cX10_copyRow) (maxL := 2) (ret := none) (by decide) rfl ?_
  intro p e s m args below meth c s₁ B hml hv
  obtain ⟨rfl, hsz, hP, hK, hD0, hN⟩ := hv
  have hx := B.exec
  have hb := B.bytes
  have hr := B.returns
  have hts := atoms_spec (ws := wsX10_copyRow) B.pre
  have hown : s.vm.findClass RX10 = some m.cls := findClass_of_methodNamed B.named
  have hlocks := B.notSynchronized
  subst hsz
  have hD := hD0.self (sz := s.heap.size)
  generalize hAe : va_A [(za1, .inl (cy 0, 6, .inl zfa)), (za2, .inl (cy 0, 6, .inl zfb))] s.heap.size = A at hD ⊢
  have hA : ∀ q : Nat, s.heap.size ≤ q → A q := fun q h => by rw [← hAe]; exact Or.inr h
  have hS : va_S A s.heap s.heap [] := va_S.rf
  have hP : va_P (dC, dI) vwCl [(za1, .inl (cy 0, 6, .inl zfa)), (za2, .inl (cy 0, 6, .inl zfb))] s.heap := hP
  have hl := lv_entry ([.ref za1, .ref za2] : List Value) (n := 2) (Nat.le_of_ble_eq_true rfl)
  rw [lg_entry_eq]
  generalize (lg_sl ([.ref za1, .ref za2] : List Value) ++ List.replicate (2 - (lg_sl ([.ref za1, .ref za2] : List Value)).length) Slot.unset).toArray = ls at hl ⊢
  have hl : lv_has ls 2 [(0, .ref za1), (1, .ref za2)] := hl
  refine w_q (fun Q hQ => ?_)
  refine lv_aload_n hx hb dX10_copyRow_0 rfl (lv_at hl 0 rfl) ?_
  refine lv_iconst (v := 0) hx hb dX10_copyRow_1 (by decide) ?_
  refine lv_aload_n hx hb dX10_copyRow_2 rfl (lv_at hl 1 rfl) ?_
  refine lv_iconst (v := 0) hx hb dX10_copyRow_3 (by decide) ?_
  refine lv_aload_n hx hb dX10_copyRow_4 rfl (lv_at hl 0 rfl) ?_
  refine va_alen (v := 6) hx hb hK hP 0 0 rfl rfl rfl dX10_copyRow_5 ?_
  refine lv_aload_n hx hb dX10_copyRow_6 rfl (lv_at hl 1 rfl) ?_
  refine va_alen (v := 6) hx hb hK hP 1 0 rfl rfl rfl dX10_copyRow_7 ?_
  refine va_mmin hx hb (by rw [hml]; exact hl.1.symm) hown (hts (.methodLink RX10 382 Lib.Math.min.name) (by decide +kernel)) (hts (.static Lib.Math.min.name) (by decide +kernel)) (hts (.initialized "java/lang/Math") (by decide +kernel)) (hts (.code Lib.Math.min.name Lib.Math.min.code 2 (some .int)) (by decide +kernel)) (Nat.le_of_ble_eq_true rfl) (Nat.le_of_ble_eq_true rfl) (Nat.le_of_ble_eq_true rfl) (Nat.le_of_ble_eq_true rfl) dX10_copyRow_8 ?_
  refine lv_topi (fun zi_1 ezi_1 => ?_)
  obtain rfl : zi_1 = (6 : Int32) := ezi_1.trans (by decide)
  refine va_copyi hx hb (by rw [hml]; exact hl.1.symm) hown (hts (.methodLink RX10 385 arraycopyName) (by decide +kernel)) (hts (.native arraycopyName) (by decide +kernel)) (hts (.static arraycopyName) (by decide +kernel)) (hts (.initialized "java/lang/System") (by decide +kernel)) hK hP hD hS 0 1 0 0 rfl rfl rfl rfl rfl (by decide) (by decide) (by decide) (by decide) (by decide) (fun _ _ => rfl) (Nat.le_of_ble_eq_true rfl) (by decide) dX10_copyRow_11 (fun H locs hP hD hS => ?_)
  have hP : va_P (dC, dI) vwCl [(za1, .inl (cy 0, 6, .inl zfa)), (za2, .inl (cy 0, 6, .inl (va_cpy zfa zfb (0 : Int32).toNatClampNeg (0 : Int32).toNatClampNeg (6 : Int32).toNatClampNeg)))] H := hP
  have hD : va_D A [(za1, .inl (cy 0, 6, .inl zfa)), (za2, .inl (cy 0, 6, .inl (va_cpy zfa zfb (0 : Int32).toNatClampNeg (0 : Int32).toNatClampNeg (6 : Int32).toNatClampNeg)))] := hD
  have h_zf_2 : RG (va_cpy zfa zfb (0 : Int32).toNatClampNeg (0 : Int32).toNatClampNeg (6 : Int32).toNatClampNeg) 6 0 20 := RG.cpy h_zfa h_zfb (by decide)
  generalize uzf_2 : (va_cpy zfa zfb (0 : Int32).toNatClampNeg (0 : Int32).toNatClampNeg (6 : Int32).toNatClampNeg) = zf_2 at hP hD h_zf_2
  subst hQ
  have hP9 := hP.sub (ws' := [(za1, .inl (cy 0, 6, .inl zfa)), (za2, .inl (cy 0, 6, .inl zf_2))]) [0, 1] rfl
  have hD9 := hD.sub (ws' := [(za1, .inl (cy 0, 6, .inl zfa)), (za2, .inl (cy 0, 6, .inl zf_2))]) [0, 1] (by decide) rfl
  exact W.vret hx hb hr (fun t ht hW => ⟨⟨zf_2, rfl, h_zf_2, ⟨by rw [ht]; exact hP9, va_K.moved hW.alike hK, hD9⟩⟩, hS.F ht⟩) hS.2.2 dX10_copyRow_14
set_option maxHeartbeats 8000000 in
set_option maxRecDepth 100000 in
theorem c_copyRow_8 (l : Launch) (dC : Nat → ClassId) (dI : Nat → Nat → Nat) (cy : Nat → ClassId) (sz : Nat) (za1 : Nat) (za2 : Nat) (zfa : Nat → Int32) (zfb : Nat → Int32)  : Met l yX10_copyRow wsX10_copyRow ({ frames := 1, cells := 0, slots := 0, locals := 30 } : Room) (va_Pc [.ref za1, .ref za2] (PRE dC dI cy [(za1, .inl (cy 0, 8, .inl zfa)), (za2, .inl (cy 0, 8, .inl zfb))] sz)) (va_Qv (fun (u : (Nat → Int32)) => True) (fun u t => POST dC dI cy (va_A [(za1, .inl (cy 0, 8, .inl zfa)), (za2, .inl (cy 0, 8, .inl zfb))] sz) [(za1, .inl (cy 0, 8, .inl zfa)), (za2, .inl (cy 0, 8, .inl u))] t) (va_A [(za1, .inl (cy 0, 8, .inl zfa)), (za2, .inl (cy 0, 8, .inl zfb))] sz)) 0 0 (va_A [(za1, .inl (cy 0, 8, .inl zfa)), (za2, .inl (cy 0, 8, .inl zfb))] sz) := by
  refine Met.ofW (cc := cX10_copyRow) (maxL := 2) (ret := none) (by decide) rfl ?_
  intro p e s m args below meth c s₁ B hml hv
  obtain ⟨rfl, hsz, hP, hK, hD0, hN⟩ := hv
  have hx := B.exec
  have hb := B.bytes
  have hr := B.returns
  have hts := atoms_spec (ws := wsX10_copyRow) B.pre
  have hown : s.vm.findClass RX10 = some m.cls := findClass_of_methodNamed B.named
  have hlocks := B.notSynchronized
  subst hsz
  have hD := hD0.self (sz := s.heap.size)
  generalize hAe : va_A [(za1, .inl (cy 0, 8, .inl zfa)), (za2, .inl (cy 0, 8, .inl zfb))] s.heap.size = A at hD ⊢
  have hA : ∀ q : Nat, s.heap.size ≤ q → A q := fun q h => by rw [← hAe]; exact Or.inr h
  have hS : va_S A s.heap s.heap [] := va_S.rf
  have hP : va_P (dC, dI) vwCl [(za1, .inl (cy 0, 8, .inl zfa)), (za2, .inl (cy 0, 8, .inl zfb))] s.heap := hP
  have hl := lv_entry ([.ref za1, .ref za2] : List Value) (n := 2) (Nat.le_of_ble_eq_true rfl)
  rw [lg_entry_eq]
  generalize (lg_sl ([.ref za1, .ref za2] : List Value) ++ List.replicate (2 - (lg_sl ([.ref za1, .ref za2] : List Value)).length) Slot.unset).toArray = ls at hl ⊢
  have hl : lv_has ls 2 [(0, .ref za1), (1, .ref za2)] := hl
  refine w_q (fun Q hQ => ?_)
  refine lv_aload_n hx hb dX10_copyRow_0 rfl (lv_at hl 0 rfl) ?_
  refine lv_iconst (v := 0) hx hb dX10_copyRow_1 (by decide) ?_
  refine lv_aload_n hx hb dX10_copyRow_2 rfl (lv_at hl 1 rfl) ?_
  refine lv_iconst (v := 0) hx hb dX10_copyRow_3 (by decide) ?_
  refine lv_aload_n hx hb dX10_copyRow_4 rfl (lv_at hl 0 rfl) ?_
  refine va_alen (v := 8) hx hb hK hP 0 0 rfl rfl rfl dX10_copyRow_5 ?_
  refine lv_aload_n hx hb dX10_copyRow_6 rfl (lv_at hl 1 rfl) ?_
  refine va_alen (v := 8) hx hb hK hP 1 0 rfl rfl rfl dX10_copyRow_7 ?_
  refine va_mmin hx hb (by rw [hml]; exact hl.1.symm) hown (hts (.methodLink RX10 382 Lib.Math.min.name) (by decide +kernel)) (hts (.static Lib.Math.min.name) (by decide +kernel)) (hts (.initialized "java/lang/Math") (by decide +kernel)) (hts (.code Lib.Math.min.name Lib.Math.min.code 2 (some .int)) (by decide +kernel)) (Nat.le_of_ble_eq_true rfl) (Nat.le_of_ble_eq_true rfl) (Nat.le_of_ble_eq_true rfl) (Nat.le_of_ble_eq_true rfl) dX10_copyRow_8 ?_
  refine lv_topi (fun zi_1 ezi_1 => ?_)
  obtain rfl : zi_1 = (8 : Int32) := ezi_1.trans (by decide)
  refine va_copyi hx hb (by rw [hml]; exact hl.1.symm) hown (hts (.methodLink RX10 385 arraycopyName) (by decide +kernel)) (hts (.native arraycopyName) (by decide +kernel)) (hts (.static arraycopyName) (by decide +kernel)) (hts (.initialized "java/lang/System") (by decide +kernel)) hK hP hD hS 0 1 0 0 rfl rfl rfl rfl rfl (by decide) (by decide) (by decide) (by decide) (by decide) (fun _ _ => rfl) (Nat.le_of_ble_eq_true rfl) (by decide) dX10_copyRow_11 (fun H locs hP hD hS => ?_)
  have hP : va_P (dC, dI) vwCl [(za1, .inl (cy 0, 8, .inl zfa)), (za2, .inl (cy 0, 8, .inl (va_cpy zfa zfb (0 : Int32).toNatClampNeg (0 : Int32).toNatClampNeg (8 : Int32).toNatClampNeg)))] H := hP
  have hD : va_D A [(za1, .inl (cy 0, 8, .inl zfa)), (za2, .inl (cy 0, 8, .inl (va_cpy zfa zfb (0 : Int32).toNatClampNeg (0 : Int32).toNatClampNeg (8 : Int32).toNatClampNeg)))] := hD
  generalize uzf_2 : (va_cpy zfa zfb (0 : Int32).toNatClampNeg (0 : Int32).toNatClampNeg (8 : Int32).toNatClampNeg) = zf_2 at hP hD
  subst hQ
  have hP9 := hP.sub (ws' := [(za1, .inl (cy 0, 8, .inl zfa)), (za2, .inl (cy 0, 8, .inl zf_2))]) [0, 1] rfl
  have hD9 := hD.sub (ws' := [(za1, .inl (cy 0, 8, .inl zfa)), (za2, .inl (cy 0, 8, .inl zf_2))]) [0, 1] (by decide) rfl
  exact W.vret hx hb hr (fun t ht hW => ⟨⟨zf_2, rfl, trivial, ⟨by rw [ht]; exact hP9, va_K.moved hW.alike hK, hD9⟩⟩, hS.F ht⟩) hS.2.2 dX10_copyRow_14
set_option maxHeartbeats 8000000 in
set_option maxRecDepth 100000 in
theorem c_copyRow_8_0_1 (l : Launch) (dC : Nat → ClassId) (dI : Nat → Nat → Nat) (cy : Nat → ClassId) (sz : Nat) (za1 : Nat) (za2 : Nat) (zfa : Nat → Int32) (zfb : Nat → Int32) (h_zfa : RG zfa 8 0 1) (h_zfb : RG zfb 8 0 1) : Met l yX10_copyRow wsX10_copyRow ({ frames := 1, cells := 0, slots := 0, locals := 30 } : Room) (va_Pc [.ref za1, .ref za2] (PRE dC dI cy [(za1, .inl (cy 0, 8, .inl zfa)), (za2, .inl (cy 0, 8, .inl zfb))] sz)) (va_Qv (fun (u : (Nat → Int32)) => (RG u 8 0 1)) (fun u t => POST dC dI cy (va_A [(za1, .inl (cy 0, 8, .inl zfa)), (za2, .inl (cy 0, 8, .inl zfb))] sz) [(za1, .inl (cy 0, 8, .inl zfa)), (za2, .inl (cy 0, 8, .inl u))] t) (va_A [(za1, .inl (cy 0, 8, .inl zfa)), (za2, .inl (cy 0, 8, .inl zfb))] sz)) 0 0 (va_A [(za1, .inl (cy 0, 8, .inl zfa)), (za2, .inl (cy 0, 8, .inl zfb))] sz) := by
  refine Met.ofW (cc := cX10_copyRow) (maxL := 2) (ret := none) (by decide) rfl ?_
  intro p e s m args below meth c s₁ B hml hv
  obtain ⟨rfl, hsz, hP, hK, hD0, hN⟩ := hv
  have hx := B.exec
  have hb := B.bytes
  have hr := B.returns
  have hts := atoms_spec (ws := wsX10_copyRow) B.pre
  have hown : s.vm.findClass RX10 = some m.cls := findClass_of_methodNamed B.named
  have hlocks := B.notSynchronized
  subst hsz
  have hD := hD0.self (sz := s.heap.size)
  generalize hAe : va_A [(za1, .inl (cy 0, 8, .inl zfa)), (za2, .inl (cy 0, 8, .inl zfb))] s.heap.size = A at hD ⊢
  have hA : ∀ q : Nat, s.heap.size ≤ q → A q := fun q h => by rw [← hAe]; exact Or.inr h
  have hS : va_S A s.heap s.heap [] := va_S.rf
  have hP : va_P (dC, dI) vwCl [(za1, .inl (cy 0, 8, .inl zfa)), (za2, .inl (cy 0, 8, .inl zfb))] s.heap := hP
  have hl := lv_entry ([.ref za1, .ref za2] : List Value) (n := 2) (Nat.le_of_ble_eq_true rfl)
  rw [lg_entry_eq]
  generalize (lg_sl ([.ref za1, .ref za2] : List Value) ++ List.replicate (2 - (lg_sl ([.ref za1, .ref za2] : List Value)).length) Slot.unset).toArray = ls at hl ⊢
  have hl : lv_has ls 2 [(0, .ref za1), (1, .ref za2)] := hl
  refine w_q (fun Q hQ => ?_)
  refine lv_aload_n hx hb dX10_copyRow_0 rfl (lv_at hl 0 rfl) ?_
  refine lv_iconst (v := 0) hx hb dX10_copyRow_1 (by decide) ?_
  refine lv_aload_n hx hb dX10_copyRow_2 rfl (lv_at hl 1 rfl) ?_
  refine lv_iconst (v := 0) hx hb dX10_copyRow_3 (by decide) ?_
  refine lv_aload_n hx hb dX10_copyRow_4 rfl (lv_at hl 0 rfl) ?_
  refine va_alen (v := 8) hx hb hK hP 0 0 rfl rfl rfl dX10_copyRow_5 ?_
  refine lv_aload_n hx hb dX10_copyRow_6 rfl (lv_at hl 1 rfl) ?_
  refine va_alen (v := 8) hx hb hK hP 1 0 rfl rfl rfl dX10_copyRow_7 ?_
  refine va_mmin hx hb (by rw [hml]; exact hl.1.symm) hown (hts (.methodLink RX10 382 Lib.Math.min.name) (by decide +kernel)) (hts (.static Lib.Math.min.name) (by decide +kernel)) (hts (.initialized "java/lang/Math") (by decide +kernel)) (hts (.code Lib.Math.min.name Lib.Math.min.code 2 (some .int)) (by decide +kernel)) (Nat.le_of_ble_eq_true rfl) (Nat.le_of_ble_eq_true rfl) (Nat.le_of_ble_eq_true rfl) (Nat.le_of_ble_eq_true rfl) dX10_copyRow_8 ?_
  refine lv_topi (fun zi_1 ezi_1 => ?_)
  obtain rfl : zi_1 = (8 : Int32) := ezi_1.trans (by decide)
  refine va_copyi hx hb (by rw [hml]; exact hl.1.symm) hown (hts (.methodLink RX10 385 arraycopyName) (by decide +kernel)) (hts (.native arraycopyName) (by decide +kernel)) (hts (.static arraycopyName) (by decide +kernel)) (hts (.initialized "java/lang/System") (by decide +kernel)) hK hP hD hS 0 1 0 0 rfl rfl rfl rfl rfl (by decide) (by decide) (by decide) (by decide) (by decide) (fun _ _ => rfl) (Nat.le_of_ble_eq_true rfl) (by decide) dX10_copyRow_11 (fun H locs hP hD hS => ?_)
  have hP : va_P (dC, dI) vwCl [(za1, .inl (cy 0, 8, .inl zfa)), (za2, .inl (cy 0, 8, .inl (va_cpy zfa zfb (0 : Int32).toNatClampNeg (0 : Int32).toNatClampNeg (8 : Int32).toNatClampNeg)))] H := hP
  have hD : va_D A [(za1, .inl (cy 0, 8, .inl zfa)), (za2, .inl (cy 0, 8, .inl (va_cpy zfa zfb (0 : Int32).toNatClampNeg (0 : Int32).toNatClampNeg (8 : Int32).toNatClampNeg)))] := hD
  have h_zf_2 : RG (va_cpy zfa zfb (0 : Int32).toNatClampNeg (0 : Int32).toNatClampNeg (8 : Int32).toNatClampNeg) 8 0 1 := RG.cpy h_zfa h_zfb (by decide)
  generalize uzf_2 : (va_cpy zfa zfb (0 : Int32).toNatClampNeg (0 : Int32).toNatClampNeg (8 : Int32).toNatClampNeg) = zf_2 at hP hD h_zf_2
  subst hQ
  have hP9 := hP.sub (ws' := [(za1, .inl (cy 0, 8, .inl zfa)), (za2, .inl (cy 0, 8, .inl zf_2))]) [0, 1] rfl
  have hD9 := hD.sub (ws' := [(za1, .inl (cy 0, 8, .inl zfa)), (za2, .inl (cy 0, 8, .inl zf_2))]) [0, 1] (by decide) rfl
  exact W.vret hx hb hr (fun t ht hW => ⟨⟨zf_2, rfl, h_zf_2, ⟨by rw [ht]; exact hP9, va_K.moved hW.alike hK, hD9⟩⟩, hS.F ht⟩) hS.2.2 dX10_copyRow_14
set_option maxHeartbeats 8000000 in
set_option maxRecDepth 100000 in
theorem c_copyRow_8_0_11 (l : Launch) (dC : Nat → ClassId) (dI : Nat → Nat → Nat) (cy : Nat → ClassId) (sz : Nat) (za1 : Nat) (za2 : Nat) (zfa : Nat → Int32) (zfb : Nat → Int32) (h_zfa : RG zfa 8 0 11) (h_zfb : RG zfb 8 0 11) : Met l yX10_copyRow wsX10_copyRow ({ frames := 1, cells := 0, slots := 0, locals := 30 } : Room) (va_Pc [.ref za1, .ref za2] (PRE dC dI cy [(za1, .inl (cy 0, 8, .inl zfa)), (za2, .inl (cy 0, 8, .inl zfb))] sz)) (va_Qv (fun (u : (Nat → Int32)) => (RG u 8 0 11)) (fun u t => POST dC dI cy (va_A [(za1, .inl (cy 0, 8, .inl zfa)), (za2, .inl (cy 0, 8, .inl zfb))] sz) [(za1, .inl (cy 0, 8, .inl zfa)), (za2, .inl (cy 0, 8, .inl u))] t) (va_A [(za1, .inl (cy 0, 8, .inl zfa)), (za2, .inl (cy 0, 8, .inl zfb))] sz)) 0 0 (va_A [(za1, .inl (cy 0, 8, .inl zfa)), (za2, .inl (cy 0, 8, .inl zfb))] sz) := by
  refine Met.ofW (cc := cX10_copyRow) (maxL := 2) (ret := none) (by decide) rfl ?_
  intro p e s m args below meth c s₁ B hml hv
  obtain ⟨rfl, hsz, hP, hK, hD0, hN⟩ := hv
  have hx := B.exec
  have hb := B.bytes
  have hr := B.returns
  have hts := atoms_spec (ws := wsX10_copyRow) B.pre
  have hown : s.vm.findClass RX10 = some m.cls := findClass_of_methodNamed B.named
  have hlocks := B.notSynchronized
  subst hsz
  have hD := hD0.self (sz := s.heap.size)
  generalize hAe : va_A [(za1, .inl (cy 0, 8, .inl zfa)), (za2, .inl (cy 0, 8, .inl zfb))] s.heap.size = A at hD ⊢
  have hA : ∀ q : Nat, s.heap.size ≤ q → A q := fun q h => by rw [← hAe]; exact Or.inr h
  have hS : va_S A s.heap s.heap [] := va_S.rf
  have hP : va_P (dC, dI) vwCl [(za1, .inl (cy 0, 8, .inl zfa)), (za2, .inl (cy 0, 8, .inl zfb))] s.heap := hP
  have hl := lv_entry ([.ref za1, .ref za2] : List Value) (n := 2) (Nat.le_of_ble_eq_true rfl)
  rw [lg_entry_eq]
  generalize (lg_sl ([.ref za1, .ref za2] : List Value) ++ List.replicate (2 - (lg_sl ([.ref za1, .ref za2] : List Value)).length) Slot.unset).toArray = ls at hl ⊢
  have hl : lv_has ls 2 [(0, .ref za1), (1, .ref za2)] := hl
  refine w_q (fun Q hQ => ?_)
  refine lv_aload_n hx hb dX10_copyRow_0 rfl (lv_at hl 0 rfl) ?_
  refine lv_iconst (v := 0) hx hb dX10_copyRow_1 (by decide) ?_
  refine lv_aload_n hx hb dX10_copyRow_2 rfl (lv_at hl 1 rfl) ?_
  refine lv_iconst (v := 0) hx hb dX10_copyRow_3 (by decide) ?_
  refine lv_aload_n hx hb dX10_copyRow_4 rfl (lv_at hl 0 rfl) ?_
  refine va_alen (v := 8) hx hb hK hP 0 0 rfl rfl rfl dX10_copyRow_5 ?_
  refine lv_aload_n hx hb dX10_copyRow_6 rfl (lv_at hl 1 rfl) ?_
  refine va_alen (v := 8) hx hb hK hP 1 0 rfl rfl rfl dX10_copyRow_7 ?_
  refine va_mmin hx hb (by rw [hml]; exact hl.1.symm) hown (hts (.methodLink RX10 382 Lib.Math.min.name) (by decide +kernel)) (hts (.static Lib.Math.min.name) (by decide +kernel)) (hts (.initialized "java/lang/Math") (by decide +kernel)) (hts (.code Lib.Math.min.name Lib.Math.min.code 2 (some .int)) (by decide +kernel)) (Nat.le_of_ble_eq_true rfl) (Nat.le_of_ble_eq_true rfl) (Nat.le_of_ble_eq_true rfl) (Nat.le_of_ble_eq_true rfl) dX10_copyRow_8 ?_
  refine lv_topi (fun zi_1 ezi_1 => ?_)
  obtain rfl : zi_1 = (8 : Int32) := ezi_1.trans (by decide)
  refine va_copyi hx hb (by rw [hml]; exact hl.1.symm) hown (hts (.methodLink RX10 385 arraycopyName) (by decide +kernel)) (hts (.native arraycopyName) (by decide +kernel)) (hts (.static arraycopyName) (by decide +kernel)) (hts (.initialized "java/lang/System") (by decide +kernel)) hK hP hD hS 0 1 0 0 rfl rfl rfl rfl rfl (by decide) (by decide) (by decide) (by decide) (by decide) (fun _ _ => rfl) (Nat.le_of_ble_eq_true rfl) (by decide) dX10_copyRow_11 (fun H locs hP hD hS => ?_)
  have hP : va_P (dC, dI) vwCl [(za1, .inl (cy 0, 8, .inl zfa)), (za2, .inl (cy 0, 8, .inl (va_cpy zfa zfb (0 : Int32).toNatClampNeg (0 : Int32).toNatClampNeg (8 : Int32).toNatClampNeg)))] H := hP
  have hD : va_D A [(za1, .inl (cy 0, 8, .inl zfa)), (za2, .inl (cy 0, 8, .inl (va_cpy zfa zfb (0 : Int32).toNatClampNeg (0 : Int32).toNatClampNeg (8 : Int32).toNatClampNeg)))] := hD
  have h_zf_2 : RG (va_cpy zfa zfb (0 : Int32).toNatClampNeg (0 : Int32).toNatClampNeg (8 : Int32).toNatClampNeg) 8 0 11 := RG.cpy h_zfa h_zfb (by decide)
  generalize uzf_2 : (va_cpy zfa zfb (0 : Int32).toNatClampNeg (0 : Int32).toNatClampNeg (8 : Int32).toNatClampNeg) = zf_2 at hP hD h_zf_2
  subst hQ
  have hP9 := hP.sub (ws' := [(za1, .inl (cy 0, 8, .inl zfa)), (za2, .inl (cy 0, 8, .inl zf_2))]) [0, 1] rfl
  have hD9 := hD.sub (ws' := [(za1, .inl (cy 0, 8, .inl zfa)), (za2, .inl (cy 0, 8, .inl zf_2))]) [0, 1] (by decide) rfl
  exact W.vret hx hb hr (fun t ht hW => ⟨⟨zf_2, rfl, h_zf_2, ⟨by rw [ht]; exact hP9, va_K.moved hW.alike hK, hD9⟩⟩, hS.F ht⟩) hS.2.2 dX10_copyRow_14
set_option maxHeartbeats 8000000 in
set_option maxRecDepth 100000 in
theorem c_copyRow_8_0_23 (l : Launch) (dC : Nat → ClassId) (dI : Nat → Nat → Nat) (cy : Nat → ClassId) (sz : Nat) (za1 : Nat) (za2 : Nat) (zfa : Nat → Int32) (zfb : Nat → Int32) (h_zfa : RG zfa 8 0 23) (h_zfb : RG zfb 8 0 23) : Met l yX10_copyRow wsX10_copyRow ({ frames := 1, cells := 0, slots := 0, locals := 30 } : Room) (va_Pc [.ref za1, .ref za2] (PRE dC dI cy [(za1, .inl (cy 0, 8, .inl zfa)), (za2, .inl (cy 0, 8, .inl zfb))] sz)) (va_Qv (fun (u : (Nat → Int32)) => (RG u 8 0 23)) (fun u t => POST dC dI cy (va_A [(za1, .inl (cy 0, 8, .inl zfa)), (za2, .inl (cy 0, 8, .inl zfb))] sz) [(za1, .inl (cy 0, 8, .inl zfa)), (za2, .inl (cy 0, 8, .inl u))] t) (va_A [(za1, .inl (cy 0, 8, .inl zfa)), (za2, .inl (cy 0, 8, .inl zfb))] sz)) 0 0 (va_A [(za1, .inl (cy 0, 8, .inl zfa)), (za2, .inl (cy 0, 8, .inl zfb))] sz) := by
  refine Met.ofW (cc := cX10_copyRow) (maxL := 2) (ret := none) (by decide) rfl ?_
  intro p e s m args below meth c s₁ B hml hv
  obtain ⟨rfl, hsz, hP, hK, hD0, hN⟩ := hv
  have hx := B.exec
  have hb := B.bytes
  have hr := B.returns
  have hts := atoms_spec (ws := wsX10_copyRow) B.pre
  have hown : s.vm.findClass RX10 = some m.cls := findClass_of_methodNamed B.named
  have hlocks := B.notSynchronized
  subst hsz
  have hD := hD0.self (sz := s.heap.size)
  generalize hAe : va_A [(za1, .inl (cy 0, 8, .inl zfa)), (za2, .inl (cy 0, 8, .inl zfb))] s.heap.size = A at hD ⊢
  have hA : ∀ q : Nat, s.heap.size ≤ q → A q := fun q h => by rw [← hAe]; exact Or.inr h
  have hS : va_S A s.heap s.heap [] := va_S.rf
  have hP : va_P (dC, dI) vwCl [(za1, .inl (cy 0, 8, .inl zfa)), (za2, .inl (cy 0, 8, .inl zfb))] s.heap := hP
  have hl := lv_entry ([.ref za1, .ref za2] : List Value) (n := 2) (Nat.le_of_ble_eq_true rfl)
  rw [lg_entry_eq]
  generalize (lg_sl ([.ref za1, .ref za2] : List Value) ++ List.replicate (2 - (lg_sl ([.ref za1, .ref za2] : List Value)).length) Slot.unset).toArray = ls at hl ⊢
  have hl : lv_has ls 2 [(0, .ref za1), (1, .ref za2)] := hl
  refine w_q (fun Q hQ => ?_)
  refine lv_aload_n hx hb dX10_copyRow_0 rfl (lv_at hl 0 rfl) ?_
  refine lv_iconst (v := 0) hx hb dX10_copyRow_1 (by decide) ?_
  refine lv_aload_n hx hb dX10_copyRow_2 rfl (lv_at hl 1 rfl) ?_
  refine lv_iconst (v := 0) hx hb dX10_copyRow_3 (by decide) ?_
  refine lv_aload_n hx hb dX10_copyRow_4 rfl (lv_at hl 0 rfl) ?_
  refine va_alen (v := 8) hx hb hK hP 0 0 rfl rfl rfl dX10_copyRow_5 ?_
  refine lv_aload_n hx hb dX10_copyRow_6 rfl (lv_at hl 1 rfl) ?_
  refine va_alen (v := 8) hx hb hK hP 1 0 rfl rfl rfl dX10_copyRow_7 ?_
  refine va_mmin hx hb (by rw [hml]; exact hl.1.symm) hown (hts (.methodLink RX10 382 Lib.Math.min.name) (by decide +kernel)) (hts (.static Lib.Math.min.name) (by decide +kernel)) (hts (.initialized "java/lang/Math") (by decide +kernel)) (hts (.code Lib.Math.min.name Lib.Math.min.code 2 (some .int)) (by decide +kernel)) (Nat.le_of_ble_eq_true rfl) (Nat.le_of_ble_eq_true rfl) (Nat.le_of_ble_eq_true rfl) (Nat.le_of_ble_eq_true rfl) dX10_copyRow_8 ?_
  refine lv_topi (fun zi_1 ezi_1 => ?_)
  obtain rfl : zi_1 = (8 : Int32) := ezi_1.trans (by decide)
  refine va_copyi hx hb (by rw [hml]; exact hl.1.symm) hown (hts (.methodLink RX10 385 arraycopyName) (by decide +kernel)) (hts (.native arraycopyName) (by decide +kernel)) (hts (.static arraycopyName) (by decide +kernel)) (hts (.initialized "java/lang/System") (by decide +kernel)) hK hP hD hS 0 1 0 0 rfl rfl rfl rfl rfl (by decide) (by decide) (by decide) (by decide) (by decide) (fun _ _ => rfl) (Nat.le_of_ble_eq_true rfl) (by decide) dX10_copyRow_11 (fun H locs hP hD hS => ?_)
  have hP : va_P (dC, dI) vwCl [(za1, .inl (cy 0, 8, .inl zfa)), (za2, .inl (cy 0, 8, .inl (va_cpy zfa zfb (0 : Int32).toNatClampNeg (0 : Int32).toNatClampNeg (8 : Int32).toNatClampNeg)))] H := hP
  have hD : va_D A [(za1, .inl (cy 0, 8, .inl zfa)), (za2, .inl (cy 0, 8, .inl (va_cpy zfa zfb (0 : Int32).toNatClampNeg (0 : Int32).toNatClampNeg (8 : Int32).toNatClampNeg)))] := hD
  have h_zf_2 : RG (va_cpy zfa zfb (0 : Int32).toNatClampNeg (0 : Int32).toNatClampNeg (8 : Int32).toNatClampNeg) 8 0 23 := RG.cpy h_zfa h_zfb (by decide)
  generalize uzf_2 : (va_cpy zfa zfb (0 : Int32).toNatClampNeg (0 : Int32).toNatClampNeg (8 : Int32).toNatClampNeg) = zf_2 at hP hD h_zf_2
  subst hQ
  have hP9 := hP.sub (ws' := [(za1, .inl (cy 0, 8, .inl zfa)), (za2, .inl (cy 0, 8, .inl zf_2))]) [0, 1] rfl
  have hD9 := hD.sub (ws' := [(za1, .inl (cy 0, 8, .inl zfa)), (za2, .inl (cy 0, 8, .inl zf_2))]) [0, 1] (by decide) rfl
  exact W.vret hx hb hr (fun t ht hW => ⟨⟨zf_2, rfl, h_zf_2, ⟨by rw [ht]; exact hP9, va_K.moved hW.alike hK, hD9⟩⟩, hS.F ht⟩) hS.2.2 dX10_copyRow_14
set_option maxHeartbeats 8000000 in
set_option maxRecDepth 100000 in
theorem c_copyRow_12 (l : Launch) (dC : Nat → ClassId) (dI : Nat → Nat → Nat) (cy : Nat → ClassId) (sz : Nat) (za1 : Nat) (za2 : Nat) (zfa : Nat → Int32) (zfb : Nat → Int32)  : Met l yX10_copyRow wsX10_copyRow ({ frames := 1, cells := 0, slots := 0, locals := 30 } : Room) (va_Pc [.ref za1, .ref za2] (PRE dC dI cy [(za1, .inl (cy 0, 12, .inl zfa)), (za2, .inl (cy 0, 12, .inl zfb))] sz)) (va_Qv (fun (u : (Nat → Int32)) => True) (fun u t => POST dC dI cy (va_A [(za1, .inl (cy 0, 12, .inl zfa)), (za2, .inl (cy 0, 12, .inl zfb))] sz) [(za1, .inl (cy 0, 12, .inl zfa)), (za2, .inl (cy 0, 12, .inl u))] t) (va_A [(za1, .inl (cy 0, 12, .inl zfa)), (za2, .inl (cy 0, 12, .inl zfb))] sz)) 0 0 (va_A [(za1, .inl (cy 0, 12, .inl zfa)), (za2, .inl (cy 0, 12, .inl zfb))] sz) := by
  refine Met.ofW (cc := cX10_copyRow) (maxL := 2) (ret := none) (by decide) rfl ?_
  intro p e s m args below meth c s₁ B hml hv
  obtain ⟨rfl, hsz, hP, hK, hD0, hN⟩ := hv
  have hx := B.exec
  have hb := B.bytes
  have hr := B.returns
  have hts := atoms_spec (ws := wsX10_copyRow) B.pre
  have hown : s.vm.findClass RX10 = some m.cls := findClass_of_methodNamed B.named
  have hlocks := B.notSynchronized
  subst hsz
  have hD := hD0.self (sz := s.heap.size)
  generalize hAe : va_A [(za1, .inl (cy 0, 12, .inl zfa)), (za2, .inl (cy 0, 12, .inl zfb))] s.heap.size = A at hD ⊢
  have hA : ∀ q : Nat, s.heap.size ≤ q → A q := fun q h => by rw [← hAe]; exact Or.inr h
  have hS : va_S A s.heap s.heap [] := va_S.rf
  have hP : va_P (dC, dI) vwCl [(za1, .inl (cy 0, 12, .inl zfa)), (za2, .inl (cy 0, 12, .inl zfb))] s.heap := hP
  have hl := lv_entry ([.ref za1, .ref za2] : List Value) (n := 2) (Nat.le_of_ble_eq_true rfl)
  rw [lg_entry_eq]
  generalize (lg_sl ([.ref za1, .ref za2] : List Value) ++ List.replicate (2 - (lg_sl ([.ref za1, .ref za2] : List Value)).length) Slot.unset).toArray = ls at hl ⊢
  have hl : lv_has ls 2 [(0, .ref za1), (1, .ref za2)] := hl
  refine w_q (fun Q hQ => ?_)
  refine lv_aload_n hx hb dX10_copyRow_0 rfl (lv_at hl 0 rfl) ?_
  refine lv_iconst (v := 0) hx hb dX10_copyRow_1 (by decide) ?_
  refine lv_aload_n hx hb dX10_copyRow_2 rfl (lv_at hl 1 rfl) ?_
  refine lv_iconst (v := 0) hx hb dX10_copyRow_3 (by decide) ?_
  refine lv_aload_n hx hb dX10_copyRow_4 rfl (lv_at hl 0 rfl) ?_
  refine va_alen (v := 12) hx hb hK hP 0 0 rfl rfl rfl dX10_copyRow_5 ?_
  refine lv_aload_n hx hb dX10_copyRow_6 rfl (lv_at hl 1 rfl) ?_
  refine va_alen (v := 12) hx hb hK hP 1 0 rfl rfl rfl dX10_copyRow_7 ?_
  refine va_mmin hx hb (by rw [hml]; exact hl.1.symm) hown (hts (.methodLink RX10 382 Lib.Math.min.name) (by decide +kernel)) (hts (.static Lib.Math.min.name) (by decide +kernel)) (hts (.initialized "java/lang/Math") (by decide +kernel)) (hts (.code Lib.Math.min.name Lib.Math.min.code 2 (some .int)) (by decide +kernel)) (Nat.le_of_ble_eq_true rfl) (Nat.le_of_ble_eq_true rfl) (Nat.le_of_ble_eq_true rfl) (Nat.le_of_ble_eq_true rfl) dX10_copyRow_8 ?_
  refine lv_topi (fun zi_1 ezi_1 => ?_)
  obtain rfl : zi_1 = (12 : Int32) := ezi_1.trans (by decide)
  refine va_copyi hx hb (by rw [hml]; exact hl.1.symm) hown (hts (.methodLink RX10 385 arraycopyName) (by decide +kernel)) (hts (.native arraycopyName) (by decide +kernel)) (hts (.static arraycopyName) (by decide +kernel)) (hts (.initialized "java/lang/System") (by decide +kernel)) hK hP hD hS 0 1 0 0 rfl rfl rfl rfl rfl (by decide) (by decide) (by decide) (by decide) (by decide) (fun _ _ => rfl) (Nat.le_of_ble_eq_true rfl) (by decide) dX10_copyRow_11 (fun H locs hP hD hS => ?_)
  have hP : va_P (dC, dI) vwCl [(za1, .inl (cy 0, 12, .inl zfa)), (za2, .inl (cy 0, 12, .inl (va_cpy zfa zfb (0 : Int32).toNatClampNeg (0 : Int32).toNatClampNeg (12 : Int32).toNatClampNeg)))] H := hP
  have hD : va_D A [(za1, .inl (cy 0, 12, .inl zfa)), (za2, .inl (cy 0, 12, .inl (va_cpy zfa zfb (0 : Int32).toNatClampNeg (0 : Int32).toNatClampNeg (12 : Int32).toNatClampNeg)))] := hD
  generalize uzf_2 : (va_cpy zfa zfb (0 : Int32).toNatClampNeg (0 : Int32).toNatClampNeg (12 : Int32).toNatClampNeg) = zf_2 at hP hD
  subst hQ
  have hP9 := hP.sub (ws' := [(za1, .inl (cy 0, 12, .inl zfa)), (za2, .inl (cy 0, 12, .inl zf_2))]) [0, 1] rfl
  have hD9 := hD.sub (ws' := [(za1, .inl (cy 0, 12, .inl zfa)), (za2, .inl (cy 0, 12, .inl zf_2))]) [0, 1] (by decide) rfl
  exact W.vret hx hb hr (fun t ht hW => ⟨⟨zf_2, rfl, trivial, ⟨by rw [ht]; exact hP9, va_K.moved hW.alike hK, hD9⟩⟩, hS.F ht⟩) hS.2.2 dX10_copyRow_14
set_option maxHeartbeats 8000000 in
set_option maxRecDepth 100000 in
theorem c_copyRow_18 (l : Launch) (dC : Nat → ClassId) (dI : Nat → Nat → Nat) (cy : Nat → ClassId) (sz : Nat) (za1 : Nat) (za2 : Nat) (zfa : Nat → Int32) (zfb : Nat → Int32)  : Met l yX10_copyRow wsX10_copyRow ({ frames := 1, cells := 0, slots := 0, locals := 30 } : Room) (va_Pc [.ref za1, .ref za2] (PRE dC dI cy [(za1, .inl (cy 0, 18, .inl zfa)), (za2, .inl (cy 0, 18, .inl zfb))] sz)) (va_Qv (fun (u : (Nat → Int32)) => True) (fun u t => POST dC dI cy (va_A [(za1, .inl (cy 0, 18, .inl zfa)), (za2, .inl (cy 0, 18, .inl zfb))] sz) [(za1, .inl (cy 0, 18, .inl zfa)), (za2, .inl (cy 0, 18, .inl u))] t) (va_A [(za1, .inl (cy 0, 18, .inl zfa)), (za2, .inl (cy 0, 18, .inl zfb))] sz)) 0 0 (va_A [(za1, .inl (cy 0, 18, .inl zfa)), (za2, .inl (cy 0, 18, .inl zfb))] sz) := by
  refine Met.ofW (cc := cX10_copyRow) (maxL := 2) (ret := none) (by decide) rfl ?_
  intro p e s m args below meth c s₁ B hml hv
  obtain ⟨rfl, hsz, hP, hK, hD0, hN⟩ := hv
  have hx := B.exec
  have hb := B.bytes
  have hr := B.returns
  have hts := atoms_spec (ws := wsX10_copyRow) B.pre
  have hown : s.vm.findClass RX10 = some m.cls := findClass_of_methodNamed B.named
  have hlocks := B.notSynchronized
  subst hsz
  have hD := hD0.self (sz := s.heap.size)
  generalize hAe : va_A [(za1, .inl (cy 0, 18, .inl zfa)), (za2, .inl (cy 0, 18, .inl zfb))] s.heap.size = A at hD ⊢
  have hA : ∀ q : Nat, s.heap.size ≤ q → A q := fun q h => by rw [← hAe]; exact Or.inr h
  have hS : va_S A s.heap s.heap [] := va_S.rf
  have hP : va_P (dC, dI) vwCl [(za1, .inl (cy 0, 18, .inl zfa)), (za2, .inl (cy 0, 18, .inl zfb))] s.heap := hP
  have hl := lv_entry ([.ref za1, .ref za2] : List Value) (n := 2) (Nat.le_of_ble_eq_true rfl)
  rw [lg_entry_eq]
  generalize (lg_sl ([.ref za1, .ref za2] : List Value) ++ List.replicate (2 - (lg_sl ([.ref za1, .ref za2] : List Value)).length) Slot.unset).toArray = ls at hl ⊢
  have hl : lv_has ls 2 [(0, .ref za1), (1, .ref za2)] := hl
  refine w_q (fun Q hQ => ?_)
  refine lv_aload_n hx hb dX10_copyRow_0 rfl (lv_at hl 0 rfl) ?_
  refine lv_iconst (v := 0) hx hb dX10_copyRow_1 (by decide) ?_
  refine lv_aload_n hx hb dX10_copyRow_2 rfl (lv_at hl 1 rfl) ?_
  refine lv_iconst (v := 0) hx hb dX10_copyRow_3 (by decide) ?_
  refine lv_aload_n hx hb dX10_copyRow_4 rfl (lv_at hl 0 rfl) ?_
  refine va_alen (v := 18) hx hb hK hP 0 0 rfl rfl rfl dX10_copyRow_5 ?_
  refine lv_aload_n hx hb dX10_copyRow_6 rfl (lv_at hl 1 rfl) ?_
  refine va_alen (v := 18) hx hb hK hP 1 0 rfl rfl rfl dX10_copyRow_7 ?_
  refine va_mmin hx hb (by rw [hml]; exact hl.1.symm) hown (hts (.methodLink RX10 382 Lib.Math.min.name) (by decide +kernel)) (hts (.static Lib.Math.min.name) (by decide +kernel)) (hts (.initialized "java/lang/Math") (by decide +kernel)) (hts (.code Lib.Math.min.name Lib.Math.min.code 2 (some .int)) (by decide +kernel)) (Nat.le_of_ble_eq_true rfl) (Nat.le_of_ble_eq_true rfl) (Nat.le_of_ble_eq_true rfl) (Nat.le_of_ble_eq_true rfl) dX10_copyRow_8 ?_
  refine lv_topi (fun zi_1 ezi_1 => ?_)
  obtain rfl : zi_1 = (18 : Int32) := ezi_1.trans (by decide)
  refine va_copyi hx hb (by rw [hml]; exact hl.1.symm) hown (hts (.methodLink RX10 385 arraycopyName) (by decide +kernel)) (hts (.native arraycopyName) (by decide +kernel)) (hts (.static arraycopyName) (by decide +kernel)) (hts (.initialized "java/lang/System") (by decide +kernel)) hK hP hD hS 0 1 0 0 rfl rfl rfl rfl rfl (by decide) (by decide) (by decide) (by decide) (by decide) (fun _ _ => rfl) (Nat.le_of_ble_eq_true rfl) (by decide) dX10_copyRow_11 (fun H locs hP hD hS => ?_)
  have hP : va_P (dC, dI) vwCl [(za1, .inl (cy 0, 18, .inl zfa)), (za2, .inl (cy 0, 18, .inl (va_cpy zfa zfb (0 : Int32).toNatClampNeg (0 : Int32).toNatClampNeg (18 : Int32).toNatClampNeg)))] H := hP
  have hD : va_D A [(za1, .inl (cy 0, 18, .inl zfa)), (za2, .inl (cy 0, 18, .inl (va_cpy zfa zfb (0 : Int32).toNatClampNeg (0 : Int32).toNatClampNeg (18 : Int32).toNatClampNeg)))] := hD
  generalize uzf_2 : (va_cpy zfa zfb (0 : Int32).toNatClampNeg (0 : Int32).toNatClampNeg (18 : Int32).toNatClampNeg) = zf_2 at hP hD
  subst hQ
  have hP9 := hP.sub (ws' := [(za1, .inl (cy 0, 18, .inl zfa)), (za2, .inl (cy 0, 18, .inl zf_2))]) [0, 1] rfl
  have hD9 := hD.sub (ws' := [(za1, .inl (cy 0, 18, .inl zfa)), (za2, .inl (cy 0, 18, .inl zf_2))]) [0, 1] (by decide) rfl
  exact W.vret hx hb hr (fun t ht hW => ⟨⟨zf_2, rfl, trivial, ⟨by rw [ht]; exact hP9, va_K.moved hW.alike hK, hD9⟩⟩, hS.F ht⟩) hS.2.2 dX10_copyRow_14
set_option maxHeartbeats 8000000 in
set_option maxRecDepth 100000 in
theorem c_copyRow_24_0_9 (l : Launch) (dC : Nat → ClassId) (dI : Nat → Nat → Nat) (cy : Nat → ClassId) (sz : Nat) (za1 : Nat) (za2 : Nat) (zfa : Nat → Int32) (zfb : Nat → Int32) (h_zfa : RG zfa 24 0 9) (h_zfb : RG zfb 24 0 9) : Met l yX10_copyRow wsX10_copyRow ({ frames := 1, cells := 0, slots := 0, locals := 30 } : Room) (va_Pc [.ref za1, .ref za2] (PRE dC dI cy [(za1, .inl (cy 0, 24, .inl zfa)), (za2, .inl (cy 0, 24, .inl zfb))] sz)) (va_Qv (fun (u : (Nat → Int32)) => (RG u 24 0 9)) (fun u t => POST dC dI cy (va_A [(za1, .inl (cy 0, 24, .inl zfa)), (za2, .inl (cy 0, 24, .inl zfb))] sz) [(za1, .inl (cy 0, 24, .inl zfa)), (za2, .inl (cy 0, 24, .inl u))] t) (va_A [(za1, .inl (cy 0, 24, .inl zfa)), (za2, .inl (cy 0, 24, .inl zfb))] sz)) 0 0 (va_A [(za1, .inl (cy 0, 24, .inl zfa)), (za2, .inl (cy 0, 24, .inl zfb))] sz) := by
  refine Met.ofW (cc := cX10_copyRow) (maxL := 2) (ret := none) (by decide) rfl ?_
  intro p e s m args below meth c s₁ B hml hv
  obtain ⟨rfl, hsz, hP, hK, hD0, hN⟩ := hv
  have hx := B.exec
  have hb := B.bytes
  have hr := B.returns
  have hts := atoms_spec (ws := wsX10_copyRow) B.pre
  have hown : s.vm.findClass RX10 = some m.cls := findClass_of_methodNamed B.named
  have hlocks := B.notSynchronized
  subst hsz
  have hD := hD0.self (sz := s.heap.size)
  generalize hAe : va_A [(za1, .inl (cy 0, 24, .inl zfa)), (za2, .inl (cy 0, 24, .inl zfb))] s.heap.size = A at hD ⊢
  have hA : ∀ q : Nat, s.heap.size ≤ q → A q := fun q h => by rw [← hAe]; exact Or.inr h
  have hS : va_S A s.heap s.heap [] := va_S.rf
  have hP : va_P (dC, dI) vwCl [(za1, .inl (cy 0, 24, .inl zfa)), (za2, .inl (cy 0, 24, .inl zfb))] s.heap := hP
  have hl := lv_entry ([.ref za1, .ref za2] : List Value) (n := 2) (Nat.le_of_ble_eq_true rfl)
  rw [lg_entry_eq]
  generalize (lg_sl ([.ref za1, .ref za2] : List Value) ++ List.replicate (2 - (lg_sl ([.ref za1, .ref za2] : List Value)).length) Slot.unset).toArray = ls at hl ⊢
  have hl : lv_has ls 2 [(0, .ref za1), (1, .ref za2)] := hl
  refine w_q (fun Q hQ => ?_)
  refine lv_aload_n hx hb dX10_copyRow_0 rfl (lv_at hl 0 rfl) ?_
  refine lv_iconst (v := 0) hx hb dX10_copyRow_1 (by decide) ?_
  refine lv_aload_n hx hb dX10_copyRow_2 rfl (lv_at hl 1 rfl) ?_
  refine lv_iconst (v := 0) hx hb dX10_copyRow_3 (by decide) ?_
  refine lv_aload_n hx hb dX10_copyRow_4 rfl (lv_at hl 0 rfl) ?_
  refine va_alen (v := 24) hx hb hK hP 0 0 rfl rfl rfl dX10_copyRow_5 ?_
  refine lv_aload_n hx hb dX10_copyRow_6 rfl (lv_at hl 1 rfl) ?_
  refine va_alen (v := 24) hx hb hK hP 1 0 rfl rfl rfl dX10_copyRow_7 ?_
  refine va_mmin hx hb (by rw [hml]; exact hl.1.symm) hown (hts (.methodLink RX10 382 Lib.Math.min.name) (by decide +kernel)) (hts (.static Lib.Math.min.name) (by decide +kernel)) (hts (.initialized "java/lang/Math") (by decide +kernel)) (hts (.code Lib.Math.min.name Lib.Math.min.code 2 (some .int)) (by decide +kernel)) (Nat.le_of_ble_eq_true rfl) (Nat.le_of_ble_eq_true rfl) (Nat.le_of_ble_eq_true rfl) (Nat.le_of_ble_eq_true rfl) dX10_copyRow_8 ?_
  refine lv_topi (fun zi_1 ezi_1 => ?_)
  obtain rfl : zi_1 = (24 : Int32) := ezi_1.trans (by decide)
  refine va_copyi hx hb (by rw [hml]; exact hl.1.symm) hown (hts (.methodLink RX10 385 arraycopyName) (by decide +kernel)) (hts (.native arraycopyName) (by decide +kernel)) (hts (.static arraycopyName) (by decide +kernel)) (hts (.initialized "java/lang/System") (by decide +kernel)) hK hP hD hS 0 1 0 0 rfl rfl rfl rfl rfl (by decide) (by decide) (by decide) (by decide) (by decide) (fun _ _ => rfl) (Nat.le_of_ble_eq_true rfl) (by decide) dX10_copyRow_11 (fun H locs hP hD hS => ?_)
  have hP : va_P (dC, dI) vwCl [(za1, .inl (cy 0, 24, .inl zfa)), (za2, .inl (cy 0, 24, .inl (va_cpy zfa zfb (0 : Int32).toNatClampNeg (0 : Int32).toNatClampNeg (24 : Int32).toNatClampNeg)))] H := hP
  have hD : va_D A [(za1, .inl (cy 0, 24, .inl zfa)), (za2, .inl (cy 0, 24, .inl (va_cpy zfa zfb (0 : Int32).toNatClampNeg (0 : Int32).toNatClampNeg (24 : Int32).toNatClampNeg)))] := hD
  have h_zf_2 : RG (va_cpy zfa zfb (0 : Int32).toNatClampNeg (0 : Int32).toNatClampNeg (24 : Int32).toNatClampNeg) 24 0 9 := RG.cpy h_zfa h_zfb (by decide)
  generalize uzf_2 : (va_cpy zfa zfb (0 : Int32).toNatClampNeg (0 : Int32).toNatClampNeg (24 : Int32).toNatClampNeg) = zf_2 at hP hD h_zf_2
  subst hQ
  have hP9 := hP.sub (ws' := [(za1, .inl (cy 0, 24, .inl zfa)), (za2, .inl (cy 0, 24, .inl zf_2))]) [0, 1] rfl
  have hD9 := hD.sub (ws' := [(za1, .inl (cy 0, 24, .inl zfa)), (za2, .inl (cy 0, 24, .inl zf_2))]) [0, 1] (by decide) rfl
  exact W.vret hx hb hr (fun t ht hW => ⟨⟨zf_2, rfl, h_zf_2, ⟨by rw [ht]; exact hP9, va_K.moved hW.alike hK, hD9⟩⟩, hS.F ht⟩) hS.2.2 dX10_copyRow_14
set_option maxHeartbeats 8000000 in
set_option maxRecDepth 100000 in
theorem c_copyRow_24_m20_20 (l : Launch) (dC : Nat → ClassId) (dI : Nat → Nat → Nat) (cy : Nat → ClassId) (sz : Nat) (za1 : Nat) (za2 : Nat) (zfa : Nat → Int32) (zfb : Nat → Int32) (h_zfa : RG zfa 24 (-20) 20) (h_zfb : RG zfb 24 (-20) 20) : Met l yX10_copyRow wsX10_copyRow ({ frames := 1, cells := 0, slots := 0, locals := 30 } : Room) (va_Pc [.ref za1, .ref za2] (PRE dC dI cy [(za1, .inl (cy 0, 24, .inl zfa)), (za2, .inl (cy 0, 24, .inl zfb))] sz)) (va_Qv (fun (u : (Nat → Int32)) => (RG u 24 (-20) 20)) (fun u t => POST dC dI cy (va_A [(za1, .inl (cy 0, 24, .inl zfa)), (za2, .inl (cy 0, 24, .inl zfb))] sz) [(za1, .inl (cy 0, 24, .inl zfa)), (za2, .inl (cy 0, 24, .inl u))] t) (va_A [(za1, .inl (cy 0, 24, .inl zfa)), (za2, .inl (cy 0, 24, .inl zfb))] sz)) 0 0 (va_A [(za1, .inl (cy 0, 24, .inl zfa)), (za2, .inl (cy 0, 24, .inl zfb))] sz) := by
  refine Met.ofW (cc := cX10_copyRow) (maxL := 2) (ret := none) (by decide) rfl ?_
  intro p e s m args below meth c s₁ B hml hv
  obtain ⟨rfl, hsz, hP, hK, hD0, hN⟩ := hv
  have hx := B.exec
  have hb := B.bytes
  have hr := B.returns
  have hts := atoms_spec (ws := wsX10_copyRow) B.pre
  have hown : s.vm.findClass RX10 = some m.cls := findClass_of_methodNamed B.named
  have hlocks := B.notSynchronized
  subst hsz
  have hD := hD0.self (sz := s.heap.size)
  generalize hAe : va_A [(za1, .inl (cy 0, 24, .inl zfa)), (za2, .inl (cy 0, 24, .inl zfb))] s.heap.size = A at hD ⊢
  have hA : ∀ q : Nat, s.heap.size ≤ q → A q := fun q h => by rw [← hAe]; exact Or.inr h
  have hS : va_S A s.heap s.heap [] := va_S.rf
  have hP : va_P (dC, dI) vwCl [(za1, .inl (cy 0, 24, .inl zfa)), (za2, .inl (cy 0, 24, .inl zfb))] s.heap := hP
  have hl := lv_entry ([.ref za1, .ref za2] : List Value) (n := 2) (Nat.le_of_ble_eq_true rfl)
  rw [lg_entry_eq]
  generalize (lg_sl ([.ref za1, .ref za2] : List Value) ++ List.replicate (2 - (lg_sl ([.ref za1, .ref za2] : List Value)).length) Slot.unset).toArray = ls at hl ⊢
  have hl : lv_has ls 2 [(0, .ref za1), (1, .ref za2)] := hl
  refine w_q (fun Q hQ => ?_)
  refine lv_aload_n hx hb dX10_copyRow_0 rfl (lv_at hl 0 rfl) ?_
  refine lv_iconst (v := 0) hx hb dX10_copyRow_1 (by decide) ?_
  refine lv_aload_n hx hb dX10_copyRow_2 rfl (lv_at hl 1 rfl) ?_
  refine lv_iconst (v := 0) hx hb dX10_copyRow_3 (by decide) ?_
  refine lv_aload_n hx hb dX10_copyRow_4 rfl (lv_at hl 0 rfl) ?_
  refine va_alen (v := 24) hx hb hK hP 0 0 rfl rfl rfl dX10_copyRow_5 ?_
  refine lv_aload_n hx hb dX10_copyRow_6 rfl (lv_at hl 1 rfl) ?_
  refine va_alen (v := 24) hx hb hK hP 1 0 rfl rfl rfl dX10_copyRow_7 ?_
  refine va_mmin hx hb (by rw [hml]; exact hl.1.symm) hown (hts (.methodLink RX10 382 Lib.Math.min.name) (by decide +kernel)) (hts (.static Lib.Math.min.name) (by decide +kernel)) (hts (.initialized "java/lang/Math") (by decide +kernel)) (hts (.code Lib.Math.min.name Lib.Math.min.code 2 (some .int)) (by decide +kernel)) (Nat.le_of_ble_eq_true rfl) (Nat.le_of_ble_eq_true rfl) (Nat.le_of_ble_eq_true rfl) (Nat.le_of_ble_eq_true rfl) dX10_copyRow_8 ?_
  refine lv_topi (fun zi_1 ezi_1 => ?_)
  obtain rfl : zi_1 = (24 : Int32) := ezi_1.trans (by decide)
  refine va_copyi hx hb (by rw [hml]; exact hl.1.symm) hown (hts (.methodLink RX10 385 arraycopyName) (by decide +kernel)) (hts (.native arraycopyName) (by decide +kernel)) (hts (.static arraycopyName) (by decide +kernel)) (hts (.initialized "java/lang/System") (by decide +kernel)) hK hP hD hS 0 1 0 0 rfl rfl rfl rfl rfl (by decide) (by decide) (by decide) (by decide) (by decide) (fun _ _ => rfl) (Nat.le_of_ble_eq_true rfl) (by decide) dX10_copyRow_11 (fun H locs hP hD hS => ?_)
  have hP : va_P (dC, dI) vwCl [(za1, .inl (cy 0, 24, .inl zfa)), (za2, .inl (cy 0, 24, .inl (va_cpy zfa zfb (0 : Int32).toNatClampNeg (0 : Int32).toNatClampNeg (24 : Int32).toNatClampNeg)))] H := hP
  have hD : va_D A [(za1, .inl (cy 0, 24, .inl zfa)), (za2, .inl (cy 0, 24, .inl (va_cpy zfa zfb (0 : Int32).toNatClampNeg (0 : Int32).toNatClampNeg (24 : Int32).toNatClampNeg)))] := hD
  have h_zf_2 : RG (va_cpy zfa zfb (0 : Int32).toNatClampNeg (0 : Int32).toNatClampNeg (24 : Int32).toNatClampNeg) 24 (-20) 20 := RG.cpy h_zfa h_zfb (by decide)
  generalize uzf_2 : (va_cpy zfa zfb (0 : Int32).toNatClampNeg (0 : Int32).toNatClampNeg (24 : Int32).toNatClampNeg) = zf_2 at hP hD h_zf_2
  subst hQ
  have hP9 := hP.sub (ws' := [(za1, .inl (cy 0, 24, .inl zfa)), (za2, .inl (cy 0, 24, .inl zf_2))]) [0, 1] rfl
  have hD9 := hD.sub (ws' := [(za1, .inl (cy 0, 24, .inl zfa)), (za2, .inl (cy 0, 24, .inl zf_2))]) [0, 1] (by decide) rfl
  exact W.vret hx hb hr (fun t ht hW => ⟨⟨zf_2, rfl, h_zf_2, ⟨by rw [ht]; exact hP9, va_K.moved hW.alike hK, hD9⟩⟩, hS.F ht⟩) hS.2.2 dX10_copyRow_14
set_option maxHeartbeats 8000000 in
set_option maxRecDepth 100000 in
theorem c_J7_rangeCheck_23922 (l : Launch) (dC : Nat → ClassId) (dI : Nat → Nat → Nat) (cy : Nat → ClassId) (sz : Nat) (zia : Int32) (zib : Int32) (zic : Int32) (hx1 : 0 ≤ zib.toInt ∧ zib.toInt ≤ zic.toInt ∧ zic.toInt ≤ zia.toInt) : Met l yJ7_rangeCheck_23922 wsJ7_rangeCheck_23922 ({ frames := 0, cells := 0, slots := 0, locals := 0 } : Room) (va_Pc [.int zia, .int zib, .int zic] (PRE dC dI cy [] sz)) (va_Qv (fun (u : Unit) => True) (fun u t => POST dC dI cy (va_A [] sz) [] t) (va_A [] sz)) 0 0 (va_A [] sz) := by
  refine Met.ofW (cc := cJ7_rangeCheck_23922) (maxL := 3) (ret := none) (by decide) rfl ?_
  intro p e s m args below meth c s₁ B hml hv
  obtain ⟨rfl, hsz, hP, hK, hD0, hN⟩ := hv
  have hx := B.exec
  have hb := B.bytes
  have hr := B.returns
  have hts := atoms_spec (ws := wsJ7_rangeCheck_23922) B.pre
  have hown : s.vm.findClass RJ7 = some m.cls := findClass_of_methodNamed B.named
  have hlocks := B.notSynchronized
  subst hsz
  have hD := hD0.self (sz := s.heap.size)
  generalize hAe : va_A [] s.heap.size = A at hD ⊢
  have hA : ∀ q : Nat, s.heap.size ≤ q → A q := fun q h => by rw [← hAe]; exact Or.inr h
  have hS : va_S A s.heap s.heap [] := va_S.rf
  have hP : va_P (dC, dI) vwCl [] s.heap := hP
  have hl := lv_entry ([.int zia, .int zib, .int zic] : List Value) (n := 3) (Nat.le_of_ble_eq_true rfl)
  rw [lg_entry_eq]
  generalize (lg_sl ([.int zia, .int zib, .int zic] : List Value) ++ List.replicate (3 - (lg_sl ([.int zia, .int zib, .int zic] : List Value)).length) Slot.unset).toArray = ls at hl ⊢
  have hl : lv_has ls 3 [(0, .int zia), (1, .int zib), (2, .int zic)] := hl
  refine w_q (fun Q hQ => ?_)
  refine lv_iload_n hx hb dJ7_rangeCheck_23922_0 rfl (lv_at hl 1 rfl) ?_
  refine lv_iload_n hx hb dJ7_rangeCheck_23922_1 rfl (lv_at hl 2 rfl) ?_
  refine lv_icmp_le (tgt := 46) hx hb dJ7_rangeCheck_23922_2 (by decide) (fun c_1 => ?_) (fun c_1 => ?_)
  · have f_2 : zib.toInt ≤ zic.toInt := ic_le (rfl) (rfl) c_1
    refine lv_iload_n hx hb dJ7_rangeCheck_23922_46 rfl (lv_at hl 1 rfl) ?_
    refine lv_if_ge (tgt := 59) hx hb dJ7_rangeCheck_23922_47 (by decide) (fun c_3 => ?_) (fun c_3 => ?_)
    · have f_4 : zib.toInt ≥ 0 := ic_ge (rfl) (by decide) c_3
      refine lv_iload_n hx hb dJ7_rangeCheck_23922_59 rfl (lv_at hl 2 rfl) ?_
      refine lv_iload_n hx hb dJ7_rangeCheck_23922_60 rfl (lv_at hl 0 rfl) ?_
      refine lv_icmp_le (tgt := 73) hx hb dJ7_rangeCheck_23922_61 (by decide) (fun c_5 => ?_) (fun c_5 => ?_)
      · have f_6 : zic.toInt ≤ zia.toInt := ic_le (rfl) (rfl) c_5
        subst hQ
        have hP9 := hP.sub (ws' := []) [] rfl
        have hD9 := hD.sub (ws' := []) [] (by decide) rfl
        exact W.vret hx hb hr (fun t ht hW => ⟨⟨(), rfl, trivial, ⟨by rw [ht]; exact hP9, va_K.moved hW.alike hK, hD9⟩⟩, hS.F ht⟩) hS.2.2 dJ7_rangeCheck_23922_73
      · have f_6 : ¬ (zic.toInt ≤ zia.toInt) := ic_nle (rfl) (rfl) c_5
        exfalso; omega
    · have f_4 : ¬ (zib.toInt ≥ 0) := ic_nge (rfl) (by decide) c_3
      exfalso; omega
  · have f_2 : ¬ (zib.toInt ≤ zic.toInt) := ic_nle (rfl) (rfl) c_1
    exfalso; omega
set_option maxHeartbeats 8000000 in
set_option maxRecDepth 100000 in
theorem c_J7_fill_bad5a (l : Launch) (dC : Nat → ClassId) (dI : Nat → Nat → Nat) (cy : Nat → ClassId) (sz : Nat) (za1 : Nat) (zib : Int32) (zic : Int32) (zjv : Int64) (zga : Nat → Int64) (b_zib : 0 ≤ zib.toInt ∧ zib.toInt ≤ 16224) (b_zic : 0 ≤ zic.toInt ∧ zic.toInt ≤ 16224) (hx1 : 0 ≤ zib.toInt ∧ zib.toInt ≤ zic.toInt ∧ zic.toInt ≤ 16224) : Met l yJ7_fill_bad5a wsJ7_fill_bad5a ({ frames := 1, cells := 0, slots := 0, locals := 22 } : Room) (va_Pc [.ref za1, .int zib, .int zic, .long zjv] (PRE dC dI cy [(za1, .inl (cy 1, 16224, .inr (.inl zga)))] sz)) (va_Qv (fun (u : (Nat → Int64)) => True) (fun u t => POST dC dI cy (va_A [(za1, .inl (cy 1, 16224, .inr (.inl zga)))] sz) [(za1, .inl (cy 1, 16224, .inr (.inl u)))] t) (va_A [(za1, .inl (cy 1, 16224, .inr (.inl zga)))] sz)) 0 0 (va_A [(za1, .inl (cy 1, 16224, .inr (.inl zga)))] sz) := by
  refine Met.ofW (cc := cJ7_fill_bad5a) (maxL := 6) (ret := none) (by decide) rfl ?_
  intro p e s m args below meth c s₁ B hml hv
  obtain ⟨rfl, hsz, hP, hK, hD0, hN⟩ := hv
  have hx := B.exec
  have hb := B.bytes
  have hr := B.returns
  have hts := atoms_spec (ws := wsJ7_fill_bad5a) B.pre
  have hown : s.vm.findClass RJ7 = some m.cls := findClass_of_methodNamed B.named
  have hlocks := B.notSynchronized
  subst hsz
  have hD := hD0.self (sz := s.heap.size)
  generalize hAe : va_A [(za1, .inl (cy 1, 16224, .inr (.inl zga)))] s.heap.size = A at hD ⊢
  have hA : ∀ q : Nat, s.heap.size ≤ q → A q := fun q h => by rw [← hAe]; exact Or.inr h
  have hS : va_S A s.heap s.heap [] := va_S.rf
  have hP : va_P (dC, dI) vwCl [(za1, .inl (cy 1, 16224, .inr (.inl zga)))] s.heap := hP
  have hl := lv_entry ([.ref za1, .int zib, .int zic, .long zjv] : List Value) (n := 6) (Nat.le_of_ble_eq_true rfl)
  rw [lg_entry_eq]
  generalize (lg_sl ([.ref za1, .int zib, .int zic, .long zjv] : List Value) ++ List.replicate (6 - (lg_sl ([.ref za1, .int zib, .int zic, .long zjv] : List Value)).length) Slot.unset).toArray = ls at hl ⊢
  have hl : lv_has ls 6 [(0, .ref za1), (1, .int zib), (2, .int zic), (3, .long zjv)] := hl
  refine w_q (fun Q hQ => ?_)
  refine lv_aload_n hx hb dJ7_fill_bad5a_0 rfl (lv_at hl 0 rfl) ?_
  refine va_alen (v := 16224) hx hb hK hP 0 1 rfl rfl rfl dJ7_fill_bad5a_1 ?_
  refine lv_iload_n hx hb dJ7_fill_bad5a_2 rfl (lv_at hl 1 rfl) ?_
  refine lv_iload_n hx hb dJ7_fill_bad5a_3 rfl (lv_at hl 2 rfl) ?_
  have qc_16224 : (16224 : Int32).toInt = 16224 := by decide
  refine cj_v (wc := []) (wr := [(za1, .inl (cy 1, 16224, .inr (.inl zga)))]) (w1 := fun (u : Unit) => []) (va_runS (As := [.int 16224, .int zib, .int zic]) (rest := []) ⟨hx, hb, hml, hown, hts⟩ (c_J7_rangeCheck_23922 l dC dI cy s.heap.size (16224 : Int32) zib zic (by omega)) (va_cwS 3 hts gJ7_fill_bad5a_J7_rangeCheck_23922 rfl rfl rfl (by decide +kernel) ⟨(Nat.le_of_ble_eq_true rfl), (Nat.le_of_ble_eq_true rfl)⟩) (PRE.s (hP.sub [] rfl) hK (hD.sub [] (by decide) rfl) hN) rfl rfl hl.1 rfl (lv_room (Nat.le_of_ble_eq_true rfl)) dJ7_fill_bad5a_4 ⟨(Nat.le_of_ble_eq_true rfl), (Nat.le_of_ble_eq_true rfl)⟩) hP hD hS hA [] [0] rfl rfl rfl (by decide) (fun u_1 H locs hw_3 hP hD hS => ?_)
  have hP : va_P (dC, dI) vwCl [(za1, .inl (cy 1, 16224, .inr (.inl zga)))] H := hP
  have hD : va_D A [(za1, .inl (cy 1, 16224, .inr (.inl zga)))] := hD
  refine lv_iload_n hx hb dJ7_fill_bad5a_7 rfl (lv_at hl 1 rfl) ?_
  refine lv_istore (lv' := [(5, .int zib), (0, .ref za1), (1, .int zib), (2, .int zic), (3, .long zjv)]) hx hb dJ7_fill_bad5a_8 hl (by decide) rfl (fun ls hl => ?_)
  have lp_18 : ∀ (n : Nat) (zi_8 : Int32) (zg_9 : Nat → Int64) (H : Heap) (locs : List Loc) (ls : Array Slot), (zic.toInt - zi_8.toInt).toNat = n → (0 ≤ zi_8.toInt ∧ zi_8.toInt ≤ 16224) → va_P (dC, dI) vwCl [(za1, .inl (cy 1, 16224, .inr (.inl zg_9)))] H → va_D A [(za1, .inl (cy 1, 16224, .inr (.inl zg_9)))] → va_S A s.heap H locs → lv_has ls 6 [(0, .ref za1), (1, .int zib), (2, .int zic), (3, .long zjv), (5, .int zi_8)] → W p l e ({ frames := 1, cells := 0, slots := 0, locals := 22 } : Room) s m ([.ref za1, .int zib, .int zic, .long zjv] : List Value).toArray below meth c H locs 0 0 Q (F0 m 10 ls []) := by
    intro n
    induction n using Nat.strongRecOn with
    | _ n ih =>
      intro zi_8 zg_9 H locs ls hn b_zi_8 hP hD hS hl
      refine lv_iload hx hb dJ7_fill_bad5a_10 (lv_at hl 4 rfl) ?_
      refine lv_iload_n hx hb dJ7_fill_bad5a_12 rfl (lv_at hl 2 rfl) ?_
      refine lv_icmp_ge (tgt := 27) hx hb dJ7_fill_bad5a_13 (by decide) (fun c_19 => ?_) (fun c_19 => ?_)
      · have f_20 : zi_8.toInt ≥ zic.toInt := ic_ge (rfl) (rfl) c_19
        subst hQ
        have hP9 := hP.sub (ws' := [(za1, .inl (cy 1, 16224, .inr (.inl zg_9)))]) [0] rfl
        have hD9 := hD.sub (ws' := [(za1, .inl (cy 1, 16224, .inr (.inl zg_9)))]) [0] (by decide) rfl
        exact W.vret hx hb hr (fun t ht hW => ⟨⟨zg_9, rfl, trivial, ⟨by rw [ht]; exact hP9, va_K.moved hW.alike hK, hD9⟩⟩, hS.F ht⟩) hS.2.2 dJ7_fill_bad5a_27
      · have f_20 : ¬ (zi_8.toInt ≥ zic.toInt) := ic_nge (rfl) (rfl) c_19
        refine lv_aload_n hx hb dJ7_fill_bad5a_16 rfl (lv_at hl 0 rfl) ?_
        refine lv_iload hx hb dJ7_fill_bad5a_17 (lv_at hl 4 rfl) ?_
        refine lv_lload_n hx hb dJ7_fill_bad5a_19 rfl (lv_at hl 3 rfl) ?_
        refine va_last hx hb hK hP hD hS 0 1 rfl rfl (vp_in_iff.mpr ⟨by omega, by omega⟩) dJ7_fill_bad5a_20 (fun H locs hP hD hS => ?_)
        have hP : va_P (dC, dI) vwCl [(za1, .inl (cy 1, 16224, .inr (.inl (vp_updL zg_9 zi_8.toNatClampNeg zjv))))] H := hP
        have hD : va_D A [(za1, .inl (cy 1, 16224, .inr (.inl (vp_updL zg_9 zi_8.toNatClampNeg zjv))))] := hD
        generalize uzg_21 : vp_updL zg_9 zi_8.toNatClampNeg zjv = zg_21 at hP hD
        obtain ⟨zi_22, ezi_22⟩ : ∃ y : Int32, y = zi_8 + 1 := ⟨_, rfl⟩
        have tzi_22 : zi_22.toInt = zi_8.toInt + 1 := by rw [ezi_22]; exact tadd rfl (show (1 : Int32).toInt = 1 by decide) (by omega) (by omega)
        refine lv_iinc (v := zi_22) (lv' := [(5, .int zi_22), (0, .ref za1), (1, .int zib), (2, .int zic), (3, .long zjv)]) hx hb dJ7_fill_bad5a_21 hl (k := 4) rfl (by rw [ezi_22]; rfl) (by decide) rfl (fun ls hl => ?_)
        refine lv_goto (tgt := 10) hx hb dJ7_fill_bad5a_24 (by decide) ?_
        exact ih (zic.toInt - zi_22.toInt).toNat (by omega) zi_22 zg_21 _ _ _ rfl (by omega) hP hD hS (lv_sub hl [1, 2, 3, 4, 0] rfl)
  exact lp_18 _ zib zga _ _ _ rfl (by omega) hP hD hS (lv_sub hl [1, 2, 3, 4, 0] rfl)
