set_option maxHeartbeats 8000000 in
set_option maxRecDepth 100000 in
theorem t_X11_isThing (l : Launch) (dC : Nat → ClassId) (dI : Nat → Nat → Nat) (cy : Nat → ClassId) (sz : Nat) (zL : List Nat) (zT : Nat → Nat) (zR : Nat → Nat → Nat) (zI : Nat → Nat → Int32) (zJ : Nat → Nat → Int64) (zy : Nat) (zic : Int32) (zit : Int32) (hs : SKP zL zT zR) (hw : WT zT zR zI) (t_zy : zT zy = 18) (b_zic : 0 ≤ zic.toInt ∧ zic.toInt ≤ 1) (hz : ZI (zI (zR zy 0))) : Met l yX11_isThing wsX11_isThing ({ frames := 1, cells := 0, slots := 0, locals := 25 } : Room) (va_Pc [.ref zy, .int zic, .int zit] (PRE dC dI cy (WL cy zL zT zR zI zJ) sz)) (va_Qi (fun (r : Int32) (u : Unit) => (0 ≤ r.toInt ∧ r.toInt ≤ 1) ∧ (r.toInt = 0 ∨ (0 ≤ zit.toInt ∧ zit.toInt ≤ 11)) ∧ (r.toInt = 0 ∨ zit.toInt < zA (zI (zR zy 0)) (5 + zic.toInt))) (fun u t => POST dC dI cy (va_A (WL cy zL zT zR zI zJ) sz) (WL cy zL zT zR zI zJ) t) (va_A (WL cy zL zT zR zI zJ) sz)) 0 0 (va_A (WL cy zL zT zR zI zJ) sz) := by
  refine Met.ofW (cc := cX11_isThing) (maxL := 3) (ret := (some .boolean)) (by decide) rfl ?_
  intro p e s m args below meth c s₁ B hml hv
  obtain ⟨rfl, hsz, hP, hK, hD0, hN⟩ := hv
  have hx := B.exec
  have hb := B.bytes
  have hr := B.returns
  have hts := atoms_spec (ws := wsX11_isThing) B.pre
  have hown : s.vm.findClass RX11 = some m.cls := findClass_of_methodNamed B.named
  have hlocks := B.notSynchronized
  subst hsz
  have hD := hD0.self (sz := s.heap.size)
  generalize hAe : va_A (WL cy zL zT zR zI zJ) s.heap.size = A at hD ⊢
  have hA : ∀ q : Nat, s.heap.size ≤ q → A q := fun q h => by rw [← hAe]; exact Or.inr h
  have hS : va_S A s.heap s.heap [] := va_S.rf
  have hP : va_P (dC, dI) vwCl (WL cy zL zT zR zI zJ) s.heap := hP
  have hl := lv_entry ([.ref zy, .int zic, .int zit] : List Value) (n := 3) (Nat.le_of_ble_eq_true rfl)
  rw [lg_entry_eq]
  generalize (lg_sl ([.ref zy, .int zic, .int zit] : List Value) ++ List.replicate (3 - (lg_sl ([.ref zy, .int zic, .int zit] : List Value)).length) Slot.unset).toArray = ls at hl ⊢
  have hl : lv_has ls 3 [(0, .ref zy), (1, .int zic), (2, .int zit)] := hl
  refine w_q (fun Q hQ => ?_)
  have h_zI : WM [] AL zT zR zI zI := WM.rf hw
  refine lv_iload_n hx hb dX11_isThing_0 rfl (lv_at hl 2 rfl) ?_
  refine lv_i2l (v := zit.toInt64) hx hb dX11_isThing_1 rfl ?_
  refine lv_topl (fun zj_1 ezj_1 => ?_)
  have tzj_1 : zj_1.toInt = zit.toInt := by rw [ezj_1]; exact Int32.toInt_toInt64 _
  refine lv_lconst (v := 0) hx hb dX11_isThing_2 (by decide) ?_
  refine lv_aload_n hx hb dX11_isThing_3 rfl (lv_at hl 0 rfl) ?_
  refine ht_getr (C := RX11) (T := TX11) (N := 28) hx hb hts (by decide +kernel) hown hK hP hs t_zy (by decide) rfl rfl 0 (by decide) (hts (.fieldLink RX11 7 "DripStoneModel" "z" "[I") (by decide +kernel)) (fun _ h9 => h9) rfl dX11_isThing_4 ?_
  have t_2 : zT (zR zy 0) = 100 := sk_f hs t_zy (by decide) rfl (by decide)
  refine lv_iconst (v := 5) hx hb dX11_isThing_7 (by decide) ?_
  refine lv_iload_n hx hb dX11_isThing_8 rfl (lv_at hl 1 rfl) ?_
  refine lv_iadd hx hb dX11_isThing_9 ?_
  refine lv_topi (fun zi_3 ezi_3 => ?_)
  have tzi_3 : zi_3.toInt = (5 : Int) + zic.toInt := by rw [ezi_3]; exact tiadd (show (5 : Int32).toInt = 5 by decide) (rfl) (by omega) (by omega)
  refine ht_iald (n := 392) (q := 0) hx hb hK hP hs t_2 (by decide) rfl rfl ⟨by omega, by omega⟩ dX11_isThing_10 ?_
  refine lv_topi (fun zi_4 ezi_4 => ?_)
  have la_5 : zi_4.toInt = zA (zI (zR zy 0)) (5 + zic.toInt) := (congrArg Int32.toInt (show zI (zR zy 0) zi_3.toNatClampNeg = zi_4 from ezi_4.symm).symm).trans (congrArg (zA (zI (zR zy 0))) (show zi_3.toInt = 5 + zic.toInt from by omega))
  have tz_6 : 0 ≤ zi_4.toInt ∧ zi_4.toInt ≤ 12 := by rw [← (show zI (zR zy 0) zi_3.toNatClampNeg = zi_4 from ezi_4.symm)]; exact ZI.g5 hz (by omega) (by omega)
  refine lv_iconst (v := 1) hx hb dX11_isThing_11 (by decide) ?_
  refine lv_isub hx hb dX11_isThing_12 ?_
  refine lv_topi (fun zi_7 ezi_7 => ?_)
  have tzi_7 : zi_7.toInt = zi_4.toInt - (1 : Int) := by rw [ezi_7]; exact tisub (rfl) (show (1 : Int32).toInt = 1 by decide) (by omega) (by omega)
  refine lv_i2l (v := zi_7.toInt64) hx hb dX11_isThing_13 rfl ?_
  refine lv_topl (fun zj_8 ezj_8 => ?_)
  have tzj_8 : zj_8.toInt = zi_7.toInt := by rw [ezj_8]; exact Int32.toInt_toInt64 _
  refine hj0_i (ws := (WL cy zL zT zR zI zJ)) (va_runS (As := [.long zj_1, .long 0, .long zj_8]) (rest := []) ⟨hx, hb, hml, hown, hts⟩ (c_X11_in l dC dI cy s.heap.size zj_1 0 zj_8 0 zj_8.toInt zj_1.toInt (by first | rfl | decide | omega | exact Int32.toInt_toInt64 _) (by first | rfl | decide | omega | exact Int32.toInt_toInt64 _) (by first | rfl | decide | omega | exact Int32.toInt_toInt64 _)) (va_cwS 3 hts gX11_isThing_X11_in rfl rfl rfl (by decide +kernel) ⟨(Nat.le_of_ble_eq_true rfl), (Nat.le_of_ble_eq_true rfl)⟩) (PRE.s (hP.sub [] rfl) hK (hD.sub [] (by decide) rfl) hN) rfl rfl hl.1 rfl (lv_room (Nat.le_of_ble_eq_true rfl)) dX11_isThing_14 ⟨(Nat.le_of_ble_eq_true rfl), (Nat.le_of_ble_eq_true rfl)⟩) hP hD hS hA (fun zi_9 u_11 H locs hw_10 hP hD hS => ?_)
  have hw_10 : zi_9 = if 0 ≤ zj_1.toInt ∧ zj_1.toInt ≤ zj_8.toInt then 1 else 0 := hw_10
  have b_zi_9 : 0 ≤ zi_9.toInt ∧ zi_9.toInt ≤ 1 := bz_b hw_10
  have i_12 := bz_or hw_10
  subst hQ
  exact W.zret (v := zi_9) hx hb hr (zb_n2 (by omega)) (fun t ht hW => ⟨⟨zi_9, (), rfl, ⟨(show 0 ≤ zi_9.toInt ∧ zi_9.toInt ≤ 1 from by omega), (show zi_9.toInt = 0 ∨ (0 ≤ zit.toInt ∧ zit.toInt ≤ 11) from by omega), (show zi_9.toInt = 0 ∨ zit.toInt < zA (zI (zR zy 0)) (5 + zic.toInt) from by omega)⟩, ⟨by rw [ht]; exact hP, va_K.moved hW.alike hK, hD⟩⟩, hS.F ht⟩) hS.2.2 dX11_isThing_17
set_option maxHeartbeats 8000000 in
set_option maxRecDepth 100000 in
theorem t_X11_kindOf (l : Launch) (dC : Nat → ClassId) (dI : Nat → Nat → Nat) (cy : Nat → ClassId) (sz : Nat) (zL : List Nat) (zT : Nat → Nat) (zR : Nat → Nat → Nat) (zI : Nat → Nat → Int32) (zJ : Nat → Nat → Int64) (zy : Nat) (zic : Int32) (zit : Int32) (hs : SKP zL zT zR) (hw : WT zT zR zI) (t_zy : zT zy = 18) (b_zic : 0 ≤ zic.toInt ∧ zic.toInt ≤ 1) (b_zit : 0 ≤ zit.toInt ∧ zit.toInt ≤ 11) (hz : ZI (zI (zR zy 0))) : Met l yX11_kindOf wsX11_kindOf ({ frames := 0, cells := 0, slots := 0, locals := 0 } : Room) (va_Pc [.ref zy, .int zic, .int zit] (PRE dC dI cy (WL cy zL zT zR zI zJ) sz)) (va_Qi (fun (r : Int32) (u : Unit) => (r.toInt = zA (zI (zR zy 0)) (158 + 12 * zic.toInt + zit.toInt))) (fun u t => POST dC dI cy (va_A (WL cy zL zT zR zI zJ) sz) (WL cy zL zT zR zI zJ) t) (va_A (WL cy zL zT zR zI zJ) sz)) 0 0 (va_A (WL cy zL zT zR zI zJ) sz) := by
  refine Met.ofW (cc := cX11_kindOf) (maxL := 3) (ret := (some .int)) (by decide) rfl ?_
  intro p e s m args below meth c s₁ B hml hv
  obtain ⟨rfl, hsz, hP, hK, hD0, hN⟩ := hv
  have hx := B.exec
  have hb := B.bytes
  have hr := B.returns
  have hts := atoms_spec (ws := wsX11_kindOf) B.pre
  have hown : s.vm.findClass RX11 = some m.cls := findClass_of_methodNamed B.named
  have hlocks := B.notSynchronized
  subst hsz
  have hD := hD0.self (sz := s.heap.size)
  generalize hAe : va_A (WL cy zL zT zR zI zJ) s.heap.size = A at hD ⊢
  have hA : ∀ q : Nat, s.heap.size ≤ q → A q := fun q h => by rw [← hAe]; exact Or.inr h
  have hS : va_S A s.heap s.heap [] := va_S.rf
  have hP : va_P (dC, dI) vwCl (WL cy zL zT zR zI zJ) s.heap := hP
  have hl := lv_entry ([.ref zy, .int zic, .int zit] : List Value) (n := 3) (Nat.le_of_ble_eq_true rfl)
  rw [lg_entry_eq]
  generalize (lg_sl ([.ref zy, .int zic, .int zit] : List Value) ++ List.replicate (3 - (lg_sl ([.ref zy, .int zic, .int zit] : List Value)).length) Slot.unset).toArray = ls at hl ⊢
  have hl : lv_has ls 3 [(0, .ref zy), (1, .int zic), (2, .int zit)] := hl
  refine w_q (fun Q hQ => ?_)
  have h_zI : WM [] AL zT zR zI zI := WM.rf hw
  refine lv_aload_n hx hb dX11_kindOf_0 rfl (lv_at hl 0 rfl) ?_
  refine ht_getr (C := RX11) (T := TX11) (N := 28) hx hb hts (by decide +kernel) hown hK hP hs t_zy (by decide) rfl rfl 0 (by decide) (hts (.fieldLink RX11 7 "DripStoneModel" "z" "[I") (by decide +kernel)) (fun _ h9 => h9) rfl dX11_kindOf_1 ?_
  have t_1 : zT (zR zy 0) = 100 := sk_f hs t_zy (by decide) rfl (by decide)
  refine lv_sipush (v := 158) hx hb dX11_kindOf_4 (by decide) ?_
  refine lv_bipush (v := 12) hx hb dX11_kindOf_7 (by decide) ?_
  refine lv_iload_n hx hb dX11_kindOf_9 rfl (lv_at hl 1 rfl) ?_
  refine lv_imul hx hb dX11_kindOf_10 ?_
  refine lv_topi (fun zi_2 ezi_2 => ?_)
  have tzi_2 : zi_2.toInt = (12 : Int) * zic.toInt := by rw [ezi_2]; exact timul (show (12 : Int32).toInt = 12 by decide) (rfl) (by omega) (by omega)
  refine lv_iadd hx hb dX11_kindOf_11 ?_
  refine lv_topi (fun zi_3 ezi_3 => ?_)
  have tzi_3 : zi_3.toInt = (158 : Int) + zi_2.toInt := by rw [ezi_3]; exact tiadd (show (158 : Int32).toInt = 158 by decide) (rfl) (by omega) (by omega)
  refine lv_iload_n hx hb dX11_kindOf_12 rfl (lv_at hl 2 rfl) ?_
  refine lv_iadd hx hb dX11_kindOf_13 ?_
  refine lv_topi (fun zi_4 ezi_4 => ?_)
  have tzi_4 : zi_4.toInt = zi_3.toInt + zit.toInt := by rw [ezi_4]; exact tiadd (rfl) (rfl) (by omega) (by omega)
  refine ht_iald (n := 392) (q := 0) hx hb hK hP hs t_1 (by decide) rfl rfl ⟨by omega, by omega⟩ dX11_kindOf_14 ?_
  refine lv_topi (fun zi_5 ezi_5 => ?_)
  have la_6 : zi_5.toInt = zA (zI (zR zy 0)) (158 + 12 * zic.toInt + zit.toInt) := (congrArg Int32.toInt (show zI (zR zy 0) zi_4.toNatClampNeg = zi_5 from ezi_5.symm).symm).trans (congrArg (zA (zI (zR zy 0))) (show zi_4.toInt = 158 + 12 * zic.toInt + zit.toInt from by omega))
  subst hQ
  exact W.iret (v := zi_5) hx hb hr (fun t ht hW => ⟨⟨zi_5, (), rfl, (show zi_5.toInt = zA (zI (zR zy 0)) (158 + 12 * zic.toInt + zit.toInt) from by omega), ⟨by rw [ht]; exact hP, va_K.moved hW.alike hK, hD⟩⟩, hS.F ht⟩) hS.2.2 dX11_kindOf_15
set_option maxHeartbeats 8000000 in
set_option maxRecDepth 100000 in
theorem t_X11_weightOf (l : Launch) (dC : Nat → ClassId) (dI : Nat → Nat → Nat) (cy : Nat → ClassId) (sz : Nat) (zL : List Nat) (zT : Nat → Nat) (zR : Nat → Nat → Nat) (zI : Nat → Nat → Int32) (zJ : Nat → Nat → Int64) (zy : Nat) (zic : Int32) (zit : Int32) (hs : SKP zL zT zR) (hw : WT zT zR zI) (t_zy : zT zy = 18) (b_zic : 0 ≤ zic.toInt ∧ zic.toInt ≤ 1) (b_zit : 0 ≤ zit.toInt ∧ zit.toInt ≤ 11) (hz : ZI (zI (zR zy 0))) : Met l yX11_weightOf wsX11_weightOf ({ frames := 0, cells := 0, slots := 0, locals := 0 } : Room) (va_Pc [.ref zy, .int zic, .int zit] (PRE dC dI cy (WL cy zL zT zR zI zJ) sz)) (va_Qi (fun (r : Int32) (u : Unit) => True) (fun u t => POST dC dI cy (va_A (WL cy zL zT zR zI zJ) sz) (WL cy zL zT zR zI zJ) t) (va_A (WL cy zL zT zR zI zJ) sz)) 0 0 (va_A (WL cy zL zT zR zI zJ) sz) := by
  refine Met.ofW (cc := cX11_weightOf) (maxL := 3) (ret := (some .int)) (by decide) rfl ?_
  intro p e s m args below meth c s₁ B hml hv
  obtain ⟨rfl, hsz, hP, hK, hD0, hN⟩ := hv
  have hx := B.exec
  have hb := B.bytes
  have hr := B.returns
  have hts := atoms_spec (ws := wsX11_weightOf) B.pre
  have hown : s.vm.findClass RX11 = some m.cls := findClass_of_methodNamed B.named
  have hlocks := B.notSynchronized
  subst hsz
  have hD := hD0.self (sz := s.heap.size)
  generalize hAe : va_A (WL cy zL zT zR zI zJ) s.heap.size = A at hD ⊢
  have hA : ∀ q : Nat, s.heap.size ≤ q → A q := fun q h => by rw [← hAe]; exact Or.inr h
  have hS : va_S A s.heap s.heap [] := va_S.rf
  have hP : va_P (dC, dI) vwCl (WL cy zL zT zR zI zJ) s.heap := hP
  have hl := lv_entry ([.ref zy, .int zic, .int zit] : List Value) (n := 3) (Nat.le_of_ble_eq_true rfl)
  rw [lg_entry_eq]
  generalize (lg_sl ([.ref zy, .int zic, .int zit] : List Value) ++ List.replicate (3 - (lg_sl ([.ref zy, .int zic, .int zit] : List Value)).length) Slot.unset).toArray = ls at hl ⊢
  have hl : lv_has ls 3 [(0, .ref zy), (1, .int zic), (2, .int zit)] := hl
  refine w_q (fun Q hQ => ?_)
  have h_zI : WM [] AL zT zR zI zI := WM.rf hw
  refine lv_aload_n hx hb dX11_weightOf_0 rfl (lv_at hl 0 rfl) ?_
  refine ht_getr (C := RX11) (T := TX11) (N := 28) hx hb hts (by decide +kernel) hown hK hP hs t_zy (by decide) rfl rfl 0 (by decide) (hts (.fieldLink RX11 7 "DripStoneModel" "z" "[I") (by decide +kernel)) (fun _ h9 => h9) rfl dX11_weightOf_1 ?_
  have t_1 : zT (zR zy 0) = 100 := sk_f hs t_zy (by decide) rfl (by decide)
  refine lv_sipush (v := 182) hx hb dX11_weightOf_4 (by decide) ?_
  refine lv_bipush (v := 12) hx hb dX11_weightOf_7 (by decide) ?_
  refine lv_iload_n hx hb dX11_weightOf_9 rfl (lv_at hl 1 rfl) ?_
  refine lv_imul hx hb dX11_weightOf_10 ?_
  refine lv_topi (fun zi_2 ezi_2 => ?_)
  have tzi_2 : zi_2.toInt = (12 : Int) * zic.toInt := by rw [ezi_2]; exact timul (show (12 : Int32).toInt = 12 by decide) (rfl) (by omega) (by omega)
  refine lv_iadd hx hb dX11_weightOf_11 ?_
  refine lv_topi (fun zi_3 ezi_3 => ?_)
  have tzi_3 : zi_3.toInt = (182 : Int) + zi_2.toInt := by rw [ezi_3]; exact tiadd (show (182 : Int32).toInt = 182 by decide) (rfl) (by omega) (by omega)
  refine lv_iload_n hx hb dX11_weightOf_12 rfl (lv_at hl 2 rfl) ?_
  refine lv_iadd hx hb dX11_weightOf_13 ?_
  refine lv_topi (fun zi_4 ezi_4 => ?_)
  have tzi_4 : zi_4.toInt = zi_3.toInt + zit.toInt := by rw [ezi_4]; exact tiadd (rfl) (rfl) (by omega) (by omega)
  refine ht_iald (n := 392) (q := 0) hx hb hK hP hs t_1 (by decide) rfl rfl ⟨by omega, by omega⟩ dX11_weightOf_14 ?_
  refine lv_topi (fun zi_5 ezi_5 => ?_)
  have la_6 : zi_5.toInt = zA (zI (zR zy 0)) (182 + 12 * zic.toInt + zit.toInt) := (congrArg Int32.toInt (show zI (zR zy 0) zi_4.toNatClampNeg = zi_5 from ezi_5.symm).symm).trans (congrArg (zA (zI (zR zy 0))) (show zi_4.toInt = 182 + 12 * zic.toInt + zit.toInt from by omega))
  subst hQ
  exact W.iret (v := zi_5) hx hb hr (fun t ht hW => ⟨⟨zi_5, (), rfl, trivial, ⟨by rw [ht]; exact hP, va_K.moved hW.alike hK, hD⟩⟩, hS.F ht⟩) hS.2.2 dX11_weightOf_15
set_option maxHeartbeats 8000000 in
set_option maxRecDepth 100000 in
theorem t_X11_dateAt (l : Launch) (dC : Nat → ClassId) (dI : Nat → Nat → Nat) (cy : Nat → ClassId) (sz : Nat) (zL : List Nat) (zT : Nat → Nat) (zR : Nat → Nat → Nat) (zI : Nat → Nat → Int32) (zJ : Nat → Nat → Int64) (zy : Nat) (zid : Int32) (hs : SKP zL zT zR) (hw : WT zT zR zI) (t_zy : zT zy = 18) (b_zid : 0 ≤ zid.toInt ∧ zid.toInt ≤ 8) : Met l yX11_dateAt wsX11_dateAt ({ frames := 0, cells := 0, slots := 0, locals := 0 } : Room) (va_Pc [.ref zy, .int zid] (PRE dC dI cy (WL cy zL zT zR zI zJ) sz)) (va_Qi (fun (r : Int32) (u : Unit) => (278 ≤ r.toInt ∧ r.toInt ≤ 326) ∧ (r.toInt = 278 + 6 * zid.toInt)) (fun u t => POST dC dI cy (va_A (WL cy zL zT zR zI zJ) sz) (WL cy zL zT zR zI zJ) t) (va_A (WL cy zL zT zR zI zJ) sz)) 0 0 (va_A (WL cy zL zT zR zI zJ) sz) := by
  refine Met.ofW (cc := cX11_dateAt) (maxL := 2) (ret := (some .int)) (by decide) rfl ?_
  intro p e s m args below meth c s₁ B hml hv
  obtain ⟨rfl, hsz, hP, hK, hD0, hN⟩ := hv
  have hx := B.exec
  have hb := B.bytes
  have hr := B.returns
  have hts := atoms_spec (ws := wsX11_dateAt) B.pre
  have hown : s.vm.findClass RX11 = some m.cls := findClass_of_methodNamed B.named
  have hlocks := B.notSynchronized
  subst hsz
  have hD := hD0.self (sz := s.heap.size)
  generalize hAe : va_A (WL cy zL zT zR zI zJ) s.heap.size = A at hD ⊢
  have hA : ∀ q : Nat, s.heap.size ≤ q → A q := fun q h => by rw [← hAe]; exact Or.inr h
  have hS : va_S A s.heap s.heap [] := va_S.rf
  have hP : va_P (dC, dI) vwCl (WL cy zL zT zR zI zJ) s.heap := hP
  have hl := lv_entry ([.ref zy, .int zid] : List Value) (n := 2) (Nat.le_of_ble_eq_true rfl)
  rw [lg_entry_eq]
  generalize (lg_sl ([.ref zy, .int zid] : List Value) ++ List.replicate (2 - (lg_sl ([.ref zy, .int zid] : List Value)).length) Slot.unset).toArray = ls at hl ⊢
  have hl : lv_has ls 2 [(0, .ref zy), (1, .int zid)] := hl
  refine w_q (fun Q hQ => ?_)
  have h_zI : WM [] AL zT zR zI zI := WM.rf hw
  refine lv_sipush (v := 278) hx hb dX11_dateAt_0 (by decide) ?_
  refine lv_bipush (v := 6) hx hb dX11_dateAt_3 (by decide) ?_
  refine lv_iload_n hx hb dX11_dateAt_5 rfl (lv_at hl 1 rfl) ?_
  refine lv_imul hx hb dX11_dateAt_6 ?_
  refine lv_topi (fun zi_1 ezi_1 => ?_)
  have tzi_1 : zi_1.toInt = (6 : Int) * zid.toInt := by rw [ezi_1]; exact timul (show (6 : Int32).toInt = 6 by decide) (rfl) (by omega) (by omega)
  refine lv_iadd hx hb dX11_dateAt_7 ?_
  refine lv_topi (fun zi_2 ezi_2 => ?_)
  have tzi_2 : zi_2.toInt = (278 : Int) + zi_1.toInt := by rw [ezi_2]; exact tiadd (show (278 : Int32).toInt = 278 by decide) (rfl) (by omega) (by omega)
  subst hQ
  exact W.iret (v := zi_2) hx hb hr (fun t ht hW => ⟨⟨zi_2, (), rfl, ⟨(show 278 ≤ zi_2.toInt ∧ zi_2.toInt ≤ 326 from by omega), (show zi_2.toInt = 278 + 6 * zid.toInt from by omega)⟩, ⟨by rw [ht]; exact hP, va_K.moved hW.alike hK, hD⟩⟩, hS.F ht⟩) hS.2.2 dX11_dateAt_8
set_option maxHeartbeats 8000000 in
set_option maxRecDepth 100000 in
theorem t_X11_stretchAt (l : Launch) (dC : Nat → ClassId) (dI : Nat → Nat → Nat) (cy : Nat → ClassId) (sz : Nat) (zL : List Nat) (zT : Nat → Nat) (zR : Nat → Nat → Nat) (zI : Nat → Nat → Int32) (zJ : Nat → Nat → Int64) (zy : Nat) (zic : Int32) (zis : Int32) (hs : SKP zL zT zR) (hw : WT zT zR zI) (t_zy : zT zy = 18) (b_zic : 0 ≤ zic.toInt ∧ zic.toInt ≤ 1) (b_zis : 0 ≤ zis.toInt ∧ zis.toInt ≤ 6) : Met l yX11_stretchAt wsX11_stretchAt ({ frames := 0, cells := 0, slots := 0, locals := 0 } : Room) (va_Pc [.ref zy, .int zic, .int zis] (PRE dC dI cy (WL cy zL zT zR zI zJ) sz)) (va_Qi (fun (r : Int32) (u : Unit) => (230 ≤ r.toInt ∧ r.toInt ≤ 278) ∧ (r.toInt = 230 + 24 * zic.toInt + 4 * zis.toInt)) (fun u t => POST dC dI cy (va_A (WL cy zL zT zR zI zJ) sz) (WL cy zL zT zR zI zJ) t) (va_A (WL cy zL zT zR zI zJ) sz)) 0 0 (va_A (WL cy zL zT zR zI zJ) sz) := by
  refine Met.ofW (cc := cX11_stretchAt) (maxL := 3) (ret := (some .int)) (by decide) rfl ?_
  intro p e s m args below meth c s₁ B hml hv
  obtain ⟨rfl, hsz, hP, hK, hD0, hN⟩ := hv
  have hx := B.exec
  have hb := B.bytes
  have hr := B.returns
  have hts := atoms_spec (ws := wsX11_stretchAt) B.pre
  have hown : s.vm.findClass RX11 = some m.cls := findClass_of_methodNamed B.named
  have hlocks := B.notSynchronized
  subst hsz
  have hD := hD0.self (sz := s.heap.size)
  generalize hAe : va_A (WL cy zL zT zR zI zJ) s.heap.size = A at hD ⊢
  have hA : ∀ q : Nat, s.heap.size ≤ q → A q := fun q h => by rw [← hAe]; exact Or.inr h
  have hS : va_S A s.heap s.heap [] := va_S.rf
  have hP : va_P (dC, dI) vwCl (WL cy zL zT zR zI zJ) s.heap := hP
  have hl := lv_entry ([.ref zy, .int zic, .int zis] : List Value) (n := 3) (Nat.le_of_ble_eq_true rfl)
  rw [lg_entry_eq]
  generalize (lg_sl ([.ref zy, .int zic, .int zis] : List Value) ++ List.replicate (3 - (lg_sl ([.ref zy, .int zic, .int zis] : List Value)).length) Slot.unset).toArray = ls at hl ⊢
  have hl : lv_has ls 3 [(0, .ref zy), (1, .int zic), (2, .int zis)] := hl
  refine w_q (fun Q hQ => ?_)
  have h_zI : WM [] AL zT zR zI zI := WM.rf hw
  refine lv_sipush (v := 230) hx hb dX11_stretchAt_0 (by decide) ?_
  refine lv_bipush (v := 24) hx hb dX11_stretchAt_3 (by decide) ?_
  refine lv_iload_n hx hb dX11_stretchAt_5 rfl (lv_at hl 1 rfl) ?_
  refine lv_imul hx hb dX11_stretchAt_6 ?_
  refine lv_topi (fun zi_1 ezi_1 => ?_)
  have tzi_1 : zi_1.toInt = (24 : Int) * zic.toInt := by rw [ezi_1]; exact timul (show (24 : Int32).toInt = 24 by decide) (rfl) (by omega) (by omega)
  refine lv_iadd hx hb dX11_stretchAt_7 ?_
  refine lv_topi (fun zi_2 ezi_2 => ?_)
  have tzi_2 : zi_2.toInt = (230 : Int) + zi_1.toInt := by rw [ezi_2]; exact tiadd (show (230 : Int32).toInt = 230 by decide) (rfl) (by omega) (by omega)
  refine lv_iconst (v := 4) hx hb dX11_stretchAt_8 (by decide) ?_
  refine lv_iload_n hx hb dX11_stretchAt_9 rfl (lv_at hl 2 rfl) ?_
  refine lv_imul hx hb dX11_stretchAt_10 ?_
  refine lv_topi (fun zi_3 ezi_3 => ?_)
  have tzi_3 : zi_3.toInt = (4 : Int) * zis.toInt := by rw [ezi_3]; exact timul (show (4 : Int32).toInt = 4 by decide) (rfl) (by omega) (by omega)
  refine lv_iadd hx hb dX11_stretchAt_11 ?_
  refine lv_topi (fun zi_4 ezi_4 => ?_)
  have tzi_4 : zi_4.toInt = zi_2.toInt + zi_3.toInt := by rw [ezi_4]; exact tiadd (rfl) (rfl) (by omega) (by omega)
  subst hQ
  exact W.iret (v := zi_4) hx hb hr (fun t ht hW => ⟨⟨zi_4, (), rfl, ⟨(show 230 ≤ zi_4.toInt ∧ zi_4.toInt ≤ 278 from by omega), (show zi_4.toInt = 230 + 24 * zic.toInt + 4 * zis.toInt from by omega)⟩, ⟨by rw [ht]; exact hP, va_K.moved hW.alike hK, hD⟩⟩, hS.F ht⟩) hS.2.2 dX11_stretchAt_12
set_option maxHeartbeats 8000000 in
set_option maxRecDepth 100000 in
theorem t_X11_placesOf (l : Launch) (dC : Nat → ClassId) (dI : Nat → Nat → Nat) (cy : Nat → ClassId) (sz : Nat) (zL : List Nat) (zT : Nat → Nat) (zR : Nat → Nat → Nat) (zI : Nat → Nat → Int32) (zJ : Nat → Nat → Int64) (zy : Nat) (zic : Int32) (hs : SKP zL zT zR) (hw : WT zT zR zI) (t_zy : zT zy = 18) (b_zic : 0 ≤ zic.toInt ∧ zic.toInt ≤ 1) (hz : ZI (zI (zR zy 0))) : Met l yX11_placesOf wsX11_placesOf ({ frames := 1, cells := 0, slots := 0, locals := 22 } : Room) (va_Pc [.ref zy, .int zic] (PRE dC dI cy (WL cy zL zT zR zI zJ) sz)) (va_Qi (fun (r : Int32) (u : Unit) => (0 ≤ r.toInt ∧ r.toInt ≤ 12) ∧ (r.toInt = PLZ (zI (zR zy 0)) zic.toInt)) (fun u t => POST dC dI cy (va_A (WL cy zL zT zR zI zJ) sz) (WL cy zL zT zR zI zJ) t) (va_A (WL cy zL zT zR zI zJ) sz)) 0 0 (va_A (WL cy zL zT zR zI zJ) sz) := by
  refine Met.ofW (cc := cX11_placesOf) (maxL := 4) (ret := (some .int)) (by decide) rfl ?_
  intro p e s m args below meth c s₁ B hml hv
  obtain ⟨rfl, hsz, hP, hK, hD0, hN⟩ := hv
  have hx := B.exec
  have hb := B.bytes
  have hr := B.returns
  have hts := atoms_spec (ws := wsX11_placesOf) B.pre
  have hown : s.vm.findClass RX11 = some m.cls := findClass_of_methodNamed B.named
  have hlocks := B.notSynchronized
  subst hsz
  have hD := hD0.self (sz := s.heap.size)
  generalize hAe : va_A (WL cy zL zT zR zI zJ) s.heap.size = A at hD ⊢
  have hA : ∀ q : Nat, s.heap.size ≤ q → A q := fun q h => by rw [← hAe]; exact Or.inr h
  have hS : va_S A s.heap s.heap [] := va_S.rf
  have hP : va_P (dC, dI) vwCl (WL cy zL zT zR zI zJ) s.heap := hP
  have hl := lv_entry ([.ref zy, .int zic] : List Value) (n := 4) (Nat.le_of_ble_eq_true rfl)
  rw [lg_entry_eq]
  generalize (lg_sl ([.ref zy, .int zic] : List Value) ++ List.replicate (4 - (lg_sl ([.ref zy, .int zic] : List Value)).length) Slot.unset).toArray = ls at hl ⊢
  have hl : lv_has ls 4 [(0, .ref zy), (1, .int zic)] := hl
  refine w_q (fun Q hQ => ?_)
  have h_zI : WM [] AL zT zR zI zI := WM.rf hw
  have z5_1 : 0 ≤ zA (zI (zR zy 0)) (5 + zic.toInt) ∧ zA (zI (zR zy 0)) (5 + zic.toInt) ≤ 12 := hz.s5 (by omega)
  refine lv_iconst (v := 0) hx hb dX11_placesOf_0 (by decide) ?_
  refine lv_istore_n (lv' := [(2, .int 0), (0, .ref zy), (1, .int zic)]) hx hb dX11_placesOf_1 rfl hl (by decide) rfl (fun ls hl => ?_)
  refine lv_iconst (v := 0) hx hb dX11_placesOf_2 (by decide) ?_
  refine lv_istore_n (lv' := [(3, .int 0), (2, .int 0), (0, .ref zy), (1, .int zic)]) hx hb dX11_placesOf_3 rfl hl (by decide) rfl (fun ls hl => ?_)
  have lp_169 : ∀ (n : Nat) (zi_150 : Int32) (zi_151 : Int32) (H : Heap) (locs : List Loc) (ls : Array Slot), (12 - zi_151.toInt).toNat = n → (0 ≤ zi_150.toInt ∧ zi_150.toInt ≤ 12) → (0 ≤ zi_151.toInt ∧ zi_151.toInt ≤ 12) → (zi_150.toInt = PL (KF (zI (zR zy 0)) zic.toInt) (zi_151.toInt).toNat) → (zi_150.toInt ≤ zi_151.toInt ∧ zi_151.toInt ≤ zA (zI (zR zy 0)) (5 + zic.toInt)) → (ZI (zI (zR zy 0))) → va_P (dC, dI) vwCl (WL cy zL zT zR zI zJ) H → va_D A (WL cy zL zT zR zI zJ) → va_S A s.heap H locs → lv_has ls 4 [(0, .ref zy), (1, .int zic), (2, .int zi_150), (3, .int zi_151)] → W p l e ({ frames := 1, cells := 0, slots := 0, locals := 22 } : Room) s m ([.ref zy, .int zic] : List Value).toArray below meth c H locs 0 0 Q (F0 m 4 ls []) := by
    intro n
    induction n using Nat.strongRecOn with
    | _ n ih_169 =>
      intro zi_150 zi_151 H locs ls hn b_zi_150 b_zi_151 e_lp_169_0 e_lp_169_1 e_lp_169_2 hP hD hS hl
      refine lv_iload_n hx hb dX11_placesOf_4 rfl (lv_at hl 3 rfl) ?_
      refine lv_aload_n hx hb dX11_placesOf_5 rfl (lv_at hl 0 rfl) ?_
      refine ht_getr (C := RX11) (T := TX11) (N := 28) hx hb hts (by decide +kernel) hown hK hP hs t_zy (by decide) rfl rfl 0 (by decide) (hts (.fieldLink RX11 7 "DripStoneModel" "z" "[I") (by decide +kernel)) (fun _ h9 => h9) rfl dX11_placesOf_6 ?_
      have t_170 : zT (zR zy 0) = 100 := sk_f hs t_zy (by decide) rfl (by decide)
      refine lv_iconst (v := 5) hx hb dX11_placesOf_9 (by decide) ?_
      refine lv_iload_n hx hb dX11_placesOf_10 rfl (lv_at hl 1 rfl) ?_
      refine lv_iadd hx hb dX11_placesOf_11 ?_
      refine lv_topi (fun zi_171 ezi_171 => ?_)
      have tzi_171 : zi_171.toInt = (5 : Int) + zic.toInt := by rw [ezi_171]; exact tiadd (show (5 : Int32).toInt = 5 by decide) (rfl) (by omega) (by omega)
      refine ht_iald (n := 392) (q := 0) hx hb hK hP hs t_170 (by decide) rfl rfl ⟨by omega, by omega⟩ dX11_placesOf_12 ?_
      refine lv_topi (fun zi_172 ezi_172 => ?_)
      have la_173 : zi_172.toInt = zA (zI (zR zy 0)) (5 + zic.toInt) := (congrArg Int32.toInt (show zI (zR zy 0) zi_171.toNatClampNeg = zi_172 from ezi_172.symm).symm).trans (congrArg (zA (zI (zR zy 0))) (show zi_171.toInt = 5 + zic.toInt from by omega))
      have tz_174 : 0 ≤ zi_172.toInt ∧ zi_172.toInt ≤ 12 := by rw [← (show zI (zR zy 0) zi_171.toNatClampNeg = zi_172 from ezi_172.symm)]; exact ZI.g5 e_lp_169_2 (by omega) (by omega)
      refine lv_icmp_ge (tgt := 40) hx hb dX11_placesOf_13 (by decide) (fun c_175 => ?_) (fun c_175 => ?_)
      · have f_176 : zi_151.toInt ≥ zi_172.toInt := ic_ge (rfl) (rfl) c_175
        refine lv_iload_n hx hb dX11_placesOf_40 rfl (lv_at hl 2 rfl) ?_
        subst hQ
        exact W.iret (v := zi_150) hx hb hr (fun t ht hW => ⟨⟨zi_150, (), rfl, ⟨(show 0 ≤ zi_150.toInt ∧ zi_150.toInt ≤ 12 from by omega), (show zi_150.toInt = PLZ (zI (zR zy 0)) zic.toInt from (by unfold PLZ; exact PL_e e_lp_169_0 (by omega)))⟩, ⟨by rw [ht]; exact hP, va_K.moved hW.alike hK, hD⟩⟩, hS.F ht⟩) hS.2.2 dX11_placesOf_41
      · have f_176 : ¬ (zi_151.toInt ≥ zi_172.toInt) := ic_nge (rfl) (rfl) c_175
        refine lv_iload_n hx hb dX11_placesOf_16 rfl (lv_at hl 2 rfl) ?_
        refine lv_aload_n hx hb dX11_placesOf_17 rfl (lv_at hl 0 rfl) ?_
        refine lv_iload_n hx hb dX11_placesOf_18 rfl (lv_at hl 1 rfl) ?_
        refine lv_iload_n hx hb dX11_placesOf_19 rfl (lv_at hl 3 rfl) ?_
        refine hj_i (ws := (WL cy zL zT zR zI zJ)) (w1 := fun (u : Unit) => (WL cy zL zT zR zI zJ)) (va_runV (As := [.int zic, .int zi_151]) (rest := [.int zi_150]) ⟨hx, hb, hml, hown, hts⟩ (t_X11_kindOf l dC dI cy H.size zL zT zR zI zJ zy zic zi_151 hs h_zI.1 t_zy (by omega) (by omega) e_lp_169_2) (cwV 2 hts gX11_placesOf_X11_kindOf rfl rfl rfl (by decide +kernel) ⟨(Nat.le_of_ble_eq_true rfl), (Nat.le_of_ble_eq_true rfl)⟩) (PRE.v hP hK hD hN (ht_recv hK hP hs t_zy (by decide) rfl rfl)) rfl rfl hl.1 rfl (lv_room (Nat.le_of_ble_eq_true rfl)) dX11_placesOf_20 ⟨(Nat.le_of_ble_eq_true rfl), (Nat.le_of_ble_eq_true rfl)⟩) hP hD hS hA (fun zi_177 u_179 H locs hw_178 hP hD hS => ?_)
        have ps_180 : zi_177.toInt = zA (zI (zR zy 0)) (158 + 12 * zic.toInt + zi_151.toInt) := hw_178
        have rzi_177 := rng zi_177
        refine lv_iconst (v := 2) hx hb dX11_placesOf_23 (by decide) ?_
        refine lv_icmp_ne (tgt := 31) hx hb dX11_placesOf_24 (by decide) (fun c_181 => ?_) (fun c_181 => ?_)
        · have f_182 : zi_177.toInt ≠ (2 : Int) := ic_ne (rfl) (show (2 : Int32).toInt = 2 by decide) c_181
          refine lv_iconst (v := 1) hx hb dX11_placesOf_31 (by decide) ?_
          refine lv_iadd hx hb dX11_placesOf_32 ?_
          refine lv_topi (fun zi_183 ezi_183 => ?_)
          have tzi_183 : zi_183.toInt = zi_150.toInt + (1 : Int) := by rw [ezi_183]; exact tiadd (rfl) (show (1 : Int32).toInt = 1 by decide) (by omega) (by omega)
          refine lv_istore_n (lv' := [(2, .int zi_183), (0, .ref zy), (1, .int zic), (3, .int zi_151)]) hx hb dX11_placesOf_33 rfl hl (by decide) rfl (fun ls hl => ?_)
          obtain ⟨zi_184, ezi_184⟩ : ∃ y : Int32, y = zi_151 + 1 := ⟨_, rfl⟩
          have tzi_184 : zi_184.toInt = zi_151.toInt + 1 := by rw [ezi_184]; exact tadd rfl (show (1 : Int32).toInt = 1 by decide) (by omega) (by omega)
          refine lv_iinc (v := zi_184) (lv' := [(3, .int zi_184), (2, .int zi_183), (0, .ref zy), (1, .int zic)]) hx hb dX11_placesOf_34 hl (k := 3) rfl (by rw [ezi_184]; rfl) (by decide) rfl (fun ls hl => ?_)
          refine lv_goto (tgt := 4) hx hb dX11_placesOf_37 (by decide) ?_
          exact ih_169 (12 - zi_184.toInt).toNat (by omega) zi_183 zi_184 _ _ _ rfl (by omega) (by omega) (by have q9 := PLK.s (t := zi_151) (t' := zi_184) e_lp_169_0 (by omega) (by omega) ps_180; omega) (by omega) e_lp_169_2 hP hD hS (lv_sub hl [2, 3, 1, 0] rfl)
        · have f_182 : ¬ (zi_177.toInt ≠ (2 : Int)) := ic_nne (rfl) (show (2 : Int32).toInt = 2 by decide) c_181
          refine lv_iconst (v := 0) hx hb dX11_placesOf_27 (by decide) ?_
          refine lv_goto (tgt := 32) hx hb dX11_placesOf_28 (by decide) ?_
          refine lv_iadd hx hb dX11_placesOf_32 ?_
          refine lv_topi (fun zi_185 ezi_185 => ?_)
          have tzi_185 : zi_185.toInt = zi_150.toInt + (0 : Int) := by rw [ezi_185]; exact tiadd (rfl) (show (0 : Int32).toInt = 0 by decide) (by omega) (by omega)
          refine lv_istore_n (lv' := [(2, .int zi_185), (0, .ref zy), (1, .int zic), (3, .int zi_151)]) hx hb dX11_placesOf_33 rfl hl (by decide) rfl (fun ls hl => ?_)
          obtain ⟨zi_186, ezi_186⟩ : ∃ y : Int32, y = zi_151 + 1 := ⟨_, rfl⟩
          have tzi_186 : zi_186.toInt = zi_151.toInt + 1 := by rw [ezi_186]; exact tadd rfl (show (1 : Int32).toInt = 1 by decide) (by omega) (by omega)
          refine lv_iinc (v := zi_186) (lv' := [(3, .int zi_186), (2, .int zi_185), (0, .ref zy), (1, .int zic)]) hx hb dX11_placesOf_34 hl (k := 3) rfl (by rw [ezi_186]; rfl) (by decide) rfl (fun ls hl => ?_)
          refine lv_goto (tgt := 4) hx hb dX11_placesOf_37 (by decide) ?_
          exact ih_169 (12 - zi_186.toInt).toNat (by omega) zi_185 zi_186 _ _ _ rfl (by omega) (by omega) (by have q9 := PLK.s (t := zi_151) (t' := zi_186) e_lp_169_0 (by omega) (by omega) ps_180; omega) (by omega) e_lp_169_2 hP hD hS (lv_sub hl [2, 3, 1, 0] rfl)
  have qc_0 : (0 : Int32).toInt = 0 := by decide
  exact lp_169 _ (0 : Int32) (0 : Int32) _ _ _ rfl (by decide) (by decide) rfl (by omega) hz hP hD hS (lv_sub hl [2, 3, 1, 0] rfl)
set_option maxHeartbeats 8000000 in
set_option maxRecDepth 100000 in
theorem t_X11_rain (l : Launch) (dC : Nat → ClassId) (dI : Nat → Nat → Nat) (cy : Nat → ClassId) (sz : Nat) (zL : List Nat) (zT : Nat → Nat) (zR : Nat → Nat → Nat) (zI : Nat → Nat → Int32) (zJ : Nat → Nat → Int64) (zy : Nat) (zia : Int32) (zib : Int32) (zic : Int32) (hs : SKP zL zT zR) (hw : WT zT zR zI) (t_zy : zT zy = 18) (hz : ZI (zI (zR zy 0))) : Met l yX11_rain wsX11_rain ({ frames := 2, cells := 0, slots := 0, locals := 46 } : Room) (va_Pc [.ref zy, .int zia, .int zib, .int zic] (PRE dC dI cy (WL cy zL zT zR zI zJ) sz)) (va_Qi (fun (r : Int32) (u : (Nat → Nat → Int32)) => (WM [10000] AL zT zR zI u) ∧ (RNok zia.toInt zib.toInt zic.toInt → (r.toInt = zA (zI (zR zy 0)) (20 + 3 * zia.toInt + zib.toInt) ∧ zA (u (zR zy 0)) (20 + 3 * zia.toInt + zib.toInt) = zic.toInt ∧ FE (zI (zR zy 0)) (u (zR zy 0)) (20 + 3 * zia.toInt + zib.toInt))) ∧ (¬ (RNok zia.toInt zib.toInt zic.toInt) → (r.toInt = -1001 ∧ u = zI)) ∧ (FQ3 (zI (zR zy 0)) (u (zR zy 0))) ∧ (ZI (u (zR zy 0)))) (fun u t => POST dC dI cy (va_A (WL cy zL zT zR zI zJ) sz) (WL cy zL zT zR u zJ) t) (va_A (WL cy zL zT zR zI zJ) sz)) 0 0 (va_A (WL cy zL zT zR zI zJ) sz) := by
  refine Met.ofW (cc := cX11_rain) (maxL := 5) (ret := (some .int)) (by decide) rfl ?_
  intro p e s m args below meth c s₁ B hml hv
  obtain ⟨rfl, hsz, hP, hK, hD0, hN⟩ := hv
  have hx := B.exec
  have hb := B.bytes
  have hr := B.returns
  have hts := atoms_spec (ws := wsX11_rain) B.pre
  have hown : s.vm.findClass RX11 = some m.cls := findClass_of_methodNamed B.named
  have hlocks := B.notSynchronized
  subst hsz
  have hD := hD0.self (sz := s.heap.size)
  generalize hAe : va_A (WL cy zL zT zR zI zJ) s.heap.size = A at hD ⊢
  have hA : ∀ q : Nat, s.heap.size ≤ q → A q := fun q h => by rw [← hAe]; exact Or.inr h
  have hS : va_S A s.heap s.heap [] := va_S.rf
  have hP : va_P (dC, dI) vwCl (WL cy zL zT zR zI zJ) s.heap := hP
  have hl := lv_entry ([.ref zy, .int zia, .int zib, .int zic] : List Value) (n := 5) (Nat.le_of_ble_eq_true rfl)
  rw [lg_entry_eq]
  generalize (lg_sl ([.ref zy, .int zia, .int zib, .int zic] : List Value) ++ List.replicate (5 - (lg_sl ([.ref zy, .int zia, .int zib, .int zic] : List Value)).length) Slot.unset).toArray = ls at hl ⊢
  have hl : lv_has ls 5 [(0, .ref zy), (1, .int zia), (2, .int zib), (3, .int zic)] := hl
  refine w_q (fun Q hQ => ?_)
  have h_zI : WM [10000] AL zT zR zI zI := WM.rf hw
  refine lv_iload_n hx hb dX11_rain_0 rfl (lv_at hl 1 rfl) ?_
  refine hj0_i (ws := (WL cy zL zT zR zI zJ)) (va_runS (As := [.int zia]) (rest := []) ⟨hx, hb, hml, hown, hts⟩ (c_X11_isYear l dC dI cy s.heap.size zia) (va_cwS 1 hts gX11_rain_X11_isYear rfl rfl rfl (by decide +kernel) ⟨(Nat.le_of_ble_eq_true rfl), (Nat.le_of_ble_eq_true rfl)⟩) (PRE.s (hP.sub [] rfl) hK (hD.sub [] (by decide) rfl) hN) rfl rfl hl.1 rfl (lv_room (Nat.le_of_ble_eq_true rfl)) dX11_rain_1 ⟨(Nat.le_of_ble_eq_true rfl), (Nat.le_of_ble_eq_true rfl)⟩) hP hD hS hA (fun zi_1 u_3 H locs hw_2 hP hD hS => ?_)
  have hw_2 : zi_1 = if 0 ≤ zia.toInt ∧ zia.toInt ≤ 23 then 1 else 0 := hw_2
  have b_zi_1 : 0 ≤ zi_1.toInt ∧ zi_1.toInt ≤ 1 := bz_b hw_2
  refine lv_if_eq (tgt := 15) hx hb dX11_rain_4 (by decide) (fun c_4 => ?_) (fun c_4 => ?_)
  · have f_5 : ¬ (0 ≤ zia.toInt ∧ zia.toInt ≤ 23) := bz_0 hw_2 c_4
    refine lv_sipush (v := (-1001)) hx hb dX11_rain_15 (by decide) ?_
    subst hQ
    exact W.iret (v := (-1001 : Int32)) hx hb hr (fun t ht hW => ⟨⟨(-1001 : Int32), zI, rfl, ⟨h_zI, (show RNok zia.toInt zib.toInt zic.toInt → ((-1001 : Int32).toInt = zA (zI (zR zy 0)) (20 + 3 * zia.toInt + zib.toInt) ∧ zA (zI (zR zy 0)) (20 + 3 * zia.toInt + zib.toInt) = zic.toInt ∧ FE (zI (zR zy 0)) (zI (zR zy 0)) (20 + 3 * zia.toInt + zib.toInt)) from (fun h9 => absurd h9 (by unfold RNok; omega))), (show ¬ (RNok zia.toInt zib.toInt zic.toInt) → ((-1001 : Int32).toInt = -1001 ∧ zI = zI) from (fun _ => ⟨by decide, rfl⟩)), (show FQ3 (zI (zR zy 0)) (zI (zR zy 0)) from FQ3.rf), (show ZI (zI (zR zy 0)) from hz)⟩, ⟨by rw [ht]; exact hP, va_K.moved hW.alike hK, hD⟩⟩, hS.F ht⟩) hS.2.2 dX11_rain_18
  · have f_5 : 0 ≤ zia.toInt ∧ zia.toInt ≤ 23 := bz_1 hw_2 c_4
    refine lv_iload_n hx hb dX11_rain_7 rfl (lv_at hl 2 rfl) ?_
    refine lv_iload_n hx hb dX11_rain_8 rfl (lv_at hl 3 rfl) ?_
    refine hj0_i (ws := (WL cy zL zT zR zI zJ)) (va_runS (As := [.int zib, .int zic]) (rest := []) ⟨hx, hb, hml, hown, hts⟩ (c_X11_mayRain l dC dI cy H.size zib zic) (va_cwS 2 hts gX11_rain_X11_mayRain rfl rfl rfl (by decide +kernel) ⟨(Nat.le_of_ble_eq_true rfl), (Nat.le_of_ble_eq_true rfl)⟩) (PRE.s (hP.sub [] rfl) hK (hD.sub [] (by decide) rfl) hN) rfl rfl hl.1 rfl (lv_room (Nat.le_of_ble_eq_true rfl)) dX11_rain_9 ⟨(Nat.le_of_ble_eq_true rfl), (Nat.le_of_ble_eq_true rfl)⟩) hP hD hS hA (fun zi_6 u_8 H locs hw_7 hP hD hS => ?_)
    have hw_7 : zi_6 = if (0 ≤ zib.toInt ∧ zib.toInt ≤ 2) ∧ ((zib.toInt = 1 ∧ -20 ≤ zic.toInt ∧ zic.toInt ≤ 20) ∨ (¬ zib.toInt = 1 ∧ 0 ≤ zic.toInt ∧ zic.toInt ≤ 9)) then 1 else 0 := hw_7
    have b_zi_6 : 0 ≤ zi_6.toInt ∧ zi_6.toInt ≤ 1 := bz_b hw_7
    refine lv_if_ne (tgt := 19) hx hb dX11_rain_12 (by decide) (fun c_9 => ?_) (fun c_9 => ?_)
    · have f_10 : (0 ≤ zib.toInt ∧ zib.toInt ≤ 2) ∧ ((zib.toInt = 1 ∧ -20 ≤ zic.toInt ∧ zic.toInt ≤ 20) ∨ (¬ zib.toInt = 1 ∧ 0 ≤ zic.toInt ∧ zic.toInt ≤ 9)) := bz_1 hw_7 c_9
      refine lv_aload_n hx hb dX11_rain_19 rfl (lv_at hl 0 rfl) ?_
      refine ht_getr (C := RX11) (T := TX11) (N := 28) hx hb hts (by decide +kernel) hown hK hP hs t_zy (by decide) rfl rfl 0 (by decide) (hts (.fieldLink RX11 7 "DripStoneModel" "z" "[I") (by decide +kernel)) (fun _ h9 => h9) rfl dX11_rain_20 ?_
      have t_11 : zT (zR zy 0) = 100 := sk_f hs t_zy (by decide) rfl (by decide)
      refine lv_bipush (v := 20) hx hb dX11_rain_23 (by decide) ?_
      refine lv_iconst (v := 3) hx hb dX11_rain_25 (by decide) ?_
      refine lv_iload_n hx hb dX11_rain_26 rfl (lv_at hl 1 rfl) ?_
      refine lv_imul hx hb dX11_rain_27 ?_
      refine lv_topi (fun zi_12 ezi_12 => ?_)
      have tzi_12 : zi_12.toInt = (3 : Int) * zia.toInt := by rw [ezi_12]; exact timul (show (3 : Int32).toInt = 3 by decide) (rfl) (by omega) (by omega)
      refine lv_iadd hx hb dX11_rain_28 ?_
      refine lv_topi (fun zi_13 ezi_13 => ?_)
      have tzi_13 : zi_13.toInt = (20 : Int) + zi_12.toInt := by rw [ezi_13]; exact tiadd (show (20 : Int32).toInt = 20 by decide) (rfl) (by omega) (by omega)
      refine lv_iload_n hx hb dX11_rain_29 rfl (lv_at hl 2 rfl) ?_
      refine lv_iadd hx hb dX11_rain_30 ?_
      refine lv_topi (fun zi_14 ezi_14 => ?_)
      have tzi_14 : zi_14.toInt = zi_13.toInt + zib.toInt := by rw [ezi_14]; exact tiadd (rfl) (rfl) (by omega) (by omega)
      refine ht_iald (n := 392) (q := 0) hx hb hK hP hs t_11 (by decide) rfl rfl ⟨by omega, by omega⟩ dX11_rain_31 ?_
      refine lv_topi (fun zi_15 ezi_15 => ?_)
      have la_16 : zi_15.toInt = zA (zI (zR zy 0)) (20 + 3 * zia.toInt + zib.toInt) := (congrArg Int32.toInt (show zI (zR zy 0) zi_14.toNatClampNeg = zi_15 from ezi_15.symm).symm).trans (congrArg (zA (zI (zR zy 0))) (show zi_14.toInt = 20 + 3 * zia.toInt + zib.toInt from by omega))
      refine lv_istore (lv' := [(4, .int zi_15), (0, .ref zy), (1, .int zia), (2, .int zib), (3, .int zic)]) hx hb dX11_rain_32 hl (by decide) rfl (fun ls hl => ?_)
      refine lv_aload_n hx hb dX11_rain_34 rfl (lv_at hl 1 rfl) ?_
      refine ht_getr (C := RX11) (T := TX11) (N := 28) hx hb hts (by decide +kernel) hown hK hP hs t_zy (by decide) rfl rfl 0 (by decide) (hts (.fieldLink RX11 7 "DripStoneModel" "z" "[I") (by decide +kernel)) (fun _ h9 => h9) rfl dX11_rain_35 ?_
      refine lv_bipush (v := 20) hx hb dX11_rain_38 (by decide) ?_
      refine lv_iconst (v := 3) hx hb dX11_rain_40 (by decide) ?_
      refine lv_iload_n hx hb dX11_rain_41 rfl (lv_at hl 2 rfl) ?_
      refine lv_imul hx hb dX11_rain_42 ?_
      refine lv_topi (fun zi_17 ezi_17 => ?_)
      have tzi_17 : zi_17.toInt = (3 : Int) * zia.toInt := by rw [ezi_17]; exact timul (show (3 : Int32).toInt = 3 by decide) (rfl) (by omega) (by omega)
      refine lv_iadd hx hb dX11_rain_43 ?_
      refine lv_topi (fun zi_18 ezi_18 => ?_)
      have tzi_18 : zi_18.toInt = (20 : Int) + zi_17.toInt := by rw [ezi_18]; exact tiadd (show (20 : Int32).toInt = 20 by decide) (rfl) (by omega) (by omega)
      refine lv_iload_n hx hb dX11_rain_44 rfl (lv_at hl 3 rfl) ?_
      refine lv_iadd hx hb dX11_rain_45 ?_
      refine lv_topi (fun zi_19 ezi_19 => ?_)
      have tzi_19 : zi_19.toInt = zi_18.toInt + zib.toInt := by rw [ezi_19]; exact tiadd (rfl) (rfl) (by omega) (by omega)
      refine lv_iload_n hx hb dX11_rain_46 rfl (lv_at hl 4 rfl) ?_
      refine ht_iast (v := zic) (n := 392) (q := 0) hx hb hK hP hD hS hs t_11 (by decide) rfl rfl ⟨by omega, by omega⟩ dX11_rain_47 (fun H locs hP hD hS => ?_)
      have h_zI_20 : WM [10000] AL zT zR zI (u2 zI (zR zy 0) zi_19.toNatClampNeg zic) := h_zI.putA hs t_11 rfl (rgF _) (by decide) (fun h => absurd h (by decide)) (by decide) trivial
      generalize uzI_20 : u2 zI (zR zy 0) zi_19.toNatClampNeg zic = zI_20 at hP hD h_zI_20
      have z_zI_20 : ZI (zI_20 (zR zy 0)) := by rw [← uzI_20, u2_r]; exact ZI.fr hz (by omega)
      have fq_zI_20 : FQ3 (zI (zR zy 0)) (zI_20 (zR zy 0)) := by rw [← uzI_20, u2_r]; exact FQ3.up FQ3.rf (by omega) (by omega)
      refine lv_iload hx hb dX11_rain_48 (lv_at hl 0 rfl) ?_
      subst hQ
      exact W.iret (v := zi_15) hx hb hr (fun t ht hW => ⟨⟨zi_15, zI_20, rfl, ⟨h_zI_20, (show RNok zia.toInt zib.toInt zic.toInt → (zi_15.toInt = zA (zI (zR zy 0)) (20 + 3 * zia.toInt + zib.toInt) ∧ zA (zI_20 (zR zy 0)) (20 + 3 * zia.toInt + zib.toInt) = zic.toInt ∧ FE (zI (zR zy 0)) (zI_20 (zR zy 0)) (20 + 3 * zia.toInt + zib.toInt)) from (fun _ => ⟨by omega, by rw [← uzI_20, u2_r]; exact (FE.up (by omega) (by omega)).2, by rw [← uzI_20, u2_r]; exact (FE.up (by omega) (by omega)).1⟩)), (show ¬ (RNok zia.toInt zib.toInt zic.toInt) → (zi_15.toInt = -1001 ∧ zI_20 = zI) from (fun h9 => absurd (show RNok zia.toInt zib.toInt zic.toInt from by unfold RNok; omega) h9)), (show FQ3 (zI (zR zy 0)) (zI_20 (zR zy 0)) from fq_zI_20), (show ZI (zI_20 (zR zy 0)) from z_zI_20)⟩, ⟨by rw [ht]; exact hP, va_K.moved hW.alike hK, hD⟩⟩, hS.F ht⟩) hS.2.2 dX11_rain_50
    · have f_10 : ¬ ((0 ≤ zib.toInt ∧ zib.toInt ≤ 2) ∧ ((zib.toInt = 1 ∧ -20 ≤ zic.toInt ∧ zic.toInt ≤ 20) ∨ (¬ zib.toInt = 1 ∧ 0 ≤ zic.toInt ∧ zic.toInt ≤ 9))) := bz_0 hw_7 c_9
      refine lv_sipush (v := (-1001)) hx hb dX11_rain_15 (by decide) ?_
      subst hQ
      exact W.iret (v := (-1001 : Int32)) hx hb hr (fun t ht hW => ⟨⟨(-1001 : Int32), zI, rfl, ⟨h_zI, (show RNok zia.toInt zib.toInt zic.toInt → ((-1001 : Int32).toInt = zA (zI (zR zy 0)) (20 + 3 * zia.toInt + zib.toInt) ∧ zA (zI (zR zy 0)) (20 + 3 * zia.toInt + zib.toInt) = zic.toInt ∧ FE (zI (zR zy 0)) (zI (zR zy 0)) (20 + 3 * zia.toInt + zib.toInt)) from (fun h9 => absurd h9 (by unfold RNok; omega))), (show ¬ (RNok zia.toInt zib.toInt zic.toInt) → ((-1001 : Int32).toInt = -1001 ∧ zI = zI) from (fun _ => ⟨by decide, rfl⟩)), (show FQ3 (zI (zR zy 0)) (zI (zR zy 0)) from FQ3.rf), (show ZI (zI (zR zy 0)) from hz)⟩, ⟨by rw [ht]; exact hP, va_K.moved hW.alike hK, hD⟩⟩, hS.F ht⟩) hS.2.2 dX11_rain_18
set_option maxHeartbeats 8000000 in
set_option maxRecDepth 100000 in
theorem t_X11_set (l : Launch) (dC : Nat → ClassId) (dI : Nat → Nat → Nat) (cy : Nat → ClassId) (sz : Nat) (zL : List Nat) (zT : Nat → Nat) (zR : Nat → Nat → Nat) (zI : Nat → Nat → Int32) (zJ : Nat → Nat → Int64) (zy : Nat) (zia : Int32) (zib : Int32) (hs : SKP zL zT zR) (hw : WT zT zR zI) (t_zy : zT zy = 18) (hz : ZI (zI (zR zy 0))) : Met l yX11_set wsX11_set ({ frames := 1, cells := 0, slots := 0, locals := 25 } : Room) (va_Pc [.ref zy, .int zia, .int zib] (PRE dC dI cy (WL cy zL zT zR zI zJ) sz)) (va_Qi (fun (r : Int32) (u : (Nat → Nat → Int32)) => (WM [10000] AL zT zR zI u) ∧ ((-1) ≤ r.toInt ∧ r.toInt ≤ 9) ∧ (STok zia.toInt zib.toInt → (r.toInt = zA (zI (zR zy 0)) (zia.toInt) ∧ zA (u (zR zy 0)) (zia.toInt) = zib.toInt ∧ FE (zI (zR zy 0)) (u (zR zy 0)) (zia.toInt))) ∧ (¬ (STok zia.toInt zib.toInt) → (r.toInt = -1 ∧ u = zI)) ∧ (ZI (u (zR zy 0)))) (fun u t => POST dC dI cy (va_A (WL cy zL zT zR zI zJ) sz) (WL cy zL zT zR u zJ) t) (va_A (WL cy zL zT zR zI zJ) sz)) 0 0 (va_A (WL cy zL zT zR zI zJ) sz) := by
  refine Met.ofW (cc := cX11_set) (maxL := 4) (ret := (some .int)) (by decide) rfl ?_
  intro p e s m args below meth c s₁ B hml hv
  obtain ⟨rfl, hsz, hP, hK, hD0, hN⟩ := hv
  have hx := B.exec
  have hb := B.bytes
  have hr := B.returns
  have hts := atoms_spec (ws := wsX11_set) B.pre
  have hown : s.vm.findClass RX11 = some m.cls := findClass_of_methodNamed B.named
  have hlocks := B.notSynchronized
  subst hsz
  have hD := hD0.self (sz := s.heap.size)
  generalize hAe : va_A (WL cy zL zT zR zI zJ) s.heap.size = A at hD ⊢
  have hA : ∀ q : Nat, s.heap.size ≤ q → A q := fun q h => by rw [← hAe]; exact Or.inr h
  have hS : va_S A s.heap s.heap [] := va_S.rf
  have hP : va_P (dC, dI) vwCl (WL cy zL zT zR zI zJ) s.heap := hP
  have hl := lv_entry ([.ref zy, .int zia, .int zib] : List Value) (n := 4) (Nat.le_of_ble_eq_true rfl)
  rw [lg_entry_eq]
  generalize (lg_sl ([.ref zy, .int zia, .int zib] : List Value) ++ List.replicate (4 - (lg_sl ([.ref zy, .int zia, .int zib] : List Value)).length) Slot.unset).toArray = ls at hl ⊢
  have hl : lv_has ls 4 [(0, .ref zy), (1, .int zia), (2, .int zib)] := hl
  refine w_q (fun Q hQ => ?_)
  have h_zI : WM [10000] AL zT zR zI zI := WM.rf hw
  refine lv_iload_n hx hb dX11_set_0 rfl (lv_at hl 1 rfl) ?_
  refine lv_if_ne (tgt := 19) hx hb dX11_set_1 (by decide) (fun c_1 => ?_) (fun c_1 => ?_)
  · have f_2 : zia.toInt ≠ 0 := ic_ne (rfl) (by decide) c_1
    refine lv_iload_n hx hb dX11_set_19 rfl (lv_at hl 1 rfl) ?_
    refine lv_iconst (v := 1) hx hb dX11_set_20 (by decide) ?_
    refine lv_icmp_ne (tgt := 36) hx hb dX11_set_21 (by decide) (fun c_3 => ?_) (fun c_3 => ?_)
    · have f_4 : zia.toInt ≠ (1 : Int) := ic_ne (rfl) (show (1 : Int32).toInt = 1 by decide) c_3
      refine lv_iconst (v := (-1)) hx hb dX11_set_36 (by decide) ?_
      subst hQ
      have qc_m1 : (-1 : Int32).toInt = -1 := by decide
      exact W.iret (v := (-1 : Int32)) hx hb hr (fun t ht hW => ⟨⟨(-1 : Int32), zI, rfl, ⟨h_zI, (show (-1) ≤ (-1 : Int32).toInt ∧ (-1 : Int32).toInt ≤ 9 from by omega), (show STok zia.toInt zib.toInt → ((-1 : Int32).toInt = zA (zI (zR zy 0)) (zia.toInt) ∧ zA (zI (zR zy 0)) (zia.toInt) = zib.toInt ∧ FE (zI (zR zy 0)) (zI (zR zy 0)) (zia.toInt)) from (fun h9 => absurd h9 (by unfold STok; omega))), (show ¬ (STok zia.toInt zib.toInt) → ((-1 : Int32).toInt = -1 ∧ zI = zI) from (fun _ => ⟨by decide, rfl⟩)), (show ZI (zI (zR zy 0)) from hz)⟩, ⟨by rw [ht]; exact hP, va_K.moved hW.alike hK, hD⟩⟩, hS.F ht⟩) hS.2.2 dX11_set_37
    · have f_4 : ¬ (zia.toInt ≠ (1 : Int)) := ic_nne (rfl) (show (1 : Int32).toInt = 1 by decide) c_3
      refine lv_iload_n hx hb dX11_set_24 rfl (lv_at hl 2 rfl) ?_
      refine lv_i2l (v := zib.toInt64) hx hb dX11_set_25 rfl ?_
      refine lv_topl (fun zj_5 ezj_5 => ?_)
      have tzj_5 : zj_5.toInt = zib.toInt := by rw [ezj_5]; exact Int32.toInt_toInt64 _
      refine lv_lconst (v := 1) hx hb dX11_set_26 (by decide) ?_
      refine lv_ldc2 (v := 9) hx hb hown (hts (.constantLong RX11 74 9) (by decide +kernel)) dX11_set_27 ?_
      refine hj0_i (ws := (WL cy zL zT zR zI zJ)) (va_runS (As := [.long zj_5, .long 1, .long 9]) (rest := []) ⟨hx, hb, hml, hown, hts⟩ (c_X11_in l dC dI cy s.heap.size zj_5 1 9 1 9 zj_5.toInt (by first | rfl | decide | omega | exact Int32.toInt_toInt64 _) (by first | rfl | decide | omega | exact Int32.toInt_toInt64 _) (by first | rfl | decide | omega | exact Int32.toInt_toInt64 _)) (va_cwS 3 hts gX11_set_X11_in rfl rfl rfl (by decide +kernel) ⟨(Nat.le_of_ble_eq_true rfl), (Nat.le_of_ble_eq_true rfl)⟩) (PRE.s (hP.sub [] rfl) hK (hD.sub [] (by decide) rfl) hN) rfl rfl hl.1 rfl (lv_room (Nat.le_of_ble_eq_true rfl)) dX11_set_30 ⟨(Nat.le_of_ble_eq_true rfl), (Nat.le_of_ble_eq_true rfl)⟩) hP hD hS hA (fun zi_6 u_8 H locs hw_7 hP hD hS => ?_)
      have hw_7 : zi_6 = if 1 ≤ zj_5.toInt ∧ zj_5.toInt ≤ 9 then 1 else 0 := hw_7
      have b_zi_6 : 0 ≤ zi_6.toInt ∧ zi_6.toInt ≤ 1 := bz_b hw_7
      refine lv_if_ne (tgt := 38) hx hb dX11_set_33 (by decide) (fun c_9 => ?_) (fun c_9 => ?_)
      · have f_10 : 1 ≤ zj_5.toInt ∧ zj_5.toInt ≤ 9 := bz_1 hw_7 c_9
        refine lv_aload_n hx hb dX11_set_38 rfl (lv_at hl 0 rfl) ?_
        refine ht_getr (C := RX11) (T := TX11) (N := 28) hx hb hts (by decide +kernel) hown hK hP hs t_zy (by decide) rfl rfl 0 (by decide) (hts (.fieldLink RX11 7 "DripStoneModel" "z" "[I") (by decide +kernel)) (fun _ h9 => h9) rfl dX11_set_39 ?_
        have t_11 : zT (zR zy 0) = 100 := sk_f hs t_zy (by decide) rfl (by decide)
        refine lv_iconst (v := 0) hx hb dX11_set_42 (by decide) ?_
        refine lv_iload_n hx hb dX11_set_43 rfl (lv_at hl 1 rfl) ?_
        refine lv_iadd hx hb dX11_set_44 ?_
        refine lv_topi (fun zi_12 ezi_12 => ?_)
        have tzi_12 : zi_12.toInt = (0 : Int) + zia.toInt := by rw [ezi_12]; exact tiadd (show (0 : Int32).toInt = 0 by decide) (rfl) (by omega) (by omega)
        refine ht_iald (n := 392) (q := 0) hx hb hK hP hs t_11 (by decide) rfl rfl ⟨by omega, by omega⟩ dX11_set_45 ?_
        refine lv_topi (fun zi_13 ezi_13 => ?_)
        have la_14 : zi_13.toInt = zA (zI (zR zy 0)) (zia.toInt) := (congrArg Int32.toInt (show zI (zR zy 0) zi_12.toNatClampNeg = zi_13 from ezi_13.symm).symm).trans (congrArg (zA (zI (zR zy 0))) (show zi_12.toInt = zia.toInt from by omega))
        have tz_15 : 1 ≤ zi_13.toInt ∧ zi_13.toInt ≤ 9 := by rw [← (show zI (zR zy 0) zi_12.toNatClampNeg = zi_13 from ezi_13.symm)]; exact ZI.g1 hz (by omega) (by omega)
        refine lv_istore_n (lv' := [(3, .int zi_13), (0, .ref zy), (1, .int zia), (2, .int zib)]) hx hb dX11_set_46 rfl hl (by decide) rfl (fun ls hl => ?_)
        refine lv_aload_n hx hb dX11_set_47 rfl (lv_at hl 1 rfl) ?_
        refine ht_getr (C := RX11) (T := TX11) (N := 28) hx hb hts (by decide +kernel) hown hK hP hs t_zy (by decide) rfl rfl 0 (by decide) (hts (.fieldLink RX11 7 "DripStoneModel" "z" "[I") (by decide +kernel)) (fun _ h9 => h9) rfl dX11_set_48 ?_
        refine lv_iconst (v := 0) hx hb dX11_set_51 (by decide) ?_
        refine lv_iload_n hx hb dX11_set_52 rfl (lv_at hl 2 rfl) ?_
        refine lv_iadd hx hb dX11_set_53 ?_
        refine lv_topi (fun zi_16 ezi_16 => ?_)
        have tzi_16 : zi_16.toInt = (0 : Int) + zia.toInt := by rw [ezi_16]; exact tiadd (show (0 : Int32).toInt = 0 by decide) (rfl) (by omega) (by omega)
        refine lv_iload_n hx hb dX11_set_54 rfl (lv_at hl 3 rfl) ?_
        refine ht_iast (v := zib) (n := 392) (q := 0) hx hb hK hP hD hS hs t_11 (by decide) rfl rfl ⟨by omega, by omega⟩ dX11_set_55 (fun H locs hP hD hS => ?_)
        have h_zI_17 : WM [10000] AL zT zR zI (u2 zI (zR zy 0) zi_16.toNatClampNeg zib) := h_zI.putA hs t_11 rfl (rgF _) (by decide) (fun h => absurd h (by decide)) (by decide) trivial
        generalize uzI_17 : u2 zI (zR zy 0) zi_16.toNatClampNeg zib = zI_17 at hP hD h_zI_17
        have z_zI_17 : ZI (zI_17 (zR zy 0)) := by rw [← uzI_17, u2_r]; exact ZI.sm hz (by omega) (by unfold RR; omega)
        refine lv_iload_n hx hb dX11_set_56 rfl (lv_at hl 0 rfl) ?_
        subst hQ
        exact W.iret (v := zi_13) hx hb hr (fun t ht hW => ⟨⟨zi_13, zI_17, rfl, ⟨h_zI_17, (show (-1) ≤ zi_13.toInt ∧ zi_13.toInt ≤ 9 from by omega), (show STok zia.toInt zib.toInt → (zi_13.toInt = zA (zI (zR zy 0)) (zia.toInt) ∧ zA (zI_17 (zR zy 0)) (zia.toInt) = zib.toInt ∧ FE (zI (zR zy 0)) (zI_17 (zR zy 0)) (zia.toInt)) from (fun _ => ⟨by omega, by rw [← uzI_17, u2_r]; exact (FE.up (by omega) (by omega)).2, by rw [← uzI_17, u2_r]; exact (FE.up (by omega) (by omega)).1⟩)), (show ¬ (STok zia.toInt zib.toInt) → (zi_13.toInt = -1 ∧ zI_17 = zI) from (fun h9 => absurd (show STok zia.toInt zib.toInt from by unfold STok; omega) h9)), (show ZI (zI_17 (zR zy 0)) from z_zI_17)⟩, ⟨by rw [ht]; exact hP, va_K.moved hW.alike hK, hD⟩⟩, hS.F ht⟩) hS.2.2 dX11_set_57
      · have f_10 : ¬ (1 ≤ zj_5.toInt ∧ zj_5.toInt ≤ 9) := bz_0 hw_7 c_9
        refine lv_iconst (v := (-1)) hx hb dX11_set_36 (by decide) ?_
        subst hQ
        have qc_m1 : (-1 : Int32).toInt = -1 := by decide
        exact W.iret (v := (-1 : Int32)) hx hb hr (fun t ht hW => ⟨⟨(-1 : Int32), zI, rfl, ⟨h_zI, (show (-1) ≤ (-1 : Int32).toInt ∧ (-1 : Int32).toInt ≤ 9 from by omega), (show STok zia.toInt zib.toInt → ((-1 : Int32).toInt = zA (zI (zR zy 0)) (zia.toInt) ∧ zA (zI (zR zy 0)) (zia.toInt) = zib.toInt ∧ FE (zI (zR zy 0)) (zI (zR zy 0)) (zia.toInt)) from (fun h9 => absurd h9 (by unfold STok; omega))), (show ¬ (STok zia.toInt zib.toInt) → ((-1 : Int32).toInt = -1 ∧ zI = zI) from (fun _ => ⟨by decide, rfl⟩)), (show ZI (zI (zR zy 0)) from hz)⟩, ⟨by rw [ht]; exact hP, va_K.moved hW.alike hK, hD⟩⟩, hS.F ht⟩) hS.2.2 dX11_set_37
  · have f_2 : ¬ (zia.toInt ≠ 0) := ic_nne (rfl) (by decide) c_1
    refine lv_iload_n hx hb dX11_set_4 rfl (lv_at hl 2 rfl) ?_
    refine lv_i2l (v := zib.toInt64) hx hb dX11_set_5 rfl ?_
    refine lv_topl (fun zj_18 ezj_18 => ?_)
    have tzj_18 : zj_18.toInt = zib.toInt := by rw [ezj_18]; exact Int32.toInt_toInt64 _
    refine lv_lconst (v := 1) hx hb dX11_set_6 (by decide) ?_
    refine lv_ldc2 (v := 5) hx hb hown (hts (.constantLong RX11 88 5) (by decide +kernel)) dX11_set_7 ?_
    refine hj0_i (ws := (WL cy zL zT zR zI zJ)) (va_runS (As := [.long zj_18, .long 1, .long 5]) (rest := []) ⟨hx, hb, hml, hown, hts⟩ (c_X11_in l dC dI cy s.heap.size zj_18 1 5 1 5 zj_18.toInt (by first | rfl | decide | omega | exact Int32.toInt_toInt64 _) (by first | rfl | decide | omega | exact Int32.toInt_toInt64 _) (by first | rfl | decide | omega | exact Int32.toInt_toInt64 _)) (va_cwS 3 hts gX11_set_X11_in rfl rfl rfl (by decide +kernel) ⟨(Nat.le_of_ble_eq_true rfl), (Nat.le_of_ble_eq_true rfl)⟩) (PRE.s (hP.sub [] rfl) hK (hD.sub [] (by decide) rfl) hN) rfl rfl hl.1 rfl (lv_room (Nat.le_of_ble_eq_true rfl)) dX11_set_10 ⟨(Nat.le_of_ble_eq_true rfl), (Nat.le_of_ble_eq_true rfl)⟩) hP hD hS hA (fun zi_19 u_21 H locs hw_20 hP hD hS => ?_)
    have hw_20 : zi_19 = if 1 ≤ zj_18.toInt ∧ zj_18.toInt ≤ 5 then 1 else 0 := hw_20
    have b_zi_19 : 0 ≤ zi_19.toInt ∧ zi_19.toInt ≤ 1 := bz_b hw_20
    refine lv_if_ne (tgt := 38) hx hb dX11_set_13 (by decide) (fun c_22 => ?_) (fun c_22 => ?_)
    · have f_23 : 1 ≤ zj_18.toInt ∧ zj_18.toInt ≤ 5 := bz_1 hw_20 c_22
      refine lv_aload_n hx hb dX11_set_38 rfl (lv_at hl 0 rfl) ?_
      refine ht_getr (C := RX11) (T := TX11) (N := 28) hx hb hts (by decide +kernel) hown hK hP hs t_zy (by decide) rfl rfl 0 (by decide) (hts (.fieldLink RX11 7 "DripStoneModel" "z" "[I") (by decide +kernel)) (fun _ h9 => h9) rfl dX11_set_39 ?_
      have t_24 : zT (zR zy 0) = 100 := sk_f hs t_zy (by decide) rfl (by decide)
      refine lv_iconst (v := 0) hx hb dX11_set_42 (by decide) ?_
      refine lv_iload_n hx hb dX11_set_43 rfl (lv_at hl 1 rfl) ?_
      refine lv_iadd hx hb dX11_set_44 ?_
      refine lv_topi (fun zi_25 ezi_25 => ?_)
      have tzi_25 : zi_25.toInt = (0 : Int) + zia.toInt := by rw [ezi_25]; exact tiadd (show (0 : Int32).toInt = 0 by decide) (rfl) (by omega) (by omega)
      refine ht_iald (n := 392) (q := 0) hx hb hK hP hs t_24 (by decide) rfl rfl ⟨by omega, by omega⟩ dX11_set_45 ?_
      refine lv_topi (fun zi_26 ezi_26 => ?_)
      have la_27 : zi_26.toInt = zA (zI (zR zy 0)) (zia.toInt) := (congrArg Int32.toInt (show zI (zR zy 0) zi_25.toNatClampNeg = zi_26 from ezi_26.symm).symm).trans (congrArg (zA (zI (zR zy 0))) (show zi_25.toInt = zia.toInt from by omega))
      have tz_28 : 1 ≤ zi_26.toInt ∧ zi_26.toInt ≤ 5 := by rw [← (show zI (zR zy 0) zi_25.toNatClampNeg = zi_26 from ezi_26.symm)]; exact ZI.g0 hz (by omega) (by omega)
      refine lv_istore_n (lv' := [(3, .int zi_26), (0, .ref zy), (1, .int zia), (2, .int zib)]) hx hb dX11_set_46 rfl hl (by decide) rfl (fun ls hl => ?_)
      refine lv_aload_n hx hb dX11_set_47 rfl (lv_at hl 1 rfl) ?_
      refine ht_getr (C := RX11) (T := TX11) (N := 28) hx hb hts (by decide +kernel) hown hK hP hs t_zy (by decide) rfl rfl 0 (by decide) (hts (.fieldLink RX11 7 "DripStoneModel" "z" "[I") (by decide +kernel)) (fun _ h9 => h9) rfl dX11_set_48 ?_
      refine lv_iconst (v := 0) hx hb dX11_set_51 (by decide) ?_
      refine lv_iload_n hx hb dX11_set_52 rfl (lv_at hl 2 rfl) ?_
      refine lv_iadd hx hb dX11_set_53 ?_
      refine lv_topi (fun zi_29 ezi_29 => ?_)
      have tzi_29 : zi_29.toInt = (0 : Int) + zia.toInt := by rw [ezi_29]; exact tiadd (show (0 : Int32).toInt = 0 by decide) (rfl) (by omega) (by omega)
      refine lv_iload_n hx hb dX11_set_54 rfl (lv_at hl 3 rfl) ?_
      refine ht_iast (v := zib) (n := 392) (q := 0) hx hb hK hP hD hS hs t_24 (by decide) rfl rfl ⟨by omega, by omega⟩ dX11_set_55 (fun H locs hP hD hS => ?_)
      have h_zI_30 : WM [10000] AL zT zR zI (u2 zI (zR zy 0) zi_29.toNatClampNeg zib) := h_zI.putA hs t_24 rfl (rgF _) (by decide) (fun h => absurd h (by decide)) (by decide) trivial
      generalize uzI_30 : u2 zI (zR zy 0) zi_29.toNatClampNeg zib = zI_30 at hP hD h_zI_30
      have z_zI_30 : ZI (zI_30 (zR zy 0)) := by rw [← uzI_30, u2_r]; exact ZI.sm hz (by omega) (by unfold RR; omega)
      refine lv_iload_n hx hb dX11_set_56 rfl (lv_at hl 0 rfl) ?_
      subst hQ
      exact W.iret (v := zi_26) hx hb hr (fun t ht hW => ⟨⟨zi_26, zI_30, rfl, ⟨h_zI_30, (show (-1) ≤ zi_26.toInt ∧ zi_26.toInt ≤ 9 from by omega), (show STok zia.toInt zib.toInt → (zi_26.toInt = zA (zI (zR zy 0)) (zia.toInt) ∧ zA (zI_30 (zR zy 0)) (zia.toInt) = zib.toInt ∧ FE (zI (zR zy 0)) (zI_30 (zR zy 0)) (zia.toInt)) from (fun _ => ⟨by omega, by rw [← uzI_30, u2_r]; exact (FE.up (by omega) (by omega)).2, by rw [← uzI_30, u2_r]; exact (FE.up (by omega) (by omega)).1⟩)), (show ¬ (STok zia.toInt zib.toInt) → (zi_26.toInt = -1 ∧ zI_30 = zI) from (fun h9 => absurd (show STok zia.toInt zib.toInt from by unfold STok; omega) h9)), (show ZI (zI_30 (zR zy 0)) from z_zI_30)⟩, ⟨by rw [ht]; exact hP, va_K.moved hW.alike hK, hD⟩⟩, hS.F ht⟩) hS.2.2 dX11_set_57
    · have f_23 : ¬ (1 ≤ zj_18.toInt ∧ zj_18.toInt ≤ 5) := bz_0 hw_20 c_22
      refine lv_goto (tgt := 36) hx hb dX11_set_16 (by decide) ?_
      refine lv_iconst (v := (-1)) hx hb dX11_set_36 (by decide) ?_
      subst hQ
      have qc_m1 : (-1 : Int32).toInt = -1 := by decide
      exact W.iret (v := (-1 : Int32)) hx hb hr (fun t ht hW => ⟨⟨(-1 : Int32), zI, rfl, ⟨h_zI, (show (-1) ≤ (-1 : Int32).toInt ∧ (-1 : Int32).toInt ≤ 9 from by omega), (show STok zia.toInt zib.toInt → ((-1 : Int32).toInt = zA (zI (zR zy 0)) (zia.toInt) ∧ zA (zI (zR zy 0)) (zia.toInt) = zib.toInt ∧ FE (zI (zR zy 0)) (zI (zR zy 0)) (zia.toInt)) from (fun h9 => absurd h9 (by unfold STok; omega))), (show ¬ (STok zia.toInt zib.toInt) → ((-1 : Int32).toInt = -1 ∧ zI = zI) from (fun _ => ⟨by decide, rfl⟩)), (show ZI (zI (zR zy 0)) from hz)⟩, ⟨by rw [ht]; exact hP, va_K.moved hW.alike hK, hD⟩⟩, hS.F ht⟩) hS.2.2 dX11_set_37
set_option maxHeartbeats 8000000 in
set_option maxRecDepth 100000 in
theorem t_X11_type (l : Launch) (dC : Nat → ClassId) (dI : Nat → Nat → Nat) (cy : Nat → ClassId) (sz : Nat) (zL : List Nat) (zT : Nat → Nat) (zR : Nat → Nat → Nat) (zI : Nat → Nat → Int32) (zJ : Nat → Nat → Int64) (zy : Nat) (zja : Int64) (zib : Int32) (hs : SKP zL zT zR) (hw : WT zT zR zI) (t_zy : zT zy = 18) : Met l yX11_type wsX11_type ({ frames := 1, cells := 0, slots := 0, locals := 25 } : Room) (va_Pc [.ref zy, .long zja, .int zib] (PRE dC dI cy (WL cy zL zT zR zI zJ) sz)) (va_Qi (fun (r : Int32) (u : (Nat → Nat → Int32)) => (WM [1802, 10100] AL zT zR zI u) ∧ ((-3) ≤ r.toInt ∧ r.toInt ≤ 80)) (fun u t => POST dC dI cy (va_A (WL cy zL zT zR zI zJ) sz) (WL cy zL zT zR u zJ) t) (va_A (WL cy zL zT zR zI zJ) sz)) 0 0 (va_A (WL cy zL zT zR zI zJ) sz) := by
  refine Met.ofW (cc := cX11_type) (maxL := 5) (ret := (some .int)) (by decide) rfl ?_
  intro p e s m args below meth c s₁ B hml hv
  obtain ⟨rfl, hsz, hP, hK, hD0, hN⟩ := hv
  have hx := B.exec
  have hb := B.bytes
  have hr := B.returns
  have hts := atoms_spec (ws := wsX11_type) B.pre
  have hown : s.vm.findClass RX11 = some m.cls := findClass_of_methodNamed B.named
  have hlocks := B.notSynchronized
  subst hsz
  have hD := hD0.self (sz := s.heap.size)
  generalize hAe : va_A (WL cy zL zT zR zI zJ) s.heap.size = A at hD ⊢
  have hA : ∀ q : Nat, s.heap.size ≤ q → A q := fun q h => by rw [← hAe]; exact Or.inr h
  have hS : va_S A s.heap s.heap [] := va_S.rf
  have hP : va_P (dC, dI) vwCl (WL cy zL zT zR zI zJ) s.heap := hP
  have hl := lv_entry ([.ref zy, .long zja, .int zib] : List Value) (n := 5) (Nat.le_of_ble_eq_true rfl)
  rw [lg_entry_eq]
  generalize (lg_sl ([.ref zy, .long zja, .int zib] : List Value) ++ List.replicate (5 - (lg_sl ([.ref zy, .long zja, .int zib] : List Value)).length) Slot.unset).toArray = ls at hl ⊢
  have hl : lv_has ls 5 [(0, .ref zy), (1, .long zja), (3, .int zib)] := hl
  refine w_q (fun Q hQ => ?_)
  have h_zI : WM [1802, 10100] AL zT zR zI zI := WM.rf hw
  refine lv_iload_n hx hb dX11_type_0 rfl (lv_at hl 2 rfl) ?_
  refine lv_i2l (v := zib.toInt64) hx hb dX11_type_1 rfl ?_
  refine lv_topl (fun zj_1 ezj_1 => ?_)
  have tzj_1 : zj_1.toInt = zib.toInt := by rw [ezj_1]; exact Int32.toInt_toInt64 _
  refine lv_lconst (v := 1) hx hb dX11_type_2 (by decide) ?_
  refine lv_ldc2 (v := 8) hx hb hown (hts (.constantLong RX11 104 8) (by decide +kernel)) dX11_type_3 ?_
  refine hj0_i (ws := (WL cy zL zT zR zI zJ)) (va_runS (As := [.long zj_1, .long 1, .long 8]) (rest := []) ⟨hx, hb, hml, hown, hts⟩ (c_X11_in l dC dI cy s.heap.size zj_1 1 8 1 8 zj_1.toInt (by first | rfl | decide | omega | exact Int32.toInt_toInt64 _) (by first | rfl | decide | omega | exact Int32.toInt_toInt64 _) (by first | rfl | decide | omega | exact Int32.toInt_toInt64 _)) (va_cwS 3 hts gX11_type_X11_in rfl rfl rfl (by decide +kernel) ⟨(Nat.le_of_ble_eq_true rfl), (Nat.le_of_ble_eq_true rfl)⟩) (PRE.s (hP.sub [] rfl) hK (hD.sub [] (by decide) rfl) hN) rfl rfl hl.1 rfl (lv_room (Nat.le_of_ble_eq_true rfl)) dX11_type_6 ⟨(Nat.le_of_ble_eq_true rfl), (Nat.le_of_ble_eq_true rfl)⟩) hP hD hS hA (fun zi_2 u_4 H locs hw_3 hP hD hS => ?_)
  have hw_3 : zi_2 = if 1 ≤ zj_1.toInt ∧ zj_1.toInt ≤ 8 then 1 else 0 := hw_3
  have b_zi_2 : 0 ≤ zi_2.toInt ∧ zi_2.toInt ≤ 1 := bz_b hw_3
  refine lv_if_ne (tgt := 14) hx hb dX11_type_9 (by decide) (fun c_5 => ?_) (fun c_5 => ?_)
  · have f_6 : 1 ≤ zj_1.toInt ∧ zj_1.toInt ≤ 8 := bz_1 hw_3 c_5
    refine lv_iload_n hx hb dX11_type_14 rfl (lv_at hl 2 rfl) ?_
    refine lv_iconst (v := 1) hx hb dX11_type_15 (by decide) ?_
    refine lv_isub hx hb dX11_type_16 ?_
    refine lv_topi (fun zi_7 ezi_7 => ?_)
    have tzi_7 : zi_7.toInt = zib.toInt - (1 : Int) := by rw [ezi_7]; exact tisub (rfl) (show (1 : Int32).toInt = 1 by decide) (by omega) (by omega)
    refine lv_istore (lv' := [(4, .int zi_7), (0, .ref zy), (1, .long zja), (3, .int zib)]) hx hb dX11_type_17 hl (by decide) rfl (fun ls hl => ?_)
    obtain ⟨zi_8, ezi_8⟩ : ∃ y : Int32, y = zI zy 2 := ⟨_, rfl⟩
    have tzi_8 : 0 ≤ zi_8.toInt ∧ zi_8.toInt ≤ 80 := by rw [ezi_8]; exact h_zI.at t_zy _ rfl
    have lzi_8 : (zI zy 2).toInt = zi_8.toInt := by rw [ezi_8]
    have lp_43 : ∀ (n : Nat) (zi_20 : Int32) (H : Heap) (locs : List Loc) (ls : Array Slot), (zi_20.toInt + 1).toNat = n → ((-1) ≤ zi_20.toInt ∧ zi_20.toInt ≤ 7) → (zI zy 2 = zi_8) → va_P (dC, dI) vwCl (WL cy zL zT zR zI zJ) H → va_D A (WL cy zL zT zR zI zJ) → va_S A s.heap H locs → lv_has ls 5 [(0, .ref zy), (1, .long zja), (3, .int zib), (4, .int zi_20)] → W p l e ({ frames := 1, cells := 0, slots := 0, locals := 25 } : Room) s m ([.ref zy, .long zja, .int zib] : List Value).toArray below meth c H locs 0 0 Q (F0 m 19 ls []) := by
      intro n
      induction n using Nat.strongRecOn with
      | _ n ih_43 =>
        intro zi_20 H locs ls hn b_zi_20 e_lp_43_0 hP hD hS hl
        refine lv_iload hx hb dX11_type_19 (lv_at hl 3 rfl) ?_
        refine lv_if_lt (tgt := 55) hx hb dX11_type_21 (by decide) (fun c_44 => ?_) (fun c_44 => ?_)
        · have f_45 : zi_20.toInt < 0 := ic_lt (rfl) (by decide) c_44
          refine lv_aload_n hx hb dX11_type_55 rfl (lv_at hl 0 rfl) ?_
          refine ht_geti (C := RX11) (T := TX11) (N := 28) hx hb hts (by decide +kernel) hown hK hP hs t_zy (by decide) rfl rfl 2 (by decide) (hts (.fieldLink RX11 112 "DripStoneModel" "taped" "I") (by decide +kernel)) (fun _ h9 => h9) rfl dX11_type_56 ?_
          refine lv_topi (fun zi_46 ezi_46 => ?_)
          obtain rfl : zi_8 = zi_46 := (ezi_46.trans e_lp_43_0).symm
          refine lv_iload_n hx hb dX11_type_59 rfl (lv_at hl 2 rfl) ?_
          refine lv_iadd hx hb dX11_type_60 ?_
          refine lv_topi (fun zi_47 ezi_47 => ?_)
          have tzi_47 : zi_47.toInt = zi_8.toInt + zib.toInt := by rw [ezi_47]; exact tiadd (rfl) (rfl) (by omega) (by omega)
          refine lv_bipush (v := 80) hx hb dX11_type_61 (by decide) ?_
          refine lv_icmp_le (tgt := 69) hx hb dX11_type_63 (by decide) (fun c_48 => ?_) (fun c_48 => ?_)
          · have f_49 : zi_47.toInt ≤ (80 : Int) := ic_le (rfl) (show (80 : Int32).toInt = 80 by decide) c_48
            refine lv_iload_n hx hb dX11_type_69 rfl (lv_at hl 2 rfl) ?_
            refine lv_iconst (v := 1) hx hb dX11_type_70 (by decide) ?_
            refine lv_isub hx hb dX11_type_71 ?_
            refine lv_topi (fun zi_50 ezi_50 => ?_)
            have tzi_50 : zi_50.toInt = zib.toInt - (1 : Int) := by rw [ezi_50]; exact tisub (rfl) (show (1 : Int32).toInt = 1 by decide) (by omega) (by omega)
            refine lv_istore (lv' := [(4, .int zi_50), (0, .ref zy), (1, .long zja), (3, .int zib)]) hx hb dX11_type_72 hl (by decide) rfl (fun ls hl => ?_)
            have lp_192 : ∀ (n : Nat) (zi_176 : Int32) (zI_177 : Nat → Nat → Int32) (zi_178 : Int32) (H : Heap) (locs : List Loc) (ls : Array Slot), (zi_176.toInt + 1).toNat = n → ((-1) ≤ zi_176.toInt ∧ zi_176.toInt ≤ 7) → (WM [1802, 10100] AL zT zR zI zI_177) → (0 ≤ zi_178.toInt ∧ zi_178.toInt ≤ 80) → (zi_178.toInt + zi_176.toInt ≤ 79) → (zI_177 zy 2 = zi_178) → va_P (dC, dI) vwCl (WL cy zL zT zR zI_177 zJ) H → va_D A (WL cy zL zT zR zI_177 zJ) → va_S A s.heap H locs → lv_has ls 5 [(0, .ref zy), (1, .long zja), (3, .int zib), (4, .int zi_176)] → W p l e ({ frames := 1, cells := 0, slots := 0, locals := 25 } : Room) s m ([.ref zy, .long zja, .int zib] : List Value).toArray below meth c H locs 0 0 Q (F0 m 74 ls []) := by
              intro n
              induction n using Nat.strongRecOn with
              | _ n ih_192 =>
                intro zi_176 zI_177 zi_178 H locs ls hn b_zi_176 h_zI_177 b_zi_178 e_lp_192_0 e_lp_192_1 hP hD hS hl
                refine lv_iload hx hb dX11_type_74 (lv_at hl 3 rfl) ?_
                refine lv_if_lt (tgt := 116) hx hb dX11_type_76 (by decide) (fun c_193 => ?_) (fun c_193 => ?_)
                · have f_194 : zi_176.toInt < 0 := ic_lt (rfl) (by decide) c_193
                  refine lv_aload_n hx hb dX11_type_116 rfl (lv_at hl 0 rfl) ?_
                  refine ht_geti (C := RX11) (T := TX11) (N := 28) hx hb hts (by decide +kernel) hown hK hP hs t_zy (by decide) rfl rfl 2 (by decide) (hts (.fieldLink RX11 112 "DripStoneModel" "taped" "I") (by decide +kernel)) (fun _ h9 => h9) rfl dX11_type_117 ?_
                  refine lv_topi (fun zi_195 ezi_195 => ?_)
                  obtain rfl : zi_178 = zi_195 := (ezi_195.trans e_lp_192_1).symm
                  subst hQ
                  exact W.iret (v := zi_178) hx hb hr (fun t ht hW => ⟨⟨zi_178, zI_177, rfl, ⟨h_zI_177, (show (-3) ≤ zi_178.toInt ∧ zi_178.toInt ≤ 80 from by omega)⟩, ⟨by rw [ht]; exact hP, va_K.moved hW.alike hK, hD⟩⟩, hS.F ht⟩) hS.2.2 dX11_type_120
                · have f_194 : ¬ (zi_176.toInt < 0) := ic_nlt (rfl) (by decide) c_193
                  refine lv_aload_n hx hb dX11_type_79 rfl (lv_at hl 0 rfl) ?_
                  refine ht_getr (C := RX11) (T := TX11) (N := 28) hx hb hts (by decide +kernel) hown hK hP hs t_zy (by decide) rfl rfl 1 (by decide) (hts (.fieldLink RX11 13 "DripStoneModel" "tape" "[I") (by decide +kernel)) (fun _ h9 => h9) rfl dX11_type_80 ?_
                  have t_196 : zT (zR zy 1) = 101 := sk_f hs t_zy (by decide) rfl (by decide)
                  refine lv_aload_n hx hb dX11_type_83 rfl (lv_at hl 0 rfl) ?_
                  refine ht_geti (C := RX11) (T := TX11) (N := 28) hx hb hts (by decide +kernel) hown hK hP hs t_zy (by decide) rfl rfl 2 (by decide) (hts (.fieldLink RX11 112 "DripStoneModel" "taped" "I") (by decide +kernel)) (fun _ h9 => h9) rfl dX11_type_84 ?_
                  refine lv_topi (fun zi_197 ezi_197 => ?_)
                  obtain rfl : zi_178 = zi_197 := (ezi_197.trans e_lp_192_1).symm
                  refine lv_lload_n hx hb dX11_type_87 rfl (lv_at hl 1 rfl) ?_
                  refine lv_bipush (v := 8) hx hb dX11_type_88 (by decide) ?_
                  refine lv_iload hx hb dX11_type_90 (lv_at hl 3 rfl) ?_
                  refine lv_imul hx hb dX11_type_92 ?_
                  refine lv_topi (fun zi_198 ezi_198 => ?_)
                  have tzi_198 : zi_198.toInt = (8 : Int) * zi_176.toInt := by rw [ezi_198]; exact timul (show (8 : Int32).toInt = 8 by decide) (rfl) (by omega) (by omega)
                  refine lv_lshr (v := zja >>> ((zi_198 : Int32).toInt64 &&& 63)) hx hb dX11_type_93 rfl ?_
                  refine lv_topl (fun zj_199 ezj_199 => ?_)
                  refine lv_ldc2 (v := 255) hx hb hown (hts (.constantLong RX11 106 255) (by decide +kernel)) dX11_type_94 ?_
                  refine lv_land hx hb dX11_type_97 ?_
                  refine lv_topl (fun zj_200 ezj_200 => ?_)
                  have tzj_200 : 0 ≤ zj_200.toInt ∧ zj_200.toInt ≤ 255 := by rw [ezj_200]; exact land255 _
                  refine lv_l2i (v := zj_200.toInt32) hx hb dX11_type_98 rfl ?_
                  refine lv_topi (fun zi_201 ezi_201 => ?_)
                  have tzi_201 : 0 ≤ zi_201.toInt ∧ zi_201.toInt ≤ 255 := by rw [ezi_201]; exact l2i255 tzj_200
                  refine ht_iast (v := zi_201) (n := 80) (q := 0) hx hb hK hP hD hS hs t_196 (by decide) rfl rfl ⟨by omega, by omega⟩ dX11_type_99 (fun H locs hP hD hS => ?_)
                  have h_zI_202 : WM [1802, 10100] AL zT zR zI (u2 zI_177 (zR zy 1) zi_178.toNatClampNeg zi_201) := h_zI_177.putA hs t_196 rfl (by omega) (by decide) (fun h => absurd h (by decide)) (by decide) trivial
                  generalize uzI_202 : u2 zI_177 (zR zy 1) zi_178.toNatClampNeg zi_201 = zI_202 at hP hD h_zI_202
                  refine lv_aload_n hx hb dX11_type_100 rfl (lv_at hl 0 rfl) ?_
                  refine lv_dup hx hb dX11_type_101 rfl ?_
                  refine ht_geti (C := RX11) (T := TX11) (N := 28) hx hb hts (by decide +kernel) hown hK hP hs t_zy (by decide) rfl rfl 2 (by decide) (hts (.fieldLink RX11 112 "DripStoneModel" "taped" "I") (by decide +kernel)) (fun _ h9 => h9) rfl dX11_type_102 ?_
                  refine lv_topi (fun zi_203 ezi_203 => ?_)
                  obtain rfl : zi_178 = zi_203 := (ezi_203.trans ((show zI_202 zy 2 = zI_177 zy 2 from by rw [← uzI_202]; exact u2_n (tne t_zy t_196 (by decide))).trans e_lp_192_1)).symm
                  refine lv_iconst (v := 1) hx hb dX11_type_105 (by decide) ?_
                  refine lv_iadd hx hb dX11_type_106 ?_
                  refine lv_topi (fun zi_204 ezi_204 => ?_)
                  have tzi_204 : zi_204.toInt = zi_178.toInt + (1 : Int) := by rw [ezi_204]; exact tiadd (rfl) (show (1 : Int32).toInt = 1 by decide) (by omega) (by omega)
                  refine ht_puti (v := zi_204) (ty := .int) (C := RX11) (T := TX11) (N := 28) hx hb hts (by decide +kernel) tyX11 tyX11_ok nmX11 hown hK hP hD hS hs t_zy (by decide) rfl rfl 2 (by decide) (hts (.fieldLink RX11 112 "DripStoneModel" "taped" "I") (by decide +kernel)) (fun _ h9 => h9) rfl (by decide +kernel) rfl rfl rfl dX11_type_107 (fun H locs hP hD hS => ?_)
                  have h_zI_205 : WM [1802, 10100] AL zT zR zI (u2 zI_202 zy 2 zi_204) := h_zI_202.put hs t_zy rfl (by omega) (by decide) (fun h => absurd h (by decide)) (by decide) trivial
                  generalize uzI_205 : u2 zI_202 zy 2 zi_204 = zI_205 at hP hD h_zI_205
                  obtain ⟨zi_206, ezi_206⟩ : ∃ y : Int32, y = zi_176 + (-1) := ⟨_, rfl⟩
                  have tzi_206 : zi_206.toInt = zi_176.toInt + (-1) := by rw [ezi_206]; exact tadd rfl (show ((-1) : Int32).toInt = -1 by decide) (by omega) (by omega)
                  refine lv_iinc (v := zi_206) (lv' := [(4, .int zi_206), (0, .ref zy), (1, .long zja), (3, .int zib)]) hx hb dX11_type_110 hl (k := 3) rfl (by rw [ezi_206]; rfl) (by decide) rfl (fun ls hl => ?_)
                  refine lv_goto (tgt := 74) hx hb dX11_type_113 (by decide) ?_
                  exact ih_192 (zi_206.toInt + 1).toNat (by omega) zi_206 zI_205 zi_204 _ _ _ rfl (by omega) h_zI_205 (by omega) (by omega) (by rw [← uzI_205]; exact u2_s) hP hD hS (lv_sub hl [1, 2, 3, 0] rfl)
            exact lp_192 _ zi_50 zI zi_8 _ _ _ rfl (by omega) h_zI (by omega) (by omega) e_lp_43_0 hP hD hS (lv_sub hl [1, 2, 3, 0] rfl)
          · have f_49 : ¬ (zi_47.toInt ≤ (80 : Int)) := ic_nle (rfl) (show (80 : Int32).toInt = 80 by decide) c_48
            refine lv_bipush (v := (-3)) hx hb dX11_type_66 (by decide) ?_
            subst hQ
            have qc_m3 : (-3 : Int32).toInt = -3 := by decide
            exact W.iret (v := (-3 : Int32)) hx hb hr (fun t ht hW => ⟨⟨(-3 : Int32), zI, rfl, ⟨h_zI, (show (-3) ≤ (-3 : Int32).toInt ∧ (-3 : Int32).toInt ≤ 80 from by omega)⟩, ⟨by rw [ht]; exact hP, va_K.moved hW.alike hK, hD⟩⟩, hS.F ht⟩) hS.2.2 dX11_type_68
        · have f_45 : ¬ (zi_20.toInt < 0) := ic_nlt (rfl) (by decide) c_44
          refine lv_lload_n hx hb dX11_type_24 rfl (lv_at hl 1 rfl) ?_
          refine lv_bipush (v := 8) hx hb dX11_type_25 (by decide) ?_
          refine lv_iload hx hb dX11_type_27 (lv_at hl 3 rfl) ?_
          refine lv_imul hx hb dX11_type_29 ?_
          refine lv_topi (fun zi_207 ezi_207 => ?_)
          have tzi_207 : zi_207.toInt = (8 : Int) * zi_20.toInt := by rw [ezi_207]; exact timul (show (8 : Int32).toInt = 8 by decide) (rfl) (by omega) (by omega)
          refine lv_lshr (v := zja >>> ((zi_207 : Int32).toInt64 &&& 63)) hx hb dX11_type_30 rfl ?_
          refine lv_topl (fun zj_208 ezj_208 => ?_)
          refine lv_ldc2 (v := 255) hx hb hown (hts (.constantLong RX11 106 255) (by decide +kernel)) dX11_type_31 ?_
          refine lv_land hx hb dX11_type_34 ?_
          refine lv_topl (fun zj_209 ezj_209 => ?_)
          have tzj_209 : 0 ≤ zj_209.toInt ∧ zj_209.toInt ≤ 255 := by rw [ezj_209]; exact land255 _
          refine lv_ldc2 (v := 32) hx hb hown (hts (.constantLong RX11 108 32) (by decide +kernel)) dX11_type_35 ?_
          refine lv_ldc2 (v := 126) hx hb hown (hts (.constantLong RX11 110 126) (by decide +kernel)) dX11_type_38 ?_
          refine hj0_i (ws := (WL cy zL zT zR zI zJ)) (va_runS (As := [.long zj_209, .long 32, .long 126]) (rest := []) ⟨hx, hb, hml, hown, hts⟩ (c_X11_in l dC dI cy H.size zj_209 32 126 32 126 zj_209.toInt (by first | rfl | decide | omega | exact Int32.toInt_toInt64 _) (by first | rfl | decide | omega | exact Int32.toInt_toInt64 _) (by first | rfl | decide | omega | exact Int32.toInt_toInt64 _)) (va_cwS 3 hts gX11_type_X11_in rfl rfl rfl (by decide +kernel) ⟨(Nat.le_of_ble_eq_true rfl), (Nat.le_of_ble_eq_true rfl)⟩) (PRE.s (hP.sub [] rfl) hK (hD.sub [] (by decide) rfl) hN) rfl rfl hl.1 rfl (lv_room (Nat.le_of_ble_eq_true rfl)) dX11_type_41 ⟨(Nat.le_of_ble_eq_true rfl), (Nat.le_of_ble_eq_true rfl)⟩) hP hD hS hA (fun zi_210 u_212 H locs hw_211 hP hD hS => ?_)
          have hw_211 : zi_210 = if 32 ≤ zj_209.toInt ∧ zj_209.toInt ≤ 126 then 1 else 0 := hw_211
          have b_zi_210 : 0 ≤ zi_210.toInt ∧ zi_210.toInt ≤ 1 := bz_b hw_211
          refine lv_if_ne (tgt := 49) hx hb dX11_type_44 (by decide) (fun c_213 => ?_) (fun c_213 => ?_)
          · have f_214 : 32 ≤ zj_209.toInt ∧ zj_209.toInt ≤ 126 := bz_1 hw_211 c_213
            obtain ⟨zi_215, ezi_215⟩ : ∃ y : Int32, y = zi_20 + (-1) := ⟨_, rfl⟩
            have tzi_215 : zi_215.toInt = zi_20.toInt + (-1) := by rw [ezi_215]; exact tadd rfl (show ((-1) : Int32).toInt = -1 by decide) (by omega) (by omega)
            refine lv_iinc (v := zi_215) (lv' := [(4, .int zi_215), (0, .ref zy), (1, .long zja), (3, .int zib)]) hx hb dX11_type_49 hl (k := 3) rfl (by rw [ezi_215]; rfl) (by decide) rfl (fun ls hl => ?_)
            refine lv_goto (tgt := 19) hx hb dX11_type_52 (by decide) ?_
            exact ih_43 (zi_215.toInt + 1).toNat (by omega) zi_215 _ _ _ rfl (by omega) e_lp_43_0 hP hD hS (lv_sub hl [1, 2, 3, 0] rfl)
          · have f_214 : ¬ (32 ≤ zj_209.toInt ∧ zj_209.toInt ≤ 126) := bz_0 hw_211 c_213
            refine lv_iconst (v := (-1)) hx hb dX11_type_47 (by decide) ?_
            subst hQ
            have qc_m1 : (-1 : Int32).toInt = -1 := by decide
            exact W.iret (v := (-1 : Int32)) hx hb hr (fun t ht hW => ⟨⟨(-1 : Int32), zI, rfl, ⟨h_zI, (show (-3) ≤ (-1 : Int32).toInt ∧ (-1 : Int32).toInt ≤ 80 from by omega)⟩, ⟨by rw [ht]; exact hP, va_K.moved hW.alike hK, hD⟩⟩, hS.F ht⟩) hS.2.2 dX11_type_48
    exact lp_43 _ zi_7 _ _ _ rfl (by omega) ezi_8.symm hP hD hS (lv_sub hl [1, 2, 3, 0] rfl)
  · have f_6 : ¬ (1 ≤ zj_1.toInt ∧ zj_1.toInt ≤ 8) := bz_0 hw_3 c_5
    refine lv_iconst (v := (-1)) hx hb dX11_type_12 (by decide) ?_
    subst hQ
    have qc_m1 : (-1 : Int32).toInt = -1 := by decide
    exact W.iret (v := (-1 : Int32)) hx hb hr (fun t ht hW => ⟨⟨(-1 : Int32), zI, rfl, ⟨h_zI, (show (-3) ≤ (-1 : Int32).toInt ∧ (-1 : Int32).toInt ≤ 80 from by omega)⟩, ⟨by rw [ht]; exact hP, va_K.moved hW.alike hK, hD⟩⟩, hS.F ht⟩) hS.2.2 dX11_type_13
set_option maxHeartbeats 8000000 in
set_option maxRecDepth 100000 in
theorem t_X11_nextByte (l : Launch) (dC : Nat → ClassId) (dI : Nat → Nat → Nat) (cy : Nat → ClassId) (sz : Nat) (zL : List Nat) (zT : Nat → Nat) (zR : Nat → Nat → Nat) (zI : Nat → Nat → Int32) (zJ : Nat → Nat → Int64) (zy : Nat) (hs : SKP zL zT zR) (hw : WT zT zR zI) (t_zy : zT zy = 18) : Met l yX11_nextByte wsX11_nextByte ({ frames := 0, cells := 0, slots := 0, locals := 0 } : Room) (va_Pc [.ref zy] (PRE dC dI cy (WL cy zL zT zR zI zJ) sz)) (va_Qi (fun (r : Int32) (u : (Nat → Nat → Int32)) => (WM [1803] AL zT zR zI u) ∧ ((-1) ≤ r.toInt ∧ r.toInt ≤ 255) ∧ (r.toInt = -1 ∨ (u zy 3).toInt ≤ 79)) (fun u t => POST dC dI cy (va_A (WL cy zL zT zR zI zJ) sz) (WL cy zL zT zR u zJ) t) (va_A (WL cy zL zT zR zI zJ) sz)) 0 0 (va_A (WL cy zL zT zR zI zJ) sz) := by
  refine Met.ofW (cc := cX11_nextByte) (maxL := 1) (ret := (some .int)) (by decide) rfl ?_
  intro p e s m args below meth c s₁ B hml hv
  obtain ⟨rfl, hsz, hP, hK, hD0, hN⟩ := hv
  have hx := B.exec
  have hb := B.bytes
  have hr := B.returns
  have hts := atoms_spec (ws := wsX11_nextByte) B.pre
  have hown : s.vm.findClass RX11 = some m.cls := findClass_of_methodNamed B.named
  have hlocks := B.notSynchronized
  subst hsz
  have hD := hD0.self (sz := s.heap.size)
  generalize hAe : va_A (WL cy zL zT zR zI zJ) s.heap.size = A at hD ⊢
  have hA : ∀ q : Nat, s.heap.size ≤ q → A q := fun q h => by rw [← hAe]; exact Or.inr h
  have hS : va_S A s.heap s.heap [] := va_S.rf
  have hP : va_P (dC, dI) vwCl (WL cy zL zT zR zI zJ) s.heap := hP
  have hl := lv_entry ([.ref zy] : List Value) (n := 1) (Nat.le_of_ble_eq_true rfl)
  rw [lg_entry_eq]
  generalize (lg_sl ([.ref zy] : List Value) ++ List.replicate (1 - (lg_sl ([.ref zy] : List Value)).length) Slot.unset).toArray = ls at hl ⊢
  have hl : lv_has ls 1 [(0, .ref zy)] := hl
  refine w_q (fun Q hQ => ?_)
  have h_zI : WM [1803] AL zT zR zI zI := WM.rf hw
  obtain ⟨zi_1, ezi_1⟩ : ∃ y : Int32, y = zI zy 3 := ⟨_, rfl⟩
  have tzi_1 : 0 ≤ zi_1.toInt ∧ zi_1.toInt ≤ 80 := by rw [ezi_1]; exact h_zI.at t_zy _ rfl
  have lzi_1 : (zI zy 3).toInt = zi_1.toInt := by rw [ezi_1]
  obtain ⟨zi_2, ezi_2⟩ : ∃ y : Int32, y = zI zy 2 := ⟨_, rfl⟩
  have tzi_2 : 0 ≤ zi_2.toInt ∧ zi_2.toInt ≤ 80 := by rw [ezi_2]; exact h_zI.at t_zy _ rfl
  have lzi_2 : (zI zy 2).toInt = zi_2.toInt := by rw [ezi_2]
  have lp_71 : ∀ (n : Nat) (zI_25 : Nat → Nat → Int32) (zi_26 : Int32) (H : Heap) (locs : List Loc) (ls : Array Slot), (zi_2.toInt - zi_26.toInt).toNat = n → (WM [1803] AL zT zR zI zI_25) → (0 ≤ zi_26.toInt ∧ zi_26.toInt ≤ 80) → (zI_25 zy 3 = zi_26) → (zI_25 zy 2 = zi_2) → va_P (dC, dI) vwCl (WL cy zL zT zR zI_25 zJ) H → va_D A (WL cy zL zT zR zI_25 zJ) → va_S A s.heap H locs → lv_has ls 1 [(0, .ref zy)] → W p l e ({ frames := 0, cells := 0, slots := 0, locals := 0 } : Room) s m ([.ref zy] : List Value).toArray below meth c H locs 0 0 Q (F0 m 0 ls []) := by
    intro n
    induction n using Nat.strongRecOn with
    | _ n ih_71 =>
      intro zI_25 zi_26 H locs ls hn h_zI_25 b_zi_26 e_lp_71_0 e_lp_71_1 hP hD hS hl
      refine lv_aload_n hx hb dX11_nextByte_0 rfl (lv_at hl 0 rfl) ?_
      refine ht_geti (C := RX11) (T := TX11) (N := 28) hx hb hts (by decide +kernel) hown hK hP hs t_zy (by decide) rfl rfl 3 (by decide) (hts (.fieldLink RX11 116 "DripStoneModel" "at" "I") (by decide +kernel)) (fun _ h9 => h9) rfl dX11_nextByte_1 ?_
      refine lv_topi (fun zi_72 ezi_72 => ?_)
      obtain rfl : zi_26 = zi_72 := (ezi_72.trans e_lp_71_0).symm
      refine lv_aload_n hx hb dX11_nextByte_4 rfl (lv_at hl 0 rfl) ?_
      refine ht_geti (C := RX11) (T := TX11) (N := 28) hx hb hts (by decide +kernel) hown hK hP hs t_zy (by decide) rfl rfl 2 (by decide) (hts (.fieldLink RX11 112 "DripStoneModel" "taped" "I") (by decide +kernel)) (fun _ h9 => h9) rfl dX11_nextByte_5 ?_
      refine lv_topi (fun zi_73 ezi_73 => ?_)
      obtain rfl : zi_2 = zi_73 := (ezi_73.trans e_lp_71_1).symm
      have jn_84 : ∀  (H : Heap) (locs : List Loc) (ls : Array Slot), va_P (dC, dI) vwCl (WL cy zL zT zR zI_25 zJ) H → va_D A (WL cy zL zT zR zI_25 zJ) → va_S A s.heap H locs → lv_has ls 1 [(0, .ref zy)] → W p l e ({ frames := 0, cells := 0, slots := 0, locals := 0 } : Room) s m ([.ref zy] : List Value).toArray below meth c H locs 0 0 Q (F0 m 38 ls []) := by
        intro  H locs ls  hP hD hS hl
        refine lv_aload_n hx hb dX11_nextByte_38 rfl (lv_at hl 0 rfl) ?_
        refine ht_geti (C := RX11) (T := TX11) (N := 28) hx hb hts (by decide +kernel) hown hK hP hs t_zy (by decide) rfl rfl 3 (by decide) (hts (.fieldLink RX11 116 "DripStoneModel" "at" "I") (by decide +kernel)) (fun _ h9 => h9) rfl dX11_nextByte_39 ?_
        refine lv_topi (fun zi_85 ezi_85 => ?_)
        obtain rfl : zi_26 = zi_85 := (ezi_85.trans e_lp_71_0).symm
        refine lv_aload_n hx hb dX11_nextByte_42 rfl (lv_at hl 0 rfl) ?_
        refine ht_geti (C := RX11) (T := TX11) (N := 28) hx hb hts (by decide +kernel) hown hK hP hs t_zy (by decide) rfl rfl 2 (by decide) (hts (.fieldLink RX11 112 "DripStoneModel" "taped" "I") (by decide +kernel)) (fun _ h9 => h9) rfl dX11_nextByte_43 ?_
        refine lv_topi (fun zi_86 ezi_86 => ?_)
        obtain rfl : zi_2 = zi_86 := (ezi_86.trans e_lp_71_1).symm
        refine lv_icmp_ge (tgt := 61) hx hb dX11_nextByte_46 (by decide) (fun c_87 => ?_) (fun c_87 => ?_)
        · have f_88 : zi_26.toInt ≥ zi_2.toInt := ic_ge (rfl) (rfl) c_87
          refine lv_iconst (v := (-1)) hx hb dX11_nextByte_61 (by decide) ?_
          subst hQ
          have qc_m1 : (-1 : Int32).toInt = -1 := by decide
          have lk_89 : (zI_25 zy 3).toInt = zi_26.toInt := congrArg Int32.toInt e_lp_71_0
          exact W.iret (v := (-1 : Int32)) hx hb hr (fun t ht hW => ⟨⟨(-1 : Int32), zI_25, rfl, ⟨h_zI_25, (show (-1) ≤ (-1 : Int32).toInt ∧ (-1 : Int32).toInt ≤ 255 from by omega), (show (-1 : Int32).toInt = -1 ∨ (zI_25 zy 3).toInt ≤ 79 from by omega)⟩, ⟨by rw [ht]; exact hP, va_K.moved hW.alike hK, hD⟩⟩, hS.F ht⟩) hS.2.2 dX11_nextByte_62
        · have f_88 : ¬ (zi_26.toInt ≥ zi_2.toInt) := ic_nge (rfl) (rfl) c_87
          refine lv_aload_n hx hb dX11_nextByte_49 rfl (lv_at hl 0 rfl) ?_
          refine ht_getr (C := RX11) (T := TX11) (N := 28) hx hb hts (by decide +kernel) hown hK hP hs t_zy (by decide) rfl rfl 1 (by decide) (hts (.fieldLink RX11 13 "DripStoneModel" "tape" "[I") (by decide +kernel)) (fun _ h9 => h9) rfl dX11_nextByte_50 ?_
          have t_90 : zT (zR zy 1) = 101 := sk_f hs t_zy (by decide) rfl (by decide)
          refine lv_aload_n hx hb dX11_nextByte_53 rfl (lv_at hl 0 rfl) ?_
          refine ht_geti (C := RX11) (T := TX11) (N := 28) hx hb hts (by decide +kernel) hown hK hP hs t_zy (by decide) rfl rfl 3 (by decide) (hts (.fieldLink RX11 116 "DripStoneModel" "at" "I") (by decide +kernel)) (fun _ h9 => h9) rfl dX11_nextByte_54 ?_
          refine lv_topi (fun zi_91 ezi_91 => ?_)
          obtain rfl : zi_26 = zi_91 := (ezi_91.trans e_lp_71_0).symm
          refine ht_iald (n := 80) (q := 0) hx hb hK hP hs t_90 (by decide) rfl rfl ⟨by omega, by omega⟩ dX11_nextByte_57 ?_
          refine lv_topi (fun zi_92 ezi_92 => ?_)
          have tzi_92 : 0 ≤ zi_92.toInt ∧ zi_92.toInt ≤ 255 := by rw [ezi_92]; exact h_zI_25.at t_90 _ rfl
          refine lv_goto (tgt := 62) hx hb dX11_nextByte_58 (by decide) ?_
          subst hQ
          have lk_93 : (zI_25 zy 3).toInt = zi_26.toInt := congrArg Int32.toInt e_lp_71_0
          exact W.iret (v := zi_92) hx hb hr (fun t ht hW => ⟨⟨zi_92, zI_25, rfl, ⟨h_zI_25, (show (-1) ≤ zi_92.toInt ∧ zi_92.toInt ≤ 255 from by omega), (show zi_92.toInt = -1 ∨ (zI_25 zy 3).toInt ≤ 79 from by omega)⟩, ⟨by rw [ht]; exact hP, va_K.moved hW.alike hK, hD⟩⟩, hS.F ht⟩) hS.2.2 dX11_nextByte_62
      refine lv_icmp_ge (tgt := 38) hx hb dX11_nextByte_8 (by decide) (fun c_94 => ?_) (fun c_94 => ?_)
      · have f_95 : zi_26.toInt ≥ zi_2.toInt := ic_ge (rfl) (rfl) c_94
        exact jn_84  _ _ _  hP hD hS (lv_sub hl [0] rfl)
      · have f_95 : ¬ (zi_26.toInt ≥ zi_2.toInt) := ic_nge (rfl) (rfl) c_94
        refine lv_aload_n hx hb dX11_nextByte_11 rfl (lv_at hl 0 rfl) ?_
        refine ht_getr (C := RX11) (T := TX11) (N := 28) hx hb hts (by decide +kernel) hown hK hP hs t_zy (by decide) rfl rfl 1 (by decide) (hts (.fieldLink RX11 13 "DripStoneModel" "tape" "[I") (by decide +kernel)) (fun _ h9 => h9) rfl dX11_nextByte_12 ?_
        have t_96 : zT (zR zy 1) = 101 := sk_f hs t_zy (by decide) rfl (by decide)
        refine lv_aload_n hx hb dX11_nextByte_15 rfl (lv_at hl 0 rfl) ?_
        refine ht_geti (C := RX11) (T := TX11) (N := 28) hx hb hts (by decide +kernel) hown hK hP hs t_zy (by decide) rfl rfl 3 (by decide) (hts (.fieldLink RX11 116 "DripStoneModel" "at" "I") (by decide +kernel)) (fun _ h9 => h9) rfl dX11_nextByte_16 ?_
        refine lv_topi (fun zi_97 ezi_97 => ?_)
        obtain rfl : zi_26 = zi_97 := (ezi_97.trans e_lp_71_0).symm
        refine ht_iald (n := 80) (q := 0) hx hb hK hP hs t_96 (by decide) rfl rfl ⟨by omega, by omega⟩ dX11_nextByte_19 ?_
        refine lv_topi (fun zi_98 ezi_98 => ?_)
        have tzi_98 : 0 ≤ zi_98.toInt ∧ zi_98.toInt ≤ 255 := by rw [ezi_98]; exact h_zI_25.at t_96 _ rfl
        refine lv_bipush (v := 32) hx hb dX11_nextByte_20 (by decide) ?_
        refine lv_icmp_ne (tgt := 38) hx hb dX11_nextByte_22 (by decide) (fun c_99 => ?_) (fun c_99 => ?_)
        · have f_100 : zi_98.toInt ≠ (32 : Int) := ic_ne (rfl) (show (32 : Int32).toInt = 32 by decide) c_99
          exact jn_84  _ _ _  hP hD hS (lv_sub hl [0] rfl)
        · have f_100 : ¬ (zi_98.toInt ≠ (32 : Int)) := ic_nne (rfl) (show (32 : Int32).toInt = 32 by decide) c_99
          refine lv_aload_n hx hb dX11_nextByte_25 rfl (lv_at hl 0 rfl) ?_
          refine lv_dup hx hb dX11_nextByte_26 rfl ?_
          refine ht_geti (C := RX11) (T := TX11) (N := 28) hx hb hts (by decide +kernel) hown hK hP hs t_zy (by decide) rfl rfl 3 (by decide) (hts (.fieldLink RX11 116 "DripStoneModel" "at" "I") (by decide +kernel)) (fun _ h9 => h9) rfl dX11_nextByte_27 ?_
          refine lv_topi (fun zi_101 ezi_101 => ?_)
          obtain rfl : zi_26 = zi_101 := (ezi_101.trans e_lp_71_0).symm
          refine lv_iconst (v := 1) hx hb dX11_nextByte_30 (by decide) ?_
          refine lv_iadd hx hb dX11_nextByte_31 ?_
          refine lv_topi (fun zi_102 ezi_102 => ?_)
          have tzi_102 : zi_102.toInt = zi_26.toInt + (1 : Int) := by rw [ezi_102]; exact tiadd (rfl) (show (1 : Int32).toInt = 1 by decide) (by omega) (by omega)
          refine ht_puti (v := zi_102) (ty := .int) (C := RX11) (T := TX11) (N := 28) hx hb hts (by decide +kernel) tyX11 tyX11_ok nmX11 hown hK hP hD hS hs t_zy (by decide) rfl rfl 3 (by decide) (hts (.fieldLink RX11 116 "DripStoneModel" "at" "I") (by decide +kernel)) (fun _ h9 => h9) rfl (by decide +kernel) rfl rfl rfl dX11_nextByte_32 (fun H locs hP hD hS => ?_)
          have h_zI_103 : WM [1803] AL zT zR zI (u2 zI_25 zy 3 zi_102) := h_zI_25.put hs t_zy rfl (by omega) (by decide) (fun h => absurd h (by decide)) (by decide) trivial
          generalize uzI_103 : u2 zI_25 zy 3 zi_102 = zI_103 at hP hD h_zI_103
          refine lv_goto (tgt := 0) hx hb dX11_nextByte_35 (by decide) ?_
          exact ih_71 (zi_2.toInt - zi_102.toInt).toNat (by omega) zI_103 zi_102 _ _ _ rfl h_zI_103 (by omega) (by rw [← uzI_103]; exact u2_s) ((show zI_103 zy 2 = zI_25 zy 2 from by rw [← uzI_103]; exact u2_k (by decide)).trans e_lp_71_1) hP hD hS (lv_sub hl [0] rfl)
  exact lp_71 _ zI zi_1 _ _ _ rfl h_zI (by omega) ezi_1.symm ezi_2.symm hP hD hS (lv_sub hl [0] rfl)
set_option maxHeartbeats 8000000 in
set_option maxRecDepth 100000 in
theorem t_X11_takes (l : Launch) (dC : Nat → ClassId) (dI : Nat → Nat → Nat) (cy : Nat → ClassId) (sz : Nat) (zL : List Nat) (zT : Nat → Nat) (zR : Nat → Nat → Nat) (zI : Nat → Nat → Int32) (zJ : Nat → Nat → Int64) (zy : Nat) (zia : Int32) (hs : SKP zL zT zR) (hw : WT zT zR zI) (t_zy : zT zy = 18) (b_zia : 33 ≤ zia.toInt ∧ zia.toInt ≤ 126) : Met l yX11_takes wsX11_takes ({ frames := 1, cells := 0, slots := 0, locals := 20 } : Room) (va_Pc [.ref zy, .int zia] (PRE dC dI cy (WL cy zL zT zR zI zJ) sz)) (va_Qi (fun (r : Int32) (u : (Nat → Nat → Int32)) => (WM [1803] AL zT zR zI u) ∧ (0 ≤ r.toInt ∧ r.toInt ≤ 1)) (fun u t => POST dC dI cy (va_A (WL cy zL zT zR zI zJ) sz) (WL cy zL zT zR u zJ) t) (va_A (WL cy zL zT zR zI zJ) sz)) 0 0 (va_A (WL cy zL zT zR zI zJ) sz) := by
  refine Met.ofW (cc := cX11_takes) (maxL := 3) (ret := (some .boolean)) (by decide) rfl ?_
  intro p e s m args below meth c s₁ B hml hv
  obtain ⟨rfl, hsz, hP, hK, hD0, hN⟩ := hv
  have hx := B.exec
  have hb := B.bytes
  have hr := B.returns
  have hts := atoms_spec (ws := wsX11_takes) B.pre
  have hown : s.vm.findClass RX11 = some m.cls := findClass_of_methodNamed B.named
  have hlocks := B.notSynchronized
  subst hsz
  have hD := hD0.self (sz := s.heap.size)
  generalize hAe : va_A (WL cy zL zT zR zI zJ) s.heap.size = A at hD ⊢
  have hA : ∀ q : Nat, s.heap.size ≤ q → A q := fun q h => by rw [← hAe]; exact Or.inr h
  have hS : va_S A s.heap s.heap [] := va_S.rf
  have hP : va_P (dC, dI) vwCl (WL cy zL zT zR zI zJ) s.heap := hP
  have hl := lv_entry ([.ref zy, .int zia] : List Value) (n := 3) (Nat.le_of_ble_eq_true rfl)
  rw [lg_entry_eq]
  generalize (lg_sl ([.ref zy, .int zia] : List Value) ++ List.replicate (3 - (lg_sl ([.ref zy, .int zia] : List Value)).length) Slot.unset).toArray = ls at hl ⊢
  have hl : lv_has ls 3 [(0, .ref zy), (1, .int zia)] := hl
  refine w_q (fun Q hQ => ?_)
  have h_zI : WM [1803] AL zT zR zI zI := WM.rf hw
  refine lv_aload_n hx hb dX11_takes_0 rfl (lv_at hl 0 rfl) ?_
  refine hj_i (ws := (WL cy zL zT zR zI zJ)) (w1 := fun (u : (Nat → Nat → Int32)) => (WL cy zL zT zR u zJ)) (va_runV (As := []) (rest := []) ⟨hx, hb, hml, hown, hts⟩ (t_X11_nextByte l dC dI cy s.heap.size zL zT zR zI zJ zy hs h_zI.1 t_zy) (cwV 0 hts gX11_takes_X11_nextByte rfl rfl rfl (by decide +kernel) ⟨(Nat.le_of_ble_eq_true rfl), (Nat.le_of_ble_eq_true rfl)⟩) (PRE.v hP hK hD hN (ht_recv hK hP hs t_zy (by decide) rfl rfl)) rfl rfl hl.1 rfl (lv_room (Nat.le_of_ble_eq_true rfl)) dX11_takes_1 ⟨(Nat.le_of_ble_eq_true rfl), (Nat.le_of_ble_eq_true rfl)⟩) hP hD hS hA (fun zi_1 zI_4 H locs hw_2 hP hD hS => ?_)
  obtain ⟨k_zI_4, b_zi_1, ps_5⟩ : (WM [1803] AL zT zR zI zI_4) ∧ ((-1) ≤ zi_1.toInt ∧ zi_1.toInt ≤ 255) ∧ (zi_1.toInt = -1 ∨ (zI_4 zy 3).toInt ≤ 79) := hw_2
  have h_zI_4 : WM [1803] AL zT zR zI zI_4 := h_zI.tr k_zI_4 (by decide) (fun _ _ => trivial)
  obtain ⟨zi_6, ezi_6⟩ : ∃ y : Int32, y = zI_4 zy 3 := ⟨_, rfl⟩
  have tzi_6 : 0 ≤ zi_6.toInt ∧ zi_6.toInt ≤ 80 := by rw [ezi_6]; exact h_zI_4.at t_zy _ rfl
  have lzi_6 : (zI_4 zy 3).toInt = zi_6.toInt := by rw [ezi_6]
  have lk_7 : (zI_4 zy 3).toInt = zi_6.toInt := congrArg Int32.toInt ezi_6.symm
  refine lv_iload_n hx hb dX11_takes_4 rfl (lv_at hl 1 rfl) ?_
  refine lv_icmp_ne (tgt := 12) hx hb dX11_takes_5 (by decide) (fun c_8 => ?_) (fun c_8 => ?_)
  · have f_9 : zi_1.toInt ≠ zia.toInt := ic_ne (rfl) (rfl) c_8
    refine lv_iconst (v := 0) hx hb dX11_takes_12 (by decide) ?_
    refine lv_istore_n (lv' := [(2, .int 0), (0, .ref zy), (1, .int zia)]) hx hb dX11_takes_13 rfl hl (by decide) rfl (fun ls hl => ?_)
    refine lv_aload_n hx hb dX11_takes_14 rfl (lv_at hl 1 rfl) ?_
    refine lv_dup hx hb dX11_takes_15 rfl ?_
    refine ht_geti (C := RX11) (T := TX11) (N := 28) hx hb hts (by decide +kernel) hown hK hP hs t_zy (by decide) rfl rfl 3 (by decide) (hts (.fieldLink RX11 116 "DripStoneModel" "at" "I") (by decide +kernel)) (fun _ h9 => h9) rfl dX11_takes_16 ?_
    refine lv_topi (fun zi_10 ezi_10 => ?_)
    obtain rfl : zi_6 = zi_10 := (ezi_10.trans ezi_6.symm).symm
    refine lv_iload_n hx hb dX11_takes_19 rfl (lv_at hl 0 rfl) ?_
    refine lv_if_eq (tgt := 27) hx hb dX11_takes_20 (by decide) (fun c_11 => ?_) (fun c_11 => absurd (by decide) c_11)
    refine lv_iconst (v := 0) hx hb dX11_takes_27 (by decide) ?_
    refine lv_iadd hx hb dX11_takes_28 ?_
    refine lv_topi (fun zi_12 ezi_12 => ?_)
    have tzi_12 : zi_12.toInt = zi_6.toInt + (0 : Int) := by rw [ezi_12]; exact tiadd (rfl) (show (0 : Int32).toInt = 0 by decide) (by omega) (by omega)
    refine ht_puti (v := zi_12) (ty := .int) (C := RX11) (T := TX11) (N := 28) hx hb hts (by decide +kernel) tyX11 tyX11_ok nmX11 hown hK hP hD hS hs t_zy (by decide) rfl rfl 3 (by decide) (hts (.fieldLink RX11 116 "DripStoneModel" "at" "I") (by decide +kernel)) (fun _ h9 => h9) rfl (by decide +kernel) rfl rfl rfl dX11_takes_29 (fun H locs hP hD hS => ?_)
    have h_zI_13 : WM [1803] AL zT zR zI (u2 zI_4 zy 3 zi_12) := h_zI_4.put hs t_zy rfl (by omega) (by decide) (fun h => absurd h (by decide)) (by decide) trivial
    generalize uzI_13 : u2 zI_4 zy 3 zi_12 = zI_13 at hP hD h_zI_13
    refine lv_iload_n hx hb dX11_takes_32 rfl (lv_at hl 0 rfl) ?_
    subst hQ
    have qc_0 : (0 : Int32).toInt = 0 := by decide
    exact W.zret (v := (0 : Int32)) hx hb hr rfl (fun t ht hW => ⟨⟨(0 : Int32), zI_13, rfl, ⟨h_zI_13, (show 0 ≤ (0 : Int32).toInt ∧ (0 : Int32).toInt ≤ 1 from by omega)⟩, ⟨by rw [ht]; exact hP, va_K.moved hW.alike hK, hD⟩⟩, hS.F ht⟩) hS.2.2 dX11_takes_33
  · have f_9 : ¬ (zi_1.toInt ≠ zia.toInt) := ic_nne (rfl) (rfl) c_8
    refine lv_iconst (v := 1) hx hb dX11_takes_8 (by decide) ?_
    refine lv_goto (tgt := 13) hx hb dX11_takes_9 (by decide) ?_
    refine lv_istore_n (lv' := [(2, .int 1), (0, .ref zy), (1, .int zia)]) hx hb dX11_takes_13 rfl hl (by decide) rfl (fun ls hl => ?_)
    refine lv_aload_n hx hb dX11_takes_14 rfl (lv_at hl 1 rfl) ?_
    refine lv_dup hx hb dX11_takes_15 rfl ?_
    refine ht_geti (C := RX11) (T := TX11) (N := 28) hx hb hts (by decide +kernel) hown hK hP hs t_zy (by decide) rfl rfl 3 (by decide) (hts (.fieldLink RX11 116 "DripStoneModel" "at" "I") (by decide +kernel)) (fun _ h9 => h9) rfl dX11_takes_16 ?_
    refine lv_topi (fun zi_14 ezi_14 => ?_)
    obtain rfl : zi_6 = zi_14 := (ezi_14.trans ezi_6.symm).symm
    refine lv_iload_n hx hb dX11_takes_19 rfl (lv_at hl 0 rfl) ?_
    refine lv_if_eq (tgt := 27) hx hb dX11_takes_20 (by decide) (fun c_15 => absurd c_15 (by decide)) (fun c_15 => ?_)
    refine lv_iconst (v := 1) hx hb dX11_takes_23 (by decide) ?_
    refine lv_goto (tgt := 28) hx hb dX11_takes_24 (by decide) ?_
    refine lv_iadd hx hb dX11_takes_28 ?_
    refine lv_topi (fun zi_16 ezi_16 => ?_)
    have tzi_16 : zi_16.toInt = zi_6.toInt + (1 : Int) := by rw [ezi_16]; exact tiadd (rfl) (show (1 : Int32).toInt = 1 by decide) (by omega) (by omega)
    refine ht_puti (v := zi_16) (ty := .int) (C := RX11) (T := TX11) (N := 28) hx hb hts (by decide +kernel) tyX11 tyX11_ok nmX11 hown hK hP hD hS hs t_zy (by decide) rfl rfl 3 (by decide) (hts (.fieldLink RX11 116 "DripStoneModel" "at" "I") (by decide +kernel)) (fun _ h9 => h9) rfl (by decide +kernel) rfl rfl rfl dX11_takes_29 (fun H locs hP hD hS => ?_)
    have h_zI_17 : WM [1803] AL zT zR zI (u2 zI_4 zy 3 zi_16) := h_zI_4.put hs t_zy rfl (by omega) (by decide) (fun h => absurd h (by decide)) (by decide) trivial
    generalize uzI_17 : u2 zI_4 zy 3 zi_16 = zI_17 at hP hD h_zI_17
    refine lv_iload_n hx hb dX11_takes_32 rfl (lv_at hl 0 rfl) ?_
    subst hQ
    have qc_1 : (1 : Int32).toInt = 1 := by decide
    exact W.zret (v := (1 : Int32)) hx hb hr rfl (fun t ht hW => ⟨⟨(1 : Int32), zI_17, rfl, ⟨h_zI_17, (show 0 ≤ (1 : Int32).toInt ∧ (1 : Int32).toInt ≤ 1 from by omega)⟩, ⟨by rw [ht]; exact hP, va_K.moved hW.alike hK, hD⟩⟩, hS.F ht⟩) hS.2.2 dX11_takes_33
set_option maxHeartbeats 8000000 in
set_option maxRecDepth 100000 in
theorem t_X11_readNumber (l : Launch) (dC : Nat → ClassId) (dI : Nat → Nat → Nat) (cy : Nat → ClassId) (sz : Nat) (zL : List Nat) (zT : Nat → Nat) (zR : Nat → Nat → Nat) (zI : Nat → Nat → Int32) (zJ : Nat → Nat → Int64) (zy : Nat) (zib : Int32) (zic : Int32) (hs : SKP zL zT zR) (hw : WT zT zR zI) (t_zy : zT zy = 18) (b_zib : 0 ≤ zib.toInt ∧ zib.toInt ≤ 1000) (b_zic : 0 ≤ zic.toInt ∧ zic.toInt ≤ 1000) : Met l yX11_readNumber wsX11_readNumber ({ frames := 1, cells := 0, slots := 0, locals := 25 } : Room) (va_Pc [.ref zy, .int zib, .int zic] (PRE dC dI cy (WL cy zL zT zR zI zJ) sz)) (va_Qi (fun (r : Int32) (u : (Nat → Nat → Int32)) => (WM [1803] AL zT zR zI u) ∧ ((-1) ≤ r.toInt) ∧ (r.toInt = -1 ∨ (zib.toInt ≤ r.toInt ∧ r.toInt ≤ zic.toInt))) (fun u t => POST dC dI cy (va_A (WL cy zL zT zR zI zJ) sz) (WL cy zL zT zR u zJ) t) (va_A (WL cy zL zT zR zI zJ) sz)) 0 0 (va_A (WL cy zL zT zR zI zJ) sz) := by
  refine Met.ofW (cc := cX11_readNumber) (maxL := 5) (ret := (some .int)) (by decide) rfl ?_
  intro p e s m args below meth c s₁ B hml hv
  obtain ⟨rfl, hsz, hP, hK, hD0, hN⟩ := hv
  have hx := B.exec
  have hb := B.bytes
  have hr := B.returns
  have hts := atoms_spec (ws := wsX11_readNumber) B.pre
  have hown : s.vm.findClass RX11 = some m.cls := findClass_of_methodNamed B.named
  have hlocks := B.notSynchronized
  subst hsz
  have hD := hD0.self (sz := s.heap.size)
  generalize hAe : va_A (WL cy zL zT zR zI zJ) s.heap.size = A at hD ⊢
  have hA : ∀ q : Nat, s.heap.size ≤ q → A q := fun q h => by rw [← hAe]; exact Or.inr h
  have hS : va_S A s.heap s.heap [] := va_S.rf
  have hP : va_P (dC, dI) vwCl (WL cy zL zT zR zI zJ) s.heap := hP
  have hl := lv_entry ([.ref zy, .int zib, .int zic] : List Value) (n := 5) (Nat.le_of_ble_eq_true rfl)
  rw [lg_entry_eq]
  generalize (lg_sl ([.ref zy, .int zib, .int zic] : List Value) ++ List.replicate (5 - (lg_sl ([.ref zy, .int zib, .int zic] : List Value)).length) Slot.unset).toArray = ls at hl ⊢
  have hl : lv_has ls 5 [(0, .ref zy), (1, .int zib), (2, .int zic)] := hl
  refine w_q (fun Q hQ => ?_)
  have h_zI : WM [1803] AL zT zR zI zI := WM.rf hw
  refine lv_aload_n hx hb dX11_readNumber_0 rfl (lv_at hl 0 rfl) ?_
  refine hj_i (ws := (WL cy zL zT zR zI zJ)) (w1 := fun (u : (Nat → Nat → Int32)) => (WL cy zL zT zR u zJ)) (va_runV (As := []) (rest := []) ⟨hx, hb, hml, hown, hts⟩ (t_X11_nextByte l dC dI cy s.heap.size zL zT zR zI zJ zy hs h_zI.1 t_zy) (cwV 0 hts gX11_readNumber_X11_nextByte rfl rfl rfl (by decide +kernel) ⟨(Nat.le_of_ble_eq_true rfl), (Nat.le_of_ble_eq_true rfl)⟩) (PRE.v hP hK hD hN (ht_recv hK hP hs t_zy (by decide) rfl rfl)) rfl rfl hl.1 rfl (lv_room (Nat.le_of_ble_eq_true rfl)) dX11_readNumber_1 ⟨(Nat.le_of_ble_eq_true rfl), (Nat.le_of_ble_eq_true rfl)⟩) hP hD hS hA (fun zi_1 zI_4 H locs hw_2 hP hD hS => ?_)
  obtain ⟨k_zI_4, b_zi_1, ps_5⟩ : (WM [1803] AL zT zR zI zI_4) ∧ ((-1) ≤ zi_1.toInt ∧ zi_1.toInt ≤ 255) ∧ (zi_1.toInt = -1 ∨ (zI_4 zy 3).toInt ≤ 79) := hw_2
  have h_zI_4 : WM [1803] AL zT zR zI zI_4 := h_zI.tr k_zI_4 (by decide) (fun _ _ => trivial)
  obtain ⟨zi_6, ezi_6⟩ : ∃ y : Int32, y = zI_4 zy 3 := ⟨_, rfl⟩
  have tzi_6 : 0 ≤ zi_6.toInt ∧ zi_6.toInt ≤ 80 := by rw [ezi_6]; exact h_zI_4.at t_zy _ rfl
  have lzi_6 : (zI_4 zy 3).toInt = zi_6.toInt := by rw [ezi_6]
  have lk_7 : (zI_4 zy 3).toInt = zi_6.toInt := congrArg Int32.toInt ezi_6.symm
  refine lv_pop hx hb dX11_readNumber_4 rfl ?_
  refine lv_aload_n hx hb dX11_readNumber_5 rfl (lv_at hl 0 rfl) ?_
  refine ht_geti (C := RX11) (T := TX11) (N := 28) hx hb hts (by decide +kernel) hown hK hP hs t_zy (by decide) rfl rfl 3 (by decide) (hts (.fieldLink RX11 116 "DripStoneModel" "at" "I") (by decide +kernel)) (fun _ h9 => h9) rfl dX11_readNumber_6 ?_
  refine lv_topi (fun zi_8 ezi_8 => ?_)
  obtain rfl : zi_6 = zi_8 := (ezi_8.trans ezi_6.symm).symm
  refine lv_istore_n (lv' := [(3, .int zi_6), (0, .ref zy), (1, .int zib), (2, .int zic)]) hx hb dX11_readNumber_9 rfl hl (by decide) rfl (fun ls hl => ?_)
  refine lv_iconst (v := 0) hx hb dX11_readNumber_10 (by decide) ?_
  refine lv_istore (lv' := [(4, .int 0), (3, .int zi_6), (0, .ref zy), (1, .int zib), (2, .int zic)]) hx hb dX11_readNumber_11 hl (by decide) rfl (fun ls hl => ?_)
  obtain ⟨zi_9, ezi_9⟩ : ∃ y : Int32, y = zI_4 zy 2 := ⟨_, rfl⟩
  have tzi_9 : 0 ≤ zi_9.toInt ∧ zi_9.toInt ≤ 80 := by rw [ezi_9]; exact h_zI_4.at t_zy _ rfl
  have lzi_9 : (zI_4 zy 2).toInt = zi_9.toInt := by rw [ezi_9]
  have lp_968 : ∀ (n : Nat) (zi_113 : Int32) (zI_114 : Nat → Nat → Int32) (zi_115 : Int32) (H : Heap) (locs : List Loc) (ls : Array Slot), (zi_9.toInt - zi_115.toInt).toNat = n → (0 ≤ zi_113.toInt) → (WM [1803] AL zT zR zI zI_114) → (0 ≤ zi_115.toInt ∧ zi_115.toInt ≤ 80) → (zI_114 zy 3 = zi_115) → (zI_114 zy 2 = zi_9) → va_P (dC, dI) vwCl (WL cy zL zT zR zI_114 zJ) H → va_D A (WL cy zL zT zR zI_114 zJ) → va_S A s.heap H locs → lv_has ls 5 [(0, .ref zy), (1, .int zib), (2, .int zic), (3, .int zi_6), (4, .int zi_113)] → W p l e ({ frames := 1, cells := 0, slots := 0, locals := 25 } : Room) s m ([.ref zy, .int zib, .int zic] : List Value).toArray below meth c H locs 0 0 Q (F0 m 13 ls []) := by
    intro n
    induction n using Nat.strongRecOn with
    | _ n ih_968 =>
      intro zi_113 zI_114 zi_115 H locs ls hn b_zi_113 h_zI_114 b_zi_115 e_lp_968_0 e_lp_968_1 hP hD hS hl
      refine lv_aload_n hx hb dX11_readNumber_13 rfl (lv_at hl 0 rfl) ?_
      refine ht_geti (C := RX11) (T := TX11) (N := 28) hx hb hts (by decide +kernel) hown hK hP hs t_zy (by decide) rfl rfl 3 (by decide) (hts (.fieldLink RX11 116 "DripStoneModel" "at" "I") (by decide +kernel)) (fun _ h9 => h9) rfl dX11_readNumber_14 ?_
      refine lv_topi (fun zi_969 ezi_969 => ?_)
      obtain rfl : zi_115 = zi_969 := (ezi_969.trans e_lp_968_0).symm
      refine lv_aload_n hx hb dX11_readNumber_17 rfl (lv_at hl 0 rfl) ?_
      refine ht_geti (C := RX11) (T := TX11) (N := 28) hx hb hts (by decide +kernel) hown hK hP hs t_zy (by decide) rfl rfl 2 (by decide) (hts (.fieldLink RX11 112 "DripStoneModel" "taped" "I") (by decide +kernel)) (fun _ h9 => h9) rfl dX11_readNumber_18 ?_
      refine lv_topi (fun zi_970 ezi_970 => ?_)
      obtain rfl : zi_9 = zi_970 := (ezi_970.trans e_lp_968_1).symm
      have jn_1000 : ∀  (H : Heap) (locs : List Loc) (ls : Array Slot), va_P (dC, dI) vwCl (WL cy zL zT zR zI_114 zJ) H → va_D A (WL cy zL zT zR zI_114 zJ) → va_S A s.heap H locs → lv_has ls 5 [(0, .ref zy), (1, .int zib), (2, .int zic), (3, .int zi_6), (4, .int zi_113)] → W p l e ({ frames := 1, cells := 0, slots := 0, locals := 25 } : Room) s m ([.ref zy, .int zib, .int zic] : List Value).toArray below meth c H locs 0 0 Q (F0 m 92 ls []) := by
        intro  H locs ls  hP hD hS hl
        refine lv_aload_n hx hb dX11_readNumber_92 rfl (lv_at hl 0 rfl) ?_
        refine ht_geti (C := RX11) (T := TX11) (N := 28) hx hb hts (by decide +kernel) hown hK hP hs t_zy (by decide) rfl rfl 3 (by decide) (hts (.fieldLink RX11 116 "DripStoneModel" "at" "I") (by decide +kernel)) (fun _ h9 => h9) rfl dX11_readNumber_93 ?_
        refine lv_topi (fun zi_1001 ezi_1001 => ?_)
        obtain rfl : zi_115 = zi_1001 := (ezi_1001.trans e_lp_968_0).symm
        refine lv_iload_n hx hb dX11_readNumber_96 rfl (lv_at hl 3 rfl) ?_
        refine lv_icmp_ne (tgt := 102) hx hb dX11_readNumber_97 (by decide) (fun c_1002 => ?_) (fun c_1002 => ?_)
        · have f_1003 : zi_115.toInt ≠ zi_6.toInt := ic_ne (rfl) (rfl) c_1002
          refine lv_iload hx hb dX11_readNumber_102 (lv_at hl 4 rfl) ?_
          refine lv_i2l (v := zi_113.toInt64) hx hb dX11_readNumber_104 rfl ?_
          refine lv_topl (fun zj_1004 ezj_1004 => ?_)
          have tzj_1004 : zj_1004.toInt = zi_113.toInt := by rw [ezj_1004]; exact Int32.toInt_toInt64 _
          refine lv_iload_n hx hb dX11_readNumber_105 rfl (lv_at hl 1 rfl) ?_
          refine lv_i2l (v := zib.toInt64) hx hb dX11_readNumber_106 rfl ?_
          refine lv_topl (fun zj_1005 ezj_1005 => ?_)
          have tzj_1005 : zj_1005.toInt = zib.toInt := by rw [ezj_1005]; exact Int32.toInt_toInt64 _
          refine lv_iload_n hx hb dX11_readNumber_107 rfl (lv_at hl 2 rfl) ?_
          refine lv_i2l (v := zic.toInt64) hx hb dX11_readNumber_108 rfl ?_
          refine lv_topl (fun zj_1006 ezj_1006 => ?_)
          have tzj_1006 : zj_1006.toInt = zic.toInt := by rw [ezj_1006]; exact Int32.toInt_toInt64 _
          refine hj0_i (ws := (WL cy zL zT zR zI_114 zJ)) (va_runS (As := [.long zj_1004, .long zj_1005, .long zj_1006]) (rest := []) ⟨hx, hb, hml, hown, hts⟩ (c_X11_in l dC dI cy H.size zj_1004 zj_1005 zj_1006 zj_1005.toInt zj_1006.toInt zj_1004.toInt (by first | rfl | decide | omega | exact Int32.toInt_toInt64 _) (by first | rfl | decide | omega | exact Int32.toInt_toInt64 _) (by first | rfl | decide | omega | exact Int32.toInt_toInt64 _)) (va_cwS 3 hts gX11_readNumber_X11_in rfl rfl rfl (by decide +kernel) ⟨(Nat.le_of_ble_eq_true rfl), (Nat.le_of_ble_eq_true rfl)⟩) (PRE.s (hP.sub [] rfl) hK (hD.sub [] (by decide) rfl) hN) rfl rfl hl.1 rfl (lv_room (Nat.le_of_ble_eq_true rfl)) dX11_readNumber_109 ⟨(Nat.le_of_ble_eq_true rfl), (Nat.le_of_ble_eq_true rfl)⟩) hP hD hS hA (fun zi_1007 u_1009 H locs hw_1008 hP hD hS => ?_)
          have hw_1008 : zi_1007 = if zj_1005.toInt ≤ zj_1004.toInt ∧ zj_1004.toInt ≤ zj_1006.toInt then 1 else 0 := hw_1008
          have b_zi_1007 : 0 ≤ zi_1007.toInt ∧ zi_1007.toInt ≤ 1 := bz_b hw_1008
          refine lv_if_ne (tgt := 122) hx hb dX11_readNumber_112 (by decide) (fun c_1010 => ?_) (fun c_1010 => ?_)
          · have f_1011 : zj_1005.toInt ≤ zj_1004.toInt ∧ zj_1004.toInt ≤ zj_1006.toInt := bz_1 hw_1008 c_1010
            refine lv_iload hx hb dX11_readNumber_122 (lv_at hl 4 rfl) ?_
            subst hQ
            exact W.iret (v := zi_113) hx hb hr (fun t ht hW => ⟨⟨zi_113, zI_114, rfl, ⟨h_zI_114, (show (-1) ≤ zi_113.toInt from by omega), (show zi_113.toInt = -1 ∨ (zib.toInt ≤ zi_113.toInt ∧ zi_113.toInt ≤ zic.toInt) from by omega)⟩, ⟨by rw [ht]; exact hP, va_K.moved hW.alike hK, hD⟩⟩, hS.F ht⟩) hS.2.2 dX11_readNumber_124
          · have f_1011 : ¬ (zj_1005.toInt ≤ zj_1004.toInt ∧ zj_1004.toInt ≤ zj_1006.toInt) := bz_0 hw_1008 c_1010
            refine lv_aload_n hx hb dX11_readNumber_115 rfl (lv_at hl 0 rfl) ?_
            refine lv_iload_n hx hb dX11_readNumber_116 rfl (lv_at hl 3 rfl) ?_
            refine ht_puti (v := zi_6) (ty := .int) (C := RX11) (T := TX11) (N := 28) hx hb hts (by decide +kernel) tyX11 tyX11_ok nmX11 hown hK hP hD hS hs t_zy (by decide) rfl rfl 3 (by decide) (hts (.fieldLink RX11 116 "DripStoneModel" "at" "I") (by decide +kernel)) (fun _ h9 => h9) rfl (by decide +kernel) rfl rfl rfl dX11_readNumber_117 (fun H locs hP hD hS => ?_)
            have h_zI_1012 : WM [1803] AL zT zR zI (u2 zI_114 zy 3 zi_6) := h_zI_114.put hs t_zy rfl (by omega) (by decide) (fun h => absurd h (by decide)) (by decide) trivial
            generalize uzI_1012 : u2 zI_114 zy 3 zi_6 = zI_1012 at hP hD h_zI_1012
            refine lv_iconst (v := (-1)) hx hb dX11_readNumber_120 (by decide) ?_
            subst hQ
            have qc_m1 : (-1 : Int32).toInt = -1 := by decide
            exact W.iret (v := (-1 : Int32)) hx hb hr (fun t ht hW => ⟨⟨(-1 : Int32), zI_1012, rfl, ⟨h_zI_1012, (show (-1) ≤ (-1 : Int32).toInt from by omega), (show (-1 : Int32).toInt = -1 ∨ (zib.toInt ≤ (-1 : Int32).toInt ∧ (-1 : Int32).toInt ≤ zic.toInt) from by omega)⟩, ⟨by rw [ht]; exact hP, va_K.moved hW.alike hK, hD⟩⟩, hS.F ht⟩) hS.2.2 dX11_readNumber_121
        · have f_1003 : ¬ (zi_115.toInt ≠ zi_6.toInt) := ic_nne (rfl) (rfl) c_1002
          refine lv_iconst (v := (-1)) hx hb dX11_readNumber_100 (by decide) ?_
          subst hQ
          have qc_m1 : (-1 : Int32).toInt = -1 := by decide
          exact W.iret (v := (-1 : Int32)) hx hb hr (fun t ht hW => ⟨⟨(-1 : Int32), zI_114, rfl, ⟨h_zI_114, (show (-1) ≤ (-1 : Int32).toInt from by omega), (show (-1 : Int32).toInt = -1 ∨ (zib.toInt ≤ (-1 : Int32).toInt ∧ (-1 : Int32).toInt ≤ zic.toInt) from by omega)⟩, ⟨by rw [ht]; exact hP, va_K.moved hW.alike hK, hD⟩⟩, hS.F ht⟩) hS.2.2 dX11_readNumber_101
      refine lv_icmp_ge (tgt := 92) hx hb dX11_readNumber_21 (by decide) (fun c_1013 => ?_) (fun c_1013 => ?_)
      · have f_1014 : zi_115.toInt ≥ zi_9.toInt := ic_ge (rfl) (rfl) c_1013
        exact jn_1000  _ _ _  hP hD hS (lv_sub hl [0, 1, 2, 3, 4] rfl)
      · have f_1014 : ¬ (zi_115.toInt ≥ zi_9.toInt) := ic_nge (rfl) (rfl) c_1013
        refine lv_aload_n hx hb dX11_readNumber_24 rfl (lv_at hl 0 rfl) ?_
        refine ht_getr (C := RX11) (T := TX11) (N := 28) hx hb hts (by decide +kernel) hown hK hP hs t_zy (by decide) rfl rfl 1 (by decide) (hts (.fieldLink RX11 13 "DripStoneModel" "tape" "[I") (by decide +kernel)) (fun _ h9 => h9) rfl dX11_readNumber_25 ?_
        have t_1015 : zT (zR zy 1) = 101 := sk_f hs t_zy (by decide) rfl (by decide)
        refine lv_aload_n hx hb dX11_readNumber_28 rfl (lv_at hl 0 rfl) ?_
        refine ht_geti (C := RX11) (T := TX11) (N := 28) hx hb hts (by decide +kernel) hown hK hP hs t_zy (by decide) rfl rfl 3 (by decide) (hts (.fieldLink RX11 116 "DripStoneModel" "at" "I") (by decide +kernel)) (fun _ h9 => h9) rfl dX11_readNumber_29 ?_
        refine lv_topi (fun zi_1016 ezi_1016 => ?_)
        obtain rfl : zi_115 = zi_1016 := (ezi_1016.trans e_lp_968_0).symm
        refine ht_iald (n := 80) (q := 0) hx hb hK hP hs t_1015 (by decide) rfl rfl ⟨by omega, by omega⟩ dX11_readNumber_32 ?_
        refine lv_topi (fun zi_1017 ezi_1017 => ?_)
        have tzi_1017 : 0 ≤ zi_1017.toInt ∧ zi_1017.toInt ≤ 255 := by rw [ezi_1017]; exact h_zI_114.at t_1015 _ rfl
        refine lv_i2l (v := zi_1017.toInt64) hx hb dX11_readNumber_33 rfl ?_
        refine lv_topl (fun zj_1018 ezj_1018 => ?_)
        have tzj_1018 : zj_1018.toInt = zi_1017.toInt := by rw [ezj_1018]; exact Int32.toInt_toInt64 _
        refine lv_ldc2 (v := 48) hx hb hown (hts (.constantLong RX11 123 48) (by decide +kernel)) dX11_readNumber_34 ?_
        refine lv_ldc2 (v := 57) hx hb hown (hts (.constantLong RX11 125 57) (by decide +kernel)) dX11_readNumber_37 ?_
        refine hj0_i (ws := (WL cy zL zT zR zI_114 zJ)) (va_runS (As := [.long zj_1018, .long 48, .long 57]) (rest := []) ⟨hx, hb, hml, hown, hts⟩ (c_X11_in l dC dI cy H.size zj_1018 48 57 48 57 zj_1018.toInt (by first | rfl | decide | omega | exact Int32.toInt_toInt64 _) (by first | rfl | decide | omega | exact Int32.toInt_toInt64 _) (by first | rfl | decide | omega | exact Int32.toInt_toInt64 _)) (va_cwS 3 hts gX11_readNumber_X11_in rfl rfl rfl (by decide +kernel) ⟨(Nat.le_of_ble_eq_true rfl), (Nat.le_of_ble_eq_true rfl)⟩) (PRE.s (hP.sub [] rfl) hK (hD.sub [] (by decide) rfl) hN) rfl rfl hl.1 rfl (lv_room (Nat.le_of_ble_eq_true rfl)) dX11_readNumber_40 ⟨(Nat.le_of_ble_eq_true rfl), (Nat.le_of_ble_eq_true rfl)⟩) hP hD hS hA (fun zi_1019 u_1021 H locs hw_1020 hP hD hS => ?_)
        have hw_1020 : zi_1019 = if 48 ≤ zj_1018.toInt ∧ zj_1018.toInt ≤ 57 then 1 else 0 := hw_1020
        have b_zi_1019 : 0 ≤ zi_1019.toInt ∧ zi_1019.toInt ≤ 1 := bz_b hw_1020
        refine lv_if_eq (tgt := 92) hx hb dX11_readNumber_43 (by decide) (fun c_1022 => ?_) (fun c_1022 => ?_)
        · have f_1023 : ¬ (48 ≤ zj_1018.toInt ∧ zj_1018.toInt ≤ 57) := bz_0 hw_1020 c_1022
          exact jn_1000  _ _ _  hP hD hS (lv_sub hl [0, 1, 2, 3, 4] rfl)
        · have f_1023 : 48 ≤ zj_1018.toInt ∧ zj_1018.toInt ≤ 57 := bz_1 hw_1020 c_1022
          refine lv_iload hx hb dX11_readNumber_46 (lv_at hl 4 rfl) ?_
          refine lv_sipush (v := 999) hx hb dX11_readNumber_48 (by decide) ?_
          have jn_1032 : ∀ (zi_1031 : Int32) (H : Heap) (locs : List Loc) (ls : Array Slot), (0 ≤ zi_1031.toInt) → va_P (dC, dI) vwCl (WL cy zL zT zR zI_114 zJ) H → va_D A (WL cy zL zT zR zI_114 zJ) → va_S A s.heap H locs → lv_has ls 5 [(0, .ref zy), (1, .int zib), (2, .int zic), (3, .int zi_6), (4, .int zi_113)] → W p l e ({ frames := 1, cells := 0, slots := 0, locals := 25 } : Room) s m ([.ref zy, .int zib, .int zic] : List Value).toArray below meth c H locs 0 0 Q (F0 m 77 ls [.int zi_1031]) := by
            intro zi_1031 H locs ls b_zi_1031 hP hD hS hl
            refine lv_istore (lv' := [(4, .int zi_1031), (0, .ref zy), (1, .int zib), (2, .int zic), (3, .int zi_6)]) hx hb dX11_readNumber_77 hl (by decide) rfl (fun ls hl => ?_)
            refine lv_aload_n hx hb dX11_readNumber_79 rfl (lv_at hl 1 rfl) ?_
            refine lv_dup hx hb dX11_readNumber_80 rfl ?_
            refine ht_geti (C := RX11) (T := TX11) (N := 28) hx hb hts (by decide +kernel) hown hK hP hs t_zy (by decide) rfl rfl 3 (by decide) (hts (.fieldLink RX11 116 "DripStoneModel" "at" "I") (by decide +kernel)) (fun _ h9 => h9) rfl dX11_readNumber_81 ?_
            refine lv_topi (fun zi_1033 ezi_1033 => ?_)
            obtain rfl : zi_115 = zi_1033 := (ezi_1033.trans e_lp_968_0).symm
            refine lv_iconst (v := 1) hx hb dX11_readNumber_84 (by decide) ?_
            refine lv_iadd hx hb dX11_readNumber_85 ?_
            refine lv_topi (fun zi_1034 ezi_1034 => ?_)
            have tzi_1034 : zi_1034.toInt = zi_115.toInt + (1 : Int) := by rw [ezi_1034]; exact tiadd (rfl) (show (1 : Int32).toInt = 1 by decide) (by omega) (by omega)
            refine ht_puti (v := zi_1034) (ty := .int) (C := RX11) (T := TX11) (N := 28) hx hb hts (by decide +kernel) tyX11 tyX11_ok nmX11 hown hK hP hD hS hs t_zy (by decide) rfl rfl 3 (by decide) (hts (.fieldLink RX11 116 "DripStoneModel" "at" "I") (by decide +kernel)) (fun _ h9 => h9) rfl (by decide +kernel) rfl rfl rfl dX11_readNumber_86 (fun H locs hP hD hS => ?_)
            have h_zI_1035 : WM [1803] AL zT zR zI (u2 zI_114 zy 3 zi_1034) := h_zI_114.put hs t_zy rfl (by omega) (by decide) (fun h => absurd h (by decide)) (by decide) trivial
            generalize uzI_1035 : u2 zI_114 zy 3 zi_1034 = zI_1035 at hP hD h_zI_1035
            refine lv_goto (tgt := 13) hx hb dX11_readNumber_89 (by decide) ?_
            exact ih_968 (zi_9.toInt - zi_1034.toInt).toNat (by omega) zi_1031 zI_1035 zi_1034 _ _ _ rfl (by omega) h_zI_1035 (by omega) (by rw [← uzI_1035]; exact u2_s) ((show zI_1035 zy 2 = zI_114 zy 2 from by rw [← uzI_1035]; exact u2_k (by decide)).trans e_lp_968_1) hP hD hS (lv_sub hl [1, 2, 3, 4, 0] rfl)
          refine lv_icmp_le (tgt := 59) hx hb dX11_readNumber_51 (by decide) (fun c_1036 => ?_) (fun c_1036 => ?_)
          · have f_1037 : zi_113.toInt ≤ (999 : Int) := ic_le (rfl) (show (999 : Int32).toInt = 999 by decide) c_1036
            refine lv_bipush (v := 10) hx hb dX11_readNumber_59 (by decide) ?_
            refine lv_iload hx hb dX11_readNumber_61 (lv_at hl 4 rfl) ?_
            refine lv_imul hx hb dX11_readNumber_63 ?_
            refine lv_topi (fun zi_1038 ezi_1038 => ?_)
            have tzi_1038 : zi_1038.toInt = (10 : Int) * zi_113.toInt := by rw [ezi_1038]; exact timul (show (10 : Int32).toInt = 10 by decide) (rfl) (by omega) (by omega)
            refine lv_aload_n hx hb dX11_readNumber_64 rfl (lv_at hl 0 rfl) ?_
            refine ht_getr (C := RX11) (T := TX11) (N := 28) hx hb hts (by decide +kernel) hown hK hP hs t_zy (by decide) rfl rfl 1 (by decide) (hts (.fieldLink RX11 13 "DripStoneModel" "tape" "[I") (by decide +kernel)) (fun _ h9 => h9) rfl dX11_readNumber_65 ?_
            refine lv_aload_n hx hb dX11_readNumber_68 rfl (lv_at hl 0 rfl) ?_
            refine ht_geti (C := RX11) (T := TX11) (N := 28) hx hb hts (by decide +kernel) hown hK hP hs t_zy (by decide) rfl rfl 3 (by decide) (hts (.fieldLink RX11 116 "DripStoneModel" "at" "I") (by decide +kernel)) (fun _ h9 => h9) rfl dX11_readNumber_69 ?_
            refine lv_topi (fun zi_1039 ezi_1039 => ?_)
            obtain rfl : zi_115 = zi_1039 := (ezi_1039.trans e_lp_968_0).symm
            refine ht_iald (n := 80) (q := 0) hx hb hK hP hs t_1015 (by decide) rfl rfl ⟨by omega, by omega⟩ dX11_readNumber_72 ?_
            refine lv_topi (fun zi_1040 ezi_1040 => ?_)
            obtain rfl : zi_1017 = zi_1040 := (ezi_1040.trans ezi_1017.symm).symm
            refine lv_iadd hx hb dX11_readNumber_73 ?_
            refine lv_topi (fun zi_1041 ezi_1041 => ?_)
            have tzi_1041 : zi_1041.toInt = zi_1038.toInt + zi_1017.toInt := by rw [ezi_1041]; exact tiadd (rfl) (rfl) (by omega) (by omega)
            refine lv_bipush (v := 48) hx hb dX11_readNumber_74 (by decide) ?_
            refine lv_isub hx hb dX11_readNumber_76 ?_
            refine lv_topi (fun zi_1042 ezi_1042 => ?_)
            have tzi_1042 : zi_1042.toInt = zi_1041.toInt - (48 : Int) := by rw [ezi_1042]; exact tisub (rfl) (show (48 : Int32).toInt = 48 by decide) (by omega) (by omega)
            exact jn_1032 zi_1042 _ _ _ (by omega) hP hD hS (lv_sub hl [0, 1, 2, 3, 4] rfl)
          · have f_1037 : ¬ (zi_113.toInt ≤ (999 : Int)) := ic_nle (rfl) (show (999 : Int32).toInt = 999 by decide) c_1036
            refine lv_iload hx hb dX11_readNumber_54 (lv_at hl 4 rfl) ?_
            refine lv_goto (tgt := 77) hx hb dX11_readNumber_56 (by decide) ?_
            exact jn_1032 zi_113 _ _ _ (by omega) hP hD hS (lv_sub hl [0, 1, 2, 3, 4] rfl)
  have qc_0 : (0 : Int32).toInt = 0 := by decide
  exact lp_968 _ (0 : Int32) zI_4 zi_6 _ _ _ rfl (by decide) h_zI_4 (by omega) ezi_6.symm ezi_9.symm hP hD hS (lv_sub hl [2, 3, 4, 1, 0] rfl)
set_option maxHeartbeats 8000000 in
set_option maxRecDepth 100000 in
theorem t_X11_truth (l : Launch) (dC : Nat → ClassId) (dI : Nat → Nat → Nat) (cy : Nat → ClassId) (sz : Nat) (zL : List Nat) (zT : Nat → Nat) (zR : Nat → Nat → Nat) (zI : Nat → Nat → Int32) (zJ : Nat → Nat → Int64) (zy : Nat) (zia : Int32) (zib : Int32) (hs : SKP zL zT zR) (hw : WT zT zR zI) (t_zy : zT zy = 18) (hz : ZI (zI (zR zy 0))) : Met l yX11_truth wsX11_truth ({ frames := 2, cells := 0, slots := 0, locals := 47 } : Room) (va_Pc [.ref zy, .int zia, .int zib] (PRE dC dI cy (WL cy zL zT zR zI zJ) sz)) (va_Qi (fun (r : Int32) (u : Unit) => True) (fun u t => POST dC dI cy (va_A (WL cy zL zT zR zI zJ) sz) (WL cy zL zT zR zI zJ) t) (va_A (WL cy zL zT zR zI zJ) sz)) 0 0 (va_A (WL cy zL zT zR zI zJ) sz) := by
  refine Met.ofW (cc := cX11_truth) (maxL := 3) (ret := (some .int)) (by decide) rfl ?_
  intro p e s m args below meth c s₁ B hml hv
  obtain ⟨rfl, hsz, hP, hK, hD0, hN⟩ := hv
  have hx := B.exec
  have hb := B.bytes
  have hr := B.returns
  have hts := atoms_spec (ws := wsX11_truth) B.pre
  have hown : s.vm.findClass RX11 = some m.cls := findClass_of_methodNamed B.named
  have hlocks := B.notSynchronized
  subst hsz
  have hD := hD0.self (sz := s.heap.size)
  generalize hAe : va_A (WL cy zL zT zR zI zJ) s.heap.size = A at hD ⊢
  have hA : ∀ q : Nat, s.heap.size ≤ q → A q := fun q h => by rw [← hAe]; exact Or.inr h
  have hS : va_S A s.heap s.heap [] := va_S.rf
  have hP : va_P (dC, dI) vwCl (WL cy zL zT zR zI zJ) s.heap := hP
  have hl := lv_entry ([.ref zy, .int zia, .int zib] : List Value) (n := 3) (Nat.le_of_ble_eq_true rfl)
  rw [lg_entry_eq]
  generalize (lg_sl ([.ref zy, .int zia, .int zib] : List Value) ++ List.replicate (3 - (lg_sl ([.ref zy, .int zia, .int zib] : List Value)).length) Slot.unset).toArray = ls at hl ⊢
  have hl : lv_has ls 3 [(0, .ref zy), (1, .int zia), (2, .int zib)] := hl
  refine w_q (fun Q hQ => ?_)
  have h_zI : WM [] AL zT zR zI zI := WM.rf hw
  refine lv_iload_n hx hb dX11_truth_0 rfl (lv_at hl 1 rfl) ?_
  refine hj0_i (ws := (WL cy zL zT zR zI zJ)) (va_runS (As := [.int zia]) (rest := []) ⟨hx, hb, hml, hown, hts⟩ (c_X11_isCandle l dC dI cy s.heap.size zia) (va_cwS 1 hts gX11_truth_X11_isCandle rfl rfl rfl (by decide +kernel) ⟨(Nat.le_of_ble_eq_true rfl), (Nat.le_of_ble_eq_true rfl)⟩) (PRE.s (hP.sub [] rfl) hK (hD.sub [] (by decide) rfl) hN) rfl rfl hl.1 rfl (lv_room (Nat.le_of_ble_eq_true rfl)) dX11_truth_1 ⟨(Nat.le_of_ble_eq_true rfl), (Nat.le_of_ble_eq_true rfl)⟩) hP hD hS hA (fun zi_1 u_3 H locs hw_2 hP hD hS => ?_)
  have hw_2 : zi_1 = if 0 ≤ zia.toInt ∧ zia.toInt ≤ 1 then 1 else 0 := hw_2
  have b_zi_1 : 0 ≤ zi_1.toInt ∧ zi_1.toInt ≤ 1 := bz_b hw_2
  refine lv_if_eq (tgt := 16) hx hb dX11_truth_4 (by decide) (fun c_4 => ?_) (fun c_4 => ?_)
  · have f_5 : ¬ (0 ≤ zia.toInt ∧ zia.toInt ≤ 1) := bz_0 hw_2 c_4
    refine lv_iconst (v := (-1)) hx hb dX11_truth_16 (by decide) ?_
    subst hQ
    exact W.iret (v := (-1 : Int32)) hx hb hr (fun t ht hW => ⟨⟨(-1 : Int32), (), rfl, trivial, ⟨by rw [ht]; exact hP, va_K.moved hW.alike hK, hD⟩⟩, hS.F ht⟩) hS.2.2 dX11_truth_17
  · have f_5 : 0 ≤ zia.toInt ∧ zia.toInt ≤ 1 := bz_1 hw_2 c_4
    refine lv_aload_n hx hb dX11_truth_7 rfl (lv_at hl 0 rfl) ?_
    refine lv_iload_n hx hb dX11_truth_8 rfl (lv_at hl 1 rfl) ?_
    refine lv_iload_n hx hb dX11_truth_9 rfl (lv_at hl 2 rfl) ?_
    refine hj_i (ws := (WL cy zL zT zR zI zJ)) (w1 := fun (u : Unit) => (WL cy zL zT zR zI zJ)) (va_runV (As := [.int zia, .int zib]) (rest := []) ⟨hx, hb, hml, hown, hts⟩ (t_X11_isThing l dC dI cy H.size zL zT zR zI zJ zy zia zib hs h_zI.1 t_zy (by omega) hz) (cwV 2 hts gX11_truth_X11_isThing rfl rfl rfl (by decide +kernel) ⟨(Nat.le_of_ble_eq_true rfl), (Nat.le_of_ble_eq_true rfl)⟩) (PRE.v hP hK hD hN (ht_recv hK hP hs t_zy (by decide) rfl rfl)) rfl rfl hl.1 rfl (lv_room (Nat.le_of_ble_eq_true rfl)) dX11_truth_10 ⟨(Nat.le_of_ble_eq_true rfl), (Nat.le_of_ble_eq_true rfl)⟩) hP hD hS hA (fun zi_6 u_8 H locs hw_7 hP hD hS => ?_)
    obtain ⟨b_zi_6, ps_9, ps_10⟩ : (0 ≤ zi_6.toInt ∧ zi_6.toInt ≤ 1) ∧ (zi_6.toInt = 0 ∨ (0 ≤ zib.toInt ∧ zib.toInt ≤ 11)) ∧ (zi_6.toInt = 0 ∨ zib.toInt < zA (zI (zR zy 0)) (5 + zia.toInt)) := hw_7
    refine lv_if_ne (tgt := 18) hx hb dX11_truth_13 (by decide) (fun c_11 => ?_) (fun c_11 => ?_)
    · have f_12 : zi_6.toInt ≠ 0 := ic_ne (rfl) (by decide) c_11
      have b9_zib : 0 ≤ zib.toInt ∧ zib.toInt ≤ 11 := by omega
      refine lv_aload_n hx hb dX11_truth_18 rfl (lv_at hl 0 rfl) ?_
      refine ht_getr (C := RX11) (T := TX11) (N := 28) hx hb hts (by decide +kernel) hown hK hP hs t_zy (by decide) rfl rfl 0 (by decide) (hts (.fieldLink RX11 7 "DripStoneModel" "z" "[I") (by decide +kernel)) (fun _ h9 => h9) rfl dX11_truth_19 ?_
      have t_13 : zT (zR zy 0) = 100 := sk_f hs t_zy (by decide) rfl (by decide)
      refine lv_bipush (v := 7) hx hb dX11_truth_22 (by decide) ?_
      refine lv_iload_n hx hb dX11_truth_24 rfl (lv_at hl 1 rfl) ?_
      refine lv_iadd hx hb dX11_truth_25 ?_
      refine lv_topi (fun zi_14 ezi_14 => ?_)
      have tzi_14 : zi_14.toInt = (7 : Int) + zia.toInt := by rw [ezi_14]; exact tiadd (show (7 : Int32).toInt = 7 by decide) (rfl) (by omega) (by omega)
      refine ht_iald (n := 392) (q := 0) hx hb hK hP hs t_13 (by decide) rfl rfl ⟨by omega, by omega⟩ dX11_truth_26 ?_
      refine lv_topi (fun zi_15 ezi_15 => ?_)
      have la_16 : zi_15.toInt = zA (zI (zR zy 0)) (7 + zia.toInt) := (congrArg Int32.toInt (show zI (zR zy 0) zi_14.toNatClampNeg = zi_15 from ezi_15.symm).symm).trans (congrArg (zA (zI (zR zy 0))) (show zi_14.toInt = 7 + zia.toInt from by omega))
      refine lv_if_ne (tgt := 35) hx hb dX11_truth_27 (by decide) (fun c_17 => ?_) (fun c_17 => ?_)
      · have f_18 : zi_15.toInt ≠ 0 := ic_ne (rfl) (by decide) c_17
        refine lv_aload_n hx hb dX11_truth_35 rfl (lv_at hl 0 rfl) ?_
        refine lv_iload_n hx hb dX11_truth_36 rfl (lv_at hl 1 rfl) ?_
        refine lv_iload_n hx hb dX11_truth_37 rfl (lv_at hl 2 rfl) ?_
        refine hj_i (ws := (WL cy zL zT zR zI zJ)) (w1 := fun (u : Unit) => (WL cy zL zT zR zI zJ)) (va_runV (As := [.int zia, .int zib]) (rest := []) ⟨hx, hb, hml, hown, hts⟩ (t_X11_kindOf l dC dI cy H.size zL zT zR zI zJ zy zia zib hs h_zI.1 t_zy (by omega) (by omega) hz) (cwV 2 hts gX11_truth_X11_kindOf rfl rfl rfl (by decide +kernel) ⟨(Nat.le_of_ble_eq_true rfl), (Nat.le_of_ble_eq_true rfl)⟩) (PRE.v hP hK hD hN (ht_recv hK hP hs t_zy (by decide) rfl rfl)) rfl rfl hl.1 rfl (lv_room (Nat.le_of_ble_eq_true rfl)) dX11_truth_38 ⟨(Nat.le_of_ble_eq_true rfl), (Nat.le_of_ble_eq_true rfl)⟩) hP hD hS hA (fun zi_19 u_21 H locs hw_20 hP hD hS => ?_)
        have ps_22 : zi_19.toInt = zA (zI (zR zy 0)) (158 + 12 * zia.toInt + zib.toInt) := hw_20
        have rzi_19 := rng zi_19
        refine lv_iconst (v := 2) hx hb dX11_truth_41 (by decide) ?_
        refine lv_icmp_ne (tgt := 50) hx hb dX11_truth_42 (by decide) (fun c_23 => ?_) (fun c_23 => ?_)
        · have f_24 : zi_19.toInt ≠ (2 : Int) := ic_ne (rfl) (show (2 : Int32).toInt = 2 by decide) c_23
          refine lv_aload_n hx hb dX11_truth_50 rfl (lv_at hl 0 rfl) ?_
          refine ht_getr (C := RX11) (T := TX11) (N := 28) hx hb hts (by decide +kernel) hown hK hP hs t_zy (by decide) rfl rfl 0 (by decide) (hts (.fieldLink RX11 7 "DripStoneModel" "z" "[I") (by decide +kernel)) (fun _ h9 => h9) rfl dX11_truth_51 ?_
          refine lv_sipush (v := 206) hx hb dX11_truth_54 (by decide) ?_
          refine lv_bipush (v := 12) hx hb dX11_truth_57 (by decide) ?_
          refine lv_iload_n hx hb dX11_truth_59 rfl (lv_at hl 1 rfl) ?_
          refine lv_imul hx hb dX11_truth_60 ?_
          refine lv_topi (fun zi_25 ezi_25 => ?_)
          have tzi_25 : zi_25.toInt = (12 : Int) * zia.toInt := by rw [ezi_25]; exact timul (show (12 : Int32).toInt = 12 by decide) (rfl) (by omega) (by omega)
          refine lv_iadd hx hb dX11_truth_61 ?_
          refine lv_topi (fun zi_26 ezi_26 => ?_)
          have tzi_26 : zi_26.toInt = (206 : Int) + zi_25.toInt := by rw [ezi_26]; exact tiadd (show (206 : Int32).toInt = 206 by decide) (rfl) (by omega) (by omega)
          refine lv_iload_n hx hb dX11_truth_62 rfl (lv_at hl 2 rfl) ?_
          refine lv_iadd hx hb dX11_truth_63 ?_
          refine lv_topi (fun zi_27 ezi_27 => ?_)
          have tzi_27 : zi_27.toInt = zi_26.toInt + zib.toInt := by rw [ezi_27]; exact tiadd (rfl) (rfl) (by omega) (by omega)
          refine ht_iald (n := 392) (q := 0) hx hb hK hP hs t_13 (by decide) rfl rfl ⟨by omega, by omega⟩ dX11_truth_64 ?_
          refine lv_topi (fun zi_28 ezi_28 => ?_)
          have la_29 : zi_28.toInt = zA (zI (zR zy 0)) (206 + 12 * zia.toInt + zib.toInt) := (congrArg Int32.toInt (show zI (zR zy 0) zi_27.toNatClampNeg = zi_28 from ezi_28.symm).symm).trans (congrArg (zA (zI (zR zy 0))) (show zi_27.toInt = 206 + 12 * zia.toInt + zib.toInt from by omega))
          subst hQ
          exact W.iret (v := zi_28) hx hb hr (fun t ht hW => ⟨⟨zi_28, (), rfl, trivial, ⟨by rw [ht]; exact hP, va_K.moved hW.alike hK, hD⟩⟩, hS.F ht⟩) hS.2.2 dX11_truth_65
        · have f_24 : ¬ (zi_19.toInt ≠ (2 : Int)) := ic_nne (rfl) (show (2 : Int32).toInt = 2 by decide) c_23
          refine lv_bipush (v := (-12)) hx hb dX11_truth_45 (by decide) ?_
          refine lv_goto (tgt := 65) hx hb dX11_truth_47 (by decide) ?_
          subst hQ
          exact W.iret (v := (-12 : Int32)) hx hb hr (fun t ht hW => ⟨⟨(-12 : Int32), (), rfl, trivial, ⟨by rw [ht]; exact hP, va_K.moved hW.alike hK, hD⟩⟩, hS.F ht⟩) hS.2.2 dX11_truth_65
      · have f_18 : ¬ (zi_15.toInt ≠ 0) := ic_nne (rfl) (by decide) c_17
        refine lv_bipush (v := (-2)) hx hb dX11_truth_30 (by decide) ?_
        refine lv_goto (tgt := 65) hx hb dX11_truth_32 (by decide) ?_
        subst hQ
        exact W.iret (v := (-2 : Int32)) hx hb hr (fun t ht hW => ⟨⟨(-2 : Int32), (), rfl, trivial, ⟨by rw [ht]; exact hP, va_K.moved hW.alike hK, hD⟩⟩, hS.F ht⟩) hS.2.2 dX11_truth_65
    · have f_12 : ¬ (zi_6.toInt ≠ 0) := ic_nne (rfl) (by decide) c_11
      refine lv_iconst (v := (-1)) hx hb dX11_truth_16 (by decide) ?_
      subst hQ
      exact W.iret (v := (-1 : Int32)) hx hb hr (fun t ht hW => ⟨⟨(-1 : Int32), (), rfl, trivial, ⟨by rw [ht]; exact hP, va_K.moved hW.alike hK, hD⟩⟩, hS.F ht⟩) hS.2.2 dX11_truth_17
set_option maxHeartbeats 8000000 in
set_option maxRecDepth 100000 in
theorem t_X11_thing (l : Launch) (dC : Nat → ClassId) (dI : Nat → Nat → Nat) (cy : Nat → ClassId) (sz : Nat) (zL : List Nat) (zT : Nat → Nat) (zR : Nat → Nat → Nat) (zI : Nat → Nat → Int32) (zJ : Nat → Nat → Int64) (zy : Nat) (zia : Int32) (zib : Int32) (zic : Int32) (hs : SKP zL zT zR) (hw : WT zT zR zI) (t_zy : zT zy = 18) (hz : ZI (zI (zR zy 0))) : Met l yX11_thing wsX11_thing ({ frames := 2, cells := 0, slots := 0, locals := 47 } : Room) (va_Pc [.ref zy, .int zia, .int zib, .int zic] (PRE dC dI cy (WL cy zL zT zR zI zJ) sz)) (va_Qi (fun (r : Int32) (u : Unit) => True) (fun u t => POST dC dI cy (va_A (WL cy zL zT zR zI zJ) sz) (WL cy zL zT zR zI zJ) t) (va_A (WL cy zL zT zR zI zJ) sz)) 0 0 (va_A (WL cy zL zT zR zI zJ) sz) := by
  refine Met.ofW (cc := cX11_thing) (maxL := 4) (ret := (some .int)) (by decide) rfl ?_
  intro p e s m args below meth c s₁ B hml hv
  obtain ⟨rfl, hsz, hP, hK, hD0, hN⟩ := hv
  have hx := B.exec
  have hb := B.bytes
  have hr := B.returns
  have hts := atoms_spec (ws := wsX11_thing) B.pre
  have hown : s.vm.findClass RX11 = some m.cls := findClass_of_methodNamed B.named
  have hlocks := B.notSynchronized
  subst hsz
  have hD := hD0.self (sz := s.heap.size)
  generalize hAe : va_A (WL cy zL zT zR zI zJ) s.heap.size = A at hD ⊢
  have hA : ∀ q : Nat, s.heap.size ≤ q → A q := fun q h => by rw [← hAe]; exact Or.inr h
  have hS : va_S A s.heap s.heap [] := va_S.rf
  have hP : va_P (dC, dI) vwCl (WL cy zL zT zR zI zJ) s.heap := hP
  have hl := lv_entry ([.ref zy, .int zia, .int zib, .int zic] : List Value) (n := 4) (Nat.le_of_ble_eq_true rfl)
  rw [lg_entry_eq]
  generalize (lg_sl ([.ref zy, .int zia, .int zib, .int zic] : List Value) ++ List.replicate (4 - (lg_sl ([.ref zy, .int zia, .int zib, .int zic] : List Value)).length) Slot.unset).toArray = ls at hl ⊢
  have hl : lv_has ls 4 [(0, .ref zy), (1, .int zia), (2, .int zib), (3, .int zic)] := hl
  refine w_q (fun Q hQ => ?_)
  have h_zI : WM [] AL zT zR zI zI := WM.rf hw
  refine lv_iload_n hx hb dX11_thing_0 rfl (lv_at hl 1 rfl) ?_
  refine hj0_i (ws := (WL cy zL zT zR zI zJ)) (va_runS (As := [.int zia]) (rest := []) ⟨hx, hb, hml, hown, hts⟩ (c_X11_isCandle l dC dI cy s.heap.size zia) (va_cwS 1 hts gX11_thing_X11_isCandle rfl rfl rfl (by decide +kernel) ⟨(Nat.le_of_ble_eq_true rfl), (Nat.le_of_ble_eq_true rfl)⟩) (PRE.s (hP.sub [] rfl) hK (hD.sub [] (by decide) rfl) hN) rfl rfl hl.1 rfl (lv_room (Nat.le_of_ble_eq_true rfl)) dX11_thing_1 ⟨(Nat.le_of_ble_eq_true rfl), (Nat.le_of_ble_eq_true rfl)⟩) hP hD hS hA (fun zi_1 u_3 H locs hw_2 hP hD hS => ?_)
  have hw_2 : zi_1 = if 0 ≤ zia.toInt ∧ zia.toInt ≤ 1 then 1 else 0 := hw_2
  have b_zi_1 : 0 ≤ zi_1.toInt ∧ zi_1.toInt ≤ 1 := bz_b hw_2
  refine lv_if_eq (tgt := 26) hx hb dX11_thing_4 (by decide) (fun c_4 => ?_) (fun c_4 => ?_)
  · have f_5 : ¬ (0 ≤ zia.toInt ∧ zia.toInt ≤ 1) := bz_0 hw_2 c_4
    refine lv_sipush (v := (-1001)) hx hb dX11_thing_26 (by decide) ?_
    subst hQ
    exact W.iret (v := (-1001 : Int32)) hx hb hr (fun t ht hW => ⟨⟨(-1001 : Int32), (), rfl, trivial, ⟨by rw [ht]; exact hP, va_K.moved hW.alike hK, hD⟩⟩, hS.F ht⟩) hS.2.2 dX11_thing_29
  · have f_5 : 0 ≤ zia.toInt ∧ zia.toInt ≤ 1 := bz_1 hw_2 c_4
    refine lv_aload_n hx hb dX11_thing_7 rfl (lv_at hl 0 rfl) ?_
    refine lv_iload_n hx hb dX11_thing_8 rfl (lv_at hl 1 rfl) ?_
    refine lv_iload_n hx hb dX11_thing_9 rfl (lv_at hl 2 rfl) ?_
    refine hj_i (ws := (WL cy zL zT zR zI zJ)) (w1 := fun (u : Unit) => (WL cy zL zT zR zI zJ)) (va_runV (As := [.int zia, .int zib]) (rest := []) ⟨hx, hb, hml, hown, hts⟩ (t_X11_isThing l dC dI cy H.size zL zT zR zI zJ zy zia zib hs h_zI.1 t_zy (by omega) hz) (cwV 2 hts gX11_thing_X11_isThing rfl rfl rfl (by decide +kernel) ⟨(Nat.le_of_ble_eq_true rfl), (Nat.le_of_ble_eq_true rfl)⟩) (PRE.v hP hK hD hN (ht_recv hK hP hs t_zy (by decide) rfl rfl)) rfl rfl hl.1 rfl (lv_room (Nat.le_of_ble_eq_true rfl)) dX11_thing_10 ⟨(Nat.le_of_ble_eq_true rfl), (Nat.le_of_ble_eq_true rfl)⟩) hP hD hS hA (fun zi_6 u_8 H locs hw_7 hP hD hS => ?_)
    obtain ⟨b_zi_6, ps_9, ps_10⟩ : (0 ≤ zi_6.toInt ∧ zi_6.toInt ≤ 1) ∧ (zi_6.toInt = 0 ∨ (0 ≤ zib.toInt ∧ zib.toInt ≤ 11)) ∧ (zi_6.toInt = 0 ∨ zib.toInt < zA (zI (zR zy 0)) (5 + zia.toInt)) := hw_7
    refine lv_if_eq (tgt := 26) hx hb dX11_thing_13 (by decide) (fun c_11 => ?_) (fun c_11 => ?_)
    · have f_12 : zi_6.toInt = 0 := ic_eq (rfl) (by decide) c_11
      refine lv_sipush (v := (-1001)) hx hb dX11_thing_26 (by decide) ?_
      subst hQ
      exact W.iret (v := (-1001 : Int32)) hx hb hr (fun t ht hW => ⟨⟨(-1001 : Int32), (), rfl, trivial, ⟨by rw [ht]; exact hP, va_K.moved hW.alike hK, hD⟩⟩, hS.F ht⟩) hS.2.2 dX11_thing_29
    · have f_12 : ¬ (zi_6.toInt = 0) := ic_neq (rfl) (by decide) c_11
      have b9_zib : 0 ≤ zib.toInt ∧ zib.toInt ≤ 11 := by omega
      refine lv_iload_n hx hb dX11_thing_16 rfl (lv_at hl 3 rfl) ?_
      refine lv_i2l (v := zic.toInt64) hx hb dX11_thing_17 rfl ?_
      refine lv_topl (fun zj_13 ezj_13 => ?_)
      have tzj_13 : zj_13.toInt = zic.toInt := by rw [ezj_13]; exact Int32.toInt_toInt64 _
      refine lv_lconst (v := 0) hx hb dX11_thing_18 (by decide) ?_
      refine lv_lconst (v := 1) hx hb dX11_thing_19 (by decide) ?_
      refine hj0_i (ws := (WL cy zL zT zR zI zJ)) (va_runS (As := [.long zj_13, .long 0, .long 1]) (rest := []) ⟨hx, hb, hml, hown, hts⟩ (c_X11_in l dC dI cy H.size zj_13 0 1 0 1 zj_13.toInt (by first | rfl | decide | omega | exact Int32.toInt_toInt64 _) (by first | rfl | decide | omega | exact Int32.toInt_toInt64 _) (by first | rfl | decide | omega | exact Int32.toInt_toInt64 _)) (va_cwS 3 hts gX11_thing_X11_in rfl rfl rfl (by decide +kernel) ⟨(Nat.le_of_ble_eq_true rfl), (Nat.le_of_ble_eq_true rfl)⟩) (PRE.s (hP.sub [] rfl) hK (hD.sub [] (by decide) rfl) hN) rfl rfl hl.1 rfl (lv_room (Nat.le_of_ble_eq_true rfl)) dX11_thing_20 ⟨(Nat.le_of_ble_eq_true rfl), (Nat.le_of_ble_eq_true rfl)⟩) hP hD hS hA (fun zi_14 u_16 H locs hw_15 hP hD hS => ?_)
      have hw_15 : zi_14 = if 0 ≤ zj_13.toInt ∧ zj_13.toInt ≤ 1 then 1 else 0 := hw_15
      have b_zi_14 : 0 ≤ zi_14.toInt ∧ zi_14.toInt ≤ 1 := bz_b hw_15
      refine lv_if_ne (tgt := 30) hx hb dX11_thing_23 (by decide) (fun c_17 => ?_) (fun c_17 => ?_)
      · have f_18 : 0 ≤ zj_13.toInt ∧ zj_13.toInt ≤ 1 := bz_1 hw_15 c_17
        refine lv_iload_n hx hb dX11_thing_30 rfl (lv_at hl 3 rfl) ?_
        refine lv_if_ne (tgt := 43) hx hb dX11_thing_31 (by decide) (fun c_19 => ?_) (fun c_19 => ?_)
        · have f_20 : zic.toInt ≠ 0 := ic_ne (rfl) (by decide) c_19
          refine lv_aload_n hx hb dX11_thing_43 rfl (lv_at hl 0 rfl) ?_
          refine lv_iload_n hx hb dX11_thing_44 rfl (lv_at hl 1 rfl) ?_
          refine lv_iload_n hx hb dX11_thing_45 rfl (lv_at hl 2 rfl) ?_
          refine hj_i (ws := (WL cy zL zT zR zI zJ)) (w1 := fun (u : Unit) => (WL cy zL zT zR zI zJ)) (va_runV (As := [.int zia, .int zib]) (rest := []) ⟨hx, hb, hml, hown, hts⟩ (t_X11_kindOf l dC dI cy H.size zL zT zR zI zJ zy zia zib hs h_zI.1 t_zy (by omega) (by omega) hz) (cwV 2 hts gX11_thing_X11_kindOf rfl rfl rfl (by decide +kernel) ⟨(Nat.le_of_ble_eq_true rfl), (Nat.le_of_ble_eq_true rfl)⟩) (PRE.v hP hK hD hN (ht_recv hK hP hs t_zy (by decide) rfl rfl)) rfl rfl hl.1 rfl (lv_room (Nat.le_of_ble_eq_true rfl)) dX11_thing_46 ⟨(Nat.le_of_ble_eq_true rfl), (Nat.le_of_ble_eq_true rfl)⟩) hP hD hS hA (fun zi_21 u_23 H locs hw_22 hP hD hS => ?_)
          have ps_24 : zi_21.toInt = zA (zI (zR zy 0)) (158 + 12 * zia.toInt + zib.toInt) := hw_22
          have rzi_21 := rng zi_21
          refine lv_if_ne (tgt := 61) hx hb dX11_thing_49 (by decide) (fun c_25 => ?_) (fun c_25 => ?_)
          · have f_26 : zi_21.toInt ≠ 0 := ic_ne (rfl) (by decide) c_25
            refine lv_sipush (v := (-1012)) hx hb dX11_thing_61 (by decide) ?_
            subst hQ
            exact W.iret (v := (-1012 : Int32)) hx hb hr (fun t ht hW => ⟨⟨(-1012 : Int32), (), rfl, trivial, ⟨by rw [ht]; exact hP, va_K.moved hW.alike hK, hD⟩⟩, hS.F ht⟩) hS.2.2 dX11_thing_64
          · have f_26 : ¬ (zi_21.toInt ≠ 0) := ic_nne (rfl) (by decide) c_25
            refine lv_aload_n hx hb dX11_thing_52 rfl (lv_at hl 0 rfl) ?_
            refine lv_iload_n hx hb dX11_thing_53 rfl (lv_at hl 1 rfl) ?_
            refine lv_iload_n hx hb dX11_thing_54 rfl (lv_at hl 2 rfl) ?_
            refine hj_i (ws := (WL cy zL zT zR zI zJ)) (w1 := fun (u : Unit) => (WL cy zL zT zR zI zJ)) (va_runV (As := [.int zia, .int zib]) (rest := []) ⟨hx, hb, hml, hown, hts⟩ (t_X11_weightOf l dC dI cy H.size zL zT zR zI zJ zy zia zib hs h_zI.1 t_zy (by omega) (by omega) hz) (cwV 2 hts gX11_thing_X11_weightOf rfl rfl rfl (by decide +kernel) ⟨(Nat.le_of_ble_eq_true rfl), (Nat.le_of_ble_eq_true rfl)⟩) (PRE.v hP hK hD hN (ht_recv hK hP hs t_zy (by decide) rfl rfl)) rfl rfl hl.1 rfl (lv_room (Nat.le_of_ble_eq_true rfl)) dX11_thing_55 ⟨(Nat.le_of_ble_eq_true rfl), (Nat.le_of_ble_eq_true rfl)⟩) hP hD hS hA (fun zi_27 u_29 H locs hw_28 hP hD hS => ?_)
            have rzi_27 := rng zi_27
            refine lv_goto (tgt := 64) hx hb dX11_thing_58 (by decide) ?_
            subst hQ
            exact W.iret (v := zi_27) hx hb hr (fun t ht hW => ⟨⟨zi_27, (), rfl, trivial, ⟨by rw [ht]; exact hP, va_K.moved hW.alike hK, hD⟩⟩, hS.F ht⟩) hS.2.2 dX11_thing_64
        · have f_20 : ¬ (zic.toInt ≠ 0) := ic_nne (rfl) (by decide) c_19
          refine lv_aload_n hx hb dX11_thing_34 rfl (lv_at hl 0 rfl) ?_
          refine lv_iload_n hx hb dX11_thing_35 rfl (lv_at hl 1 rfl) ?_
          refine lv_iload_n hx hb dX11_thing_36 rfl (lv_at hl 2 rfl) ?_
          refine hj_i (ws := (WL cy zL zT zR zI zJ)) (w1 := fun (u : Unit) => (WL cy zL zT zR zI zJ)) (va_runV (As := [.int zia, .int zib]) (rest := []) ⟨hx, hb, hml, hown, hts⟩ (t_X11_kindOf l dC dI cy H.size zL zT zR zI zJ zy zia zib hs h_zI.1 t_zy (by omega) (by omega) hz) (cwV 2 hts gX11_thing_X11_kindOf rfl rfl rfl (by decide +kernel) ⟨(Nat.le_of_ble_eq_true rfl), (Nat.le_of_ble_eq_true rfl)⟩) (PRE.v hP hK hD hN (ht_recv hK hP hs t_zy (by decide) rfl rfl)) rfl rfl hl.1 rfl (lv_room (Nat.le_of_ble_eq_true rfl)) dX11_thing_37 ⟨(Nat.le_of_ble_eq_true rfl), (Nat.le_of_ble_eq_true rfl)⟩) hP hD hS hA (fun zi_30 u_32 H locs hw_31 hP hD hS => ?_)
          have ps_33 : zi_30.toInt = zA (zI (zR zy 0)) (158 + 12 * zia.toInt + zib.toInt) := hw_31
          have rzi_30 := rng zi_30
          refine lv_goto (tgt := 64) hx hb dX11_thing_40 (by decide) ?_
          subst hQ
          exact W.iret (v := zi_30) hx hb hr (fun t ht hW => ⟨⟨zi_30, (), rfl, trivial, ⟨by rw [ht]; exact hP, va_K.moved hW.alike hK, hD⟩⟩, hS.F ht⟩) hS.2.2 dX11_thing_64
      · have f_18 : ¬ (0 ≤ zj_13.toInt ∧ zj_13.toInt ≤ 1) := bz_0 hw_15 c_17
        refine lv_sipush (v := (-1001)) hx hb dX11_thing_26 (by decide) ?_
        subst hQ
        exact W.iret (v := (-1001 : Int32)) hx hb hr (fun t ht hW => ⟨⟨(-1001 : Int32), (), rfl, trivial, ⟨by rw [ht]; exact hP, va_K.moved hW.alike hK, hD⟩⟩, hS.F ht⟩) hS.2.2 dX11_thing_29
set_option maxHeartbeats 8000000 in
set_option maxRecDepth 100000 in
theorem t_X11_most (l : Launch) (dC : Nat → ClassId) (dI : Nat → Nat → Nat) (cy : Nat → ClassId) (sz : Nat) (zL : List Nat) (zT : Nat → Nat) (zR : Nat → Nat → Nat) (zI : Nat → Nat → Int32) (zJ : Nat → Nat → Int64) (zy : Nat) (zia : Int32) (zib : Int32) (hs : SKP zL zT zR) (hw : WT zT zR zI) (t_zy : zT zy = 18) (hz : ZI (zI (zR zy 0))) : Met l yX11_most wsX11_most ({ frames := 2, cells := 0, slots := 0, locals := 45 } : Room) (va_Pc [.ref zy, .int zia, .int zib] (PRE dC dI cy (WL cy zL zT zR zI zJ) sz)) (va_Qi (fun (r : Int32) (u : (Nat → Nat → Int32)) => (WM [10000] AL zT zR zI u) ∧ ((-1) ≤ r.toInt ∧ r.toInt ≤ 4) ∧ (MSok zia.toInt zib.toInt → (r.toInt = zA (zI (zR zy 0)) (3 + zia.toInt) ∧ zA (u (zR zy 0)) (3 + zia.toInt) = zib.toInt ∧ FE (zI (zR zy 0)) (u (zR zy 0)) (3 + zia.toInt))) ∧ (¬ (MSok zia.toInt zib.toInt) → (r.toInt = -1 ∧ u = zI)) ∧ (ZI (u (zR zy 0)))) (fun u t => POST dC dI cy (va_A (WL cy zL zT zR zI zJ) sz) (WL cy zL zT zR u zJ) t) (va_A (WL cy zL zT zR zI zJ) sz)) 0 0 (va_A (WL cy zL zT zR zI zJ) sz) := by
  refine Met.ofW (cc := cX11_most) (maxL := 4) (ret := (some .int)) (by decide) rfl ?_
  intro p e s m args below meth c s₁ B hml hv
  obtain ⟨rfl, hsz, hP, hK, hD0, hN⟩ := hv
  have hx := B.exec
  have hb := B.bytes
  have hr := B.returns
  have hts := atoms_spec (ws := wsX11_most) B.pre
  have hown : s.vm.findClass RX11 = some m.cls := findClass_of_methodNamed B.named
  have hlocks := B.notSynchronized
  subst hsz
  have hD := hD0.self (sz := s.heap.size)
  generalize hAe : va_A (WL cy zL zT zR zI zJ) s.heap.size = A at hD ⊢
  have hA : ∀ q : Nat, s.heap.size ≤ q → A q := fun q h => by rw [← hAe]; exact Or.inr h
  have hS : va_S A s.heap s.heap [] := va_S.rf
  have hP : va_P (dC, dI) vwCl (WL cy zL zT zR zI zJ) s.heap := hP
  have hl := lv_entry ([.ref zy, .int zia, .int zib] : List Value) (n := 4) (Nat.le_of_ble_eq_true rfl)
  rw [lg_entry_eq]
  generalize (lg_sl ([.ref zy, .int zia, .int zib] : List Value) ++ List.replicate (4 - (lg_sl ([.ref zy, .int zia, .int zib] : List Value)).length) Slot.unset).toArray = ls at hl ⊢
  have hl : lv_has ls 4 [(0, .ref zy), (1, .int zia), (2, .int zib)] := hl
  refine w_q (fun Q hQ => ?_)
  have h_zI : WM [10000] AL zT zR zI zI := WM.rf hw
  refine lv_iload_n hx hb dX11_most_0 rfl (lv_at hl 1 rfl) ?_
  refine hj0_i (ws := (WL cy zL zT zR zI zJ)) (va_runS (As := [.int zia]) (rest := []) ⟨hx, hb, hml, hown, hts⟩ (c_X11_isCandle l dC dI cy s.heap.size zia) (va_cwS 1 hts gX11_most_X11_isCandle rfl rfl rfl (by decide +kernel) ⟨(Nat.le_of_ble_eq_true rfl), (Nat.le_of_ble_eq_true rfl)⟩) (PRE.s (hP.sub [] rfl) hK (hD.sub [] (by decide) rfl) hN) rfl rfl hl.1 rfl (lv_room (Nat.le_of_ble_eq_true rfl)) dX11_most_1 ⟨(Nat.le_of_ble_eq_true rfl), (Nat.le_of_ble_eq_true rfl)⟩) hP hD hS hA (fun zi_1 u_3 H locs hw_2 hP hD hS => ?_)
  have hw_2 : zi_1 = if 0 ≤ zia.toInt ∧ zia.toInt ≤ 1 then 1 else 0 := hw_2
  have b_zi_1 : 0 ≤ zi_1.toInt ∧ zi_1.toInt ≤ 1 := bz_b hw_2
  refine lv_if_eq (tgt := 19) hx hb dX11_most_4 (by decide) (fun c_4 => ?_) (fun c_4 => ?_)
  · have f_5 : ¬ (0 ≤ zia.toInt ∧ zia.toInt ≤ 1) := bz_0 hw_2 c_4
    refine lv_iconst (v := (-1)) hx hb dX11_most_19 (by decide) ?_
    subst hQ
    have qc_m1 : (-1 : Int32).toInt = -1 := by decide
    exact W.iret (v := (-1 : Int32)) hx hb hr (fun t ht hW => ⟨⟨(-1 : Int32), zI, rfl, ⟨h_zI, (show (-1) ≤ (-1 : Int32).toInt ∧ (-1 : Int32).toInt ≤ 4 from by omega), (show MSok zia.toInt zib.toInt → ((-1 : Int32).toInt = zA (zI (zR zy 0)) (3 + zia.toInt) ∧ zA (zI (zR zy 0)) (3 + zia.toInt) = zib.toInt ∧ FE (zI (zR zy 0)) (zI (zR zy 0)) (3 + zia.toInt)) from (fun h9 => absurd h9 (by unfold MSok; omega))), (show ¬ (MSok zia.toInt zib.toInt) → ((-1 : Int32).toInt = -1 ∧ zI = zI) from (fun _ => ⟨by decide, rfl⟩)), (show ZI (zI (zR zy 0)) from hz)⟩, ⟨by rw [ht]; exact hP, va_K.moved hW.alike hK, hD⟩⟩, hS.F ht⟩) hS.2.2 dX11_most_20
  · have f_5 : 0 ≤ zia.toInt ∧ zia.toInt ≤ 1 := bz_1 hw_2 c_4
    refine lv_iload_n hx hb dX11_most_7 rfl (lv_at hl 2 rfl) ?_
    refine lv_i2l (v := zib.toInt64) hx hb dX11_most_8 rfl ?_
    refine lv_topl (fun zj_6 ezj_6 => ?_)
    have tzj_6 : zj_6.toInt = zib.toInt := by rw [ezj_6]; exact Int32.toInt_toInt64 _
    refine lv_lconst (v := 1) hx hb dX11_most_9 (by decide) ?_
    refine lv_ldc2 (v := 4) hx hb hown (hts (.constantLong RX11 136 4) (by decide +kernel)) dX11_most_10 ?_
    refine hj0_i (ws := (WL cy zL zT zR zI zJ)) (va_runS (As := [.long zj_6, .long 1, .long 4]) (rest := []) ⟨hx, hb, hml, hown, hts⟩ (c_X11_in l dC dI cy H.size zj_6 1 4 1 4 zj_6.toInt (by first | rfl | decide | omega | exact Int32.toInt_toInt64 _) (by first | rfl | decide | omega | exact Int32.toInt_toInt64 _) (by first | rfl | decide | omega | exact Int32.toInt_toInt64 _)) (va_cwS 3 hts gX11_most_X11_in rfl rfl rfl (by decide +kernel) ⟨(Nat.le_of_ble_eq_true rfl), (Nat.le_of_ble_eq_true rfl)⟩) (PRE.s (hP.sub [] rfl) hK (hD.sub [] (by decide) rfl) hN) rfl rfl hl.1 rfl (lv_room (Nat.le_of_ble_eq_true rfl)) dX11_most_13 ⟨(Nat.le_of_ble_eq_true rfl), (Nat.le_of_ble_eq_true rfl)⟩) hP hD hS hA (fun zi_7 u_9 H locs hw_8 hP hD hS => ?_)
    have hw_8 : zi_7 = if 1 ≤ zj_6.toInt ∧ zj_6.toInt ≤ 4 then 1 else 0 := hw_8
    have b_zi_7 : 0 ≤ zi_7.toInt ∧ zi_7.toInt ≤ 1 := bz_b hw_8
    refine lv_if_ne (tgt := 21) hx hb dX11_most_16 (by decide) (fun c_10 => ?_) (fun c_10 => ?_)
    · have f_11 : 1 ≤ zj_6.toInt ∧ zj_6.toInt ≤ 4 := bz_1 hw_8 c_10
      refine lv_aload_n hx hb dX11_most_21 rfl (lv_at hl 0 rfl) ?_
      refine ht_getr (C := RX11) (T := TX11) (N := 28) hx hb hts (by decide +kernel) hown hK hP hs t_zy (by decide) rfl rfl 0 (by decide) (hts (.fieldLink RX11 7 "DripStoneModel" "z" "[I") (by decide +kernel)) (fun _ h9 => h9) rfl dX11_most_22 ?_
      have t_12 : zT (zR zy 0) = 100 := sk_f hs t_zy (by decide) rfl (by decide)
      refine lv_iconst (v := 3) hx hb dX11_most_25 (by decide) ?_
      refine lv_iload_n hx hb dX11_most_26 rfl (lv_at hl 1 rfl) ?_
      refine lv_iadd hx hb dX11_most_27 ?_
      refine lv_topi (fun zi_13 ezi_13 => ?_)
      have tzi_13 : zi_13.toInt = (3 : Int) + zia.toInt := by rw [ezi_13]; exact tiadd (show (3 : Int32).toInt = 3 by decide) (rfl) (by omega) (by omega)
      refine ht_iald (n := 392) (q := 0) hx hb hK hP hs t_12 (by decide) rfl rfl ⟨by omega, by omega⟩ dX11_most_28 ?_
      refine lv_topi (fun zi_14 ezi_14 => ?_)
      have la_15 : zi_14.toInt = zA (zI (zR zy 0)) (3 + zia.toInt) := (congrArg Int32.toInt (show zI (zR zy 0) zi_13.toNatClampNeg = zi_14 from ezi_14.symm).symm).trans (congrArg (zA (zI (zR zy 0))) (show zi_13.toInt = 3 + zia.toInt from by omega))
      have tz_16 : 1 ≤ zi_14.toInt ∧ zi_14.toInt ≤ 4 := by rw [← (show zI (zR zy 0) zi_13.toNatClampNeg = zi_14 from ezi_14.symm)]; exact ZI.g3 hz (by omega) (by omega)
      refine lv_istore_n (lv' := [(3, .int zi_14), (0, .ref zy), (1, .int zia), (2, .int zib)]) hx hb dX11_most_29 rfl hl (by decide) rfl (fun ls hl => ?_)
      refine lv_aload_n hx hb dX11_most_30 rfl (lv_at hl 1 rfl) ?_
      refine ht_getr (C := RX11) (T := TX11) (N := 28) hx hb hts (by decide +kernel) hown hK hP hs t_zy (by decide) rfl rfl 0 (by decide) (hts (.fieldLink RX11 7 "DripStoneModel" "z" "[I") (by decide +kernel)) (fun _ h9 => h9) rfl dX11_most_31 ?_
      refine lv_iconst (v := 3) hx hb dX11_most_34 (by decide) ?_
      refine lv_iload_n hx hb dX11_most_35 rfl (lv_at hl 2 rfl) ?_
      refine lv_iadd hx hb dX11_most_36 ?_
      refine lv_topi (fun zi_17 ezi_17 => ?_)
      have tzi_17 : zi_17.toInt = (3 : Int) + zia.toInt := by rw [ezi_17]; exact tiadd (show (3 : Int32).toInt = 3 by decide) (rfl) (by omega) (by omega)
      refine lv_iload_n hx hb dX11_most_37 rfl (lv_at hl 3 rfl) ?_
      refine ht_iast (v := zib) (n := 392) (q := 0) hx hb hK hP hD hS hs t_12 (by decide) rfl rfl ⟨by omega, by omega⟩ dX11_most_38 (fun H locs hP hD hS => ?_)
      have h_zI_18 : WM [10000] AL zT zR zI (u2 zI (zR zy 0) zi_17.toNatClampNeg zib) := h_zI.putA hs t_12 rfl (rgF _) (by decide) (fun h => absurd h (by decide)) (by decide) trivial
      generalize uzI_18 : u2 zI (zR zy 0) zi_17.toNatClampNeg zib = zI_18 at hP hD h_zI_18
      have z_zI_18 : ZI (zI_18 (zR zy 0)) := by rw [← uzI_18, u2_r]; exact ZI.sm hz (by omega) (by unfold RR; omega)
      refine lv_iload_n hx hb dX11_most_39 rfl (lv_at hl 0 rfl) ?_
      subst hQ
      exact W.iret (v := zi_14) hx hb hr (fun t ht hW => ⟨⟨zi_14, zI_18, rfl, ⟨h_zI_18, (show (-1) ≤ zi_14.toInt ∧ zi_14.toInt ≤ 4 from by omega), (show MSok zia.toInt zib.toInt → (zi_14.toInt = zA (zI (zR zy 0)) (3 + zia.toInt) ∧ zA (zI_18 (zR zy 0)) (3 + zia.toInt) = zib.toInt ∧ FE (zI (zR zy 0)) (zI_18 (zR zy 0)) (3 + zia.toInt)) from (fun _ => ⟨by omega, by rw [← uzI_18, u2_r]; exact (FE.up (by omega) (by omega)).2, by rw [← uzI_18, u2_r]; exact (FE.up (by omega) (by omega)).1⟩)), (show ¬ (MSok zia.toInt zib.toInt) → (zi_14.toInt = -1 ∧ zI_18 = zI) from (fun h9 => absurd (show MSok zia.toInt zib.toInt from by unfold MSok; omega) h9)), (show ZI (zI_18 (zR zy 0)) from z_zI_18)⟩, ⟨by rw [ht]; exact hP, va_K.moved hW.alike hK, hD⟩⟩, hS.F ht⟩) hS.2.2 dX11_most_40
    · have f_11 : ¬ (1 ≤ zj_6.toInt ∧ zj_6.toInt ≤ 4) := bz_0 hw_8 c_10
      refine lv_iconst (v := (-1)) hx hb dX11_most_19 (by decide) ?_
      subst hQ
      have qc_m1 : (-1 : Int32).toInt = -1 := by decide
      exact W.iret (v := (-1 : Int32)) hx hb hr (fun t ht hW => ⟨⟨(-1 : Int32), zI, rfl, ⟨h_zI, (show (-1) ≤ (-1 : Int32).toInt ∧ (-1 : Int32).toInt ≤ 4 from by omega), (show MSok zia.toInt zib.toInt → ((-1 : Int32).toInt = zA (zI (zR zy 0)) (3 + zia.toInt) ∧ zA (zI (zR zy 0)) (3 + zia.toInt) = zib.toInt ∧ FE (zI (zR zy 0)) (zI (zR zy 0)) (3 + zia.toInt)) from (fun h9 => absurd h9 (by unfold MSok; omega))), (show ¬ (MSok zia.toInt zib.toInt) → ((-1 : Int32).toInt = -1 ∧ zI = zI) from (fun _ => ⟨by decide, rfl⟩)), (show ZI (zI (zR zy 0)) from hz)⟩, ⟨by rw [ht]; exact hP, va_K.moved hW.alike hK, hD⟩⟩, hS.F ht⟩) hS.2.2 dX11_most_20
set_option maxHeartbeats 8000000 in
set_option maxRecDepth 100000 in
theorem t_X11_throwOut (l : Launch) (dC : Nat → ClassId) (dI : Nat → Nat → Nat) (cy : Nat → ClassId) (sz : Nat) (zL : List Nat) (zT : Nat → Nat) (zR : Nat → Nat → Nat) (zI : Nat → Nat → Int32) (zJ : Nat → Nat → Int64) (zy : Nat) (zia : Int32) (zib : Int32) (hs : SKP zL zT zR) (hw : WT zT zR zI) (t_zy : zT zy = 18) (hz : ZI (zI (zR zy 0))) : Met l yX11_throwOut wsX11_throwOut ({ frames := 1, cells := 0, slots := 0, locals := 25 } : Room) (va_Pc [.ref zy, .int zia, .int zib] (PRE dC dI cy (WL cy zL zT zR zI zJ) sz)) (va_Qi (fun (r : Int32) (u : (Nat → Nat → Int32)) => (WM [10000] AL zT zR zI u) ∧ (FQ (zI (zR zy 0)) (u (zR zy 0))) ∧ (ZI (u (zR zy 0)))) (fun u t => POST dC dI cy (va_A (WL cy zL zT zR zI zJ) sz) (WL cy zL zT zR u zJ) t) (va_A (WL cy zL zT zR zI zJ) sz)) 0 0 (va_A (WL cy zL zT zR zI zJ) sz) := by
  refine Met.ofW (cc := cX11_throwOut) (maxL := 4) (ret := (some .int)) (by decide) rfl ?_
  intro p e s m args below meth c s₁ B hml hv
  obtain ⟨rfl, hsz, hP, hK, hD0, hN⟩ := hv
  have hx := B.exec
  have hb := B.bytes
  have hr := B.returns
  have hts := atoms_spec (ws := wsX11_throwOut) B.pre
  have hown : s.vm.findClass RX11 = some m.cls := findClass_of_methodNamed B.named
  have hlocks := B.notSynchronized
  subst hsz
  have hD := hD0.self (sz := s.heap.size)
  generalize hAe : va_A (WL cy zL zT zR zI zJ) s.heap.size = A at hD ⊢
  have hA : ∀ q : Nat, s.heap.size ≤ q → A q := fun q h => by rw [← hAe]; exact Or.inr h
  have hS : va_S A s.heap s.heap [] := va_S.rf
  have hP : va_P (dC, dI) vwCl (WL cy zL zT zR zI zJ) s.heap := hP
  have hl := lv_entry ([.ref zy, .int zia, .int zib] : List Value) (n := 4) (Nat.le_of_ble_eq_true rfl)
  rw [lg_entry_eq]
  generalize (lg_sl ([.ref zy, .int zia, .int zib] : List Value) ++ List.replicate (4 - (lg_sl ([.ref zy, .int zia, .int zib] : List Value)).length) Slot.unset).toArray = ls at hl ⊢
  have hl : lv_has ls 4 [(0, .ref zy), (1, .int zia), (2, .int zib)] := hl
  refine w_q (fun Q hQ => ?_)
  have h_zI : WM [10000] AL zT zR zI zI := WM.rf hw
  refine lv_iload_n hx hb dX11_throwOut_0 rfl (lv_at hl 1 rfl) ?_
  refine lv_i2l (v := zia.toInt64) hx hb dX11_throwOut_1 rfl ?_
  refine lv_topl (fun zj_1 ezj_1 => ?_)
  have tzj_1 : zj_1.toInt = zia.toInt := by rw [ezj_1]; exact Int32.toInt_toInt64 _
  refine lv_lconst (v := 0) hx hb dX11_throwOut_2 (by decide) ?_
  refine lv_aload_n hx hb dX11_throwOut_3 rfl (lv_at hl 0 rfl) ?_
  refine ht_getr (C := RX11) (T := TX11) (N := 28) hx hb hts (by decide +kernel) hown hK hP hs t_zy (by decide) rfl rfl 0 (by decide) (hts (.fieldLink RX11 7 "DripStoneModel" "z" "[I") (by decide +kernel)) (fun _ h9 => h9) rfl dX11_throwOut_4 ?_
  have t_2 : zT (zR zy 0) = 100 := sk_f hs t_zy (by decide) rfl (by decide)
  refine lv_bipush (v := 11) hx hb dX11_throwOut_7 (by decide) ?_
  refine ht_iald (n := 392) (q := 0) hx hb hK hP hs t_2 (by decide) rfl rfl ⟨by decide, by decide⟩ dX11_throwOut_9 ?_
  refine lv_topi (fun zi_3 ezi_3 => ?_)
  have la_4 : zi_3.toInt = zA (zI (zR zy 0)) (11) := (congrArg Int32.toInt (show zI (zR zy 0) (11 : Int32).toNatClampNeg = zi_3 from ezi_3.symm).symm).trans (congrArg (zA (zI (zR zy 0))) (show (11 : Int32).toInt = 11 from by decide))
  have tz_5 : 0 ≤ zi_3.toInt ∧ zi_3.toInt ≤ 8 := by rw [← (show zI (zR zy 0) (11 : Int32).toNatClampNeg = zi_3 from ezi_3.symm)]; exact ZI.g11 hz (by decide) (by decide)
  refine lv_iconst (v := 1) hx hb dX11_throwOut_10 (by decide) ?_
  refine lv_isub hx hb dX11_throwOut_11 ?_
  refine lv_topi (fun zi_6 ezi_6 => ?_)
  have tzi_6 : zi_6.toInt = zi_3.toInt - (1 : Int) := by rw [ezi_6]; exact tisub (rfl) (show (1 : Int32).toInt = 1 by decide) (by omega) (by omega)
  refine lv_i2l (v := zi_6.toInt64) hx hb dX11_throwOut_12 rfl ?_
  refine lv_topl (fun zj_7 ezj_7 => ?_)
  have tzj_7 : zj_7.toInt = zi_6.toInt := by rw [ezj_7]; exact Int32.toInt_toInt64 _
  refine hj0_i (ws := (WL cy zL zT zR zI zJ)) (va_runS (As := [.long zj_1, .long 0, .long zj_7]) (rest := []) ⟨hx, hb, hml, hown, hts⟩ (c_X11_in l dC dI cy s.heap.size zj_1 0 zj_7 0 zj_7.toInt zj_1.toInt (by first | rfl | decide | omega | exact Int32.toInt_toInt64 _) (by first | rfl | decide | omega | exact Int32.toInt_toInt64 _) (by first | rfl | decide | omega | exact Int32.toInt_toInt64 _)) (va_cwS 3 hts gX11_throwOut_X11_in rfl rfl rfl (by decide +kernel) ⟨(Nat.le_of_ble_eq_true rfl), (Nat.le_of_ble_eq_true rfl)⟩) (PRE.s (hP.sub [] rfl) hK (hD.sub [] (by decide) rfl) hN) rfl rfl hl.1 rfl (lv_room (Nat.le_of_ble_eq_true rfl)) dX11_throwOut_13 ⟨(Nat.le_of_ble_eq_true rfl), (Nat.le_of_ble_eq_true rfl)⟩) hP hD hS hA (fun zi_8 u_10 H locs hw_9 hP hD hS => ?_)
  have hw_9 : zi_8 = if 0 ≤ zj_1.toInt ∧ zj_1.toInt ≤ zj_7.toInt then 1 else 0 := hw_9
  have b_zi_8 : 0 ≤ zi_8.toInt ∧ zi_8.toInt ≤ 1 := bz_b hw_9
  refine lv_if_eq (tgt := 31) hx hb dX11_throwOut_16 (by decide) (fun c_11 => ?_) (fun c_11 => ?_)
  · have f_12 : ¬ (0 ≤ zj_1.toInt ∧ zj_1.toInt ≤ zj_7.toInt) := bz_0 hw_9 c_11
    refine lv_iconst (v := (-1)) hx hb dX11_throwOut_31 (by decide) ?_
    subst hQ
    exact W.iret (v := (-1 : Int32)) hx hb hr (fun t ht hW => ⟨⟨(-1 : Int32), zI, rfl, ⟨h_zI, (show FQ (zI (zR zy 0)) (zI (zR zy 0)) from FQ.rf), (show ZI (zI (zR zy 0)) from hz)⟩, ⟨by rw [ht]; exact hP, va_K.moved hW.alike hK, hD⟩⟩, hS.F ht⟩) hS.2.2 dX11_throwOut_32
  · have f_12 : 0 ≤ zj_1.toInt ∧ zj_1.toInt ≤ zj_7.toInt := bz_1 hw_9 c_11
    refine lv_iload_n hx hb dX11_throwOut_19 rfl (lv_at hl 2 rfl) ?_
    refine lv_i2l (v := zib.toInt64) hx hb dX11_throwOut_20 rfl ?_
    refine lv_topl (fun zj_13 ezj_13 => ?_)
    have tzj_13 : zj_13.toInt = zib.toInt := by rw [ezj_13]; exact Int32.toInt_toInt64 _
    refine lv_lconst (v := 0) hx hb dX11_throwOut_21 (by decide) ?_
    refine lv_ldc2 (v := 9) hx hb hown (hts (.constantLong RX11 74 9) (by decide +kernel)) dX11_throwOut_22 ?_
    refine hj0_i (ws := (WL cy zL zT zR zI zJ)) (va_runS (As := [.long zj_13, .long 0, .long 9]) (rest := []) ⟨hx, hb, hml, hown, hts⟩ (c_X11_in l dC dI cy H.size zj_13 0 9 0 9 zj_13.toInt (by first | rfl | decide | omega | exact Int32.toInt_toInt64 _) (by first | rfl | decide | omega | exact Int32.toInt_toInt64 _) (by first | rfl | decide | omega | exact Int32.toInt_toInt64 _)) (va_cwS 3 hts gX11_throwOut_X11_in rfl rfl rfl (by decide +kernel) ⟨(Nat.le_of_ble_eq_true rfl), (Nat.le_of_ble_eq_true rfl)⟩) (PRE.s (hP.sub [] rfl) hK (hD.sub [] (by decide) rfl) hN) rfl rfl hl.1 rfl (lv_room (Nat.le_of_ble_eq_true rfl)) dX11_throwOut_25 ⟨(Nat.le_of_ble_eq_true rfl), (Nat.le_of_ble_eq_true rfl)⟩) hP hD hS hA (fun zi_14 u_16 H locs hw_15 hP hD hS => ?_)
    have hw_15 : zi_14 = if 0 ≤ zj_13.toInt ∧ zj_13.toInt ≤ 9 then 1 else 0 := hw_15
    have b_zi_14 : 0 ≤ zi_14.toInt ∧ zi_14.toInt ≤ 1 := bz_b hw_15
    refine lv_if_ne (tgt := 33) hx hb dX11_throwOut_28 (by decide) (fun c_17 => ?_) (fun c_17 => ?_)
    · have f_18 : 0 ≤ zj_13.toInt ∧ zj_13.toInt ≤ 9 := bz_1 hw_15 c_17
      refine lv_aload_n hx hb dX11_throwOut_33 rfl (lv_at hl 0 rfl) ?_
      refine ht_getr (C := RX11) (T := TX11) (N := 28) hx hb hts (by decide +kernel) hown hK hP hs t_zy (by decide) rfl rfl 0 (by decide) (hts (.fieldLink RX11 7 "DripStoneModel" "z" "[I") (by decide +kernel)) (fun _ h9 => h9) rfl dX11_throwOut_34 ?_
      refine lv_aload_n hx hb dX11_throwOut_37 rfl (lv_at hl 0 rfl) ?_
      refine lv_iload_n hx hb dX11_throwOut_38 rfl (lv_at hl 1 rfl) ?_
      refine hj_i (ws := (WL cy zL zT zR zI zJ)) (w1 := fun (u : Unit) => (WL cy zL zT zR zI zJ)) (va_runV (As := [.int zia]) (rest := [.ref (zR zy 0)]) ⟨hx, hb, hml, hown, hts⟩ (t_X11_dateAt l dC dI cy H.size zL zT zR zI zJ zy zia hs h_zI.1 t_zy (by omega)) (cwV 1 hts gX11_throwOut_X11_dateAt rfl rfl rfl (by decide +kernel) ⟨(Nat.le_of_ble_eq_true rfl), (Nat.le_of_ble_eq_true rfl)⟩) (PRE.v hP hK hD hN (ht_recv hK hP hs t_zy (by decide) rfl rfl)) rfl rfl hl.1 rfl (lv_room (Nat.le_of_ble_eq_true rfl)) dX11_throwOut_39 ⟨(Nat.le_of_ble_eq_true rfl), (Nat.le_of_ble_eq_true rfl)⟩) hP hD hS hA (fun zi_19 u_21 H locs hw_20 hP hD hS => ?_)
      obtain ⟨b_zi_19, ps_22⟩ : (278 ≤ zi_19.toInt ∧ zi_19.toInt ≤ 326) ∧ (zi_19.toInt = 278 + 6 * zia.toInt) := hw_20
      refine lv_iconst (v := 5) hx hb dX11_throwOut_42 (by decide) ?_
      refine lv_iadd hx hb dX11_throwOut_43 ?_
      refine lv_topi (fun zi_23 ezi_23 => ?_)
      have tzi_23 : zi_23.toInt = zi_19.toInt + (5 : Int) := by rw [ezi_23]; exact tiadd (rfl) (show (5 : Int32).toInt = 5 by decide) (by omega) (by omega)
      refine ht_iald (n := 392) (q := 0) hx hb hK hP hs t_2 (by decide) rfl rfl ⟨by omega, by omega⟩ dX11_throwOut_44 ?_
      refine lv_topi (fun zi_24 ezi_24 => ?_)
      have la_25 : zi_24.toInt = zA (zI (zR zy 0)) (283 + 6 * zia.toInt) := (congrArg Int32.toInt (show zI (zR zy 0) zi_23.toNatClampNeg = zi_24 from ezi_24.symm).symm).trans (congrArg (zA (zI (zR zy 0))) (show zi_23.toInt = 283 + 6 * zia.toInt from by omega))
      refine lv_istore_n (lv' := [(3, .int zi_24), (0, .ref zy), (1, .int zia), (2, .int zib)]) hx hb dX11_throwOut_45 rfl hl (by decide) rfl (fun ls hl => ?_)
      refine lv_aload_n hx hb dX11_throwOut_46 rfl (lv_at hl 1 rfl) ?_
      refine ht_getr (C := RX11) (T := TX11) (N := 28) hx hb hts (by decide +kernel) hown hK hP hs t_zy (by decide) rfl rfl 0 (by decide) (hts (.fieldLink RX11 7 "DripStoneModel" "z" "[I") (by decide +kernel)) (fun _ h9 => h9) rfl dX11_throwOut_47 ?_
      refine lv_aload_n hx hb dX11_throwOut_50 rfl (lv_at hl 1 rfl) ?_
      refine lv_iload_n hx hb dX11_throwOut_51 rfl (lv_at hl 2 rfl) ?_
      refine hj_i (ws := (WL cy zL zT zR zI zJ)) (w1 := fun (u : Unit) => (WL cy zL zT zR zI zJ)) (va_runV (As := [.int zia]) (rest := [.ref (zR zy 0)]) ⟨hx, hb, hml, hown, hts⟩ (t_X11_dateAt l dC dI cy H.size zL zT zR zI zJ zy zia hs h_zI.1 t_zy (by omega)) (cwV 1 hts gX11_throwOut_X11_dateAt rfl rfl rfl (by decide +kernel) ⟨(Nat.le_of_ble_eq_true rfl), (Nat.le_of_ble_eq_true rfl)⟩) (PRE.v hP hK hD hN (ht_recv hK hP hs t_zy (by decide) rfl rfl)) rfl rfl hl.1 rfl (lv_room (Nat.le_of_ble_eq_true rfl)) dX11_throwOut_52 ⟨(Nat.le_of_ble_eq_true rfl), (Nat.le_of_ble_eq_true rfl)⟩) hP hD hS hA (fun zi_26 u_28 H locs hw_27 hP hD hS => ?_)
      obtain ⟨b_zi_26, ps_29⟩ : (278 ≤ zi_26.toInt ∧ zi_26.toInt ≤ 326) ∧ (zi_26.toInt = 278 + 6 * zia.toInt) := hw_27
      refine lv_iconst (v := 5) hx hb dX11_throwOut_55 (by decide) ?_
      refine lv_iadd hx hb dX11_throwOut_56 ?_
      refine lv_topi (fun zi_30 ezi_30 => ?_)
      have tzi_30 : zi_30.toInt = zi_26.toInt + (5 : Int) := by rw [ezi_30]; exact tiadd (rfl) (show (5 : Int32).toInt = 5 by decide) (by omega) (by omega)
      refine lv_iload_n hx hb dX11_throwOut_57 rfl (lv_at hl 3 rfl) ?_
      refine ht_iast (v := zib) (n := 392) (q := 0) hx hb hK hP hD hS hs t_2 (by decide) rfl rfl ⟨by omega, by omega⟩ dX11_throwOut_58 (fun H locs hP hD hS => ?_)
      have h_zI_31 : WM [10000] AL zT zR zI (u2 zI (zR zy 0) zi_30.toNatClampNeg zib) := h_zI.putA hs t_2 rfl (rgF _) (by decide) (fun h => absurd h (by decide)) (by decide) trivial
      generalize uzI_31 : u2 zI (zR zy 0) zi_30.toNatClampNeg zib = zI_31 at hP hD h_zI_31
      have z_zI_31 : ZI (zI_31 (zR zy 0)) := by rw [← uzI_31, u2_r]; exact ZI.th hz (d := zia.toInt) (by omega) (by omega)
      have fq_zI_31 : FQ (zI (zR zy 0)) (zI_31 (zR zy 0)) := by rw [← uzI_31, u2_r]; exact FQ.up FQ.rf (by omega) (by omega)
      refine lv_iload_n hx hb dX11_throwOut_59 rfl (lv_at hl 0 rfl) ?_
      subst hQ
      exact W.iret (v := zi_24) hx hb hr (fun t ht hW => ⟨⟨zi_24, zI_31, rfl, ⟨h_zI_31, (show FQ (zI (zR zy 0)) (zI_31 (zR zy 0)) from fq_zI_31), (show ZI (zI_31 (zR zy 0)) from z_zI_31)⟩, ⟨by rw [ht]; exact hP, va_K.moved hW.alike hK, hD⟩⟩, hS.F ht⟩) hS.2.2 dX11_throwOut_60
    · have f_18 : ¬ (0 ≤ zj_13.toInt ∧ zj_13.toInt ≤ 9) := bz_0 hw_15 c_17
      refine lv_iconst (v := (-1)) hx hb dX11_throwOut_31 (by decide) ?_
      subst hQ
      exact W.iret (v := (-1 : Int32)) hx hb hr (fun t ht hW => ⟨⟨(-1 : Int32), zI, rfl, ⟨h_zI, (show FQ (zI (zR zy 0)) (zI (zR zy 0)) from FQ.rf), (show ZI (zI (zR zy 0)) from hz)⟩, ⟨by rw [ht]; exact hP, va_K.moved hW.alike hK, hD⟩⟩, hS.F ht⟩) hS.2.2 dX11_throwOut_32
set_option maxHeartbeats 8000000 in
set_option maxRecDepth 100000 in
theorem t_X11_count (l : Launch) (dC : Nat → ClassId) (dI : Nat → Nat → Nat) (cy : Nat → ClassId) (sz : Nat) (zL : List Nat) (zT : Nat → Nat) (zR : Nat → Nat → Nat) (zI : Nat → Nat → Int32) (zJ : Nat → Nat → Int64) (zy : Nat) (zia : Int32) (hs : SKP zL zT zR) (hw : WT zT zR zI) (t_zy : zT zy = 18) (hz : ZI (zI (zR zy 0))) : Met l yX11_count wsX11_count ({ frames := 2, cells := 0, slots := 0, locals := 45 } : Room) (va_Pc [.ref zy, .int zia] (PRE dC dI cy (WL cy zL zT zR zI zJ) sz)) (va_Qi (fun (r : Int32) (u : Unit) => True) (fun u t => POST dC dI cy (va_A (WL cy zL zT zR zI zJ) sz) (WL cy zL zT zR zI zJ) t) (va_A (WL cy zL zT zR zI zJ) sz)) 0 0 (va_A (WL cy zL zT zR zI zJ) sz) := by
  refine Met.ofW (cc := cX11_count) (maxL := 4) (ret := (some .int)) (by decide) rfl ?_
  intro p e s m args below meth c s₁ B hml hv
  obtain ⟨rfl, hsz, hP, hK, hD0, hN⟩ := hv
  have hx := B.exec
  have hb := B.bytes
  have hr := B.returns
  have hts := atoms_spec (ws := wsX11_count) B.pre
  have hown : s.vm.findClass RX11 = some m.cls := findClass_of_methodNamed B.named
  have hlocks := B.notSynchronized
  subst hsz
  have hD := hD0.self (sz := s.heap.size)
  generalize hAe : va_A (WL cy zL zT zR zI zJ) s.heap.size = A at hD ⊢
  have hA : ∀ q : Nat, s.heap.size ≤ q → A q := fun q h => by rw [← hAe]; exact Or.inr h
  have hS : va_S A s.heap s.heap [] := va_S.rf
  have hP : va_P (dC, dI) vwCl (WL cy zL zT zR zI zJ) s.heap := hP
  have hl := lv_entry ([.ref zy, .int zia] : List Value) (n := 4) (Nat.le_of_ble_eq_true rfl)
  rw [lg_entry_eq]
  generalize (lg_sl ([.ref zy, .int zia] : List Value) ++ List.replicate (4 - (lg_sl ([.ref zy, .int zia] : List Value)).length) Slot.unset).toArray = ls at hl ⊢
  have hl : lv_has ls 4 [(0, .ref zy), (1, .int zia)] := hl
  refine w_q (fun Q hQ => ?_)
  have h_zI : WM [] AL zT zR zI zI := WM.rf hw
  refine lv_iload_n hx hb dX11_count_0 rfl (lv_at hl 1 rfl) ?_
  rcases sw_7 zia with k_1 | rfl | rfl | rfl | rfl | rfl | rfl | rfl | rfl
  · refine lv_tableOut (tgt := 138) hx hb dX11_count_1 (by omega) (by decide) ?_
    refine lv_iconst (v := (-1)) hx hb dX11_count_138 (by decide) ?_
    subst hQ
    exact W.iret (v := (-1 : Int32)) hx hb hr (fun t ht hW => ⟨⟨(-1 : Int32), (), rfl, trivial, ⟨by rw [ht]; exact hP, va_K.moved hW.alike hK, hD⟩⟩, hS.F ht⟩) hS.2.2 dX11_count_139
  · have zk_1_0 : (0 : Int32).toInt = 0 := by decide
    refine lv_tableIn (off := 47) (tgt := 48) hx hb dX11_count_1 (by decide) (by decide) (by decide) (by decide) ?_
    refine lv_aload_n hx hb dX11_count_48 rfl (lv_at hl 0 rfl) ?_
    refine ht_getr (C := RX11) (T := TX11) (N := 28) hx hb hts (by decide +kernel) hown hK hP hs t_zy (by decide) rfl rfl 0 (by decide) (hts (.fieldLink RX11 7 "DripStoneModel" "z" "[I") (by decide +kernel)) (fun _ h9 => h9) rfl dX11_count_49 ?_
    have t_2 : zT (zR zy 0) = 100 := sk_f hs t_zy (by decide) rfl (by decide)
    refine lv_bipush (v := 11) hx hb dX11_count_52 (by decide) ?_
    refine ht_iald (n := 392) (q := 0) hx hb hK hP hs t_2 (by decide) rfl rfl ⟨by decide, by decide⟩ dX11_count_54 ?_
    refine lv_topi (fun zi_3 ezi_3 => ?_)
    have la_4 : zi_3.toInt = zA (zI (zR zy 0)) (11) := (congrArg Int32.toInt (show zI (zR zy 0) (11 : Int32).toNatClampNeg = zi_3 from ezi_3.symm).symm).trans (congrArg (zA (zI (zR zy 0))) (show (11 : Int32).toInt = 11 from by decide))
    have tz_5 : 0 ≤ zi_3.toInt ∧ zi_3.toInt ≤ 8 := by rw [← (show zI (zR zy 0) (11 : Int32).toNatClampNeg = zi_3 from ezi_3.symm)]; exact ZI.g11 hz (by decide) (by decide)
    subst hQ
    exact W.iret (v := zi_3) hx hb hr (fun t ht hW => ⟨⟨zi_3, (), rfl, trivial, ⟨by rw [ht]; exact hP, va_K.moved hW.alike hK, hD⟩⟩, hS.F ht⟩) hS.2.2 dX11_count_55
  · have zk_1_1 : (1 : Int32).toInt = 1 := by decide
    refine lv_tableIn (off := 55) (tgt := 56) hx hb dX11_count_1 (by decide) (by decide) (by decide) (by decide) ?_
    refine lv_iconst (v := 0) hx hb dX11_count_56 (by decide) ?_
    refine lv_istore_n (lv' := [(2, .int 0), (0, .ref zy), (1, .int 1)]) hx hb dX11_count_57 rfl hl (by decide) rfl (fun ls hl => ?_)
    refine lv_iconst (v := 0) hx hb dX11_count_58 (by decide) ?_
    refine lv_istore_n (lv' := [(3, .int 0), (2, .int 0), (0, .ref zy), (1, .int 1)]) hx hb dX11_count_59 rfl hl (by decide) rfl (fun ls hl => ?_)
    have lp_485 : ∀ (n : Nat) (zi_111 : Int32) (zi_112 : Int32) (H : Heap) (locs : List Loc) (ls : Array Slot), (8 - zi_112.toInt).toNat = n → (0 ≤ zi_112.toInt ∧ zi_112.toInt ≤ 8) → (ZI (zI (zR zy 0))) → va_P (dC, dI) vwCl (WL cy zL zT zR zI zJ) H → va_D A (WL cy zL zT zR zI zJ) → va_S A s.heap H locs → lv_has ls 4 [(0, .ref zy), (1, .int 1), (2, .int zi_111), (3, .int zi_112)] → W p l e ({ frames := 2, cells := 0, slots := 0, locals := 45 } : Room) s m ([.ref zy, .int (1 : Int32)] : List Value).toArray below meth c H locs 0 0 Q (F0 m 60 ls []) := by
      intro n
      induction n using Nat.strongRecOn with
      | _ n ih_485 =>
        intro zi_111 zi_112 H locs ls hn b_zi_112 e_lp_485_0 hP hD hS hl
        refine lv_iload_n hx hb dX11_count_60 rfl (lv_at hl 3 rfl) ?_
        refine lv_aload_n hx hb dX11_count_61 rfl (lv_at hl 0 rfl) ?_
        refine ht_getr (C := RX11) (T := TX11) (N := 28) hx hb hts (by decide +kernel) hown hK hP hs t_zy (by decide) rfl rfl 0 (by decide) (hts (.fieldLink RX11 7 "DripStoneModel" "z" "[I") (by decide +kernel)) (fun _ h9 => h9) rfl dX11_count_62 ?_
        have t_486 : zT (zR zy 0) = 100 := sk_f hs t_zy (by decide) rfl (by decide)
        refine lv_bipush (v := 11) hx hb dX11_count_65 (by decide) ?_
        refine ht_iald (n := 392) (q := 0) hx hb hK hP hs t_486 (by decide) rfl rfl ⟨by decide, by decide⟩ dX11_count_67 ?_
        refine lv_topi (fun zi_487 ezi_487 => ?_)
        have la_488 : zi_487.toInt = zA (zI (zR zy 0)) (11) := (congrArg Int32.toInt (show zI (zR zy 0) (11 : Int32).toNatClampNeg = zi_487 from ezi_487.symm).symm).trans (congrArg (zA (zI (zR zy 0))) (show (11 : Int32).toInt = 11 from by decide))
        have tz_489 : 0 ≤ zi_487.toInt ∧ zi_487.toInt ≤ 8 := by rw [← (show zI (zR zy 0) (11 : Int32).toNatClampNeg = zi_487 from ezi_487.symm)]; exact ZI.g11 e_lp_485_0 (by decide) (by decide)
        refine lv_icmp_ge (tgt := 100) hx hb dX11_count_68 (by decide) (fun c_490 => ?_) (fun c_490 => ?_)
        · have f_491 : zi_112.toInt ≥ zi_487.toInt := ic_ge (rfl) (rfl) c_490
          refine lv_iload_n hx hb dX11_count_100 rfl (lv_at hl 2 rfl) ?_
          subst hQ
          exact W.iret (v := zi_111) hx hb hr (fun t ht hW => ⟨⟨zi_111, (), rfl, trivial, ⟨by rw [ht]; exact hP, va_K.moved hW.alike hK, hD⟩⟩, hS.F ht⟩) hS.2.2 dX11_count_101
        · have f_491 : ¬ (zi_112.toInt ≥ zi_487.toInt) := ic_nge (rfl) (rfl) c_490
          refine lv_iload_n hx hb dX11_count_71 rfl (lv_at hl 2 rfl) ?_
          refine lv_aload_n hx hb dX11_count_72 rfl (lv_at hl 0 rfl) ?_
          refine ht_getr (C := RX11) (T := TX11) (N := 28) hx hb hts (by decide +kernel) hown hK hP hs t_zy (by decide) rfl rfl 0 (by decide) (hts (.fieldLink RX11 7 "DripStoneModel" "z" "[I") (by decide +kernel)) (fun _ h9 => h9) rfl dX11_count_73 ?_
          refine lv_aload_n hx hb dX11_count_76 rfl (lv_at hl 0 rfl) ?_
          refine lv_iload_n hx hb dX11_count_77 rfl (lv_at hl 3 rfl) ?_
          refine hj_i (ws := (WL cy zL zT zR zI zJ)) (w1 := fun (u : Unit) => (WL cy zL zT zR zI zJ)) (va_runV (As := [.int zi_112]) (rest := [.ref (zR zy 0), .int zi_111]) ⟨hx, hb, hml, hown, hts⟩ (t_X11_dateAt l dC dI cy H.size zL zT zR zI zJ zy zi_112 hs h_zI.1 t_zy (by omega)) (cwV 1 hts gX11_count_X11_dateAt rfl rfl rfl (by decide +kernel) ⟨(Nat.le_of_ble_eq_true rfl), (Nat.le_of_ble_eq_true rfl)⟩) (PRE.v hP hK hD hN (ht_recv hK hP hs t_zy (by decide) rfl rfl)) rfl rfl hl.1 rfl (lv_room (Nat.le_of_ble_eq_true rfl)) dX11_count_78 ⟨(Nat.le_of_ble_eq_true rfl), (Nat.le_of_ble_eq_true rfl)⟩) hP hD hS hA (fun zi_492 u_494 H locs hw_493 hP hD hS => ?_)
          obtain ⟨b_zi_492, ps_495⟩ : (278 ≤ zi_492.toInt ∧ zi_492.toInt ≤ 326) ∧ (zi_492.toInt = 278 + 6 * zi_112.toInt) := hw_493
          refine lv_iconst (v := 5) hx hb dX11_count_81 (by decide) ?_
          refine lv_iadd hx hb dX11_count_82 ?_
          refine lv_topi (fun zi_496 ezi_496 => ?_)
          have tzi_496 : zi_496.toInt = zi_492.toInt + (5 : Int) := by rw [ezi_496]; exact tiadd (rfl) (show (5 : Int32).toInt = 5 by decide) (by omega) (by omega)
          refine ht_iald (n := 392) (q := 0) hx hb hK hP hs t_486 (by decide) rfl rfl ⟨by omega, by omega⟩ dX11_count_83 ?_
          refine lv_topi (fun zi_497 ezi_497 => ?_)
          have la_498 : zi_497.toInt = zA (zI (zR zy 0)) (283 + 6 * zi_112.toInt) := (congrArg Int32.toInt (show zI (zR zy 0) zi_496.toNatClampNeg = zi_497 from ezi_497.symm).symm).trans (congrArg (zA (zI (zR zy 0))) (show zi_496.toInt = 283 + 6 * zi_112.toInt from by omega))
          have jn_502 : ∀ (zi_501 : Int32) (H : Heap) (locs : List Loc) (ls : Array Slot), (0 ≤ zi_501.toInt ∧ zi_501.toInt ≤ 1) → (ZI (zI (zR zy 0))) → va_P (dC, dI) vwCl (WL cy zL zT zR zI zJ) H → va_D A (WL cy zL zT zR zI zJ) → va_S A s.heap H locs → lv_has ls 4 [(0, .ref zy), (1, .int 1), (2, .int zi_111), (3, .int zi_112)] → W p l e ({ frames := 2, cells := 0, slots := 0, locals := 45 } : Room) s m ([.ref zy, .int (1 : Int32)] : List Value).toArray below meth c H locs 0 0 Q (F0 m 92 ls [.int zi_501, .int zi_111]) := by
            intro zi_501 H locs ls b_zi_501 e_jn_502_0 hP hD hS hl
            refine lv_iadd hx hb dX11_count_92 ?_
            refine lv_topi (fun zi_503 ezi_503 => ?_)
            refine lv_istore_n (lv' := [(2, .int zi_503), (0, .ref zy), (1, .int 1), (3, .int zi_112)]) hx hb dX11_count_93 rfl hl (by decide) rfl (fun ls hl => ?_)
            obtain ⟨zi_504, ezi_504⟩ : ∃ y : Int32, y = zi_112 + 1 := ⟨_, rfl⟩
            have tzi_504 : zi_504.toInt = zi_112.toInt + 1 := by rw [ezi_504]; exact tadd rfl (show (1 : Int32).toInt = 1 by decide) (by omega) (by omega)
            refine lv_iinc (v := zi_504) (lv' := [(3, .int zi_504), (2, .int zi_503), (0, .ref zy), (1, .int 1)]) hx hb dX11_count_94 hl (k := 3) rfl (by rw [ezi_504]; rfl) (by decide) rfl (fun ls hl => ?_)
            refine lv_goto (tgt := 60) hx hb dX11_count_97 (by decide) ?_
            exact ih_485 (8 - zi_504.toInt).toNat (by omega) zi_503 zi_504 _ _ _ rfl (by omega) e_jn_502_0 hP hD hS (lv_sub hl [2, 3, 1, 0] rfl)
          refine lv_if_le (tgt := 91) hx hb dX11_count_84 (by decide) (fun c_505 => ?_) (fun c_505 => ?_)
          · have f_506 : zi_497.toInt ≤ 0 := ic_le (rfl) (by decide) c_505
            refine lv_iconst (v := 0) hx hb dX11_count_91 (by decide) ?_
            exact jn_502 (0 : Int32) _ _ _ (by decide) e_lp_485_0 hP hD hS (lv_sub hl [0, 1, 2, 3] rfl)
          · have f_506 : ¬ (zi_497.toInt ≤ 0) := ic_nle (rfl) (by decide) c_505
            refine lv_iconst (v := 1) hx hb dX11_count_87 (by decide) ?_
            refine lv_goto (tgt := 92) hx hb dX11_count_88 (by decide) ?_
            exact jn_502 (1 : Int32) _ _ _ (by decide) e_lp_485_0 hP hD hS (lv_sub hl [0, 1, 2, 3] rfl)
    have qc_0 : (0 : Int32).toInt = 0 := by decide
    exact lp_485 _ (0 : Int32) (0 : Int32) _ _ _ rfl (by decide) hz hP hD hS (lv_sub hl [2, 3, 1, 0] rfl)
  · have zk_1_2 : (2 : Int32).toInt = 2 := by decide
    refine lv_tableIn (off := 101) (tgt := 102) hx hb dX11_count_1 (by decide) (by decide) (by decide) (by decide) ?_
    refine lv_aload_n hx hb dX11_count_102 rfl (lv_at hl 0 rfl) ?_
    refine ht_getr (C := RX11) (T := TX11) (N := 28) hx hb hts (by decide +kernel) hown hK hP hs t_zy (by decide) rfl rfl 0 (by decide) (hts (.fieldLink RX11 7 "DripStoneModel" "z" "[I") (by decide +kernel)) (fun _ h9 => h9) rfl dX11_count_103 ?_
    have t_507 : zT (zR zy 0) = 100 := sk_f hs t_zy (by decide) rfl (by decide)
    refine lv_bipush (v := 12) hx hb dX11_count_106 (by decide) ?_
    refine ht_iald (n := 392) (q := 0) hx hb hK hP hs t_507 (by decide) rfl rfl ⟨by decide, by decide⟩ dX11_count_108 ?_
    refine lv_topi (fun zi_508 ezi_508 => ?_)
    have la_509 : zi_508.toInt = zA (zI (zR zy 0)) (12) := (congrArg Int32.toInt (show zI (zR zy 0) (12 : Int32).toNatClampNeg = zi_508 from ezi_508.symm).symm).trans (congrArg (zA (zI (zR zy 0))) (show (12 : Int32).toInt = 12 from by decide))
    have tz_510 : 0 ≤ zi_508.toInt ∧ zi_508.toInt ≤ 4 := by rw [← (show zI (zR zy 0) (12 : Int32).toNatClampNeg = zi_508 from ezi_508.symm)]; exact ZI.g12 hz (by decide) (by decide)
    subst hQ
    exact W.iret (v := zi_508) hx hb hr (fun t ht hW => ⟨⟨zi_508, (), rfl, trivial, ⟨by rw [ht]; exact hP, va_K.moved hW.alike hK, hD⟩⟩, hS.F ht⟩) hS.2.2 dX11_count_109
  · have zk_1_3 : (3 : Int32).toInt = 3 := by decide
    refine lv_tableIn (off := 109) (tgt := 110) hx hb dX11_count_1 (by decide) (by decide) (by decide) (by decide) ?_
    refine lv_aload_n hx hb dX11_count_110 rfl (lv_at hl 0 rfl) ?_
    refine ht_getr (C := RX11) (T := TX11) (N := 28) hx hb hts (by decide +kernel) hown hK hP hs t_zy (by decide) rfl rfl 0 (by decide) (hts (.fieldLink RX11 7 "DripStoneModel" "z" "[I") (by decide +kernel)) (fun _ h9 => h9) rfl dX11_count_111 ?_
    have t_511 : zT (zR zy 0) = 100 := sk_f hs t_zy (by decide) rfl (by decide)
    refine lv_bipush (v := 13) hx hb dX11_count_114 (by decide) ?_
    refine ht_iald (n := 392) (q := 0) hx hb hK hP hs t_511 (by decide) rfl rfl ⟨by decide, by decide⟩ dX11_count_116 ?_
    refine lv_topi (fun zi_512 ezi_512 => ?_)
    have la_513 : zi_512.toInt = zA (zI (zR zy 0)) (13) := (congrArg Int32.toInt (show zI (zR zy 0) (13 : Int32).toNatClampNeg = zi_512 from ezi_512.symm).symm).trans (congrArg (zA (zI (zR zy 0))) (show (13 : Int32).toInt = 13 from by decide))
    have tz_514 : 0 ≤ zi_512.toInt ∧ zi_512.toInt ≤ 5 := by rw [← (show zI (zR zy 0) (13 : Int32).toNatClampNeg = zi_512 from ezi_512.symm)]; exact ZI.g13 hz (by decide) (by decide)
    subst hQ
    exact W.iret (v := zi_512) hx hb hr (fun t ht hW => ⟨⟨zi_512, (), rfl, trivial, ⟨by rw [ht]; exact hP, va_K.moved hW.alike hK, hD⟩⟩, hS.F ht⟩) hS.2.2 dX11_count_117
  · have zk_1_4 : (4 : Int32).toInt = 4 := by decide
    refine lv_tableIn (off := 117) (tgt := 118) hx hb dX11_count_1 (by decide) (by decide) (by decide) (by decide) ?_
    refine lv_aload_n hx hb dX11_count_118 rfl (lv_at hl 0 rfl) ?_
    refine ht_getr (C := RX11) (T := TX11) (N := 28) hx hb hts (by decide +kernel) hown hK hP hs t_zy (by decide) rfl rfl 0 (by decide) (hts (.fieldLink RX11 7 "DripStoneModel" "z" "[I") (by decide +kernel)) (fun _ h9 => h9) rfl dX11_count_119 ?_
    have t_515 : zT (zR zy 0) = 100 := sk_f hs t_zy (by decide) rfl (by decide)
    refine lv_iconst (v := 5) hx hb dX11_count_122 (by decide) ?_
    refine lv_iload_n hx hb dX11_count_123 rfl (lv_at hl 1 rfl) ?_
    refine lv_iadd hx hb dX11_count_124 ?_
    refine lv_topi (fun zi_516 ezi_516 => ?_)
    obtain rfl : zi_516 = (9 : Int32) := ezi_516.trans (by decide)
    refine lv_iconst (v := 4) hx hb dX11_count_125 (by decide) ?_
    refine lv_isub hx hb dX11_count_126 ?_
    refine lv_topi (fun zi_517 ezi_517 => ?_)
    obtain rfl : zi_517 = (5 : Int32) := ezi_517.trans (by decide)
    refine ht_iald (n := 392) (q := 0) hx hb hK hP hs t_515 (by decide) rfl rfl ⟨by decide, by decide⟩ dX11_count_127 ?_
    refine lv_topi (fun zi_518 ezi_518 => ?_)
    have la_519 : zi_518.toInt = zA (zI (zR zy 0)) (5) := (congrArg Int32.toInt (show zI (zR zy 0) (5 : Int32).toNatClampNeg = zi_518 from ezi_518.symm).symm).trans (congrArg (zA (zI (zR zy 0))) (show (5 : Int32).toInt = 5 from by decide))
    have tz_520 : 0 ≤ zi_518.toInt ∧ zi_518.toInt ≤ 12 := by rw [← (show zI (zR zy 0) (5 : Int32).toNatClampNeg = zi_518 from ezi_518.symm)]; exact ZI.g5 hz (by decide) (by decide)
    subst hQ
    exact W.iret (v := zi_518) hx hb hr (fun t ht hW => ⟨⟨zi_518, (), rfl, trivial, ⟨by rw [ht]; exact hP, va_K.moved hW.alike hK, hD⟩⟩, hS.F ht⟩) hS.2.2 dX11_count_128
  · have zk_1_5 : (5 : Int32).toInt = 5 := by decide
    refine lv_tableIn (off := 117) (tgt := 118) hx hb dX11_count_1 (by decide) (by decide) (by decide) (by decide) ?_
    refine lv_aload_n hx hb dX11_count_118 rfl (lv_at hl 0 rfl) ?_
    refine ht_getr (C := RX11) (T := TX11) (N := 28) hx hb hts (by decide +kernel) hown hK hP hs t_zy (by decide) rfl rfl 0 (by decide) (hts (.fieldLink RX11 7 "DripStoneModel" "z" "[I") (by decide +kernel)) (fun _ h9 => h9) rfl dX11_count_119 ?_
    have t_521 : zT (zR zy 0) = 100 := sk_f hs t_zy (by decide) rfl (by decide)
    refine lv_iconst (v := 5) hx hb dX11_count_122 (by decide) ?_
    refine lv_iload_n hx hb dX11_count_123 rfl (lv_at hl 1 rfl) ?_
    refine lv_iadd hx hb dX11_count_124 ?_
    refine lv_topi (fun zi_522 ezi_522 => ?_)
    obtain rfl : zi_522 = (10 : Int32) := ezi_522.trans (by decide)
    refine lv_iconst (v := 4) hx hb dX11_count_125 (by decide) ?_
    refine lv_isub hx hb dX11_count_126 ?_
    refine lv_topi (fun zi_523 ezi_523 => ?_)
    obtain rfl : zi_523 = (6 : Int32) := ezi_523.trans (by decide)
    refine ht_iald (n := 392) (q := 0) hx hb hK hP hs t_521 (by decide) rfl rfl ⟨by decide, by decide⟩ dX11_count_127 ?_
    refine lv_topi (fun zi_524 ezi_524 => ?_)
    have la_525 : zi_524.toInt = zA (zI (zR zy 0)) (6) := (congrArg Int32.toInt (show zI (zR zy 0) (6 : Int32).toNatClampNeg = zi_524 from ezi_524.symm).symm).trans (congrArg (zA (zI (zR zy 0))) (show (6 : Int32).toInt = 6 from by decide))
    have tz_526 : 0 ≤ zi_524.toInt ∧ zi_524.toInt ≤ 12 := by rw [← (show zI (zR zy 0) (6 : Int32).toNatClampNeg = zi_524 from ezi_524.symm)]; exact ZI.g5 hz (by decide) (by decide)
    subst hQ
    exact W.iret (v := zi_524) hx hb hr (fun t ht hW => ⟨⟨zi_524, (), rfl, trivial, ⟨by rw [ht]; exact hP, va_K.moved hW.alike hK, hD⟩⟩, hS.F ht⟩) hS.2.2 dX11_count_128
  · have zk_1_6 : (6 : Int32).toInt = 6 := by decide
    refine lv_tableIn (off := 128) (tgt := 129) hx hb dX11_count_1 (by decide) (by decide) (by decide) (by decide) ?_
    refine lv_aload_n hx hb dX11_count_129 rfl (lv_at hl 0 rfl) ?_
    refine lv_iload_n hx hb dX11_count_130 rfl (lv_at hl 1 rfl) ?_
    refine lv_bipush (v := 6) hx hb dX11_count_131 (by decide) ?_
    refine lv_isub hx hb dX11_count_133 ?_
    refine lv_topi (fun zi_527 ezi_527 => ?_)
    obtain rfl : zi_527 = (0 : Int32) := ezi_527.trans (by decide)
    have qc_0 : (0 : Int32).toInt = 0 := by decide
    refine hj_i (ws := (WL cy zL zT zR zI zJ)) (w1 := fun (u : Unit) => (WL cy zL zT zR zI zJ)) (va_runV (As := [.int 0]) (rest := []) ⟨hx, hb, hml, hown, hts⟩ (t_X11_placesOf l dC dI cy s.heap.size zL zT zR zI zJ zy (0 : Int32) hs h_zI.1 t_zy (by decide) hz) (cwV 1 hts gX11_count_X11_placesOf rfl rfl rfl (by decide +kernel) ⟨(Nat.le_of_ble_eq_true rfl), (Nat.le_of_ble_eq_true rfl)⟩) (PRE.v hP hK hD hN (ht_recv hK hP hs t_zy (by decide) rfl rfl)) rfl rfl hl.1 rfl (lv_room (Nat.le_of_ble_eq_true rfl)) dX11_count_134 ⟨(Nat.le_of_ble_eq_true rfl), (Nat.le_of_ble_eq_true rfl)⟩) hP hD hS hA (fun zi_528 u_530 H locs hw_529 hP hD hS => ?_)
    obtain ⟨b_zi_528, ps_531⟩ : (0 ≤ zi_528.toInt ∧ zi_528.toInt ≤ 12) ∧ (zi_528.toInt = PLZ (zI (zR zy 0)) (0 : Int32).toInt) := hw_529
    subst hQ
    exact W.iret (v := zi_528) hx hb hr (fun t ht hW => ⟨⟨zi_528, (), rfl, trivial, ⟨by rw [ht]; exact hP, va_K.moved hW.alike hK, hD⟩⟩, hS.F ht⟩) hS.2.2 dX11_count_137
  · have zk_1_7 : (7 : Int32).toInt = 7 := by decide
    refine lv_tableIn (off := 128) (tgt := 129) hx hb dX11_count_1 (by decide) (by decide) (by decide) (by decide) ?_
    refine lv_aload_n hx hb dX11_count_129 rfl (lv_at hl 0 rfl) ?_
    refine lv_iload_n hx hb dX11_count_130 rfl (lv_at hl 1 rfl) ?_
    refine lv_bipush (v := 6) hx hb dX11_count_131 (by decide) ?_
    refine lv_isub hx hb dX11_count_133 ?_
    refine lv_topi (fun zi_532 ezi_532 => ?_)
    obtain rfl : zi_532 = (1 : Int32) := ezi_532.trans (by decide)
    have qc_1 : (1 : Int32).toInt = 1 := by decide
    refine hj_i (ws := (WL cy zL zT zR zI zJ)) (w1 := fun (u : Unit) => (WL cy zL zT zR zI zJ)) (va_runV (As := [.int 1]) (rest := []) ⟨hx, hb, hml, hown, hts⟩ (t_X11_placesOf l dC dI cy s.heap.size zL zT zR zI zJ zy (1 : Int32) hs h_zI.1 t_zy (by decide) hz) (cwV 1 hts gX11_count_X11_placesOf rfl rfl rfl (by decide +kernel) ⟨(Nat.le_of_ble_eq_true rfl), (Nat.le_of_ble_eq_true rfl)⟩) (PRE.v hP hK hD hN (ht_recv hK hP hs t_zy (by decide) rfl rfl)) rfl rfl hl.1 rfl (lv_room (Nat.le_of_ble_eq_true rfl)) dX11_count_134 ⟨(Nat.le_of_ble_eq_true rfl), (Nat.le_of_ble_eq_true rfl)⟩) hP hD hS hA (fun zi_533 u_535 H locs hw_534 hP hD hS => ?_)
    obtain ⟨b_zi_533, ps_536⟩ : (0 ≤ zi_533.toInt ∧ zi_533.toInt ≤ 12) ∧ (zi_533.toInt = PLZ (zI (zR zy 0)) (1 : Int32).toInt) := hw_534
    subst hQ
    exact W.iret (v := zi_533) hx hb hr (fun t ht hW => ⟨⟨zi_533, (), rfl, trivial, ⟨by rw [ht]; exact hP, va_K.moved hW.alike hK, hD⟩⟩, hS.F ht⟩) hS.2.2 dX11_count_137
set_option maxHeartbeats 8000000 in
set_option maxRecDepth 100000 in
theorem t_X11_runBehind (l : Launch) (dC : Nat → ClassId) (dI : Nat → Nat → Nat) (cy : Nat → ClassId) (sz : Nat) (zL : List Nat) (zT : Nat → Nat) (zR : Nat → Nat → Nat) (zI : Nat → Nat → Int32) (zJ : Nat → Nat → Int64) (zy : Nat) (zip : Int32) (zia : Int32) (zib : Int32) (zic : Int32) (hs : SKP zL zT zR) (hw : WT zT zR zI) (t_zy : zT zy = 18) (b_zip : 0 ≤ zip.toInt ∧ zip.toInt ≤ 11) (b_zib : 0 ≤ zib.toInt ∧ zib.toInt ≤ 4) : Met l yX11_runBehind wsX11_runBehind ({ frames := 0, cells := 0, slots := 0, locals := 0 } : Room) (va_Pc [.ref zy, .int zip, .int zia, .int zib, .int zic] (PRE dC dI cy (WL cy zL zT zR zI zJ) sz)) (va_Qi (fun (r : Int32) (u : Unit) => (0 ≤ r.toInt ∧ r.toInt ≤ 4)) (fun u t => POST dC dI cy (va_A (WL cy zL zT zR zI zJ) sz) (WL cy zL zT zR zI zJ) t) (va_A (WL cy zL zT zR zI zJ) sz)) 0 0 (va_A (WL cy zL zT zR zI zJ) sz) := by
  refine Met.ofW (cc := cX11_runBehind) (maxL := 6) (ret := (some .int)) (by decide) rfl ?_
  intro p e s m args below meth c s₁ B hml hv
  obtain ⟨rfl, hsz, hP, hK, hD0, hN⟩ := hv
  have hx := B.exec
  have hb := B.bytes
  have hr := B.returns
  have hts := atoms_spec (ws := wsX11_runBehind) B.pre
  have hown : s.vm.findClass RX11 = some m.cls := findClass_of_methodNamed B.named
  have hlocks := B.notSynchronized
  subst hsz
  have hD := hD0.self (sz := s.heap.size)
  generalize hAe : va_A (WL cy zL zT zR zI zJ) s.heap.size = A at hD ⊢
  have hA : ∀ q : Nat, s.heap.size ≤ q → A q := fun q h => by rw [← hAe]; exact Or.inr h
  have hS : va_S A s.heap s.heap [] := va_S.rf
  have hP : va_P (dC, dI) vwCl (WL cy zL zT zR zI zJ) s.heap := hP
  have hl := lv_entry ([.ref zy, .int zip, .int zia, .int zib, .int zic] : List Value) (n := 6) (Nat.le_of_ble_eq_true rfl)
  rw [lg_entry_eq]
  generalize (lg_sl ([.ref zy, .int zip, .int zia, .int zib, .int zic] : List Value) ++ List.replicate (6 - (lg_sl ([.ref zy, .int zip, .int zia, .int zib, .int zic] : List Value)).length) Slot.unset).toArray = ls at hl ⊢
  have hl : lv_has ls 6 [(0, .ref zy), (1, .int zip), (2, .int zia), (3, .int zib), (4, .int zic)] := hl
  refine w_q (fun Q hQ => ?_)
  have h_zI : WM [] AL zT zR zI zI := WM.rf hw
  refine lv_iload hx hb dX11_runBehind_0 (lv_at hl 4 rfl) ?_
  refine lv_iload_n hx hb dX11_runBehind_2 rfl (lv_at hl 2 rfl) ?_
  refine lv_isub hx hb dX11_runBehind_3 ?_
  refine lv_topi (fun zi_1 ezi_1 => ?_)
  refine lv_istore (lv' := [(5, .int zi_1), (0, .ref zy), (1, .int zip), (2, .int zia), (3, .int zib), (4, .int zic)]) hx hb dX11_runBehind_4 hl (by decide) rfl (fun ls hl => ?_)
  refine lv_iload hx hb dX11_runBehind_6 (lv_at hl 0 rfl) ?_
  refine lv_aload_n hx hb dX11_runBehind_8 rfl (lv_at hl 1 rfl) ?_
  refine ht_getr (C := RX11) (T := TX11) (N := 28) hx hb hts (by decide +kernel) hown hK hP hs t_zy (by decide) rfl rfl 10 (by decide) (hts (.fieldLink RX11 25 "DripStoneModel" "lowStep" "[I") (by decide +kernel)) (fun _ h9 => h9) rfl dX11_runBehind_9 ?_
  have t_2 : zT (zR zy 10) = 105 := sk_f hs t_zy (by decide) rfl (by decide)
  refine lv_iload_n hx hb dX11_runBehind_12 rfl (lv_at hl 2 rfl) ?_
  refine ht_iald (n := 12) (q := 0) hx hb hK hP hs t_2 (by decide) rfl rfl ⟨by omega, by omega⟩ dX11_runBehind_13 ?_
  refine lv_topi (fun zi_3 ezi_3 => ?_)
  refine lv_icmp_lt (tgt := 42) hx hb dX11_runBehind_14 (by decide) (fun c_4 => ?_) (fun c_4 => ?_)
  · have f_5 : zi_1.toInt < zi_3.toInt := ic_lt (rfl) (rfl) c_4
    refine lv_iconst (v := 0) hx hb dX11_runBehind_42 (by decide) ?_
    subst hQ
    have qc_0 : (0 : Int32).toInt = 0 := by decide
    exact W.iret (v := (0 : Int32)) hx hb hr (fun t ht hW => ⟨⟨(0 : Int32), (), rfl, (show 0 ≤ (0 : Int32).toInt ∧ (0 : Int32).toInt ≤ 4 from by omega), ⟨by rw [ht]; exact hP, va_K.moved hW.alike hK, hD⟩⟩, hS.F ht⟩) hS.2.2 dX11_runBehind_43
  · have f_5 : ¬ (zi_1.toInt < zi_3.toInt) := ic_nlt (rfl) (rfl) c_4
    refine lv_iload hx hb dX11_runBehind_17 (lv_at hl 0 rfl) ?_
    refine lv_aload_n hx hb dX11_runBehind_19 rfl (lv_at hl 1 rfl) ?_
    refine ht_getr (C := RX11) (T := TX11) (N := 28) hx hb hts (by decide +kernel) hown hK hP hs t_zy (by decide) rfl rfl 11 (by decide) (hts (.fieldLink RX11 28 "DripStoneModel" "highStep" "[I") (by decide +kernel)) (fun _ h9 => h9) rfl dX11_runBehind_20 ?_
    have t_6 : zT (zR zy 11) = 106 := sk_f hs t_zy (by decide) rfl (by decide)
    refine lv_iload_n hx hb dX11_runBehind_23 rfl (lv_at hl 2 rfl) ?_
    refine ht_iald (n := 12) (q := 0) hx hb hK hP hs t_6 (by decide) rfl rfl ⟨by omega, by omega⟩ dX11_runBehind_24 ?_
    refine lv_topi (fun zi_7 ezi_7 => ?_)
    refine lv_icmp_gt (tgt := 42) hx hb dX11_runBehind_25 (by decide) (fun c_8 => ?_) (fun c_8 => ?_)
    · have f_9 : zi_1.toInt > zi_7.toInt := ic_gt (rfl) (rfl) c_8
      refine lv_iconst (v := 0) hx hb dX11_runBehind_42 (by decide) ?_
      subst hQ
      have qc_0 : (0 : Int32).toInt = 0 := by decide
      exact W.iret (v := (0 : Int32)) hx hb hr (fun t ht hW => ⟨⟨(0 : Int32), (), rfl, (show 0 ≤ (0 : Int32).toInt ∧ (0 : Int32).toInt ≤ 4 from by omega), ⟨by rw [ht]; exact hP, va_K.moved hW.alike hK, hD⟩⟩, hS.F ht⟩) hS.2.2 dX11_runBehind_43
    · have f_9 : ¬ (zi_1.toInt > zi_7.toInt) := ic_ngt (rfl) (rfl) c_8
      refine lv_aload_n hx hb dX11_runBehind_28 rfl (lv_at hl 1 rfl) ?_
      refine ht_getr (C := RX11) (T := TX11) (N := 28) hx hb hts (by decide +kernel) hown hK hP hs t_zy (by decide) rfl rfl 9 (by decide) (hts (.fieldLink RX11 22 "DripStoneModel" "mayYears" "[I") (by decide +kernel)) (fun _ h9 => h9) rfl dX11_runBehind_29 ?_
      have t_10 : zT (zR zy 9) = 104 := sk_f hs t_zy (by decide) rfl (by decide)
      refine lv_iload_n hx hb dX11_runBehind_32 rfl (lv_at hl 2 rfl) ?_
      refine ht_iald (n := 12) (q := 0) hx hb hK hP hs t_10 (by decide) rfl rfl ⟨by omega, by omega⟩ dX11_runBehind_33 ?_
      refine lv_topi (fun zi_11 ezi_11 => ?_)
      refine lv_iload hx hb dX11_runBehind_34 (lv_at hl 5 rfl) ?_
      refine lv_ishr hx hb dX11_runBehind_36 ?_
      refine lv_topi (fun zi_12 ezi_12 => ?_)
      have rzi_12 := rng zi_12
      refine lv_iconst (v := 1) hx hb dX11_runBehind_37 (by decide) ?_
      refine lv_iand hx hb dX11_runBehind_38 ?_
      refine lv_topi (fun zi_13 ezi_13 => ?_)
      have tzi_13 : 0 ≤ zi_13.toInt ∧ zi_13.toInt ≤ 1 := by rw [ezi_13]; exact andb (k := 1) (by decide) (by decide) (by decide)
      refine lv_if_ne (tgt := 44) hx hb dX11_runBehind_39 (by decide) (fun c_14 => ?_) (fun c_14 => ?_)
      · have f_15 : zi_13.toInt ≠ 0 := ic_ne (rfl) (by decide) c_14
        refine lv_iload hx hb dX11_runBehind_44 (lv_at hl 0 rfl) ?_
        refine lv_if_ne (tgt := 65) hx hb dX11_runBehind_46 (by decide) (fun c_16 => ?_) (fun c_16 => ?_)
        · have f_17 : zi_1.toInt ≠ 0 := ic_ne (rfl) (by decide) c_16
          refine lv_iload_n hx hb dX11_runBehind_65 rfl (lv_at hl 4 rfl) ?_
          refine lv_aload_n hx hb dX11_runBehind_66 rfl (lv_at hl 1 rfl) ?_
          refine ht_getr (C := RX11) (T := TX11) (N := 28) hx hb hts (by decide +kernel) hown hK hP hs t_zy (by decide) rfl rfl 12 (by decide) (hts (.fieldLink RX11 31 "DripStoneModel" "needRun" "[I") (by decide +kernel)) (fun _ h9 => h9) rfl dX11_runBehind_67 ?_
          have t_18 : zT (zR zy 12) = 107 := sk_f hs t_zy (by decide) rfl (by decide)
          refine lv_iload_n hx hb dX11_runBehind_70 rfl (lv_at hl 2 rfl) ?_
          refine ht_iald (n := 12) (q := 0) hx hb hK hP hs t_18 (by decide) rfl rfl ⟨by omega, by omega⟩ dX11_runBehind_71 ?_
          refine lv_topi (fun zi_19 ezi_19 => ?_)
          refine lv_icmp_lt (tgt := 79) hx hb dX11_runBehind_72 (by decide) (fun c_20 => ?_) (fun c_20 => ?_)
          · have f_21 : zib.toInt < zi_19.toInt := ic_lt (rfl) (rfl) c_20
            refine lv_iconst (v := 0) hx hb dX11_runBehind_79 (by decide) ?_
            subst hQ
            have qc_0 : (0 : Int32).toInt = 0 := by decide
            exact W.iret (v := (0 : Int32)) hx hb hr (fun t ht hW => ⟨⟨(0 : Int32), (), rfl, (show 0 ≤ (0 : Int32).toInt ∧ (0 : Int32).toInt ≤ 4 from by omega), ⟨by rw [ht]; exact hP, va_K.moved hW.alike hK, hD⟩⟩, hS.F ht⟩) hS.2.2 dX11_runBehind_80
          · have f_21 : ¬ (zib.toInt < zi_19.toInt) := ic_nlt (rfl) (rfl) c_20
            refine lv_iconst (v := 1) hx hb dX11_runBehind_75 (by decide) ?_
            refine lv_goto (tgt := 80) hx hb dX11_runBehind_76 (by decide) ?_
            subst hQ
            have qc_1 : (1 : Int32).toInt = 1 := by decide
            exact W.iret (v := (1 : Int32)) hx hb hr (fun t ht hW => ⟨⟨(1 : Int32), (), rfl, (show 0 ≤ (1 : Int32).toInt ∧ (1 : Int32).toInt ≤ 4 from by omega), ⟨by rw [ht]; exact hP, va_K.moved hW.alike hK, hD⟩⟩, hS.F ht⟩) hS.2.2 dX11_runBehind_80
        · have f_17 : ¬ (zi_1.toInt ≠ 0) := ic_nne (rfl) (by decide) c_16
          refine lv_iload_n hx hb dX11_runBehind_49 rfl (lv_at hl 4 rfl) ?_
          refine lv_aload_n hx hb dX11_runBehind_50 rfl (lv_at hl 1 rfl) ?_
          refine ht_geti (C := RX11) (T := TX11) (N := 28) hx hb hts (by decide +kernel) hown hK hP hs t_zy (by decide) rfl rfl 7 (by decide) (hts (.fieldLink RX11 195 "DripStoneModel" "mostNow" "I") (by decide +kernel)) (fun _ h9 => h9) rfl dX11_runBehind_51 ?_
          refine lv_topi (fun zi_22 ezi_22 => ?_)
          have tzi_22 : 0 ≤ zi_22.toInt ∧ zi_22.toInt ≤ 4 := by rw [ezi_22]; exact h_zI.at t_zy _ rfl
          refine lv_icmp_ge (tgt := 63) hx hb dX11_runBehind_54 (by decide) (fun c_23 => ?_) (fun c_23 => ?_)
          · have f_24 : zib.toInt ≥ zi_22.toInt := ic_ge (rfl) (rfl) c_23
            refine lv_iconst (v := 0) hx hb dX11_runBehind_63 (by decide) ?_
            subst hQ
            have qc_0 : (0 : Int32).toInt = 0 := by decide
            exact W.iret (v := (0 : Int32)) hx hb hr (fun t ht hW => ⟨⟨(0 : Int32), (), rfl, (show 0 ≤ (0 : Int32).toInt ∧ (0 : Int32).toInt ≤ 4 from by omega), ⟨by rw [ht]; exact hP, va_K.moved hW.alike hK, hD⟩⟩, hS.F ht⟩) hS.2.2 dX11_runBehind_64
          · have f_24 : ¬ (zib.toInt ≥ zi_22.toInt) := ic_nge (rfl) (rfl) c_23
            refine lv_iload_n hx hb dX11_runBehind_57 rfl (lv_at hl 4 rfl) ?_
            refine lv_iconst (v := 1) hx hb dX11_runBehind_58 (by decide) ?_
            refine lv_iadd hx hb dX11_runBehind_59 ?_
            refine lv_topi (fun zi_25 ezi_25 => ?_)
            have tzi_25 : zi_25.toInt = zib.toInt + (1 : Int) := by rw [ezi_25]; exact tiadd (rfl) (show (1 : Int32).toInt = 1 by decide) (by omega) (by omega)
            refine lv_goto (tgt := 64) hx hb dX11_runBehind_60 (by decide) ?_
            subst hQ
            exact W.iret (v := zi_25) hx hb hr (fun t ht hW => ⟨⟨zi_25, (), rfl, (show 0 ≤ zi_25.toInt ∧ zi_25.toInt ≤ 4 from by omega), ⟨by rw [ht]; exact hP, va_K.moved hW.alike hK, hD⟩⟩, hS.F ht⟩) hS.2.2 dX11_runBehind_64
      · have f_15 : ¬ (zi_13.toInt ≠ 0) := ic_nne (rfl) (by decide) c_14
        refine lv_iconst (v := 0) hx hb dX11_runBehind_42 (by decide) ?_
        subst hQ
        have qc_0 : (0 : Int32).toInt = 0 := by decide
        exact W.iret (v := (0 : Int32)) hx hb hr (fun t ht hW => ⟨⟨(0 : Int32), (), rfl, (show 0 ≤ (0 : Int32).toInt ∧ (0 : Int32).toInt ≤ 4 from by omega), ⟨by rw [ht]; exact hP, va_K.moved hW.alike hK, hD⟩⟩, hS.F ht⟩) hS.2.2 dX11_runBehind_43
set_option maxHeartbeats 8000000 in
set_option maxRecDepth 100000 in
theorem t_X11_countBack (l : Launch) (dC : Nat → ClassId) (dI : Nat → Nat → Nat) (cy : Nat → ClassId) (sz : Nat) (zL : List Nat) (zT : Nat → Nat) (zR : Nat → Nat → Nat) (zI : Nat → Nat → Int32) (zJ : Nat → Nat → Int64) (zy : Nat) (hs : SKP zL zT zR) (hw : WT zT zR zI) (t_zy : zT zy = 18) : Met l yX11_countBack wsX11_countBack ({ frames := 1, cells := 0, slots := 0, locals := 25 } : Room) (va_Pc [.ref zy] (PRE dC dI cy (WL cy zL zT zR zI zJ) sz)) (va_Qv (fun (u : (Nat → Nat → Int64)) => (u zy 15 = zJ zy 15) ∧ (u zy 20 = zJ zy 20)) (fun u t => POST dC dI cy (va_A (WL cy zL zT zR zI zJ) sz) (WL cy zL zT zR zI u) t) (va_A (WL cy zL zT zR zI zJ) sz)) 0 0 (va_A (WL cy zL zT zR zI zJ) sz) := by
  refine Met.ofW (cc := cX11_countBack) (maxL := 8) (ret := none) (by decide) rfl ?_
  intro p e s m args below meth c s₁ B hml hv
  obtain ⟨rfl, hsz, hP, hK, hD0, hN⟩ := hv
  have hx := B.exec
  have hb := B.bytes
  have hr := B.returns
  have hts := atoms_spec (ws := wsX11_countBack) B.pre
  have hown : s.vm.findClass RX11 = some m.cls := findClass_of_methodNamed B.named
  have hlocks := B.notSynchronized
  subst hsz
  have hD := hD0.self (sz := s.heap.size)
  generalize hAe : va_A (WL cy zL zT zR zI zJ) s.heap.size = A at hD ⊢
  have hA : ∀ q : Nat, s.heap.size ≤ q → A q := fun q h => by rw [← hAe]; exact Or.inr h
  have hS : va_S A s.heap s.heap [] := va_S.rf
  have hP : va_P (dC, dI) vwCl (WL cy zL zT zR zI zJ) s.heap := hP
  have hl := lv_entry ([.ref zy] : List Value) (n := 8) (Nat.le_of_ble_eq_true rfl)
  rw [lg_entry_eq]
  generalize (lg_sl ([.ref zy] : List Value) ++ List.replicate (8 - (lg_sl ([.ref zy] : List Value)).length) Slot.unset).toArray = ls at hl ⊢
  have hl : lv_has ls 8 [(0, .ref zy)] := hl
  refine w_q (fun Q hQ => ?_)
  have h_zI : WM [] AL zT zR zI zI := WM.rf hw
  refine lv_iconst (v := 0) hx hb dX11_countBack_0 (by decide) ?_
  refine lv_istore_n (lv' := [(1, .int 0), (0, .ref zy)]) hx hb dX11_countBack_1 rfl hl (by decide) rfl (fun ls hl => ?_)
  have lp_30 : ∀ (n : Nat) (zi_23 : Int32) (zJ_24 : Nat → Nat → Int64) (H : Heap) (locs : List Loc) (ls : Array Slot), (1440 - zi_23.toInt).toNat = n → (0 ≤ zi_23.toInt ∧ zi_23.toInt ≤ 1440) → (zJ_24 zy 15 = zJ zy 15) → (zJ_24 zy 20 = zJ zy 20) → va_P (dC, dI) vwCl (WL cy zL zT zR zI zJ_24) H → va_D A (WL cy zL zT zR zI zJ_24) → va_S A s.heap H locs → lv_has ls 8 [(0, .ref zy), (1, .int zi_23)] → W p l e ({ frames := 1, cells := 0, slots := 0, locals := 25 } : Room) s m ([.ref zy] : List Value).toArray below meth c H locs 0 0 Q (F0 m 2 ls []) := by
    intro n
    induction n using Nat.strongRecOn with
    | _ n ih_30 =>
      intro zi_23 zJ_24 H locs ls hn b_zi_23 e_lp_30_0 e_lp_30_1 hP hD hS hl
      refine lv_iload_n hx hb dX11_countBack_2 rfl (lv_at hl 1 rfl) ?_
      refine lv_sipush (v := 1440) hx hb dX11_countBack_3 (by decide) ?_
      refine lv_icmp_ge (tgt := 22) hx hb dX11_countBack_6 (by decide) (fun c_31 => ?_) (fun c_31 => ?_)
      · have f_32 : zi_23.toInt ≥ (1440 : Int) := ic_ge (rfl) (show (1440 : Int32).toInt = 1440 by decide) c_31
        refine lv_iconst (v := 0) hx hb dX11_countBack_22 (by decide) ?_
        refine lv_istore_n (lv' := [(1, .int 0), (0, .ref zy)]) hx hb dX11_countBack_23 rfl hl (by decide) rfl (fun ls hl => ?_)
        have lp_353 : ∀ (n : Nat) (zi_291 : Int32) (zJ_292 : Nat → Nat → Int64) (H : Heap) (locs : List Loc) (ls : Array Slot), (24 - zi_291.toInt).toNat = n → (0 ≤ zi_291.toInt ∧ zi_291.toInt ≤ 24) → (zJ_292 zy 15 = zJ zy 15) → (zJ_292 zy 20 = zJ zy 20) → va_P (dC, dI) vwCl (WL cy zL zT zR zI zJ_292) H → va_D A (WL cy zL zT zR zI zJ_292) → va_S A s.heap H locs → lv_has ls 8 [(0, .ref zy), (1, .int zi_291)] → W p l e ({ frames := 1, cells := 0, slots := 0, locals := 25 } : Room) s m ([.ref zy] : List Value).toArray below meth c H locs 0 0 Q (F0 m 24 ls []) := by
          intro n
          induction n using Nat.strongRecOn with
          | _ n ih_353 =>
            intro zi_291 zJ_292 H locs ls hn b_zi_291 e_lp_353_0 e_lp_353_1 hP hD hS hl
            refine lv_iload_n hx hb dX11_countBack_24 rfl (lv_at hl 1 rfl) ?_
            refine lv_bipush (v := 24) hx hb dX11_countBack_25 (by decide) ?_
            have jn_384 : ∀  (H : Heap) (locs : List Loc) (ls : Array Slot), (zJ_292 zy 15 = zJ zy 15) → (zJ_292 zy 20 = zJ zy 20) → va_P (dC, dI) vwCl (WL cy zL zT zR zI zJ_292) H → va_D A (WL cy zL zT zR zI zJ_292) → va_S A s.heap H locs → lv_has ls 8 [(0, .ref zy), (1, .int zi_291)] → W p l e ({ frames := 1, cells := 0, slots := 0, locals := 25 } : Room) s m ([.ref zy] : List Value).toArray below meth c H locs 0 0 Q (F0 m 73 ls []) := by
              intro  H locs ls e_jn_384_0 e_jn_384_1 hP hD hS hl
              refine lv_aload_n hx hb dX11_countBack_73 rfl (lv_at hl 0 rfl) ?_
              refine ht_geti (C := RX11) (T := TX11) (N := 28) hx hb hts (by decide +kernel) hown hK hP hs t_zy (by decide) rfl rfl 6 (by decide) (hts (.fieldLink RX11 192 "DripStoneModel" "places" "I") (by decide +kernel)) (fun _ h9 => h9) rfl dX11_countBack_74 ?_
              refine lv_topi (fun zi_385 ezi_385 => ?_)
              have tzi_385 : 0 ≤ zi_385.toInt ∧ zi_385.toInt ≤ 12 := by rw [ezi_385]; exact h_zI.at t_zy _ rfl
              refine lv_iconst (v := 2) hx hb dX11_countBack_77 (by decide) ?_
              refine lv_isub hx hb dX11_countBack_78 ?_
              refine lv_topi (fun zi_386 ezi_386 => ?_)
              have tzi_386 : zi_386.toInt = zi_385.toInt - (2 : Int) := by rw [ezi_386]; exact tisub (rfl) (show (2 : Int32).toInt = 2 by decide) (by omega) (by omega)
              refine lv_istore_n (lv' := [(1, .int zi_386), (0, .ref zy)]) hx hb dX11_countBack_79 rfl hl (by decide) rfl (fun ls hl => ?_)
              have lp_2128 : ∀ (n : Nat) (zi_1576 : Int32) (zJ_1577 : Nat → Nat → Int64) (H : Heap) (locs : List Loc) (ls : Array Slot), (zi_1576.toInt + 1).toNat = n → ((-2) ≤ zi_1576.toInt ∧ zi_1576.toInt ≤ 10) → (zJ_1577 zy 15 = zJ zy 15) → (zJ_1577 zy 20 = zJ zy 20) → va_P (dC, dI) vwCl (WL cy zL zT zR zI zJ_1577) H → va_D A (WL cy zL zT zR zI zJ_1577) → va_S A s.heap H locs → lv_has ls 8 [(0, .ref zy), (1, .int zi_1576)] → W p l e ({ frames := 1, cells := 0, slots := 0, locals := 25 } : Room) s m ([.ref zy] : List Value).toArray below meth c H locs 0 0 Q (F0 m 80 ls []) := by
                intro n
                induction n using Nat.strongRecOn with
                | _ n ih_2128 =>
                  intro zi_1576 zJ_1577 H locs ls hn b_zi_1576 e_lp_2128_0 e_lp_2128_1 hP hD hS hl
                  refine lv_iload_n hx hb dX11_countBack_80 rfl (lv_at hl 1 rfl) ?_
                  refine lv_if_lt (tgt := 191) hx hb dX11_countBack_81 (by decide) (fun c_2129 => ?_) (fun c_2129 => ?_)
                  · have f_2130 : zi_1576.toInt < 0 := ic_lt (rfl) (by decide) c_2129
                    subst hQ
                    exact W.vret hx hb hr (fun t ht hW => ⟨⟨zJ_1577, rfl, ⟨(show zJ_1577 zy 15 = zJ zy 15 from e_lp_2128_0), (show zJ_1577 zy 20 = zJ zy 20 from e_lp_2128_1)⟩, ⟨by rw [ht]; exact hP, va_K.moved hW.alike hK, hD⟩⟩, hS.F ht⟩) hS.2.2 dX11_countBack_191
                  · have f_2130 : ¬ (zi_1576.toInt < 0) := ic_nlt (rfl) (by decide) c_2129
                    refine lv_iconst (v := 0) hx hb dX11_countBack_84 (by decide) ?_
                    refine lv_istore_n (lv' := [(2, .int 0), (0, .ref zy), (1, .int zi_1576)]) hx hb dX11_countBack_85 rfl hl (by decide) rfl (fun ls hl => ?_)
                    have lp_2268 : ∀ (n : Nat) (zi_2131 : Int32) (zJ_2132 : Nat → Nat → Int64) (H : Heap) (locs : List Loc) (ls : Array Slot), (24 - zi_2131.toInt).toNat = n → (0 ≤ zi_2131.toInt ∧ zi_2131.toInt ≤ 24) → (zJ_2132 zy 15 = zJ zy 15) → (zJ_2132 zy 20 = zJ zy 20) → va_P (dC, dI) vwCl (WL cy zL zT zR zI zJ_2132) H → va_D A (WL cy zL zT zR zI zJ_2132) → va_S A s.heap H locs → lv_has ls 8 [(0, .ref zy), (1, .int zi_1576), (2, .int zi_2131)] → W p l e ({ frames := 1, cells := 0, slots := 0, locals := 25 } : Room) s m ([.ref zy] : List Value).toArray below meth c H locs 0 0 Q (F0 m 86 ls []) := by
                      intro n
                      induction n using Nat.strongRecOn with
                      | _ n ih_2268 =>
                        intro zi_2131 zJ_2132 H locs ls hn b_zi_2131 e_lp_2268_0 e_lp_2268_1 hP hD hS hl
                        refine lv_iload_n hx hb dX11_countBack_86 rfl (lv_at hl 2 rfl) ?_
                        refine lv_bipush (v := 24) hx hb dX11_countBack_87 (by decide) ?_
                        refine lv_icmp_ge (tgt := 185) hx hb dX11_countBack_89 (by decide) (fun c_2269 => ?_) (fun c_2269 => ?_)
                        · have f_2270 : zi_2131.toInt ≥ (24 : Int) := ic_ge (rfl) (show (24 : Int32).toInt = 24 by decide) c_2269
                          obtain ⟨zi_2271, ezi_2271⟩ : ∃ y : Int32, y = zi_1576 + (-1) := ⟨_, rfl⟩
                          have tzi_2271 : zi_2271.toInt = zi_1576.toInt + (-1) := by rw [ezi_2271]; exact tadd rfl (show ((-1) : Int32).toInt = -1 by decide) (by omega) (by omega)
                          refine lv_iinc (v := zi_2271) (lv' := [(1, .int zi_2271), (0, .ref zy), (2, .int zi_2131)]) hx hb dX11_countBack_185 hl (k := 1) rfl (by rw [ezi_2271]; rfl) (by decide) rfl (fun ls hl => ?_)
                          refine lv_goto (tgt := 80) hx hb dX11_countBack_188 (by decide) ?_
                          exact ih_2128 (zi_2271.toInt + 1).toNat (by omega) zi_2271 zJ_2132 _ _ _ rfl (by omega) e_lp_2268_0 e_lp_2268_1 hP hD hS (lv_sub hl [1, 0] rfl)
                        · have f_2270 : ¬ (zi_2131.toInt ≥ (24 : Int)) := ic_nge (rfl) (show (24 : Int32).toInt = 24 by decide) c_2269
                          refine lv_iconst (v := 1) hx hb dX11_countBack_92 (by decide) ?_
                          refine lv_istore_n (lv' := [(3, .int 1), (0, .ref zy), (1, .int zi_1576), (2, .int zi_2131)]) hx hb dX11_countBack_93 rfl hl (by decide) rfl (fun ls hl => ?_)
                          have lp_2339 : ∀ (n : Nat) (zi_2272 : Int32) (zJ_2273 : Nat → Nat → Int64) (H : Heap) (locs : List Loc) (ls : Array Slot), (5 - zi_2272.toInt).toNat = n → (1 ≤ zi_2272.toInt ∧ zi_2272.toInt ≤ 5) → (zJ_2273 zy 15 = zJ zy 15) → (zJ_2273 zy 20 = zJ zy 20) → va_P (dC, dI) vwCl (WL cy zL zT zR zI zJ_2273) H → va_D A (WL cy zL zT zR zI zJ_2273) → va_S A s.heap H locs → lv_has ls 8 [(0, .ref zy), (1, .int zi_1576), (2, .int zi_2131), (3, .int zi_2272)] → W p l e ({ frames := 1, cells := 0, slots := 0, locals := 25 } : Room) s m ([.ref zy] : List Value).toArray below meth c H locs 0 0 Q (F0 m 94 ls []) := by
                            intro n
                            induction n using Nat.strongRecOn with
                            | _ n ih_2339 =>
                              intro zi_2272 zJ_2273 H locs ls hn b_zi_2272 e_lp_2339_0 e_lp_2339_1 hP hD hS hl
                              refine lv_iload_n hx hb dX11_countBack_94 rfl (lv_at hl 3 rfl) ?_
                              refine lv_iconst (v := 5) hx hb dX11_countBack_95 (by decide) ?_
                              refine lv_icmp_ge (tgt := 179) hx hb dX11_countBack_96 (by decide) (fun c_2340 => ?_) (fun c_2340 => ?_)
                              · have f_2341 : zi_2272.toInt ≥ (5 : Int) := ic_ge (rfl) (show (5 : Int32).toInt = 5 by decide) c_2340
                                obtain ⟨zi_2342, ezi_2342⟩ : ∃ y : Int32, y = zi_2131 + 1 := ⟨_, rfl⟩
                                have tzi_2342 : zi_2342.toInt = zi_2131.toInt + 1 := by rw [ezi_2342]; exact tadd rfl (show (1 : Int32).toInt = 1 by decide) (by omega) (by omega)
                                refine lv_iinc (v := zi_2342) (lv' := [(2, .int zi_2342), (0, .ref zy), (1, .int zi_1576), (3, .int zi_2272)]) hx hb dX11_countBack_179 hl (k := 2) rfl (by rw [ezi_2342]; rfl) (by decide) rfl (fun ls hl => ?_)
                                refine lv_goto (tgt := 86) hx hb dX11_countBack_182 (by decide) ?_
                                exact ih_2268 (24 - zi_2342.toInt).toNat (by omega) zi_2342 zJ_2273 _ _ _ rfl (by omega) e_lp_2339_0 e_lp_2339_1 hP hD hS (lv_sub hl [1, 2, 0] rfl)
                              · have f_2341 : ¬ (zi_2272.toInt ≥ (5 : Int)) := ic_nge (rfl) (show (5 : Int32).toInt = 5 by decide) c_2340
                                refine lv_lconst (v := 0) hx hb dX11_countBack_99 (by decide) ?_
                                refine lv_lstore (lv' := [(4, .long 0), (0, .ref zy), (1, .int zi_1576), (2, .int zi_2131), (3, .int zi_2272)]) hx hb dX11_countBack_100 hl (by decide) rfl (fun ls hl => ?_)
                                refine lv_iload_n hx hb dX11_countBack_102 rfl (lv_at hl 3 rfl) ?_
                                refine lv_istore (lv' := [(6, .int zi_2131), (4, .long 0), (0, .ref zy), (1, .int zi_1576), (2, .int zi_2131), (3, .int zi_2272)]) hx hb dX11_countBack_103 hl (by decide) rfl (fun ls hl => ?_)
                                have lp_2372 : ∀ (n : Nat) (zj_2343 : Int64) (zi_2344 : Int32) (H : Heap) (locs : List Loc) (ls : Array Slot), (24 - zi_2344.toInt).toNat = n → (0 ≤ zi_2344.toInt ∧ zi_2344.toInt ≤ 24) → (zJ_2273 zy 15 = zJ zy 15) → (zJ_2273 zy 20 = zJ zy 20) → va_P (dC, dI) vwCl (WL cy zL zT zR zI zJ_2273) H → va_D A (WL cy zL zT zR zI zJ_2273) → va_S A s.heap H locs → lv_has ls 8 [(0, .ref zy), (1, .int zi_1576), (2, .int zi_2131), (3, .int zi_2272), (4, .long zj_2343), (6, .int zi_2344)] → W p l e ({ frames := 1, cells := 0, slots := 0, locals := 25 } : Room) s m ([.ref zy] : List Value).toArray below meth c H locs 0 0 Q (F0 m 105 ls []) := by
                                  intro n
                                  induction n using Nat.strongRecOn with
                                  | _ n ih_2372 =>
                                    intro zj_2343 zi_2344 H locs ls hn b_zi_2344 e_lp_2372_0 e_lp_2372_1 hP hD hS hl
                                    refine lv_iload hx hb dX11_countBack_105 (lv_at hl 5 rfl) ?_
                                    refine lv_bipush (v := 24) hx hb dX11_countBack_107 (by decide) ?_
                                    refine lv_icmp_ge (tgt := 160) hx hb dX11_countBack_109 (by decide) (fun c_2373 => ?_) (fun c_2373 => ?_)
                                    · have f_2374 : zi_2344.toInt ≥ (24 : Int) := ic_ge (rfl) (show (24 : Int32).toInt = 24 by decide) c_2373
                                      refine lv_aload_n hx hb dX11_countBack_160 rfl (lv_at hl 0 rfl) ?_
                                      refine ht_getr (C := RX11) (T := TX11) (N := 28) hx hb hts (by decide +kernel) hown hK hP hs t_zy (by decide) rfl rfl 14 (by decide) (hts (.fieldLink RX11 38 "DripStoneModel" "back" "[J") (by decide +kernel)) (fun _ h9 => h9) rfl dX11_countBack_161 ?_
                                      have t_2375 : zT (zR zy 14) = 114 := sk_f hs t_zy (by decide) rfl (by decide)
                                      refine lv_iload_n hx hb dX11_countBack_164 rfl (lv_at hl 1 rfl) ?_
                                      refine lv_iload_n hx hb dX11_countBack_165 rfl (lv_at hl 2 rfl) ?_
                                      refine lv_iload_n hx hb dX11_countBack_166 rfl (lv_at hl 3 rfl) ?_
                                      refine hj0_i (ws := (WL cy zL zT zR zI zJ_2273)) (va_runS (As := [.int zi_1576, .int zi_2131, .int zi_2272]) (rest := [.ref (zR zy 14)]) ⟨hx, hb, hml, hown, hts⟩ (c_X11_cellOf l dC dI cy H.size zi_1576 zi_2131 zi_2272 (by omega) (by omega) (by omega)) (va_cwS 3 hts gX11_countBack_X11_cellOf rfl rfl rfl (by decide +kernel) ⟨(Nat.le_of_ble_eq_true rfl), (Nat.le_of_ble_eq_true rfl)⟩) (PRE.s (hP.sub [] rfl) hK (hD.sub [] (by decide) rfl) hN) rfl rfl hl.1 rfl (lv_room (Nat.le_of_ble_eq_true rfl)) dX11_countBack_167 ⟨(Nat.le_of_ble_eq_true rfl), (Nat.le_of_ble_eq_true rfl)⟩) hP hD hS hA (fun zi_2376 u_2378 H locs hw_2377 hP hD hS => ?_)
                                      obtain ⟨b_zi_2376, ps_2379⟩ : (0 ≤ zi_2376.toInt ∧ zi_2376.toInt ≤ 1439) ∧ (zi_2376.toInt = 120 * zi_1576.toInt + 5 * zi_2131.toInt + zi_2272.toInt) := hw_2377
                                      refine lv_lload hx hb dX11_countBack_170 (lv_at hl 4 rfl) ?_
                                      refine ht_last (v := zj_2343) (n := 1440) (q := 1) hx hb hK hP hD hS hs t_2375 (by decide) rfl rfl ⟨by omega, by omega⟩ dX11_countBack_172 (fun H locs hP hD hS => ?_)
                                      generalize uzJ_2380 : u2 zJ_2273 (zR zy 14) zi_2376.toNatClampNeg zj_2343 = zJ_2380 at hP hD
                                      obtain ⟨zi_2381, ezi_2381⟩ : ∃ y : Int32, y = zi_2272 + 1 := ⟨_, rfl⟩
                                      have tzi_2381 : zi_2381.toInt = zi_2272.toInt + 1 := by rw [ezi_2381]; exact tadd rfl (show (1 : Int32).toInt = 1 by decide) (by omega) (by omega)
                                      refine lv_iinc (v := zi_2381) (lv' := [(3, .int zi_2381), (0, .ref zy), (1, .int zi_1576), (2, .int zi_2131), (4, .long zj_2343), (6, .int zi_2344)]) hx hb dX11_countBack_173 hl (k := 3) rfl (by rw [ezi_2381]; rfl) (by decide) rfl (fun ls hl => ?_)
                                      refine lv_goto (tgt := 94) hx hb dX11_countBack_176 (by decide) ?_
                                      exact ih_2339 (5 - zi_2381.toInt).toNat (by omega) zi_2381 zJ_2380 _ _ _ rfl (by omega) ((show zJ_2380 zy 15 = zJ_2273 zy 15 from by rw [← uzJ_2380]; exact u2_n (tne t_zy t_2375 (by decide))).trans e_lp_2372_0) ((show zJ_2380 zy 20 = zJ_2273 zy 20 from by rw [← uzJ_2380]; exact u2_n (tne t_zy t_2375 (by decide))).trans e_lp_2372_1) hP hD hS (lv_sub hl [1, 2, 3, 0] rfl)
                                    · have f_2374 : ¬ (zi_2344.toInt ≥ (24 : Int)) := ic_nge (rfl) (show (24 : Int32).toInt = 24 by decide) c_2373
                                      refine lv_aload_n hx hb dX11_countBack_112 rfl (lv_at hl 0 rfl) ?_
                                      refine lv_iload_n hx hb dX11_countBack_113 rfl (lv_at hl 1 rfl) ?_
                                      refine lv_iconst (v := 1) hx hb dX11_countBack_114 (by decide) ?_
                                      refine lv_iadd hx hb dX11_countBack_115 ?_
                                      refine lv_topi (fun zi_2382 ezi_2382 => ?_)
                                      have tzi_2382 : zi_2382.toInt = zi_1576.toInt + (1 : Int) := by rw [ezi_2382]; exact tiadd (rfl) (show (1 : Int32).toInt = 1 by decide) (by omega) (by omega)
                                      refine lv_iload_n hx hb dX11_countBack_116 rfl (lv_at hl 2 rfl) ?_
                                      refine lv_iload_n hx hb dX11_countBack_117 rfl (lv_at hl 3 rfl) ?_
                                      refine lv_iload hx hb dX11_countBack_118 (lv_at hl 5 rfl) ?_
                                      refine hj_i (ws := (WL cy zL zT zR zI zJ_2273)) (w1 := fun (u : Unit) => (WL cy zL zT zR zI zJ_2273)) (va_runV (As := [.int zi_2382, .int zi_2131, .int zi_2272, .int zi_2344]) (rest := []) ⟨hx, hb, hml, hown, hts⟩ (t_X11_runBehind l dC dI cy H.size zL zT zR zI zJ_2273 zy zi_2382 zi_2131 zi_2272 zi_2344 hs h_zI.1 t_zy (by omega) (by omega)) (cwV 4 hts gX11_countBack_X11_runBehind rfl rfl rfl (by decide +kernel) ⟨(Nat.le_of_ble_eq_true rfl), (Nat.le_of_ble_eq_true rfl)⟩) (PRE.v hP hK hD hN (ht_recv hK hP hs t_zy (by decide) rfl rfl)) rfl rfl hl.1 rfl (lv_room (Nat.le_of_ble_eq_true rfl)) dX11_countBack_120 ⟨(Nat.le_of_ble_eq_true rfl), (Nat.le_of_ble_eq_true rfl)⟩) hP hD hS hA (fun zi_2383 u_2385 H locs hw_2384 hP hD hS => ?_)
                                      have b_zi_2383 : 0 ≤ zi_2383.toInt ∧ zi_2383.toInt ≤ 4 := hw_2384
                                      refine lv_istore (lv' := [(7, .int zi_2383), (0, .ref zy), (1, .int zi_1576), (2, .int zi_2131), (3, .int zi_2272), (4, .long zj_2343), (6, .int zi_2344)]) hx hb dX11_countBack_123 hl (by decide) rfl (fun ls hl => ?_)
                                      refine lv_lload hx hb dX11_countBack_125 (lv_at hl 5 rfl) ?_
                                      refine lv_iload hx hb dX11_countBack_127 (lv_at hl 0 rfl) ?_
                                      have jn_2396 : ∀ (zj_2395 : Int64) (H : Heap) (locs : List Loc) (ls : Array Slot), (zJ_2273 zy 15 = zJ zy 15) → (zJ_2273 zy 20 = zJ zy 20) → va_P (dC, dI) vwCl (WL cy zL zT zR zI zJ_2273) H → va_D A (WL cy zL zT zR zI zJ_2273) → va_S A s.heap H locs → lv_has ls 8 [(0, .ref zy), (1, .int zi_1576), (2, .int zi_2131), (3, .int zi_2272), (4, .long zj_2343), (6, .int zi_2344), (7, .int zi_2383)] → W p l e ({ frames := 1, cells := 0, slots := 0, locals := 25 } : Room) s m ([.ref zy] : List Value).toArray below meth c H locs 0 0 Q (F0 m 151 ls [.long zj_2395, .long zj_2343]) := by
                                        intro zj_2395 H locs ls e_jn_2396_0 e_jn_2396_1 hP hD hS hl
                                        refine lv_ladd hx hb dX11_countBack_151 ?_
                                        refine lv_topl (fun zj_2397 ezj_2397 => ?_)
                                        refine lv_lstore (lv' := [(4, .long zj_2397), (0, .ref zy), (1, .int zi_1576), (2, .int zi_2131), (3, .int zi_2272), (6, .int zi_2344), (7, .int zi_2383)]) hx hb dX11_countBack_152 hl (by decide) rfl (fun ls hl => ?_)
                                        obtain ⟨zi_2398, ezi_2398⟩ : ∃ y : Int32, y = zi_2344 + 1 := ⟨_, rfl⟩
                                        have tzi_2398 : zi_2398.toInt = zi_2344.toInt + 1 := by rw [ezi_2398]; exact tadd rfl (show (1 : Int32).toInt = 1 by decide) (by omega) (by omega)
                                        refine lv_iinc (v := zi_2398) (lv' := [(6, .int zi_2398), (4, .long zj_2397), (0, .ref zy), (1, .int zi_1576), (2, .int zi_2131), (3, .int zi_2272), (7, .int zi_2383)]) hx hb dX11_countBack_154 hl (k := 5) rfl (by rw [ezi_2398]; rfl) (by decide) rfl (fun ls hl => ?_)
                                        refine lv_goto (tgt := 105) hx hb dX11_countBack_157 (by decide) ?_
                                        exact ih_2372 (24 - zi_2398.toInt).toNat (by omega) zj_2397 zi_2398 _ _ _ rfl (by omega) e_jn_2396_0 e_jn_2396_1 hP hD hS (lv_sub hl [2, 3, 4, 5, 1, 0] rfl)
                                      refine lv_if_le (tgt := 150) hx hb dX11_countBack_129 (by decide) (fun c_2399 => ?_) (fun c_2399 => ?_)
                                      · have f_2400 : zi_2383.toInt ≤ 0 := ic_le (rfl) (by decide) c_2399
                                        refine lv_lconst (v := 0) hx hb dX11_countBack_150 (by decide) ?_
                                        exact jn_2396 (0 : Int64) _ _ _ e_lp_2372_0 e_lp_2372_1 hP hD hS (lv_sub hl [1, 2, 3, 4, 5, 6, 0] rfl)
                                      · have f_2400 : ¬ (zi_2383.toInt ≤ 0) := ic_nle (rfl) (by decide) c_2399
                                        refine lv_aload_n hx hb dX11_countBack_132 rfl (lv_at hl 1 rfl) ?_
                                        refine ht_getr (C := RX11) (T := TX11) (N := 28) hx hb hts (by decide +kernel) hown hK hP hs t_zy (by decide) rfl rfl 14 (by decide) (hts (.fieldLink RX11 38 "DripStoneModel" "back" "[J") (by decide +kernel)) (fun _ h9 => h9) rfl dX11_countBack_133 ?_
                                        have t_2401 : zT (zR zy 14) = 114 := sk_f hs t_zy (by decide) rfl (by decide)
                                        refine lv_iload_n hx hb dX11_countBack_136 rfl (lv_at hl 2 rfl) ?_
                                        refine lv_iconst (v := 1) hx hb dX11_countBack_137 (by decide) ?_
                                        refine lv_iadd hx hb dX11_countBack_138 ?_
                                        refine lv_topi (fun zi_2402 ezi_2402 => ?_)
                                        have tzi_2402 : zi_2402.toInt = zi_1576.toInt + (1 : Int) := by rw [ezi_2402]; exact tiadd (rfl) (show (1 : Int32).toInt = 1 by decide) (by omega) (by omega)
                                        refine lv_iload hx hb dX11_countBack_139 (lv_at hl 6 rfl) ?_
                                        refine lv_iload hx hb dX11_countBack_141 (lv_at hl 0 rfl) ?_
                                        refine hj0_i (ws := (WL cy zL zT zR zI zJ_2273)) (va_runS (As := [.int zi_2402, .int zi_2344, .int zi_2383]) (rest := [.ref (zR zy 14), .long zj_2343]) ⟨hx, hb, hml, hown, hts⟩ (c_X11_cellOf l dC dI cy H.size zi_2402 zi_2344 zi_2383 (by omega) (by omega) (by omega)) (va_cwS 3 hts gX11_countBack_X11_cellOf rfl rfl rfl (by decide +kernel) ⟨(Nat.le_of_ble_eq_true rfl), (Nat.le_of_ble_eq_true rfl)⟩) (PRE.s (hP.sub [] rfl) hK (hD.sub [] (by decide) rfl) hN) rfl rfl hl.1 rfl (lv_room (Nat.le_of_ble_eq_true rfl)) dX11_countBack_143 ⟨(Nat.le_of_ble_eq_true rfl), (Nat.le_of_ble_eq_true rfl)⟩) hP hD hS hA (fun zi_2403 u_2405 H locs hw_2404 hP hD hS => ?_)
                                        obtain ⟨b_zi_2403, ps_2406⟩ : (0 ≤ zi_2403.toInt ∧ zi_2403.toInt ≤ 1439) ∧ (zi_2403.toInt = 120 * zi_2402.toInt + 5 * zi_2344.toInt + zi_2383.toInt) := hw_2404
                                        refine ht_lald (n := 1440) (q := 1) hx hb hK hP hs t_2401 (by decide) rfl rfl ⟨by omega, by omega⟩ dX11_countBack_146 ?_
                                        refine lv_topl (fun zj_2407 ezj_2407 => ?_)
                                        refine lv_goto (tgt := 151) hx hb dX11_countBack_147 (by decide) ?_
                                        exact jn_2396 zj_2407 _ _ _ e_lp_2372_0 e_lp_2372_1 hP hD hS (lv_sub hl [1, 2, 3, 4, 5, 6, 0] rfl)
                                exact lp_2372 _ (0 : Int64) zi_2131 _ _ _ rfl (by omega) e_lp_2339_0 e_lp_2339_1 hP hD hS (lv_sub hl [2, 3, 4, 5, 1, 0] rfl)
                          have qc_1 : (1 : Int32).toInt = 1 := by decide
                          exact lp_2339 _ (1 : Int32) zJ_2132 _ _ _ rfl (by decide) e_lp_2268_0 e_lp_2268_1 hP hD hS (lv_sub hl [1, 2, 3, 0] rfl)
                    have qc_0 : (0 : Int32).toInt = 0 := by decide
                    exact lp_2268 _ (0 : Int32) zJ_1577 _ _ _ rfl (by decide) e_lp_2128_0 e_lp_2128_1 hP hD hS (lv_sub hl [1, 2, 0] rfl)
              exact lp_2128 _ zi_386 zJ_292 _ _ _ rfl (by omega) e_jn_384_0 e_jn_384_1 hP hD hS (lv_sub hl [1, 0] rfl)
            refine lv_icmp_ge (tgt := 73) hx hb dX11_countBack_27 (by decide) (fun c_2408 => ?_) (fun c_2408 => ?_)
            · have f_2409 : zi_291.toInt ≥ (24 : Int) := ic_ge (rfl) (show (24 : Int32).toInt = 24 by decide) c_2408
              exact jn_384  _ _ _ e_lp_353_0 e_lp_353_1 hP hD hS (lv_sub hl [0, 1] rfl)
            · have f_2409 : ¬ (zi_291.toInt ≥ (24 : Int)) := ic_nge (rfl) (show (24 : Int32).toInt = 24 by decide) c_2408
              refine lv_aload_n hx hb dX11_countBack_30 rfl (lv_at hl 0 rfl) ?_
              refine ht_geti (C := RX11) (T := TX11) (N := 28) hx hb hts (by decide +kernel) hown hK hP hs t_zy (by decide) rfl rfl 6 (by decide) (hts (.fieldLink RX11 192 "DripStoneModel" "places" "I") (by decide +kernel)) (fun _ h9 => h9) rfl dX11_countBack_31 ?_
              refine lv_topi (fun zi_2410 ezi_2410 => ?_)
              have tzi_2410 : 0 ≤ zi_2410.toInt ∧ zi_2410.toInt ≤ 12 := by rw [ezi_2410]; exact h_zI.at t_zy _ rfl
              refine lv_if_le (tgt := 73) hx hb dX11_countBack_34 (by decide) (fun c_2411 => ?_) (fun c_2411 => ?_)
              · have f_2412 : zi_2410.toInt ≤ 0 := ic_le (rfl) (by decide) c_2411
                exact jn_384  _ _ _ e_lp_353_0 e_lp_353_1 hP hD hS (lv_sub hl [0, 1] rfl)
              · have f_2412 : ¬ (zi_2410.toInt ≤ 0) := ic_nle (rfl) (by decide) c_2411
                refine lv_iconst (v := 1) hx hb dX11_countBack_37 (by decide) ?_
                refine lv_istore_n (lv' := [(2, .int 1), (0, .ref zy), (1, .int zi_291)]) hx hb dX11_countBack_38 rfl hl (by decide) rfl (fun ls hl => ?_)
                have lp_2426 : ∀ (n : Nat) (zi_2413 : Int32) (zJ_2414 : Nat → Nat → Int64) (H : Heap) (locs : List Loc) (ls : Array Slot), (5 - zi_2413.toInt).toNat = n → (1 ≤ zi_2413.toInt ∧ zi_2413.toInt ≤ 5) → (zJ_2414 zy 15 = zJ zy 15) → (zJ_2414 zy 20 = zJ zy 20) → va_P (dC, dI) vwCl (WL cy zL zT zR zI zJ_2414) H → va_D A (WL cy zL zT zR zI zJ_2414) → va_S A s.heap H locs → lv_has ls 8 [(0, .ref zy), (1, .int zi_291), (2, .int zi_2413)] → W p l e ({ frames := 1, cells := 0, slots := 0, locals := 25 } : Room) s m ([.ref zy] : List Value).toArray below meth c H locs 0 0 Q (F0 m 39 ls []) := by
                  intro n
                  induction n using Nat.strongRecOn with
                  | _ n ih_2426 =>
                    intro zi_2413 zJ_2414 H locs ls hn b_zi_2413 e_lp_2426_0 e_lp_2426_1 hP hD hS hl
                    refine lv_iload_n hx hb dX11_countBack_39 rfl (lv_at hl 2 rfl) ?_
                    refine lv_iconst (v := 5) hx hb dX11_countBack_40 (by decide) ?_
                    refine lv_icmp_ge (tgt := 67) hx hb dX11_countBack_41 (by decide) (fun c_2427 => ?_) (fun c_2427 => ?_)
                    · have f_2428 : zi_2413.toInt ≥ (5 : Int) := ic_ge (rfl) (show (5 : Int32).toInt = 5 by decide) c_2427
                      obtain ⟨zi_2429, ezi_2429⟩ : ∃ y : Int32, y = zi_291 + 1 := ⟨_, rfl⟩
                      have tzi_2429 : zi_2429.toInt = zi_291.toInt + 1 := by rw [ezi_2429]; exact tadd rfl (show (1 : Int32).toInt = 1 by decide) (by omega) (by omega)
                      refine lv_iinc (v := zi_2429) (lv' := [(1, .int zi_2429), (0, .ref zy), (2, .int zi_2413)]) hx hb dX11_countBack_67 hl (k := 1) rfl (by rw [ezi_2429]; rfl) (by decide) rfl (fun ls hl => ?_)
                      refine lv_goto (tgt := 24) hx hb dX11_countBack_70 (by decide) ?_
                      exact ih_353 (24 - zi_2429.toInt).toNat (by omega) zi_2429 zJ_2414 _ _ _ rfl (by omega) e_lp_2426_0 e_lp_2426_1 hP hD hS (lv_sub hl [1, 0] rfl)
                    · have f_2428 : ¬ (zi_2413.toInt ≥ (5 : Int)) := ic_nge (rfl) (show (5 : Int32).toInt = 5 by decide) c_2427
                      refine lv_aload_n hx hb dX11_countBack_44 rfl (lv_at hl 0 rfl) ?_
                      refine ht_getr (C := RX11) (T := TX11) (N := 28) hx hb hts (by decide +kernel) hown hK hP hs t_zy (by decide) rfl rfl 14 (by decide) (hts (.fieldLink RX11 38 "DripStoneModel" "back" "[J") (by decide +kernel)) (fun _ h9 => h9) rfl dX11_countBack_45 ?_
                      have t_2430 : zT (zR zy 14) = 114 := sk_f hs t_zy (by decide) rfl (by decide)
                      refine lv_aload_n hx hb dX11_countBack_48 rfl (lv_at hl 0 rfl) ?_
                      refine ht_geti (C := RX11) (T := TX11) (N := 28) hx hb hts (by decide +kernel) hown hK hP hs t_zy (by decide) rfl rfl 6 (by decide) (hts (.fieldLink RX11 192 "DripStoneModel" "places" "I") (by decide +kernel)) (fun _ h9 => h9) rfl dX11_countBack_49 ?_
                      refine lv_topi (fun zi_2431 ezi_2431 => ?_)
                      obtain rfl : zi_2410 = zi_2431 := (ezi_2431.trans ezi_2410.symm).symm
                      refine lv_iconst (v := 1) hx hb dX11_countBack_52 (by decide) ?_
                      refine lv_isub hx hb dX11_countBack_53 ?_
                      refine lv_topi (fun zi_2432 ezi_2432 => ?_)
                      have tzi_2432 : zi_2432.toInt = zi_2410.toInt - (1 : Int) := by rw [ezi_2432]; exact tisub (rfl) (show (1 : Int32).toInt = 1 by decide) (by omega) (by omega)
                      refine lv_iload_n hx hb dX11_countBack_54 rfl (lv_at hl 1 rfl) ?_
                      refine lv_iload_n hx hb dX11_countBack_55 rfl (lv_at hl 2 rfl) ?_
                      refine hj0_i (ws := (WL cy zL zT zR zI zJ_2414)) (va_runS (As := [.int zi_2432, .int zi_291, .int zi_2413]) (rest := [.ref (zR zy 14)]) ⟨hx, hb, hml, hown, hts⟩ (c_X11_cellOf l dC dI cy H.size zi_2432 zi_291 zi_2413 (by omega) (by omega) (by omega)) (va_cwS 3 hts gX11_countBack_X11_cellOf rfl rfl rfl (by decide +kernel) ⟨(Nat.le_of_ble_eq_true rfl), (Nat.le_of_ble_eq_true rfl)⟩) (PRE.s (hP.sub [] rfl) hK (hD.sub [] (by decide) rfl) hN) rfl rfl hl.1 rfl (lv_room (Nat.le_of_ble_eq_true rfl)) dX11_countBack_56 ⟨(Nat.le_of_ble_eq_true rfl), (Nat.le_of_ble_eq_true rfl)⟩) hP hD hS hA (fun zi_2433 u_2435 H locs hw_2434 hP hD hS => ?_)
                      obtain ⟨b_zi_2433, ps_2436⟩ : (0 ≤ zi_2433.toInt ∧ zi_2433.toInt ≤ 1439) ∧ (zi_2433.toInt = 120 * zi_2432.toInt + 5 * zi_291.toInt + zi_2413.toInt) := hw_2434
                      refine lv_lconst (v := 1) hx hb dX11_countBack_59 (by decide) ?_
                      refine ht_last (v := (1 : Int64)) (n := 1440) (q := 1) hx hb hK hP hD hS hs t_2430 (by decide) rfl rfl ⟨by omega, by omega⟩ dX11_countBack_60 (fun H locs hP hD hS => ?_)
                      generalize uzJ_2437 : u2 zJ_2414 (zR zy 14) zi_2433.toNatClampNeg (1 : Int64) = zJ_2437 at hP hD
                      obtain ⟨zi_2438, ezi_2438⟩ : ∃ y : Int32, y = zi_2413 + 1 := ⟨_, rfl⟩
                      have tzi_2438 : zi_2438.toInt = zi_2413.toInt + 1 := by rw [ezi_2438]; exact tadd rfl (show (1 : Int32).toInt = 1 by decide) (by omega) (by omega)
                      refine lv_iinc (v := zi_2438) (lv' := [(2, .int zi_2438), (0, .ref zy), (1, .int zi_291)]) hx hb dX11_countBack_61 hl (k := 2) rfl (by rw [ezi_2438]; rfl) (by decide) rfl (fun ls hl => ?_)
                      refine lv_goto (tgt := 39) hx hb dX11_countBack_64 (by decide) ?_
                      exact ih_2426 (5 - zi_2438.toInt).toNat (by omega) zi_2438 zJ_2437 _ _ _ rfl (by omega) ((show zJ_2437 zy 15 = zJ_2414 zy 15 from by rw [← uzJ_2437]; exact u2_n (tne t_zy t_2430 (by decide))).trans e_lp_2426_0) ((show zJ_2437 zy 20 = zJ_2414 zy 20 from by rw [← uzJ_2437]; exact u2_n (tne t_zy t_2430 (by decide))).trans e_lp_2426_1) hP hD hS (lv_sub hl [1, 2, 0] rfl)
                have qc_1 : (1 : Int32).toInt = 1 := by decide
                exact lp_2426 _ (1 : Int32) zJ_292 _ _ _ rfl (by decide) e_lp_353_0 e_lp_353_1 hP hD hS (lv_sub hl [1, 2, 0] rfl)
        have qc_0 : (0 : Int32).toInt = 0 := by decide
        exact lp_353 _ (0 : Int32) zJ_24 _ _ _ rfl (by decide) e_lp_30_0 e_lp_30_1 hP hD hS (lv_sub hl [1, 0] rfl)
      · have f_32 : ¬ (zi_23.toInt ≥ (1440 : Int)) := ic_nge (rfl) (show (1440 : Int32).toInt = 1440 by decide) c_31
        refine lv_aload_n hx hb dX11_countBack_9 rfl (lv_at hl 0 rfl) ?_
        refine ht_getr (C := RX11) (T := TX11) (N := 28) hx hb hts (by decide +kernel) hown hK hP hs t_zy (by decide) rfl rfl 14 (by decide) (hts (.fieldLink RX11 38 "DripStoneModel" "back" "[J") (by decide +kernel)) (fun _ h9 => h9) rfl dX11_countBack_10 ?_
        have t_2439 : zT (zR zy 14) = 114 := sk_f hs t_zy (by decide) rfl (by decide)
        refine lv_iload_n hx hb dX11_countBack_13 rfl (lv_at hl 1 rfl) ?_
        refine lv_lconst (v := 0) hx hb dX11_countBack_14 (by decide) ?_
        refine ht_last (v := (0 : Int64)) (n := 1440) (q := 1) hx hb hK hP hD hS hs t_2439 (by decide) rfl rfl ⟨by omega, by omega⟩ dX11_countBack_15 (fun H locs hP hD hS => ?_)
        generalize uzJ_2440 : u2 zJ_24 (zR zy 14) zi_23.toNatClampNeg (0 : Int64) = zJ_2440 at hP hD
        obtain ⟨zi_2441, ezi_2441⟩ : ∃ y : Int32, y = zi_23 + 1 := ⟨_, rfl⟩
        have tzi_2441 : zi_2441.toInt = zi_23.toInt + 1 := by rw [ezi_2441]; exact tadd rfl (show (1 : Int32).toInt = 1 by decide) (by omega) (by omega)
        refine lv_iinc (v := zi_2441) (lv' := [(1, .int zi_2441), (0, .ref zy)]) hx hb dX11_countBack_16 hl (k := 1) rfl (by rw [ezi_2441]; rfl) (by decide) rfl (fun ls hl => ?_)
        refine lv_goto (tgt := 2) hx hb dX11_countBack_19 (by decide) ?_
        exact ih_30 (1440 - zi_2441.toInt).toNat (by omega) zi_2441 zJ_2440 _ _ _ rfl (by omega) ((show zJ_2440 zy 15 = zJ_24 zy 15 from by rw [← uzJ_2440]; exact u2_n (tne t_zy t_2439 (by decide))).trans e_lp_30_0) ((show zJ_2440 zy 20 = zJ_24 zy 20 from by rw [← uzJ_2440]; exact u2_n (tne t_zy t_2439 (by decide))).trans e_lp_30_1) hP hD hS (lv_sub hl [1, 0] rfl)
  have qc_0 : (0 : Int32).toInt = 0 := by decide
  exact lp_30 _ (0 : Int32) zJ _ _ _ rfl (by decide) rfl rfl hP hD hS (lv_sub hl [1, 0] rfl)
set_option maxHeartbeats 8000000 in
set_option maxRecDepth 100000 in
theorem t_X11_waysAt (l : Launch) (dC : Nat → ClassId) (dI : Nat → Nat → Nat) (cy : Nat → ClassId) (sz : Nat) (zL : List Nat) (zT : Nat → Nat) (zR : Nat → Nat → Nat) (zI : Nat → Nat → Int32) (zJ : Nat → Nat → Int64) (zy : Nat) (zip : Int32) (ziq : Int32) (hs : SKP zL zT zR) (hw : WT zT zR zI) (t_zy : zT zy = 18) (b_zip : 0 ≤ zip.toInt ∧ zip.toInt ≤ 11) (b_ziq : 0 ≤ ziq.toInt ∧ ziq.toInt ≤ 23) : Met l yX11_waysAt wsX11_waysAt ({ frames := 1, cells := 0, slots := 0, locals := 22 } : Room) (va_Pc [.ref zy, .int zip, .int ziq] (PRE dC dI cy (WL cy zL zT zR zI zJ) sz)) (va_Ql (fun (r : Int64) (u : Unit) => True) (fun u t => POST dC dI cy (va_A (WL cy zL zT zR zI zJ) sz) (WL cy zL zT zR zI zJ) t) (va_A (WL cy zL zT zR zI zJ) sz)) 0 0 (va_A (WL cy zL zT zR zI zJ) sz) := by
  refine Met.ofW (cc := cX11_waysAt) (maxL := 6) (ret := (some .long)) (by decide) rfl ?_
  intro p e s m args below meth c s₁ B hml hv
  obtain ⟨rfl, hsz, hP, hK, hD0, hN⟩ := hv
  have hx := B.exec
  have hb := B.bytes
  have hr := B.returns
  have hts := atoms_spec (ws := wsX11_waysAt) B.pre
  have hown : s.vm.findClass RX11 = some m.cls := findClass_of_methodNamed B.named
  have hlocks := B.notSynchronized
  subst hsz
  have hD := hD0.self (sz := s.heap.size)
  generalize hAe : va_A (WL cy zL zT zR zI zJ) s.heap.size = A at hD ⊢
  have hA : ∀ q : Nat, s.heap.size ≤ q → A q := fun q h => by rw [← hAe]; exact Or.inr h
  have hS : va_S A s.heap s.heap [] := va_S.rf
  have hP : va_P (dC, dI) vwCl (WL cy zL zT zR zI zJ) s.heap := hP
  have hl := lv_entry ([.ref zy, .int zip, .int ziq] : List Value) (n := 6) (Nat.le_of_ble_eq_true rfl)
  rw [lg_entry_eq]
  generalize (lg_sl ([.ref zy, .int zip, .int ziq] : List Value) ++ List.replicate (6 - (lg_sl ([.ref zy, .int zip, .int ziq] : List Value)).length) Slot.unset).toArray = ls at hl ⊢
  have hl : lv_has ls 6 [(0, .ref zy), (1, .int zip), (2, .int ziq)] := hl
  refine w_q (fun Q hQ => ?_)
  have h_zI : WM [] AL zT zR zI zI := WM.rf hw
  refine lv_lconst (v := 0) hx hb dX11_waysAt_0 (by decide) ?_
  refine lv_lstore_n (lv' := [(3, .long 0), (0, .ref zy), (1, .int zip), (2, .int ziq)]) hx hb dX11_waysAt_1 rfl hl (by decide) rfl (fun ls hl => ?_)
  refine lv_iconst (v := 1) hx hb dX11_waysAt_2 (by decide) ?_
  refine lv_istore (lv' := [(5, .int 1), (3, .long 0), (0, .ref zy), (1, .int zip), (2, .int ziq)]) hx hb dX11_waysAt_3 hl (by decide) rfl (fun ls hl => ?_)
  have lp_90 : ∀ (n : Nat) (zj_71 : Int64) (zi_72 : Int32) (H : Heap) (locs : List Loc) (ls : Array Slot), (5 - zi_72.toInt).toNat = n → (1 ≤ zi_72.toInt ∧ zi_72.toInt ≤ 5) → va_P (dC, dI) vwCl (WL cy zL zT zR zI zJ) H → va_D A (WL cy zL zT zR zI zJ) → va_S A s.heap H locs → lv_has ls 6 [(0, .ref zy), (1, .int zip), (2, .int ziq), (3, .long zj_71), (5, .int zi_72)] → W p l e ({ frames := 1, cells := 0, slots := 0, locals := 22 } : Room) s m ([.ref zy, .int zip, .int ziq] : List Value).toArray below meth c H locs 0 0 Q (F0 m 5 ls []) := by
    intro n
    induction n using Nat.strongRecOn with
    | _ n ih_90 =>
      intro zj_71 zi_72 H locs ls hn b_zi_72 hP hD hS hl
      refine lv_iload hx hb dX11_waysAt_5 (lv_at hl 4 rfl) ?_
      refine lv_iconst (v := 5) hx hb dX11_waysAt_7 (by decide) ?_
      refine lv_icmp_ge (tgt := 45) hx hb dX11_waysAt_8 (by decide) (fun c_91 => ?_) (fun c_91 => ?_)
      · have f_92 : zi_72.toInt ≥ (5 : Int) := ic_ge (rfl) (show (5 : Int32).toInt = 5 by decide) c_91
        refine lv_lload_n hx hb dX11_waysAt_45 rfl (lv_at hl 3 rfl) ?_
        subst hQ
        exact W.lret (v := zj_71) hx hb hr (fun t ht hW => ⟨⟨zj_71, (), rfl, trivial, ⟨by rw [ht]; exact hP, va_K.moved hW.alike hK, hD⟩⟩, hS.F ht⟩) hS.2.2 dX11_waysAt_46
      · have f_92 : ¬ (zi_72.toInt ≥ (5 : Int)) := ic_nge (rfl) (show (5 : Int32).toInt = 5 by decide) c_91
        refine lv_lload_n hx hb dX11_waysAt_11 rfl (lv_at hl 3 rfl) ?_
        refine lv_aload_n hx hb dX11_waysAt_12 rfl (lv_at hl 0 rfl) ?_
        refine ht_getr (C := RX11) (T := TX11) (N := 28) hx hb hts (by decide +kernel) hown hK hP hs t_zy (by decide) rfl rfl 13 (by decide) (hts (.fieldLink RX11 34 "DripStoneModel" "front" "[J") (by decide +kernel)) (fun _ h9 => h9) rfl dX11_waysAt_13 ?_
        have t_93 : zT (zR zy 13) = 113 := sk_f hs t_zy (by decide) rfl (by decide)
        refine lv_iload_n hx hb dX11_waysAt_16 rfl (lv_at hl 1 rfl) ?_
        refine lv_iload_n hx hb dX11_waysAt_17 rfl (lv_at hl 2 rfl) ?_
        refine lv_iload hx hb dX11_waysAt_18 (lv_at hl 4 rfl) ?_
        refine hj0_i (ws := (WL cy zL zT zR zI zJ)) (va_runS (As := [.int zip, .int ziq, .int zi_72]) (rest := [.ref (zR zy 13), .long zj_71]) ⟨hx, hb, hml, hown, hts⟩ (c_X11_cellOf l dC dI cy H.size zip ziq zi_72 (by omega) (by omega) (by omega)) (va_cwS 3 hts gX11_waysAt_X11_cellOf rfl rfl rfl (by decide +kernel) ⟨(Nat.le_of_ble_eq_true rfl), (Nat.le_of_ble_eq_true rfl)⟩) (PRE.s (hP.sub [] rfl) hK (hD.sub [] (by decide) rfl) hN) rfl rfl hl.1 rfl (lv_room (Nat.le_of_ble_eq_true rfl)) dX11_waysAt_20 ⟨(Nat.le_of_ble_eq_true rfl), (Nat.le_of_ble_eq_true rfl)⟩) hP hD hS hA (fun zi_94 u_96 H locs hw_95 hP hD hS => ?_)
        obtain ⟨b_zi_94, ps_97⟩ : (0 ≤ zi_94.toInt ∧ zi_94.toInt ≤ 1439) ∧ (zi_94.toInt = 120 * zip.toInt + 5 * ziq.toInt + zi_72.toInt) := hw_95
        refine ht_lald (n := 1440) (q := 1) hx hb hK hP hs t_93 (by decide) rfl rfl ⟨by omega, by omega⟩ dX11_waysAt_23 ?_
        refine lv_topl (fun zj_98 ezj_98 => ?_)
        refine lv_aload_n hx hb dX11_waysAt_24 rfl (lv_at hl 0 rfl) ?_
        refine ht_getr (C := RX11) (T := TX11) (N := 28) hx hb hts (by decide +kernel) hown hK hP hs t_zy (by decide) rfl rfl 14 (by decide) (hts (.fieldLink RX11 38 "DripStoneModel" "back" "[J") (by decide +kernel)) (fun _ h9 => h9) rfl dX11_waysAt_25 ?_
        have t_99 : zT (zR zy 14) = 114 := sk_f hs t_zy (by decide) rfl (by decide)
        refine lv_iload_n hx hb dX11_waysAt_28 rfl (lv_at hl 1 rfl) ?_
        refine lv_iload_n hx hb dX11_waysAt_29 rfl (lv_at hl 2 rfl) ?_
        refine lv_iload hx hb dX11_waysAt_30 (lv_at hl 4 rfl) ?_
        refine hj0_i (ws := (WL cy zL zT zR zI zJ)) (va_runS (As := [.int zip, .int ziq, .int zi_72]) (rest := [.ref (zR zy 14), .long zj_98, .long zj_71]) ⟨hx, hb, hml, hown, hts⟩ (c_X11_cellOf l dC dI cy H.size zip ziq zi_72 (by omega) (by omega) (by omega)) (va_cwS 3 hts gX11_waysAt_X11_cellOf rfl rfl rfl (by decide +kernel) ⟨(Nat.le_of_ble_eq_true rfl), (Nat.le_of_ble_eq_true rfl)⟩) (PRE.s (hP.sub [] rfl) hK (hD.sub [] (by decide) rfl) hN) rfl rfl hl.1 rfl (lv_room (Nat.le_of_ble_eq_true rfl)) dX11_waysAt_32 ⟨(Nat.le_of_ble_eq_true rfl), (Nat.le_of_ble_eq_true rfl)⟩) hP hD hS hA (fun zi_100 u_102 H locs hw_101 hP hD hS => ?_)
        obtain ⟨b_zi_100, ps_103⟩ : (0 ≤ zi_100.toInt ∧ zi_100.toInt ≤ 1439) ∧ (zi_100.toInt = 120 * zip.toInt + 5 * ziq.toInt + zi_72.toInt) := hw_101
        refine ht_lald (n := 1440) (q := 1) hx hb hK hP hs t_99 (by decide) rfl rfl ⟨by omega, by omega⟩ dX11_waysAt_35 ?_
        refine lv_topl (fun zj_104 ezj_104 => ?_)
        refine lv_lmul hx hb dX11_waysAt_36 ?_
        refine lv_topl (fun zj_105 ezj_105 => ?_)
        refine lv_ladd hx hb dX11_waysAt_37 ?_
        refine lv_topl (fun zj_106 ezj_106 => ?_)
        refine lv_lstore_n (lv' := [(3, .long zj_106), (0, .ref zy), (1, .int zip), (2, .int ziq), (5, .int zi_72)]) hx hb dX11_waysAt_38 rfl hl (by decide) rfl (fun ls hl => ?_)
        obtain ⟨zi_107, ezi_107⟩ : ∃ y : Int32, y = zi_72 + 1 := ⟨_, rfl⟩
        have tzi_107 : zi_107.toInt = zi_72.toInt + 1 := by rw [ezi_107]; exact tadd rfl (show (1 : Int32).toInt = 1 by decide) (by omega) (by omega)
        refine lv_iinc (v := zi_107) (lv' := [(5, .int zi_107), (3, .long zj_106), (0, .ref zy), (1, .int zip), (2, .int ziq)]) hx hb dX11_waysAt_39 hl (k := 4) rfl (by rw [ezi_107]; rfl) (by decide) rfl (fun ls hl => ?_)
        refine lv_goto (tgt := 5) hx hb dX11_waysAt_42 (by decide) ?_
        exact ih_90 (5 - zi_107.toInt).toNat (by omega) zj_106 zi_107 _ _ _ rfl (by omega) hP hD hS (lv_sub hl [2, 3, 4, 1, 0] rfl)
  exact lp_90 _ (0 : Int64) (1 : Int32) _ _ _ rfl (by decide) hP hD hS (lv_sub hl [2, 3, 4, 1, 0] rfl)
set_option maxHeartbeats 8000000 in
set_option maxRecDepth 100000 in
theorem t_X11_endOf (l : Launch) (dC : Nat → ClassId) (dI : Nat → Nat → Nat) (cy : Nat → ClassId) (sz : Nat) (zL : List Nat) (zT : Nat → Nat) (zR : Nat → Nat → Nat) (zI : Nat → Nat → Int32) (zJ : Nat → Nat → Int64) (zy : Nat) (zip : Int32) (zia : Int32) (hs : SKP zL zT zR) (hw : WT zT zR zI) (t_zy : zT zy = 18) (b_zip : 0 ≤ zip.toInt ∧ zip.toInt ≤ 11) : Met l yX11_endOf wsX11_endOf ({ frames := 2, cells := 0, slots := 0, locals := 47 } : Room) (va_Pc [.ref zy, .int zip, .int zia] (PRE dC dI cy (WL cy zL zT zR zI zJ) sz)) (va_Qi (fun (r : Int32) (u : Unit) => ((-4) ≤ r.toInt ∧ r.toInt ≤ 23)) (fun u t => POST dC dI cy (va_A (WL cy zL zT zR zI zJ) sz) (WL cy zL zT zR zI zJ) t) (va_A (WL cy zL zT zR zI zJ) sz)) 0 0 (va_A (WL cy zL zT zR zI zJ) sz) := by
  refine Met.ofW (cc := cX11_endOf) (maxL := 6) (ret := (some .int)) (by decide) rfl ?_
  intro p e s m args below meth c s₁ B hml hv
  obtain ⟨rfl, hsz, hP, hK, hD0, hN⟩ := hv
  have hx := B.exec
  have hb := B.bytes
  have hr := B.returns
  have hts := atoms_spec (ws := wsX11_endOf) B.pre
  have hown : s.vm.findClass RX11 = some m.cls := findClass_of_methodNamed B.named
  have hlocks := B.notSynchronized
  subst hsz
  have hD := hD0.self (sz := s.heap.size)
  generalize hAe : va_A (WL cy zL zT zR zI zJ) s.heap.size = A at hD ⊢
  have hA : ∀ q : Nat, s.heap.size ≤ q → A q := fun q h => by rw [← hAe]; exact Or.inr h
  have hS : va_S A s.heap s.heap [] := va_S.rf
  have hP : va_P (dC, dI) vwCl (WL cy zL zT zR zI zJ) s.heap := hP
  have hl := lv_entry ([.ref zy, .int zip, .int zia] : List Value) (n := 6) (Nat.le_of_ble_eq_true rfl)
  rw [lg_entry_eq]
  generalize (lg_sl ([.ref zy, .int zip, .int zia] : List Value) ++ List.replicate (6 - (lg_sl ([.ref zy, .int zip, .int zia] : List Value)).length) Slot.unset).toArray = ls at hl ⊢
  have hl : lv_has ls 6 [(0, .ref zy), (1, .int zip), (2, .int zia)] := hl
  refine w_q (fun Q hQ => ?_)
  have h_zI : WM [] AL zT zR zI zI := WM.rf hw
  refine lv_bipush (v := (-4)) hx hb dX11_endOf_0 (by decide) ?_
  refine lv_istore_n (lv' := [(3, .int (-4)), (0, .ref zy), (1, .int zip), (2, .int zia)]) hx hb dX11_endOf_2 rfl hl (by decide) rfl (fun ls hl => ?_)
  refine lv_iconst (v := 0) hx hb dX11_endOf_3 (by decide) ?_
  refine lv_istore (lv' := [(4, .int 0), (3, .int (-4)), (0, .ref zy), (1, .int zip), (2, .int zia)]) hx hb dX11_endOf_4 hl (by decide) rfl (fun ls hl => ?_)
  have lp_100 : ∀ (n : Nat) (zi_79 : Int32) (zi_80 : Int32) (H : Heap) (locs : List Loc) (ls : Array Slot), (24 - zi_80.toInt).toNat = n → ((-4) ≤ zi_79.toInt ∧ zi_79.toInt ≤ 23) → (0 ≤ zi_80.toInt ∧ zi_80.toInt ≤ 24) → va_P (dC, dI) vwCl (WL cy zL zT zR zI zJ) H → va_D A (WL cy zL zT zR zI zJ) → va_S A s.heap H locs → lv_has ls 6 [(0, .ref zy), (1, .int zip), (2, .int zia), (3, .int zi_79), (4, .int zi_80)] → W p l e ({ frames := 2, cells := 0, slots := 0, locals := 47 } : Room) s m ([.ref zy, .int zip, .int zia] : List Value).toArray below meth c H locs 0 0 Q (F0 m 6 ls []) := by
    intro n
    induction n using Nat.strongRecOn with
    | _ n ih_100 =>
      intro zi_79 zi_80 H locs ls hn b_zi_79 b_zi_80 hP hD hS hl
      refine lv_iload hx hb dX11_endOf_6 (lv_at hl 4 rfl) ?_
      refine lv_bipush (v := 24) hx hb dX11_endOf_8 (by decide) ?_
      refine lv_icmp_ge (tgt := 54) hx hb dX11_endOf_10 (by decide) (fun c_101 => ?_) (fun c_101 => ?_)
      · have f_102 : zi_80.toInt ≥ (24 : Int) := ic_ge (rfl) (show (24 : Int32).toInt = 24 by decide) c_101
        refine lv_iload_n hx hb dX11_endOf_54 rfl (lv_at hl 3 rfl) ?_
        subst hQ
        exact W.iret (v := zi_79) hx hb hr (fun t ht hW => ⟨⟨zi_79, (), rfl, (show (-4) ≤ zi_79.toInt ∧ zi_79.toInt ≤ 23 from by omega), ⟨by rw [ht]; exact hP, va_K.moved hW.alike hK, hD⟩⟩, hS.F ht⟩) hS.2.2 dX11_endOf_55
      · have f_102 : ¬ (zi_80.toInt ≥ (24 : Int)) := ic_nge (rfl) (show (24 : Int32).toInt = 24 by decide) c_101
        refine lv_iload_n hx hb dX11_endOf_13 rfl (lv_at hl 2 rfl) ?_
        have jn_107 : ∀ (zi_106 : Int32) (H : Heap) (locs : List Loc) (ls : Array Slot), (0 ≤ zi_106.toInt ∧ zi_106.toInt ≤ 23) → va_P (dC, dI) vwCl (WL cy zL zT zR zI zJ) H → va_D A (WL cy zL zT zR zI zJ) → va_S A s.heap H locs → lv_has ls 6 [(0, .ref zy), (1, .int zip), (2, .int zia), (3, .int zi_79), (4, .int zi_80)] → W p l e ({ frames := 2, cells := 0, slots := 0, locals := 47 } : Room) s m ([.ref zy, .int zip, .int zia] : List Value).toArray below meth c H locs 0 0 Q (F0 m 27 ls [.int zi_106]) := by
          intro zi_106 H locs ls b_zi_106 hP hD hS hl
          refine lv_istore (lv' := [(5, .int zi_106), (0, .ref zy), (1, .int zip), (2, .int zia), (3, .int zi_79), (4, .int zi_80)]) hx hb dX11_endOf_27 hl (by decide) rfl (fun ls hl => ?_)
          refine lv_aload_n hx hb dX11_endOf_29 rfl (lv_at hl 1 rfl) ?_
          refine lv_iload_n hx hb dX11_endOf_30 rfl (lv_at hl 2 rfl) ?_
          refine lv_iload hx hb dX11_endOf_31 (lv_at hl 0 rfl) ?_
          refine hj_l (ws := (WL cy zL zT zR zI zJ)) (w1 := fun (u : Unit) => (WL cy zL zT zR zI zJ)) (va_runV (As := [.int zip, .int zi_106]) (rest := []) ⟨hx, hb, hml, hown, hts⟩ (t_X11_waysAt l dC dI cy H.size zL zT zR zI zJ zy zip zi_106 hs h_zI.1 t_zy (by omega) (by omega)) (cwV 2 hts gX11_endOf_X11_waysAt rfl rfl rfl (by decide +kernel) ⟨(Nat.le_of_ble_eq_true rfl), (Nat.le_of_ble_eq_true rfl)⟩) (PRE.v hP hK hD hN (ht_recv hK hP hs t_zy (by decide) rfl rfl)) rfl rfl hl.1 rfl (lv_room (Nat.le_of_ble_eq_true rfl)) dX11_endOf_33 ⟨(Nat.le_of_ble_eq_true rfl), (Nat.le_of_ble_eq_true rfl)⟩) hP hD hS hA (fun zj_108 u_110 H locs hw_109 hP hD hS => ?_)
          refine lv_lconst (v := 0) hx hb dX11_endOf_36 (by decide) ?_
          refine W.lcmp hx hb dX11_endOf_37 ?_
          refine lv_topi (fun zi_111 ezi_111 => ?_)
          have jn_115 : ∀ (zi_114 : Int32) (H : Heap) (locs : List Loc) (ls : Array Slot), ((-4) ≤ zi_114.toInt ∧ zi_114.toInt ≤ 23) → va_P (dC, dI) vwCl (WL cy zL zT zR zI zJ) H → va_D A (WL cy zL zT zR zI zJ) → va_S A s.heap H locs → lv_has ls 6 [(0, .ref zy), (1, .int zip), (2, .int zia), (3, .int zi_79), (4, .int zi_80), (5, .int zi_106)] → W p l e ({ frames := 2, cells := 0, slots := 0, locals := 47 } : Room) s m ([.ref zy, .int zip, .int zia] : List Value).toArray below meth c H locs 0 0 Q (F0 m 47 ls [.int zi_114]) := by
            intro zi_114 H locs ls b_zi_114 hP hD hS hl
            refine lv_istore_n (lv' := [(3, .int zi_114), (0, .ref zy), (1, .int zip), (2, .int zia), (4, .int zi_80), (5, .int zi_106)]) hx hb dX11_endOf_47 rfl hl (by decide) rfl (fun ls hl => ?_)
            obtain ⟨zi_116, ezi_116⟩ : ∃ y : Int32, y = zi_80 + 1 := ⟨_, rfl⟩
            have tzi_116 : zi_116.toInt = zi_80.toInt + 1 := by rw [ezi_116]; exact tadd rfl (show (1 : Int32).toInt = 1 by decide) (by omega) (by omega)
            refine lv_iinc (v := zi_116) (lv' := [(4, .int zi_116), (3, .int zi_114), (0, .ref zy), (1, .int zip), (2, .int zia), (5, .int zi_106)]) hx hb dX11_endOf_48 hl (k := 4) rfl (by rw [ezi_116]; rfl) (by decide) rfl (fun ls hl => ?_)
            refine lv_goto (tgt := 6) hx hb dX11_endOf_51 (by decide) ?_
            exact ih_100 (24 - zi_116.toInt).toNat (by omega) zi_114 zi_116 _ _ _ rfl (by omega) (by omega) hP hD hS (lv_sub hl [2, 3, 4, 1, 0] rfl)
          refine lv_if_le (tgt := 46) hx hb dX11_endOf_38 (by decide) (fun c_117 => ?_) (fun c_117 => ?_)
          · have f_118 : ¬ (zj_108.toInt > (0 : Int)) := lk_le ezi_111 (rfl) (show (0 : Int64).toInt = 0 by decide) c_117
            refine lv_iload_n hx hb dX11_endOf_46 rfl (lv_at hl 4 rfl) ?_
            exact jn_115 zi_79 _ _ _ (by omega) hP hD hS (lv_sub hl [1, 2, 3, 4, 5, 0] rfl)
          · have f_118 : zj_108.toInt > (0 : Int) := lk_nle ezi_111 (rfl) (show (0 : Int64).toInt = 0 by decide) c_117
            refine lv_iload hx hb dX11_endOf_41 (lv_at hl 0 rfl) ?_
            refine lv_goto (tgt := 47) hx hb dX11_endOf_43 (by decide) ?_
            exact jn_115 zi_106 _ _ _ (by omega) hP hD hS (lv_sub hl [1, 2, 3, 4, 5, 0] rfl)
        refine lv_if_ne (tgt := 25) hx hb dX11_endOf_14 (by decide) (fun c_119 => ?_) (fun c_119 => ?_)
        · have f_120 : zia.toInt ≠ 0 := ic_ne (rfl) (by decide) c_119
          refine lv_iload hx hb dX11_endOf_25 (lv_at hl 4 rfl) ?_
          exact jn_107 zi_80 _ _ _ (by omega) hP hD hS (lv_sub hl [0, 1, 2, 3, 4] rfl)
        · have f_120 : ¬ (zia.toInt ≠ 0) := ic_nne (rfl) (by decide) c_119
          refine lv_bipush (v := 23) hx hb dX11_endOf_17 (by decide) ?_
          refine lv_iload hx hb dX11_endOf_19 (lv_at hl 4 rfl) ?_
          refine lv_isub hx hb dX11_endOf_21 ?_
          refine lv_topi (fun zi_121 ezi_121 => ?_)
          have tzi_121 : zi_121.toInt = (23 : Int) - zi_80.toInt := by rw [ezi_121]; exact tisub (show (23 : Int32).toInt = 23 by decide) (rfl) (by omega) (by omega)
          refine lv_goto (tgt := 27) hx hb dX11_endOf_22 (by decide) ?_
          exact jn_107 zi_121 _ _ _ (by omega) hP hD hS (lv_sub hl [0, 1, 2, 3, 4] rfl)
  exact lp_100 _ (-4 : Int32) (0 : Int32) _ _ _ rfl (by decide) (by decide) hP hD hS (lv_sub hl [2, 3, 4, 1, 0] rfl)
set_option maxHeartbeats 8000000 in
set_option maxRecDepth 100000 in
theorem t_X11_lacksRow (l : Launch) (dC : Nat → ClassId) (dI : Nat → Nat → Nat) (cy : Nat → ClassId) (sz : Nat) (zL : List Nat) (zT : Nat → Nat) (zR : Nat → Nat → Nat) (zI : Nat → Nat → Int32) (zJ : Nat → Nat → Int64) (zy : Nat) (zis : Int32) (zil : Int32) (zif : Int32) (zin : Int32) (hs : SKP zL zT zR) (hw : WT zT zR zI) (t_zy : zT zy = 18) (b_zis : 0 ≤ zis.toInt ∧ zis.toInt ≤ 3) (b_zil : 0 ≤ zil.toInt ∧ zil.toInt ≤ 2) (b_zin : 1 ≤ zin.toInt ∧ zin.toInt ≤ 24) : Met l yX11_lacksRow wsX11_lacksRow ({ frames := 1, cells := 0, slots := 0, locals := 25 } : Room) (va_Pc [.ref zy, .int zis, .int zil, .int zif, .int zin] (PRE dC dI cy (WL cy zL zT zR zI zJ) sz)) (va_Qi (fun (r : Int32) (u : Unit) => ((-13) ≤ r.toInt ∧ r.toInt ≤ 0) ∧ (¬ (r.toInt = 0) ∨ (0 ≤ zif.toInt ∧ zif.toInt ≤ 24)) ∧ (¬ (r.toInt = 0) ∨ zif.toInt + zin.toInt ≤ 24) ∧ (r.toInt = LKS (zI (zR zy 25) zis.toNatClampNeg).toInt (zI (zR zy 26) zis.toNatClampNeg).toInt zil.toInt zif.toInt zin.toInt)) (fun u t => POST dC dI cy (va_A (WL cy zL zT zR zI zJ) sz) (WL cy zL zT zR zI zJ) t) (va_A (WL cy zL zT zR zI zJ) sz)) 0 0 (va_A (WL cy zL zT zR zI zJ) sz) := by
  refine Met.ofW (cc := cX11_lacksRow) (maxL := 5) (ret := (some .int)) (by decide) rfl ?_
  intro p e s m args below meth c s₁ B hml hv
  obtain ⟨rfl, hsz, hP, hK, hD0, hN⟩ := hv
  have hx := B.exec
  have hb := B.bytes
  have hr := B.returns
  have hts := atoms_spec (ws := wsX11_lacksRow) B.pre
  have hown : s.vm.findClass RX11 = some m.cls := findClass_of_methodNamed B.named
  have hlocks := B.notSynchronized
  subst hsz
  have hD := hD0.self (sz := s.heap.size)
  generalize hAe : va_A (WL cy zL zT zR zI zJ) s.heap.size = A at hD ⊢
  have hA : ∀ q : Nat, s.heap.size ≤ q → A q := fun q h => by rw [← hAe]; exact Or.inr h
  have hS : va_S A s.heap s.heap [] := va_S.rf
  have hP : va_P (dC, dI) vwCl (WL cy zL zT zR zI zJ) s.heap := hP
  have hl := lv_entry ([.ref zy, .int zis, .int zil, .int zif, .int zin] : List Value) (n := 5) (Nat.le_of_ble_eq_true rfl)
  rw [lg_entry_eq]
  generalize (lg_sl ([.ref zy, .int zis, .int zil, .int zif, .int zin] : List Value) ++ List.replicate (5 - (lg_sl ([.ref zy, .int zis, .int zil, .int zif, .int zin] : List Value)).length) Slot.unset).toArray = ls at hl ⊢
  have hl : lv_has ls 5 [(0, .ref zy), (1, .int zis), (2, .int zil), (3, .int zif), (4, .int zin)] := hl
  refine w_q (fun Q hQ => ?_)
  have h_zI : WM [] AL zT zR zI zI := WM.rf hw
  refine lv_aload_n hx hb dX11_lacksRow_0 rfl (lv_at hl 0 rfl) ?_
  refine ht_getr (C := RX11) (T := TX11) (N := 28) hx hb hts (by decide +kernel) hown hK hP hs t_zy (by decide) rfl rfl 25 (by decide) (hts (.fieldLink RX11 59 "DripStoneModel" "lanes" "[I") (by decide +kernel)) (fun _ h9 => h9) rfl dX11_lacksRow_1 ?_
  have t_1 : zT (zR zy 25) = 110 := sk_f hs t_zy (by decide) rfl (by decide)
  refine lv_iload_n hx hb dX11_lacksRow_4 rfl (lv_at hl 1 rfl) ?_
  refine ht_iald (n := 4) (q := 0) hx hb hK hP hs t_1 (by decide) rfl rfl ⟨by omega, by omega⟩ dX11_lacksRow_5 ?_
  refine lv_topi (fun zi_2 ezi_2 => ?_)
  have tzi_2 : (-1) ≤ zi_2.toInt ∧ zi_2.toInt ≤ 2 := by rw [ezi_2]; exact h_zI.at t_1 _ rfl
  have lzi_2 : (zI (zR zy 25) zis.toNatClampNeg).toInt = zi_2.toInt := by rw [ezi_2]
  refine lv_iload_n hx hb dX11_lacksRow_6 rfl (lv_at hl 2 rfl) ?_
  refine lv_icmp_eq (tgt := 27) hx hb dX11_lacksRow_7 (by decide) (fun c_3 => ?_) (fun c_3 => ?_)
  · have f_4 : zi_2.toInt = zil.toInt := ic_eq (rfl) (rfl) c_3
    refine lv_iload_n hx hb dX11_lacksRow_27 rfl (lv_at hl 3 rfl) ?_
    refine lv_i2l (v := zif.toInt64) hx hb dX11_lacksRow_28 rfl ?_
    refine lv_topl (fun zj_5 ezj_5 => ?_)
    have tzj_5 : zj_5.toInt = zif.toInt := by rw [ezj_5]; exact Int32.toInt_toInt64 _
    refine lv_lconst (v := 0) hx hb dX11_lacksRow_29 (by decide) ?_
    refine lv_aload_n hx hb dX11_lacksRow_30 rfl (lv_at hl 0 rfl) ?_
    refine ht_getr (C := RX11) (T := TX11) (N := 28) hx hb hts (by decide +kernel) hown hK hP hs t_zy (by decide) rfl rfl 26 (by decide) (hts (.fieldLink RX11 62 "DripStoneModel" "rowSizes" "[I") (by decide +kernel)) (fun _ h9 => h9) rfl dX11_lacksRow_31 ?_
    have t_6 : zT (zR zy 26) = 111 := sk_f hs t_zy (by decide) rfl (by decide)
    refine lv_iload_n hx hb dX11_lacksRow_34 rfl (lv_at hl 1 rfl) ?_
    refine ht_iald (n := 4) (q := 0) hx hb hK hP hs t_6 (by decide) rfl rfl ⟨by omega, by omega⟩ dX11_lacksRow_35 ?_
    refine lv_topi (fun zi_7 ezi_7 => ?_)
    have tzi_7 : 0 ≤ zi_7.toInt ∧ zi_7.toInt ≤ 24 := by rw [ezi_7]; exact h_zI.at t_6 _ rfl
    have lzi_7 : (zI (zR zy 26) zis.toNatClampNeg).toInt = zi_7.toInt := by rw [ezi_7]
    refine lv_iload hx hb dX11_lacksRow_36 (lv_at hl 4 rfl) ?_
    refine lv_isub hx hb dX11_lacksRow_38 ?_
    refine lv_topi (fun zi_8 ezi_8 => ?_)
    have tzi_8 : zi_8.toInt = zi_7.toInt - zin.toInt := by rw [ezi_8]; exact tisub (rfl) (rfl) (by omega) (by omega)
    refine lv_i2l (v := zi_8.toInt64) hx hb dX11_lacksRow_39 rfl ?_
    refine lv_topl (fun zj_9 ezj_9 => ?_)
    have tzj_9 : zj_9.toInt = zi_8.toInt := by rw [ezj_9]; exact Int32.toInt_toInt64 _
    refine hj0_i (ws := (WL cy zL zT zR zI zJ)) (va_runS (As := [.long zj_5, .long 0, .long zj_9]) (rest := []) ⟨hx, hb, hml, hown, hts⟩ (c_X11_in l dC dI cy s.heap.size zj_5 0 zj_9 0 zj_9.toInt zj_5.toInt (by first | rfl | decide | omega | exact Int32.toInt_toInt64 _) (by first | rfl | decide | omega | exact Int32.toInt_toInt64 _) (by first | rfl | decide | omega | exact Int32.toInt_toInt64 _)) (va_cwS 3 hts gX11_lacksRow_X11_in rfl rfl rfl (by decide +kernel) ⟨(Nat.le_of_ble_eq_true rfl), (Nat.le_of_ble_eq_true rfl)⟩) (PRE.s (hP.sub [] rfl) hK (hD.sub [] (by decide) rfl) hN) rfl rfl hl.1 rfl (lv_room (Nat.le_of_ble_eq_true rfl)) dX11_lacksRow_40 ⟨(Nat.le_of_ble_eq_true rfl), (Nat.le_of_ble_eq_true rfl)⟩) hP hD hS hA (fun zi_10 u_12 H locs hw_11 hP hD hS => ?_)
    have hw_11 : zi_10 = if 0 ≤ zj_5.toInt ∧ zj_5.toInt ≤ zj_9.toInt then 1 else 0 := hw_11
    have b_zi_10 : 0 ≤ zi_10.toInt ∧ zi_10.toInt ≤ 1 := bz_b hw_11
    refine lv_if_eq (tgt := 50) hx hb dX11_lacksRow_43 (by decide) (fun c_13 => ?_) (fun c_13 => ?_)
    · have f_14 : ¬ (0 ≤ zj_5.toInt ∧ zj_5.toInt ≤ zj_9.toInt) := bz_0 hw_11 c_13
      refine lv_bipush (v := (-13)) hx hb dX11_lacksRow_50 (by decide) ?_
      subst hQ
      have qc_m13 : (-13 : Int32).toInt = -13 := by decide
      exact W.iret (v := (-13 : Int32)) hx hb hr (fun t ht hW => ⟨⟨(-13 : Int32), (), rfl, ⟨(show (-13) ≤ (-13 : Int32).toInt ∧ (-13 : Int32).toInt ≤ 0 from by omega), (show ¬ ((-13 : Int32).toInt = 0) ∨ (0 ≤ zif.toInt ∧ zif.toInt ≤ 24) from by omega), (show ¬ ((-13 : Int32).toInt = 0) ∨ zif.toInt + zin.toInt ≤ 24 from by omega), (show (-13 : Int32).toInt = LKS (zI (zR zy 25) zis.toNatClampNeg).toInt (zI (zR zy 26) zis.toNatClampNeg).toInt zil.toInt zif.toInt zin.toInt from (by have qv9 := (show ((-13) : Int32).toInt = -13 from by decide); unfold LKS; split <;> first | omega | (split <;> first | omega | (split <;> omega))))⟩, ⟨by rw [ht]; exact hP, va_K.moved hW.alike hK, hD⟩⟩, hS.F ht⟩) hS.2.2 dX11_lacksRow_52
    · have f_14 : 0 ≤ zj_5.toInt ∧ zj_5.toInt ≤ zj_9.toInt := bz_1 hw_11 c_13
      refine lv_iconst (v := 0) hx hb dX11_lacksRow_46 (by decide) ?_
      refine lv_goto (tgt := 52) hx hb dX11_lacksRow_47 (by decide) ?_
      subst hQ
      have qc_0 : (0 : Int32).toInt = 0 := by decide
      exact W.iret (v := (0 : Int32)) hx hb hr (fun t ht hW => ⟨⟨(0 : Int32), (), rfl, ⟨(show (-13) ≤ (0 : Int32).toInt ∧ (0 : Int32).toInt ≤ 0 from by omega), (show ¬ ((0 : Int32).toInt = 0) ∨ (0 ≤ zif.toInt ∧ zif.toInt ≤ 24) from by omega), (show ¬ ((0 : Int32).toInt = 0) ∨ zif.toInt + zin.toInt ≤ 24 from by omega), (show (0 : Int32).toInt = LKS (zI (zR zy 25) zis.toNatClampNeg).toInt (zI (zR zy 26) zis.toNatClampNeg).toInt zil.toInt zif.toInt zin.toInt from (by have qv9 := (show (0 : Int32).toInt = 0 from by decide); unfold LKS; split <;> first | omega | (split <;> first | omega | (split <;> omega))))⟩, ⟨by rw [ht]; exact hP, va_K.moved hW.alike hK, hD⟩⟩, hS.F ht⟩) hS.2.2 dX11_lacksRow_52
  · have f_4 : ¬ (zi_2.toInt = zil.toInt) := ic_neq (rfl) (rfl) c_3
    refine lv_aload_n hx hb dX11_lacksRow_10 rfl (lv_at hl 0 rfl) ?_
    refine ht_getr (C := RX11) (T := TX11) (N := 28) hx hb hts (by decide +kernel) hown hK hP hs t_zy (by decide) rfl rfl 25 (by decide) (hts (.fieldLink RX11 59 "DripStoneModel" "lanes" "[I") (by decide +kernel)) (fun _ h9 => h9) rfl dX11_lacksRow_11 ?_
    refine lv_iload_n hx hb dX11_lacksRow_14 rfl (lv_at hl 1 rfl) ?_
    refine ht_iald (n := 4) (q := 0) hx hb hK hP hs t_1 (by decide) rfl rfl ⟨by omega, by omega⟩ dX11_lacksRow_15 ?_
    refine lv_topi (fun zi_15 ezi_15 => ?_)
    obtain rfl : zi_2 = zi_15 := (ezi_15.trans ezi_2.symm).symm
    refine lv_if_ge (tgt := 24) hx hb dX11_lacksRow_16 (by decide) (fun c_16 => ?_) (fun c_16 => ?_)
    · have f_17 : zi_2.toInt ≥ 0 := ic_ge (rfl) (by decide) c_16
      refine lv_bipush (v := (-12)) hx hb dX11_lacksRow_24 (by decide) ?_
      subst hQ
      have qc_m12 : (-12 : Int32).toInt = -12 := by decide
      exact W.iret (v := (-12 : Int32)) hx hb hr (fun t ht hW => ⟨⟨(-12 : Int32), (), rfl, ⟨(show (-13) ≤ (-12 : Int32).toInt ∧ (-12 : Int32).toInt ≤ 0 from by omega), (show ¬ ((-12 : Int32).toInt = 0) ∨ (0 ≤ zif.toInt ∧ zif.toInt ≤ 24) from by omega), (show ¬ ((-12 : Int32).toInt = 0) ∨ zif.toInt + zin.toInt ≤ 24 from by omega), (show (-12 : Int32).toInt = LKS (zI (zR zy 25) zis.toNatClampNeg).toInt (zI (zR zy 26) zis.toNatClampNeg).toInt zil.toInt zif.toInt zin.toInt from (by have qv9 := (show ((-12) : Int32).toInt = -12 from by decide); unfold LKS; split <;> first | omega | (split <;> first | omega | (split <;> omega))))⟩, ⟨by rw [ht]; exact hP, va_K.moved hW.alike hK, hD⟩⟩, hS.F ht⟩) hS.2.2 dX11_lacksRow_26
    · have f_17 : ¬ (zi_2.toInt ≥ 0) := ic_nge (rfl) (by decide) c_16
      refine lv_bipush (v := (-11)) hx hb dX11_lacksRow_19 (by decide) ?_
      refine lv_goto (tgt := 26) hx hb dX11_lacksRow_21 (by decide) ?_
      subst hQ
      have qc_m11 : (-11 : Int32).toInt = -11 := by decide
      exact W.iret (v := (-11 : Int32)) hx hb hr (fun t ht hW => ⟨⟨(-11 : Int32), (), rfl, ⟨(show (-13) ≤ (-11 : Int32).toInt ∧ (-11 : Int32).toInt ≤ 0 from by omega), (show ¬ ((-11 : Int32).toInt = 0) ∨ (0 ≤ zif.toInt ∧ zif.toInt ≤ 24) from by omega), (show ¬ ((-11 : Int32).toInt = 0) ∨ zif.toInt + zin.toInt ≤ 24 from by omega), (show (-11 : Int32).toInt = LKS (zI (zR zy 25) zis.toNatClampNeg).toInt (zI (zR zy 26) zis.toNatClampNeg).toInt zil.toInt zif.toInt zin.toInt from (by have qv9 := (show ((-11) : Int32).toInt = -11 from by decide); unfold LKS; split <;> first | omega | (split <;> first | omega | (split <;> omega))))⟩, ⟨by rw [ht]; exact hP, va_K.moved hW.alike hK, hD⟩⟩, hS.F ht⟩) hS.2.2 dX11_lacksRow_26
set_option maxHeartbeats 8000000 in
set_option maxRecDepth 100000 in
theorem t_X11_sheet (l : Launch) (dC : Nat → ClassId) (dI : Nat → Nat → Nat) (cy : Nat → ClassId) (sz : Nat) (zL : List Nat) (zT : Nat → Nat) (zR : Nat → Nat → Nat) (zI : Nat → Nat → Int32) (zJ : Nat → Nat → Int64) (zy : Nat) (zia : Int32) (zib : Int32) (zic : Int32) (hs : SKP zL zT zR) (hw : WT zT zR zI) (t_zy : zT zy = 18) : Met l yX11_sheet wsX11_sheet ({ frames := 2, cells := 0, slots := 0, locals := 46 } : Room) (va_Pc [.ref zy, .int zia, .int zib, .int zic] (PRE dC dI cy (WL cy zL zT zR zI zJ) sz)) (va_Qi (fun (r : Int32) (u : (Nat → Nat → Int32)) => (WM [11000, 11100, 11200] AL zT zR zI u) ∧ ((-14) ≤ r.toInt ∧ r.toInt ≤ 24) ∧ (r.toInt = SHv zia.toInt zib.toInt zic.toInt) ∧ (r.toInt < 0 ∨ ((u (zR zy 25) zia.toNatClampNeg).toInt = zib.toInt ∧ (u (zR zy 26) zia.toNatClampNeg).toInt = zic.toInt)) ∧ (∀ j : Nat, ¬ j = zia.toNatClampNeg → u (zR zy 25) j = zI (zR zy 25) j ∧ u (zR zy 26) j = zI (zR zy 26) j) ∧ (0 ≤ r.toInt ∨ u = zI) ∧ (r.toInt < 0 ∨ FZI (zI (zR zy 27)) (u (zR zy 27)) (24 * zia.toInt) 24)) (fun u t => POST dC dI cy (va_A (WL cy zL zT zR zI zJ) sz) (WL cy zL zT zR u zJ) t) (va_A (WL cy zL zT zR zI zJ) sz)) 0 0 (va_A (WL cy zL zT zR zI zJ) sz) := by
  refine Met.ofW (cc := cX11_sheet) (maxL := 5) (ret := (some .int)) (by decide) rfl ?_
  intro p e s m args below meth c s₁ B hml hv
  obtain ⟨rfl, hsz, hP, hK, hD0, hN⟩ := hv
  have hx := B.exec
  have hb := B.bytes
  have hr := B.returns
  have hts := atoms_spec (ws := wsX11_sheet) B.pre
  have hown : s.vm.findClass RX11 = some m.cls := findClass_of_methodNamed B.named
  have hlocks := B.notSynchronized
  subst hsz
  have hD := hD0.self (sz := s.heap.size)
  generalize hAe : va_A (WL cy zL zT zR zI zJ) s.heap.size = A at hD ⊢
  have hA : ∀ q : Nat, s.heap.size ≤ q → A q := fun q h => by rw [← hAe]; exact Or.inr h
  have hS : va_S A s.heap s.heap [] := va_S.rf
  have hP : va_P (dC, dI) vwCl (WL cy zL zT zR zI zJ) s.heap := hP
  have hl := lv_entry ([.ref zy, .int zia, .int zib, .int zic] : List Value) (n := 5) (Nat.le_of_ble_eq_true rfl)
  rw [lg_entry_eq]
  generalize (lg_sl ([.ref zy, .int zia, .int zib, .int zic] : List Value) ++ List.replicate (5 - (lg_sl ([.ref zy, .int zia, .int zib, .int zic] : List Value)).length) Slot.unset).toArray = ls at hl ⊢
  have hl : lv_has ls 5 [(0, .ref zy), (1, .int zia), (2, .int zib), (3, .int zic)] := hl
  refine w_q (fun Q hQ => ?_)
  have h_zI : WM [11000, 11100, 11200] AL zT zR zI zI := WM.rf hw
  refine lv_iload_n hx hb dX11_sheet_0 rfl (lv_at hl 1 rfl) ?_
  refine lv_iload_n hx hb dX11_sheet_1 rfl (lv_at hl 2 rfl) ?_
  refine hj0_i (ws := (WL cy zL zT zR zI zJ)) (va_runS (As := [.int zia, .int zib]) (rest := []) ⟨hx, hb, hml, hown, hts⟩ (c_X11_isSheet l dC dI cy s.heap.size zia zib) (va_cwS 2 hts gX11_sheet_X11_isSheet rfl rfl rfl (by decide +kernel) ⟨(Nat.le_of_ble_eq_true rfl), (Nat.le_of_ble_eq_true rfl)⟩) (PRE.s (hP.sub [] rfl) hK (hD.sub [] (by decide) rfl) hN) rfl rfl hl.1 rfl (lv_room (Nat.le_of_ble_eq_true rfl)) dX11_sheet_2 ⟨(Nat.le_of_ble_eq_true rfl), (Nat.le_of_ble_eq_true rfl)⟩) hP hD hS hA (fun zi_1 u_3 H locs hw_2 hP hD hS => ?_)
  have hw_2 : zi_1 = if (0 ≤ zia.toInt ∧ zia.toInt ≤ 3) ∧ 0 ≤ zib.toInt ∧ zib.toInt ≤ 2 then 1 else 0 := hw_2
  have b_zi_1 : 0 ≤ zi_1.toInt ∧ zi_1.toInt ≤ 1 := bz_b hw_2
  refine lv_if_eq (tgt := 14) hx hb dX11_sheet_5 (by decide) (fun c_4 => ?_) (fun c_4 => ?_)
  · have f_5 : ¬ ((0 ≤ zia.toInt ∧ zia.toInt ≤ 3) ∧ 0 ≤ zib.toInt ∧ zib.toInt ≤ 2) := bz_0 hw_2 c_4
    refine lv_iconst (v := (-1)) hx hb dX11_sheet_14 (by decide) ?_
    subst hQ
    have qc_m1 : (-1 : Int32).toInt = -1 := by decide
    exact W.iret (v := (-1 : Int32)) hx hb hr (fun t ht hW => ⟨⟨(-1 : Int32), zI, rfl, ⟨h_zI, (show (-14) ≤ (-1 : Int32).toInt ∧ (-1 : Int32).toInt ≤ 24 from by omega), (show (-1 : Int32).toInt = SHv zia.toInt zib.toInt zic.toInt from (by have qv9 := (show ((-1) : Int32).toInt = -1 from by decide); unfold SHv; split <;> first | omega | (split <;> first | omega | (split <;> omega)))), (show (-1 : Int32).toInt < 0 ∨ ((zI (zR zy 25) zia.toNatClampNeg).toInt = zib.toInt ∧ (zI (zR zy 26) zia.toNatClampNeg).toInt = zic.toInt) from (Or.inl (by decide))), (show ∀ j : Nat, ¬ j = zia.toNatClampNeg → zI (zR zy 25) j = zI (zR zy 25) j ∧ zI (zR zy 26) j = zI (zR zy 26) j from (fun _ _ => ⟨rfl, rfl⟩)), (show 0 ≤ (-1 : Int32).toInt ∨ zI = zI from (Or.inr rfl)), (show (-1 : Int32).toInt < 0 ∨ FZI (zI (zR zy 27)) (zI (zR zy 27)) (24 * zia.toInt) 24 from (Or.inl (by decide)))⟩, ⟨by rw [ht]; exact hP, va_K.moved hW.alike hK, hD⟩⟩, hS.F ht⟩) hS.2.2 dX11_sheet_15
  · have f_5 : (0 ≤ zia.toInt ∧ zia.toInt ≤ 3) ∧ 0 ≤ zib.toInt ∧ zib.toInt ≤ 2 := bz_1 hw_2 c_4
    refine lv_iload_n hx hb dX11_sheet_8 rfl (lv_at hl 3 rfl) ?_
    refine lv_bipush (v := 24) hx hb dX11_sheet_9 (by decide) ?_
    refine lv_icmp_le (tgt := 16) hx hb dX11_sheet_11 (by decide) (fun c_6 => ?_) (fun c_6 => ?_)
    · have f_7 : zic.toInt ≤ (24 : Int) := ic_le (rfl) (show (24 : Int32).toInt = 24 by decide) c_6
      refine lv_iload_n hx hb dX11_sheet_16 rfl (lv_at hl 3 rfl) ?_
      refine lv_if_ge (tgt := 23) hx hb dX11_sheet_17 (by decide) (fun c_8 => ?_) (fun c_8 => ?_)
      · have f_9 : zic.toInt ≥ 0 := ic_ge (rfl) (by decide) c_8
        refine lv_aload_n hx hb dX11_sheet_23 rfl (lv_at hl 0 rfl) ?_
        refine ht_getr (C := RX11) (T := TX11) (N := 28) hx hb hts (by decide +kernel) hown hK hP hs t_zy (by decide) rfl rfl 25 (by decide) (hts (.fieldLink RX11 59 "DripStoneModel" "lanes" "[I") (by decide +kernel)) (fun _ h9 => h9) rfl dX11_sheet_24 ?_
        have t_10 : zT (zR zy 25) = 110 := sk_f hs t_zy (by decide) rfl (by decide)
        refine lv_iload_n hx hb dX11_sheet_27 rfl (lv_at hl 1 rfl) ?_
        refine lv_iload_n hx hb dX11_sheet_28 rfl (lv_at hl 2 rfl) ?_
        refine ht_iast (v := zib) (n := 4) (q := 0) hx hb hK hP hD hS hs t_10 (by decide) rfl rfl ⟨by omega, by omega⟩ dX11_sheet_29 (fun H locs hP hD hS => ?_)
        have h_zI_11 : WM [11000, 11100, 11200] AL zT zR zI (u2 zI (zR zy 25) zia.toNatClampNeg zib) := h_zI.putA hs t_10 rfl (by omega) (by decide) (fun h => absurd h (by decide)) (by decide) trivial
        generalize uzI_11 : u2 zI (zR zy 25) zia.toNatClampNeg zib = zI_11 at hP hD h_zI_11
        refine lv_aload_n hx hb dX11_sheet_30 rfl (lv_at hl 0 rfl) ?_
        refine ht_getr (C := RX11) (T := TX11) (N := 28) hx hb hts (by decide +kernel) hown hK hP hs t_zy (by decide) rfl rfl 26 (by decide) (hts (.fieldLink RX11 62 "DripStoneModel" "rowSizes" "[I") (by decide +kernel)) (fun _ h9 => h9) rfl dX11_sheet_31 ?_
        have t_12 : zT (zR zy 26) = 111 := sk_f hs t_zy (by decide) rfl (by decide)
        refine lv_iload_n hx hb dX11_sheet_34 rfl (lv_at hl 1 rfl) ?_
        refine lv_iload_n hx hb dX11_sheet_35 rfl (lv_at hl 3 rfl) ?_
        refine ht_iast (v := zic) (n := 4) (q := 0) hx hb hK hP hD hS hs t_12 (by decide) rfl rfl ⟨by omega, by omega⟩ dX11_sheet_36 (fun H locs hP hD hS => ?_)
        have h_zI_13 : WM [11000, 11100, 11200] AL zT zR zI (u2 zI_11 (zR zy 26) zia.toNatClampNeg zic) := h_zI_11.putA hs t_12 rfl (by omega) (by decide) (fun h => absurd h (by decide)) (by decide) trivial
        generalize uzI_13 : u2 zI_11 (zR zy 26) zia.toNatClampNeg zic = zI_13 at hP hD h_zI_13
        have lnE : zI_13 (zR zy 25) = upd (zI (zR zy 25)) zia.toNatClampNeg zib := by rw [show zI_13 (zR zy 25) = zI_11 (zR zy 25) from by rw [← uzI_13]; exact u2_a (tne t_10 t_12 (by decide)), ← uzI_11, u2_r]
        have szE : zI_13 (zR zy 26) = upd (zI (zR zy 26)) zia.toNatClampNeg zic := by rw [← uzI_13, u2_r, show zI_11 (zR zy 26) = zI (zR zy 26) from by rw [← uzI_11]; exact u2_a (tne t_12 t_10 (by decide))]
        refine lv_iconst (v := 0) hx hb dX11_sheet_37 (by decide) ?_
        refine lv_istore (lv' := [(4, .int 0), (0, .ref zy), (1, .int zia), (2, .int zib), (3, .int zic)]) hx hb dX11_sheet_38 hl (by decide) rfl (fun ls hl => ?_)
        have lp_53 : ∀ (n : Nat) (zi_44 : Int32) (zI_45 : Nat → Nat → Int32) (H : Heap) (locs : List Loc) (ls : Array Slot), (24 - zi_44.toInt).toNat = n → (0 ≤ zi_44.toInt ∧ zi_44.toInt ≤ 24) → (WM [11000, 11100, 11200] AL zT zR zI zI_45) → (zI_45 (zR zy 25) = zI_13 (zR zy 25)) → (zI_45 (zR zy 26) = zI_13 (zR zy 26)) → (FZI (zI (zR zy 27)) (zI_45 (zR zy 27)) (24 * zia.toInt) zi_44.toInt) → va_P (dC, dI) vwCl (WL cy zL zT zR zI_45 zJ) H → va_D A (WL cy zL zT zR zI_45 zJ) → va_S A s.heap H locs → lv_has ls 5 [(0, .ref zy), (1, .int zia), (2, .int zib), (3, .int zic), (4, .int zi_44)] → W p l e ({ frames := 2, cells := 0, slots := 0, locals := 46 } : Room) s m ([.ref zy, .int zia, .int zib, .int zic] : List Value).toArray below meth c H locs 0 0 Q (F0 m 40 ls []) := by
          intro n
          induction n using Nat.strongRecOn with
          | _ n ih_53 =>
            intro zi_44 zI_45 H locs ls hn b_zi_44 h_zI_45 e_lp_53_0 e_lp_53_1 e_lp_53_2 hP hD hS hl
            refine lv_iload hx hb dX11_sheet_40 (lv_at hl 4 rfl) ?_
            refine lv_bipush (v := 24) hx hb dX11_sheet_42 (by decide) ?_
            refine lv_icmp_ge (tgt := 66) hx hb dX11_sheet_44 (by decide) (fun c_54 => ?_) (fun c_54 => ?_)
            · have f_55 : zi_44.toInt ≥ (24 : Int) := ic_ge (rfl) (show (24 : Int32).toInt = 24 by decide) c_54
              refine lv_iload_n hx hb dX11_sheet_66 rfl (lv_at hl 3 rfl) ?_
              subst hQ
              exact W.iret (v := zic) hx hb hr (fun t ht hW => ⟨⟨zic, zI_45, rfl, ⟨h_zI_45, (show (-14) ≤ zic.toInt ∧ zic.toInt ≤ 24 from by omega), (show zic.toInt = SHv zia.toInt zib.toInt zic.toInt from (by unfold SHv; split <;> first | omega | (split <;> first | omega | (split <;> omega)))), (show zic.toInt < 0 ∨ ((zI_45 (zR zy 25) zia.toNatClampNeg).toInt = zib.toInt ∧ (zI_45 (zR zy 26) zia.toNatClampNeg).toInt = zic.toInt) from (Or.inr ⟨by rw [(e_lp_53_0.trans lnE), cw_s rfl], by rw [(e_lp_53_1.trans szE), cw_s rfl]⟩)), (show ∀ j : Nat, ¬ j = zia.toNatClampNeg → zI_45 (zR zy 25) j = zI (zR zy 25) j ∧ zI_45 (zR zy 26) j = zI (zR zy 26) j from (fun j hj => ⟨by rw [(e_lp_53_0.trans lnE), cw_n hj], by rw [(e_lp_53_1.trans szE), cw_n hj]⟩)), (show 0 ≤ zic.toInt ∨ zI_45 = zI from (Or.inl (by omega))), (show zic.toInt < 0 ∨ FZI (zI (zR zy 27)) (zI_45 (zR zy 27)) (24 * zia.toInt) 24 from (Or.inr (FZI.e e_lp_53_2 (by omega))))⟩, ⟨by rw [ht]; exact hP, va_K.moved hW.alike hK, hD⟩⟩, hS.F ht⟩) hS.2.2 dX11_sheet_67
            · have f_55 : ¬ (zi_44.toInt ≥ (24 : Int)) := ic_nge (rfl) (show (24 : Int32).toInt = 24 by decide) c_54
              refine lv_aload_n hx hb dX11_sheet_47 rfl (lv_at hl 0 rfl) ?_
              refine ht_getr (C := RX11) (T := TX11) (N := 28) hx hb hts (by decide +kernel) hown hK hP hs t_zy (by decide) rfl rfl 27 (by decide) (hts (.fieldLink RX11 65 "DripStoneModel" "items" "[I") (by decide +kernel)) (fun _ h9 => h9) rfl dX11_sheet_48 ?_
              have t_56 : zT (zR zy 27) = 112 := sk_f hs t_zy (by decide) rfl (by decide)
              refine lv_bipush (v := 24) hx hb dX11_sheet_51 (by decide) ?_
              refine lv_iload_n hx hb dX11_sheet_53 rfl (lv_at hl 1 rfl) ?_
              refine lv_imul hx hb dX11_sheet_54 ?_
              refine lv_topi (fun zi_57 ezi_57 => ?_)
              have tzi_57 : zi_57.toInt = (24 : Int) * zia.toInt := by rw [ezi_57]; exact timul (show (24 : Int32).toInt = 24 by decide) (rfl) (by omega) (by omega)
              refine lv_iload hx hb dX11_sheet_55 (lv_at hl 4 rfl) ?_
              refine lv_iadd hx hb dX11_sheet_57 ?_
              refine lv_topi (fun zi_58 ezi_58 => ?_)
              have tzi_58 : zi_58.toInt = zi_57.toInt + zi_44.toInt := by rw [ezi_58]; exact tiadd (rfl) (rfl) (by omega) (by omega)
              refine lv_iconst (v := 0) hx hb dX11_sheet_58 (by decide) ?_
              refine ht_iast (v := (0 : Int32)) (n := 96) (q := 0) hx hb hK hP hD hS hs t_56 (by decide) rfl rfl ⟨by omega, by omega⟩ dX11_sheet_59 (fun H locs hP hD hS => ?_)
              have h_zI_59 : WM [11000, 11100, 11200] AL zT zR zI (u2 zI_45 (zR zy 27) zi_58.toNatClampNeg (0 : Int32)) := h_zI_45.putA hs t_56 rfl (rgF _) (by decide) (fun h => absurd h (by decide)) (by decide) trivial
              generalize uzI_59 : u2 zI_45 (zR zy 27) zi_58.toNatClampNeg (0 : Int32) = zI_59 at hP hD h_zI_59
              obtain ⟨zi_60, ezi_60⟩ : ∃ y : Int32, y = zi_44 + 1 := ⟨_, rfl⟩
              have tzi_60 : zi_60.toInt = zi_44.toInt + 1 := by rw [ezi_60]; exact tadd rfl (show (1 : Int32).toInt = 1 by decide) (by omega) (by omega)
              refine lv_iinc (v := zi_60) (lv' := [(4, .int zi_60), (0, .ref zy), (1, .int zia), (2, .int zib), (3, .int zic)]) hx hb dX11_sheet_60 hl (k := 4) rfl (by rw [ezi_60]; rfl) (by decide) rfl (fun ls hl => ?_)
              refine lv_goto (tgt := 40) hx hb dX11_sheet_63 (by decide) ?_
              exact ih_53 (24 - zi_60.toInt).toNat (by omega) zi_60 zI_59 _ _ _ rfl (by omega) h_zI_59 (by rw [(show zI_59 (zR zy 25) = zI_45 (zR zy 25) from by rw [← uzI_59]; exact u2_a (tne t_10 t_56 (by decide)))]; exact e_lp_53_0) (by rw [(show zI_59 (zR zy 26) = zI_45 (zR zy 26) from by rw [← uzI_59]; exact u2_a (tne t_12 t_56 (by decide)))]; exact e_lp_53_1) (by rw [← uzI_59, u2_r]; exact FZI.s e_lp_53_2 (by omega) (by omega) (by omega) (by decide) (by omega)) hP hD hS (lv_sub hl [1, 2, 3, 4, 0] rfl)
        have qc_0 : (0 : Int32).toInt = 0 := by decide
        have t_61 : zT (zR zy 27) = 112 := sk_f hs t_zy (by decide) rfl (by decide)
        exact lp_53 _ (0 : Int32) zI_13 _ _ _ rfl (by decide) h_zI_13 rfl rfl (by rw [show zI_13 (zR zy 27) = zI_11 (zR zy 27) from by rw [← uzI_13]; exact u2_a (tne t_61 t_12 (by decide)), show zI_11 (zR zy 27) = zI (zR zy 27) from by rw [← uzI_11]; exact u2_a (tne t_61 t_10 (by decide))]; exact FZI.z) hP hD hS (lv_sub hl [1, 2, 3, 4, 0] rfl)
      · have f_9 : ¬ (zic.toInt ≥ 0) := ic_nge (rfl) (by decide) c_8
        refine lv_bipush (v := (-14)) hx hb dX11_sheet_20 (by decide) ?_
        subst hQ
        have qc_m14 : (-14 : Int32).toInt = -14 := by decide
        exact W.iret (v := (-14 : Int32)) hx hb hr (fun t ht hW => ⟨⟨(-14 : Int32), zI, rfl, ⟨h_zI, (show (-14) ≤ (-14 : Int32).toInt ∧ (-14 : Int32).toInt ≤ 24 from by omega), (show (-14 : Int32).toInt = SHv zia.toInt zib.toInt zic.toInt from (by have qv9 := (show ((-14) : Int32).toInt = -14 from by decide); unfold SHv; split <;> first | omega | (split <;> first | omega | (split <;> omega)))), (show (-14 : Int32).toInt < 0 ∨ ((zI (zR zy 25) zia.toNatClampNeg).toInt = zib.toInt ∧ (zI (zR zy 26) zia.toNatClampNeg).toInt = zic.toInt) from (Or.inl (by decide))), (show ∀ j : Nat, ¬ j = zia.toNatClampNeg → zI (zR zy 25) j = zI (zR zy 25) j ∧ zI (zR zy 26) j = zI (zR zy 26) j from (fun _ _ => ⟨rfl, rfl⟩)), (show 0 ≤ (-14 : Int32).toInt ∨ zI = zI from (Or.inr rfl)), (show (-14 : Int32).toInt < 0 ∨ FZI (zI (zR zy 27)) (zI (zR zy 27)) (24 * zia.toInt) 24 from (Or.inl (by decide)))⟩, ⟨by rw [ht]; exact hP, va_K.moved hW.alike hK, hD⟩⟩, hS.F ht⟩) hS.2.2 dX11_sheet_22
    · have f_7 : ¬ (zic.toInt ≤ (24 : Int)) := ic_nle (rfl) (show (24 : Int32).toInt = 24 by decide) c_6
      refine lv_iconst (v := (-1)) hx hb dX11_sheet_14 (by decide) ?_
      subst hQ
      have qc_m1 : (-1 : Int32).toInt = -1 := by decide
      exact W.iret (v := (-1 : Int32)) hx hb hr (fun t ht hW => ⟨⟨(-1 : Int32), zI, rfl, ⟨h_zI, (show (-14) ≤ (-1 : Int32).toInt ∧ (-1 : Int32).toInt ≤ 24 from by omega), (show (-1 : Int32).toInt = SHv zia.toInt zib.toInt zic.toInt from (by have qv9 := (show ((-1) : Int32).toInt = -1 from by decide); unfold SHv; split <;> first | omega | (split <;> first | omega | (split <;> omega)))), (show (-1 : Int32).toInt < 0 ∨ ((zI (zR zy 25) zia.toNatClampNeg).toInt = zib.toInt ∧ (zI (zR zy 26) zia.toNatClampNeg).toInt = zic.toInt) from (Or.inl (by decide))), (show ∀ j : Nat, ¬ j = zia.toNatClampNeg → zI (zR zy 25) j = zI (zR zy 25) j ∧ zI (zR zy 26) j = zI (zR zy 26) j from (fun _ _ => ⟨rfl, rfl⟩)), (show 0 ≤ (-1 : Int32).toInt ∨ zI = zI from (Or.inr rfl)), (show (-1 : Int32).toInt < 0 ∨ FZI (zI (zR zy 27)) (zI (zR zy 27)) (24 * zia.toInt) 24 from (Or.inl (by decide)))⟩, ⟨by rw [ht]; exact hP, va_K.moved hW.alike hK, hD⟩⟩, hS.F ht⟩) hS.2.2 dX11_sheet_15
set_option maxHeartbeats 8000000 in
set_option maxRecDepth 100000 in
theorem t_X11_drop (l : Launch) (dC : Nat → ClassId) (dI : Nat → Nat → Nat) (cy : Nat → ClassId) (sz : Nat) (zL : List Nat) (zT : Nat → Nat) (zR : Nat → Nat → Nat) (zI : Nat → Nat → Int32) (zJ : Nat → Nat → Int64) (zy : Nat) (zia : Int32) (hs : SKP zL zT zR) (hw : WT zT zR zI) (t_zy : zT zy = 18) : Met l yX11_drop wsX11_drop ({ frames := 1, cells := 0, slots := 0, locals := 25 } : Room) (va_Pc [.ref zy, .int zia] (PRE dC dI cy (WL cy zL zT zR zI zJ) sz)) (va_Qi (fun (r : Int32) (u : (Nat → Nat → Int32)) => (WM [11000] AL zT zR zI u) ∧ ((-11) ≤ r.toInt ∧ r.toInt ≤ 24) ∧ (r.toInt = DRw zia.toInt (zI (zR zy 25) zia.toNatClampNeg).toInt (zI (zR zy 26) zia.toNatClampNeg).toInt) ∧ (r.toInt = -1 ∨ (u (zR zy 25) zia.toNatClampNeg).toInt < 0) ∧ (∀ j : Nat, ¬ j = zia.toNatClampNeg → u (zR zy 25) j = zI (zR zy 25) j) ∧ (¬ (r.toInt = -1) ∨ u = zI)) (fun u t => POST dC dI cy (va_A (WL cy zL zT zR zI zJ) sz) (WL cy zL zT zR u zJ) t) (va_A (WL cy zL zT zR zI zJ) sz)) 0 0 (va_A (WL cy zL zT zR zI zJ) sz) := by
  refine Met.ofW (cc := cX11_drop) (maxL := 2) (ret := (some .int)) (by decide) rfl ?_
  intro p e s m args below meth c s₁ B hml hv
  obtain ⟨rfl, hsz, hP, hK, hD0, hN⟩ := hv
  have hx := B.exec
  have hb := B.bytes
  have hr := B.returns
  have hts := atoms_spec (ws := wsX11_drop) B.pre
  have hown : s.vm.findClass RX11 = some m.cls := findClass_of_methodNamed B.named
  have hlocks := B.notSynchronized
  subst hsz
  have hD := hD0.self (sz := s.heap.size)
  generalize hAe : va_A (WL cy zL zT zR zI zJ) s.heap.size = A at hD ⊢
  have hA : ∀ q : Nat, s.heap.size ≤ q → A q := fun q h => by rw [← hAe]; exact Or.inr h
  have hS : va_S A s.heap s.heap [] := va_S.rf
  have hP : va_P (dC, dI) vwCl (WL cy zL zT zR zI zJ) s.heap := hP
  have hl := lv_entry ([.ref zy, .int zia] : List Value) (n := 2) (Nat.le_of_ble_eq_true rfl)
  rw [lg_entry_eq]
  generalize (lg_sl ([.ref zy, .int zia] : List Value) ++ List.replicate (2 - (lg_sl ([.ref zy, .int zia] : List Value)).length) Slot.unset).toArray = ls at hl ⊢
  have hl : lv_has ls 2 [(0, .ref zy), (1, .int zia)] := hl
  refine w_q (fun Q hQ => ?_)
  have h_zI : WM [11000] AL zT zR zI zI := WM.rf hw
  refine lv_iload_n hx hb dX11_drop_0 rfl (lv_at hl 1 rfl) ?_
  refine lv_i2l (v := zia.toInt64) hx hb dX11_drop_1 rfl ?_
  refine lv_topl (fun zj_1 ezj_1 => ?_)
  have tzj_1 : zj_1.toInt = zia.toInt := by rw [ezj_1]; exact Int32.toInt_toInt64 _
  refine lv_lconst (v := 0) hx hb dX11_drop_2 (by decide) ?_
  refine lv_ldc2 (v := 3) hx hb hown (hts (.constantLong RX11 346 3) (by decide +kernel)) dX11_drop_3 ?_
  refine hj0_i (ws := (WL cy zL zT zR zI zJ)) (va_runS (As := [.long zj_1, .long 0, .long 3]) (rest := []) ⟨hx, hb, hml, hown, hts⟩ (c_X11_in l dC dI cy s.heap.size zj_1 0 3 0 3 zj_1.toInt (by first | rfl | decide | omega | exact Int32.toInt_toInt64 _) (by first | rfl | decide | omega | exact Int32.toInt_toInt64 _) (by first | rfl | decide | omega | exact Int32.toInt_toInt64 _)) (va_cwS 3 hts gX11_drop_X11_in rfl rfl rfl (by decide +kernel) ⟨(Nat.le_of_ble_eq_true rfl), (Nat.le_of_ble_eq_true rfl)⟩) (PRE.s (hP.sub [] rfl) hK (hD.sub [] (by decide) rfl) hN) rfl rfl hl.1 rfl (lv_room (Nat.le_of_ble_eq_true rfl)) dX11_drop_6 ⟨(Nat.le_of_ble_eq_true rfl), (Nat.le_of_ble_eq_true rfl)⟩) hP hD hS hA (fun zi_2 u_4 H locs hw_3 hP hD hS => ?_)
  have hw_3 : zi_2 = if 0 ≤ zj_1.toInt ∧ zj_1.toInt ≤ 3 then 1 else 0 := hw_3
  have b_zi_2 : 0 ≤ zi_2.toInt ∧ zi_2.toInt ≤ 1 := bz_b hw_3
  refine lv_if_ne (tgt := 14) hx hb dX11_drop_9 (by decide) (fun c_5 => ?_) (fun c_5 => ?_)
  · have f_6 : 0 ≤ zj_1.toInt ∧ zj_1.toInt ≤ 3 := bz_1 hw_3 c_5
    refine lv_aload_n hx hb dX11_drop_14 rfl (lv_at hl 0 rfl) ?_
    refine ht_getr (C := RX11) (T := TX11) (N := 28) hx hb hts (by decide +kernel) hown hK hP hs t_zy (by decide) rfl rfl 25 (by decide) (hts (.fieldLink RX11 59 "DripStoneModel" "lanes" "[I") (by decide +kernel)) (fun _ h9 => h9) rfl dX11_drop_15 ?_
    have t_7 : zT (zR zy 25) = 110 := sk_f hs t_zy (by decide) rfl (by decide)
    refine lv_iload_n hx hb dX11_drop_18 rfl (lv_at hl 1 rfl) ?_
    refine ht_iald (n := 4) (q := 0) hx hb hK hP hs t_7 (by decide) rfl rfl ⟨by omega, by omega⟩ dX11_drop_19 ?_
    refine lv_topi (fun zi_8 ezi_8 => ?_)
    have tzi_8 : (-1) ≤ zi_8.toInt ∧ zi_8.toInt ≤ 2 := by rw [ezi_8]; exact h_zI.at t_7 _ rfl
    have lzi_8 : (zI (zR zy 25) zia.toNatClampNeg).toInt = zi_8.toInt := by rw [ezi_8]
    refine lv_if_ge (tgt := 26) hx hb dX11_drop_20 (by decide) (fun c_9 => ?_) (fun c_9 => ?_)
    · have f_10 : zi_8.toInt ≥ 0 := ic_ge (rfl) (by decide) c_9
      refine lv_aload_n hx hb dX11_drop_26 rfl (lv_at hl 0 rfl) ?_
      refine ht_getr (C := RX11) (T := TX11) (N := 28) hx hb hts (by decide +kernel) hown hK hP hs t_zy (by decide) rfl rfl 25 (by decide) (hts (.fieldLink RX11 59 "DripStoneModel" "lanes" "[I") (by decide +kernel)) (fun _ h9 => h9) rfl dX11_drop_27 ?_
      refine lv_iload_n hx hb dX11_drop_30 rfl (lv_at hl 1 rfl) ?_
      refine lv_iconst (v := (-1)) hx hb dX11_drop_31 (by decide) ?_
      refine ht_iast (v := (-1 : Int32)) (n := 4) (q := 0) hx hb hK hP hD hS hs t_7 (by decide) rfl rfl ⟨by omega, by omega⟩ dX11_drop_32 (fun H locs hP hD hS => ?_)
      have h_zI_11 : WM [11000] AL zT zR zI (u2 zI (zR zy 25) zia.toNatClampNeg (-1 : Int32)) := h_zI.putA hs t_7 rfl (by decide) (by decide) (fun h => absurd h (by decide)) (by decide) trivial
      generalize uzI_11 : u2 zI (zR zy 25) zia.toNatClampNeg (-1 : Int32) = zI_11 at hP hD h_zI_11
      refine lv_aload_n hx hb dX11_drop_33 rfl (lv_at hl 0 rfl) ?_
      refine ht_getr (C := RX11) (T := TX11) (N := 28) hx hb hts (by decide +kernel) hown hK hP hs t_zy (by decide) rfl rfl 26 (by decide) (hts (.fieldLink RX11 62 "DripStoneModel" "rowSizes" "[I") (by decide +kernel)) (fun _ h9 => h9) rfl dX11_drop_34 ?_
      have t_12 : zT (zR zy 26) = 111 := sk_f hs t_zy (by decide) rfl (by decide)
      refine lv_iload_n hx hb dX11_drop_37 rfl (lv_at hl 1 rfl) ?_
      refine ht_iald (n := 4) (q := 0) hx hb hK hP hs t_12 (by decide) rfl rfl ⟨by omega, by omega⟩ dX11_drop_38 ?_
      refine lv_topi (fun zi_13 ezi_13 => ?_)
      have tzi_13 : 0 ≤ zi_13.toInt ∧ zi_13.toInt ≤ 24 := by rw [ezi_13]; exact h_zI_11.at t_12 _ rfl
      have lzi_13 : (zI_11 (zR zy 26) zia.toNatClampNeg).toInt = zi_13.toInt := by rw [ezi_13]
      subst hQ
      have d3_14 : (zI (zR zy 25) zia.toNatClampNeg).toInt = zi_8.toInt := congrArg Int32.toInt ezi_8.symm
      have d2_15 : (zI (zR zy 26) zia.toNatClampNeg).toInt = zi_13.toInt := congrArg Int32.toInt ((congrFun (show zI_11 (zR zy 26) = zI (zR zy 26) from by rw [← uzI_11]; exact u2_a (tne t_12 t_7 (by decide))) zia.toNatClampNeg).symm.trans ezi_13.symm)
      exact W.iret (v := zi_13) hx hb hr (fun t ht hW => ⟨⟨zi_13, zI_11, rfl, ⟨h_zI_11, (show (-11) ≤ zi_13.toInt ∧ zi_13.toInt ≤ 24 from by omega), (show zi_13.toInt = DRw zia.toInt (zI (zR zy 25) zia.toNatClampNeg).toInt (zI (zR zy 26) zia.toNatClampNeg).toInt from (by unfold DRw; split <;> first | omega | (split <;> first | omega | (split <;> omega)))), (show zi_13.toInt = -1 ∨ (zI_11 (zR zy 25) zia.toNatClampNeg).toInt < 0 from (Or.inr (by rw [show zI_11 (zR zy 25) zia.toNatClampNeg = (-1 : Int32) from (by rw [← uzI_11]; exact u2_s)]; decide))), (show ∀ j : Nat, ¬ j = zia.toNatClampNeg → zI_11 (zR zy 25) j = zI (zR zy 25) j from (fun j hj => by rw [← uzI_11]; exact u2_k hj)), (show ¬ (zi_13.toInt = -1) ∨ zI_11 = zI from (Or.inl (by omega)))⟩, ⟨by rw [ht]; exact hP, va_K.moved hW.alike hK, hD⟩⟩, hS.F ht⟩) hS.2.2 dX11_drop_39
    · have f_10 : ¬ (zi_8.toInt ≥ 0) := ic_nge (rfl) (by decide) c_9
      refine lv_bipush (v := (-11)) hx hb dX11_drop_23 (by decide) ?_
      subst hQ
      have qc_m11 : (-11 : Int32).toInt = -11 := by decide
      have d3_16 : (zI (zR zy 25) zia.toNatClampNeg).toInt = zi_8.toInt := congrArg Int32.toInt ezi_8.symm
      exact W.iret (v := (-11 : Int32)) hx hb hr (fun t ht hW => ⟨⟨(-11 : Int32), zI, rfl, ⟨h_zI, (show (-11) ≤ (-11 : Int32).toInt ∧ (-11 : Int32).toInt ≤ 24 from by omega), (show (-11 : Int32).toInt = DRw zia.toInt (zI (zR zy 25) zia.toNatClampNeg).toInt (zI (zR zy 26) zia.toNatClampNeg).toInt from (by have qv9 := (show ((-11) : Int32).toInt = -11 from by decide); unfold DRw; split <;> first | omega | (split <;> first | omega | (split <;> omega)))), (show (-11 : Int32).toInt = -1 ∨ (zI (zR zy 25) zia.toNatClampNeg).toInt < 0 from (Or.inr (by rw [show zI (zR zy 25) zia.toNatClampNeg = zi_8 from ezi_8.symm]; omega))), (show ∀ j : Nat, ¬ j = zia.toNatClampNeg → zI (zR zy 25) j = zI (zR zy 25) j from (fun _ _ => rfl)), (show ¬ ((-11 : Int32).toInt = -1) ∨ zI = zI from (Or.inr rfl))⟩, ⟨by rw [ht]; exact hP, va_K.moved hW.alike hK, hD⟩⟩, hS.F ht⟩) hS.2.2 dX11_drop_25
  · have f_6 : ¬ (0 ≤ zj_1.toInt ∧ zj_1.toInt ≤ 3) := bz_0 hw_3 c_5
    refine lv_iconst (v := (-1)) hx hb dX11_drop_12 (by decide) ?_
    subst hQ
    have qc_m1 : (-1 : Int32).toInt = -1 := by decide
    exact W.iret (v := (-1 : Int32)) hx hb hr (fun t ht hW => ⟨⟨(-1 : Int32), zI, rfl, ⟨h_zI, (show (-11) ≤ (-1 : Int32).toInt ∧ (-1 : Int32).toInt ≤ 24 from by omega), (show (-1 : Int32).toInt = DRw zia.toInt (zI (zR zy 25) zia.toNatClampNeg).toInt (zI (zR zy 26) zia.toNatClampNeg).toInt from (by have qv9 := (show ((-1) : Int32).toInt = -1 from by decide); unfold DRw; split <;> first | omega | (split <;> first | omega | (split <;> omega)))), (show (-1 : Int32).toInt = -1 ∨ (zI (zR zy 25) zia.toNatClampNeg).toInt < 0 from (Or.inl (by decide))), (show ∀ j : Nat, ¬ j = zia.toNatClampNeg → zI (zR zy 25) j = zI (zR zy 25) j from (fun _ _ => rfl)), (show ¬ ((-1 : Int32).toInt = -1) ∨ zI = zI from (Or.inr rfl))⟩, ⟨by rw [ht]; exact hP, va_K.moved hW.alike hK, hD⟩⟩, hS.F ht⟩) hS.2.2 dX11_drop_13
set_option maxHeartbeats 8000000 in
set_option maxRecDepth 100000 in
theorem t_X11_item (l : Launch) (dC : Nat → ClassId) (dI : Nat → Nat → Nat) (cy : Nat → ClassId) (sz : Nat) (zL : List Nat) (zT : Nat → Nat) (zR : Nat → Nat → Nat) (zI : Nat → Nat → Int32) (zJ : Nat → Nat → Int64) (zy : Nat) (zia : Int32) (zib : Int32) (zic : Int32) (zid : Int32) (hs : SKP zL zT zR) (hw : WT zT zR zI) (t_zy : zT zy = 18) : Met l yX11_item wsX11_item ({ frames := 2, cells := 0, slots := 0, locals := 49 } : Room) (va_Pc [.ref zy, .int zia, .int zib, .int zic, .int zid] (PRE dC dI cy (WL cy zL zT zR zI zJ) sz)) (va_Qi (fun (r : Int32) (u : (Nat → Nat → Int32)) => (WM [11200] AL zT zR zI u) ∧ ((-13) ≤ r.toInt ∧ r.toInt ≤ 1) ∧ (r.toInt = ITv zia.toInt zib.toInt (LKS (zI (zR zy 25) zia.toNatClampNeg).toInt (zI (zR zy 26) zia.toNatClampNeg).toInt zib.toInt zic.toInt (1 : Int32).toInt)) ∧ (r.toInt = 1 → WRI (zI (zR zy 27)) (u (zR zy 27)) (24 * zia.toInt + zic.toInt) (NARz zib.toInt zid)) ∧ (¬ r.toInt = 1 → u = zI)) (fun u t => POST dC dI cy (va_A (WL cy zL zT zR zI zJ) sz) (WL cy zL zT zR u zJ) t) (va_A (WL cy zL zT zR zI zJ) sz)) 0 0 (va_A (WL cy zL zT zR zI zJ) sz) := by
  refine Met.ofW (cc := cX11_item) (maxL := 6) (ret := (some .int)) (by decide) rfl ?_
  intro p e s m args below meth c s₁ B hml hv
  obtain ⟨rfl, hsz, hP, hK, hD0, hN⟩ := hv
  have hx := B.exec
  have hb := B.bytes
  have hr := B.returns
  have hts := atoms_spec (ws := wsX11_item) B.pre
  have hown : s.vm.findClass RX11 = some m.cls := findClass_of_methodNamed B.named
  have hlocks := B.notSynchronized
  subst hsz
  have hD := hD0.self (sz := s.heap.size)
  generalize hAe : va_A (WL cy zL zT zR zI zJ) s.heap.size = A at hD ⊢
  have hA : ∀ q : Nat, s.heap.size ≤ q → A q := fun q h => by rw [← hAe]; exact Or.inr h
  have hS : va_S A s.heap s.heap [] := va_S.rf
  have hP : va_P (dC, dI) vwCl (WL cy zL zT zR zI zJ) s.heap := hP
  have hl := lv_entry ([.ref zy, .int zia, .int zib, .int zic, .int zid] : List Value) (n := 6) (Nat.le_of_ble_eq_true rfl)
  rw [lg_entry_eq]
  generalize (lg_sl ([.ref zy, .int zia, .int zib, .int zic, .int zid] : List Value) ++ List.replicate (6 - (lg_sl ([.ref zy, .int zia, .int zib, .int zic, .int zid] : List Value)).length) Slot.unset).toArray = ls at hl ⊢
  have hl : lv_has ls 6 [(0, .ref zy), (1, .int zia), (2, .int zib), (3, .int zic), (4, .int zid)] := hl
  refine w_q (fun Q hQ => ?_)
  have h_zI : WM [11200] AL zT zR zI zI := WM.rf hw
  refine lv_iload_n hx hb dX11_item_0 rfl (lv_at hl 1 rfl) ?_
  refine lv_iload_n hx hb dX11_item_1 rfl (lv_at hl 2 rfl) ?_
  refine hj0_i (ws := (WL cy zL zT zR zI zJ)) (va_runS (As := [.int zia, .int zib]) (rest := []) ⟨hx, hb, hml, hown, hts⟩ (c_X11_isSheet l dC dI cy s.heap.size zia zib) (va_cwS 2 hts gX11_item_X11_isSheet rfl rfl rfl (by decide +kernel) ⟨(Nat.le_of_ble_eq_true rfl), (Nat.le_of_ble_eq_true rfl)⟩) (PRE.s (hP.sub [] rfl) hK (hD.sub [] (by decide) rfl) hN) rfl rfl hl.1 rfl (lv_room (Nat.le_of_ble_eq_true rfl)) dX11_item_2 ⟨(Nat.le_of_ble_eq_true rfl), (Nat.le_of_ble_eq_true rfl)⟩) hP hD hS hA (fun zi_1 u_3 H locs hw_2 hP hD hS => ?_)
  have hw_2 : zi_1 = if (0 ≤ zia.toInt ∧ zia.toInt ≤ 3) ∧ 0 ≤ zib.toInt ∧ zib.toInt ≤ 2 then 1 else 0 := hw_2
  have b_zi_1 : 0 ≤ zi_1.toInt ∧ zi_1.toInt ≤ 1 := bz_b hw_2
  refine lv_if_ne (tgt := 10) hx hb dX11_item_5 (by decide) (fun c_4 => ?_) (fun c_4 => ?_)
  · have f_5 : (0 ≤ zia.toInt ∧ zia.toInt ≤ 3) ∧ 0 ≤ zib.toInt ∧ zib.toInt ≤ 2 := bz_1 hw_2 c_4
    refine lv_aload_n hx hb dX11_item_10 rfl (lv_at hl 0 rfl) ?_
    refine lv_iload_n hx hb dX11_item_11 rfl (lv_at hl 1 rfl) ?_
    refine lv_iload_n hx hb dX11_item_12 rfl (lv_at hl 2 rfl) ?_
    refine lv_iload_n hx hb dX11_item_13 rfl (lv_at hl 3 rfl) ?_
    refine lv_iconst (v := 1) hx hb dX11_item_14 (by decide) ?_
    have qc_1 : (1 : Int32).toInt = 1 := by decide
    refine hj_i (ws := (WL cy zL zT zR zI zJ)) (w1 := fun (u : Unit) => (WL cy zL zT zR zI zJ)) (va_runV (As := [.int zia, .int zib, .int zic, .int 1]) (rest := []) ⟨hx, hb, hml, hown, hts⟩ (t_X11_lacksRow l dC dI cy H.size zL zT zR zI zJ zy zia zib zic (1 : Int32) hs h_zI.1 t_zy (by omega) (by omega) (by decide)) (cwV 4 hts gX11_item_X11_lacksRow rfl rfl rfl (by decide +kernel) ⟨(Nat.le_of_ble_eq_true rfl), (Nat.le_of_ble_eq_true rfl)⟩) (PRE.v hP hK hD hN (ht_recv hK hP hs t_zy (by decide) rfl rfl)) rfl rfl hl.1 rfl (lv_room (Nat.le_of_ble_eq_true rfl)) dX11_item_15 ⟨(Nat.le_of_ble_eq_true rfl), (Nat.le_of_ble_eq_true rfl)⟩) hP hD hS hA (fun zi_6 u_8 H locs hw_7 hP hD hS => ?_)
    obtain ⟨b_zi_6, ps_9, ps_10, ps_11⟩ : ((-13) ≤ zi_6.toInt ∧ zi_6.toInt ≤ 0) ∧ (¬ (zi_6.toInt = 0) ∨ (0 ≤ zic.toInt ∧ zic.toInt ≤ 24)) ∧ (¬ (zi_6.toInt = 0) ∨ zic.toInt + (1 : Int32).toInt ≤ 24) ∧ (zi_6.toInt = LKS (zI (zR zy 25) zia.toNatClampNeg).toInt (zI (zR zy 26) zia.toNatClampNeg).toInt zib.toInt zic.toInt (1 : Int32).toInt) := hw_7
    refine lv_istore (lv' := [(5, .int zi_6), (0, .ref zy), (1, .int zia), (2, .int zib), (3, .int zic), (4, .int zid)]) hx hb dX11_item_18 hl (by decide) rfl (fun ls hl => ?_)
    refine lv_iload hx hb dX11_item_20 (lv_at hl 0 rfl) ?_
    refine lv_if_ge (tgt := 28) hx hb dX11_item_22 (by decide) (fun c_12 => ?_) (fun c_12 => ?_)
    · have f_13 : zi_6.toInt ≥ 0 := ic_ge (rfl) (by decide) c_12
      have b9_zic : 0 ≤ zic.toInt ∧ zic.toInt ≤ 24 := by omega
      refine lv_aload_n hx hb dX11_item_28 rfl (lv_at hl 1 rfl) ?_
      refine ht_getr (C := RX11) (T := TX11) (N := 28) hx hb hts (by decide +kernel) hown hK hP hs t_zy (by decide) rfl rfl 27 (by decide) (hts (.fieldLink RX11 65 "DripStoneModel" "items" "[I") (by decide +kernel)) (fun _ h9 => h9) rfl dX11_item_29 ?_
      have t_14 : zT (zR zy 27) = 112 := sk_f hs t_zy (by decide) rfl (by decide)
      refine lv_bipush (v := 24) hx hb dX11_item_32 (by decide) ?_
      refine lv_iload_n hx hb dX11_item_34 rfl (lv_at hl 2 rfl) ?_
      refine lv_imul hx hb dX11_item_35 ?_
      refine lv_topi (fun zi_15 ezi_15 => ?_)
      have tzi_15 : zi_15.toInt = (24 : Int) * zia.toInt := by rw [ezi_15]; exact timul (show (24 : Int32).toInt = 24 by decide) (rfl) (by omega) (by omega)
      refine lv_iload_n hx hb dX11_item_36 rfl (lv_at hl 4 rfl) ?_
      refine lv_iadd hx hb dX11_item_37 ?_
      refine lv_topi (fun zi_16 ezi_16 => ?_)
      have tzi_16 : zi_16.toInt = zi_15.toInt + zic.toInt := by rw [ezi_16]; exact tiadd (rfl) (rfl) (by omega) (by omega)
      refine lv_iload_n hx hb dX11_item_38 rfl (lv_at hl 3 rfl) ?_
      refine lv_if_ne (tgt := 53) hx hb dX11_item_39 (by decide) (fun c_17 => ?_) (fun c_17 => ?_)
      · have f_18 : zib.toInt ≠ 0 := ic_ne (rfl) (by decide) c_17
        refine lv_iload_n hx hb dX11_item_53 rfl (lv_at hl 3 rfl) ?_
        refine lv_iconst (v := 1) hx hb dX11_item_54 (by decide) ?_
        refine lv_icmp_ne (tgt := 69) hx hb dX11_item_55 (by decide) (fun c_19 => ?_) (fun c_19 => ?_)
        · have f_20 : zib.toInt ≠ (1 : Int) := ic_ne (rfl) (show (1 : Int32).toInt = 1 by decide) c_19
          refine lv_iload hx hb dX11_item_69 (lv_at hl 5 rfl) ?_
          refine ht_iast (v := zid) (n := 96) (q := 0) hx hb hK hP hD hS hs t_14 (by decide) rfl rfl ⟨by omega, by omega⟩ dX11_item_71 (fun H locs hP hD hS => ?_)
          have h_zI_21 : WM [11200] AL zT zR zI (u2 zI (zR zy 27) zi_16.toNatClampNeg zid) := h_zI.putA hs t_14 rfl (rgF _) (by decide) (fun h => absurd h (by decide)) (by decide) trivial
          generalize uzI_21 : u2 zI (zR zy 27) zi_16.toNatClampNeg zid = zI_21 at hP hD h_zI_21
          refine lv_iconst (v := 1) hx hb dX11_item_72 (by decide) ?_
          subst hQ
          exact W.iret (v := (1 : Int32)) hx hb hr (fun t ht hW => ⟨⟨(1 : Int32), zI_21, rfl, ⟨h_zI_21, (show (-13) ≤ (1 : Int32).toInt ∧ (1 : Int32).toInt ≤ 1 from by omega), (show (1 : Int32).toInt = ITv zia.toInt zib.toInt (LKS (zI (zR zy 25) zia.toNatClampNeg).toInt (zI (zR zy 26) zia.toNatClampNeg).toInt zib.toInt zic.toInt (1 : Int32).toInt) from (by have qv9 := (show (1 : Int32).toInt = 1 from by decide); unfold ITv; split <;> first | omega | (split <;> first | omega | (split <;> omega)))), (show (1 : Int32).toInt = 1 → WRI (zI (zR zy 27)) (zI_21 (zR zy 27)) (24 * zia.toInt + zic.toInt) (NARz zib.toInt zid) from (fun _ => by rw [← uzI_21, u2_r]; exact WRI.mk9 (by omega) (by omega) (by unfold NARz; rw [if_neg (by omega), if_neg (by omega)]))), (show ¬ (1 : Int32).toInt = 1 → zI_21 = zI from (fun h9 => absurd (by decide) h9))⟩, ⟨by rw [ht]; exact hP, va_K.moved hW.alike hK, hD⟩⟩, hS.F ht⟩) hS.2.2 dX11_item_73
        · have f_20 : ¬ (zib.toInt ≠ (1 : Int)) := ic_nne (rfl) (show (1 : Int32).toInt = 1 by decide) c_19
          refine lv_iload hx hb dX11_item_58 (lv_at hl 5 rfl) ?_
          refine lv_bipush (v := 16) hx hb dX11_item_60 (by decide) ?_
          refine lv_ishl hx hb dX11_item_62 ?_
          refine lv_topi (fun zi_22 ezi_22 => ?_)
          have rzi_22 := rng zi_22
          refine lv_bipush (v := 16) hx hb dX11_item_63 (by decide) ?_
          refine lv_ishr hx hb dX11_item_65 ?_
          refine lv_topi (fun zi_23 ezi_23 => ?_)
          have rzi_23 := rng zi_23
          refine lv_goto (tgt := 71) hx hb dX11_item_66 (by decide) ?_
          refine ht_iast (v := zi_23) (n := 96) (q := 0) hx hb hK hP hD hS hs t_14 (by decide) rfl rfl ⟨by omega, by omega⟩ dX11_item_71 (fun H locs hP hD hS => ?_)
          have h_zI_24 : WM [11200] AL zT zR zI (u2 zI (zR zy 27) zi_16.toNatClampNeg zi_23) := h_zI.putA hs t_14 rfl (rgF _) (by decide) (fun h => absurd h (by decide)) (by decide) trivial
          generalize uzI_24 : u2 zI (zR zy 27) zi_16.toNatClampNeg zi_23 = zI_24 at hP hD h_zI_24
          refine lv_iconst (v := 1) hx hb dX11_item_72 (by decide) ?_
          subst hQ
          exact W.iret (v := (1 : Int32)) hx hb hr (fun t ht hW => ⟨⟨(1 : Int32), zI_24, rfl, ⟨h_zI_24, (show (-13) ≤ (1 : Int32).toInt ∧ (1 : Int32).toInt ≤ 1 from by omega), (show (1 : Int32).toInt = ITv zia.toInt zib.toInt (LKS (zI (zR zy 25) zia.toNatClampNeg).toInt (zI (zR zy 26) zia.toNatClampNeg).toInt zib.toInt zic.toInt (1 : Int32).toInt) from (by have qv9 := (show (1 : Int32).toInt = 1 from by decide); unfold ITv; split <;> first | omega | (split <;> first | omega | (split <;> omega)))), (show (1 : Int32).toInt = 1 → WRI (zI (zR zy 27)) (zI_24 (zR zy 27)) (24 * zia.toInt + zic.toInt) (NARz zib.toInt zid) from (fun _ => by rw [← uzI_24, u2_r]; exact WRI.mk9 (by omega) (by omega) (by unfold NARz; rw [if_neg (by omega), if_pos (by omega), ← ezi_22]; exact ezi_23))), (show ¬ (1 : Int32).toInt = 1 → zI_24 = zI from (fun h9 => absurd (by decide) h9))⟩, ⟨by rw [ht]; exact hP, va_K.moved hW.alike hK, hD⟩⟩, hS.F ht⟩) hS.2.2 dX11_item_73
      · have f_18 : ¬ (zib.toInt ≠ 0) := ic_nne (rfl) (by decide) c_17
        refine lv_iload hx hb dX11_item_42 (lv_at hl 5 rfl) ?_
        refine lv_bipush (v := 24) hx hb dX11_item_44 (by decide) ?_
        refine lv_ishl hx hb dX11_item_46 ?_
        refine lv_topi (fun zi_25 ezi_25 => ?_)
        have rzi_25 := rng zi_25
        refine lv_bipush (v := 24) hx hb dX11_item_47 (by decide) ?_
        refine lv_ishr hx hb dX11_item_49 ?_
        refine lv_topi (fun zi_26 ezi_26 => ?_)
        have rzi_26 := rng zi_26
        refine lv_goto (tgt := 71) hx hb dX11_item_50 (by decide) ?_
        refine ht_iast (v := zi_26) (n := 96) (q := 0) hx hb hK hP hD hS hs t_14 (by decide) rfl rfl ⟨by omega, by omega⟩ dX11_item_71 (fun H locs hP hD hS => ?_)
        have h_zI_27 : WM [11200] AL zT zR zI (u2 zI (zR zy 27) zi_16.toNatClampNeg zi_26) := h_zI.putA hs t_14 rfl (rgF _) (by decide) (fun h => absurd h (by decide)) (by decide) trivial
        generalize uzI_27 : u2 zI (zR zy 27) zi_16.toNatClampNeg zi_26 = zI_27 at hP hD h_zI_27
        refine lv_iconst (v := 1) hx hb dX11_item_72 (by decide) ?_
        subst hQ
        exact W.iret (v := (1 : Int32)) hx hb hr (fun t ht hW => ⟨⟨(1 : Int32), zI_27, rfl, ⟨h_zI_27, (show (-13) ≤ (1 : Int32).toInt ∧ (1 : Int32).toInt ≤ 1 from by omega), (show (1 : Int32).toInt = ITv zia.toInt zib.toInt (LKS (zI (zR zy 25) zia.toNatClampNeg).toInt (zI (zR zy 26) zia.toNatClampNeg).toInt zib.toInt zic.toInt (1 : Int32).toInt) from (by have qv9 := (show (1 : Int32).toInt = 1 from by decide); unfold ITv; split <;> first | omega | (split <;> first | omega | (split <;> omega)))), (show (1 : Int32).toInt = 1 → WRI (zI (zR zy 27)) (zI_27 (zR zy 27)) (24 * zia.toInt + zic.toInt) (NARz zib.toInt zid) from (fun _ => by rw [← uzI_27, u2_r]; exact WRI.mk9 (by omega) (by omega) (by unfold NARz; rw [if_pos (by omega), ← ezi_25]; exact ezi_26))), (show ¬ (1 : Int32).toInt = 1 → zI_27 = zI from (fun h9 => absurd (by decide) h9))⟩, ⟨by rw [ht]; exact hP, va_K.moved hW.alike hK, hD⟩⟩, hS.F ht⟩) hS.2.2 dX11_item_73
    · have f_13 : ¬ (zi_6.toInt ≥ 0) := ic_nge (rfl) (by decide) c_12
      refine lv_iload hx hb dX11_item_25 (lv_at hl 0 rfl) ?_
      subst hQ
      exact W.iret (v := zi_6) hx hb hr (fun t ht hW => ⟨⟨zi_6, zI, rfl, ⟨h_zI, (show (-13) ≤ zi_6.toInt ∧ zi_6.toInt ≤ 1 from by omega), (show zi_6.toInt = ITv zia.toInt zib.toInt (LKS (zI (zR zy 25) zia.toNatClampNeg).toInt (zI (zR zy 26) zia.toNatClampNeg).toInt zib.toInt zic.toInt (1 : Int32).toInt) from (by unfold ITv; split <;> first | omega | (split <;> first | omega | (split <;> omega)))), (show zi_6.toInt = 1 → WRI (zI (zR zy 27)) (zI (zR zy 27)) (24 * zia.toInt + zic.toInt) (NARz zib.toInt zid) from (fun h9 => absurd h9 (by omega))), (show ¬ zi_6.toInt = 1 → zI = zI from (fun _ => rfl))⟩, ⟨by rw [ht]; exact hP, va_K.moved hW.alike hK, hD⟩⟩, hS.F ht⟩) hS.2.2 dX11_item_27
  · have f_5 : ¬ ((0 ≤ zia.toInt ∧ zia.toInt ≤ 3) ∧ 0 ≤ zib.toInt ∧ zib.toInt ≤ 2) := bz_0 hw_2 c_4
    refine lv_iconst (v := (-1)) hx hb dX11_item_8 (by decide) ?_
    subst hQ
    have qc_m1 : (-1 : Int32).toInt = -1 := by decide
    exact W.iret (v := (-1 : Int32)) hx hb hr (fun t ht hW => ⟨⟨(-1 : Int32), zI, rfl, ⟨h_zI, (show (-13) ≤ (-1 : Int32).toInt ∧ (-1 : Int32).toInt ≤ 1 from by omega), (show (-1 : Int32).toInt = ITv zia.toInt zib.toInt (LKS (zI (zR zy 25) zia.toNatClampNeg).toInt (zI (zR zy 26) zia.toNatClampNeg).toInt zib.toInt zic.toInt (1 : Int32).toInt) from (by have qv9 := (show ((-1) : Int32).toInt = -1 from by decide); unfold ITv; split <;> first | omega | (split <;> first | omega | (split <;> omega)))), (show (-1 : Int32).toInt = 1 → WRI (zI (zR zy 27)) (zI (zR zy 27)) (24 * zia.toInt + zic.toInt) (NARz zib.toInt zid) from (fun h9 => absurd h9 (by decide))), (show ¬ (-1 : Int32).toInt = 1 → zI = zI from (fun _ => rfl))⟩, ⟨by rw [ht]; exact hP, va_K.moved hW.alike hK, hD⟩⟩, hS.F ht⟩) hS.2.2 dX11_item_9
