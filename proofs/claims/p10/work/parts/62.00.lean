set_option maxHeartbeats 8000000 in
set_option maxRecDepth 100000 in
theorem t_X11_isClaim (l : Launch) (dC : Nat → ClassId) (dI : Nat → Nat → Nat) (cy : Nat → ClassId) (sz : Nat) (zL : List Nat) (zT : Nat → Nat) (zR : Nat → Nat → Nat) (zI : Nat → Nat → Int32) (zJ : Nat → Nat → Int64) (zy : Nat) (zik : Int32) (hs : SKP zL zT zR) (hw : WT zT zR zI) (t_zy : zT zy = 18) (hz : ZI (zI (zR zy 0))) : Met l yX11_isClaim wsX11_isClaim ({ frames := 1, cells := 0, slots := 0, locals := 25 } : Room) (va_Pc [.ref zy, .int zik] (PRE dC dI cy (WL cy zL zT zR zI zJ) sz)) (va_Qi (fun (r : Int32) (u : Unit) => (0 ≤ r.toInt ∧ r.toInt ≤ 1) ∧ (r.toInt = 0 ∨ (0 ≤ zik.toInt ∧ zik.toInt ≤ 3)) ∧ (r.toInt = 0 ∨ zik.toInt < zA (zI (zR zy 0)) (12))) (fun u t => POST dC dI cy (va_A (WL cy zL zT zR zI zJ) sz) (WL cy zL zT zR zI zJ) t) (va_A (WL cy zL zT zR zI zJ) sz)) 0 0 (va_A (WL cy zL zT zR zI zJ) sz) := by
  refine Met.ofW (cc := cX11_isClaim) (maxL := 2) (ret := (some .boolean)) (by decide) rfl ?_
  intro p e s m args below meth c s₁ B hml hv
  obtain ⟨rfl, hsz, hP, hK, hD0, hN⟩ := hv
  have hx := B.exec
  have hb := B.bytes
  have hr := B.returns
  have hts := atoms_spec (ws := wsX11_isClaim) B.pre
  have hown : s.vm.findClass RX11 = some m.cls := findClass_of_methodNamed B.named
  have hlocks := B.notSynchronized
  subst hsz
  have hD := hD0.self (sz := s.heap.size)
  generalize hAe : va_A (WL cy zL zT zR zI zJ) s.heap.size = A at hD ⊢
  have hA : ∀ q : Nat, s.heap.size ≤ q → A q := fun q h => by rw [← hAe]; exact Or.inr h
  have hS : va_S A s.heap s.heap [] := va_S.rf
  have hP : va_P (dC, dI) vwCl (WL cy zL zT zR zI zJ) s.heap := hP
  have hl := lv_entry ([.ref zy, .int zik] : List Value) (n := 2) (Nat.le_of_ble_eq_true rfl)
  rw [lg_entry_eq]
  generalize (lg_sl ([.ref zy, .int zik] : List Value) ++ List.replicate (2 - (lg_sl ([.ref zy, .int zik] : List Value)).length) Slot.unset).toArray = ls at hl ⊢
  have hl : lv_has ls 2 [(0, .ref zy), (1, .int zik)] := hl
  refine w_q (fun Q hQ => ?_)
  have h_zI : WM [] AL zT zR zI zI := WM.rf hw
  refine lv_iload_n hx hb dX11_isClaim_0 rfl (lv_at hl 1 rfl) ?_
  refine lv_i2l (v := zik.toInt64) hx hb dX11_isClaim_1 rfl ?_
  refine lv_topl (fun zj_1 ezj_1 => ?_)
  have tzj_1 : zj_1.toInt = zik.toInt := by rw [ezj_1]; exact Int32.toInt_toInt64 _
  refine lv_lconst (v := 0) hx hb dX11_isClaim_2 (by decide) ?_
  refine lv_aload_n hx hb dX11_isClaim_3 rfl (lv_at hl 0 rfl) ?_
  refine ht_getr (C := RX11) (T := TX11) (N := 28) hx hb hts (by decide +kernel) hown hK hP hs t_zy (by decide) rfl rfl 0 (by decide) (hts (.fieldLink RX11 7 "DripStoneModel" "z" "[I") (by decide +kernel)) (fun _ h9 => h9) rfl dX11_isClaim_4 ?_
  have t_2 : zT (zR zy 0) = 100 := sk_f hs t_zy (by decide) rfl (by decide)
  refine lv_bipush (v := 12) hx hb dX11_isClaim_7 (by decide) ?_
  refine ht_iald (n := 392) (q := 0) hx hb hK hP hs t_2 (by decide) rfl rfl ⟨by decide, by decide⟩ dX11_isClaim_9 ?_
  refine lv_topi (fun zi_3 ezi_3 => ?_)
  have la_4 : zi_3.toInt = zA (zI (zR zy 0)) (12) := (congrArg Int32.toInt (show zI (zR zy 0) (12 : Int32).toNatClampNeg = zi_3 from ezi_3.symm).symm).trans (congrArg (zA (zI (zR zy 0))) (show (12 : Int32).toInt = 12 from by decide))
  have tz_5 : 0 ≤ zi_3.toInt ∧ zi_3.toInt ≤ 4 := by rw [← (show zI (zR zy 0) (12 : Int32).toNatClampNeg = zi_3 from ezi_3.symm)]; exact ZI.g12 hz (by decide) (by decide)
  refine lv_iconst (v := 1) hx hb dX11_isClaim_10 (by decide) ?_
  refine lv_isub hx hb dX11_isClaim_11 ?_
  refine lv_topi (fun zi_6 ezi_6 => ?_)
  have tzi_6 : zi_6.toInt = zi_3.toInt - (1 : Int) := by rw [ezi_6]; exact tisub (rfl) (show (1 : Int32).toInt = 1 by decide) (by omega) (by omega)
  refine lv_i2l (v := zi_6.toInt64) hx hb dX11_isClaim_12 rfl ?_
  refine lv_topl (fun zj_7 ezj_7 => ?_)
  have tzj_7 : zj_7.toInt = zi_6.toInt := by rw [ezj_7]; exact Int32.toInt_toInt64 _
  refine hj0_i (ws := (WL cy zL zT zR zI zJ)) (va_runS (As := [.long zj_1, .long 0, .long zj_7]) (rest := []) ⟨hx, hb, hml, hown, hts⟩ (c_X11_in l dC dI cy s.heap.size zj_1 0 zj_7 0 zj_7.toInt zj_1.toInt (by first | rfl | decide | omega | exact Int32.toInt_toInt64 _) (by first | rfl | decide | omega | exact Int32.toInt_toInt64 _) (by first | rfl | decide | omega | exact Int32.toInt_toInt64 _)) (va_cwS 3 hts gX11_isClaim_X11_in rfl rfl rfl (by decide +kernel) ⟨(Nat.le_of_ble_eq_true rfl), (Nat.le_of_ble_eq_true rfl)⟩) (PRE.s (hP.sub [] rfl) hK (hD.sub [] (by decide) rfl) hN) rfl rfl hl.1 rfl (lv_room (Nat.le_of_ble_eq_true rfl)) dX11_isClaim_13 ⟨(Nat.le_of_ble_eq_true rfl), (Nat.le_of_ble_eq_true rfl)⟩) hP hD hS hA (fun zi_8 u_10 H locs hw_9 hP hD hS => ?_)
  have hw_9 : zi_8 = if 0 ≤ zj_1.toInt ∧ zj_1.toInt ≤ zj_7.toInt then 1 else 0 := hw_9
  have b_zi_8 : 0 ≤ zi_8.toInt ∧ zi_8.toInt ≤ 1 := bz_b hw_9
  have i_11 := bz_or hw_9
  subst hQ
  exact W.zret (v := zi_8) hx hb hr (zb_n2 (by omega)) (fun t ht hW => ⟨⟨zi_8, (), rfl, ⟨(show 0 ≤ zi_8.toInt ∧ zi_8.toInt ≤ 1 from by omega), (show zi_8.toInt = 0 ∨ (0 ≤ zik.toInt ∧ zik.toInt ≤ 3) from by omega), (show zi_8.toInt = 0 ∨ zik.toInt < zA (zI (zR zy 0)) (12) from by omega)⟩, ⟨by rw [ht]; exact hP, va_K.moved hW.alike hK, hD⟩⟩, hS.F ht⟩) hS.2.2 dX11_isClaim_16
set_option maxHeartbeats 8000000 in
set_option maxRecDepth 100000 in
theorem t_X11_atomHolds (l : Launch) (dC : Nat → ClassId) (dI : Nat → Nat → Nat) (cy : Nat → ClassId) (sz : Nat) (zL : List Nat) (zT : Nat → Nat) (zR : Nat → Nat → Nat) (zI : Nat → Nat → Int32) (zJ : Nat → Nat → Int64) (zy : Nat) (zia : Int32) (zib : Int32) (hs : SKP zL zT zR) (hw : WT zT zR zI) (t_zy : zT zy = 18) (b_zia : 326 ≤ zia.toInt ∧ zia.toInt ≤ 376) (hz : ZI (zI (zR zy 0))) : Met l yX11_atomHolds wsX11_atomHolds ({ frames := 0, cells := 0, slots := 0, locals := 0 } : Room) (va_Pc [.ref zy, .int zia, .int zib] (PRE dC dI cy (WL cy zL zT zR zI zJ) sz)) (va_Qi (fun (r : Int32) (u : Unit) => (0 ≤ r.toInt ∧ r.toInt ≤ 1)) (fun u t => POST dC dI cy (va_A (WL cy zL zT zR zI zJ) sz) (WL cy zL zT zR zI zJ) t) (va_A (WL cy zL zT zR zI zJ) sz)) 0 0 (va_A (WL cy zL zT zR zI zJ) sz) := by
  refine Met.ofW (cc := cX11_atomHolds) (maxL := 3) (ret := (some .boolean)) (by decide) rfl ?_
  intro p e s m args below meth c s₁ B hml hv
  obtain ⟨rfl, hsz, hP, hK, hD0, hN⟩ := hv
  have hx := B.exec
  have hb := B.bytes
  have hr := B.returns
  have hts := atoms_spec (ws := wsX11_atomHolds) B.pre
  have hown : s.vm.findClass RX11 = some m.cls := findClass_of_methodNamed B.named
  have hlocks := B.notSynchronized
  subst hsz
  have hD := hD0.self (sz := s.heap.size)
  generalize hAe : va_A (WL cy zL zT zR zI zJ) s.heap.size = A at hD ⊢
  have hA : ∀ q : Nat, s.heap.size ≤ q → A q := fun q h => by rw [← hAe]; exact Or.inr h
  have hS : va_S A s.heap s.heap [] := va_S.rf
  have hP : va_P (dC, dI) vwCl (WL cy zL zT zR zI zJ) s.heap := hP
  have hl := lv_entry ([.ref zy, .int zia, .int zib] : List Value) (n := 3) (Nat.le_of_ble_eq_true rfl)
  rw [lg_entry_eq]
  generalize (lg_sl ([.ref zy, .int zia, .int zib] : List Value) ++ List.replicate (3 - (lg_sl ([.ref zy, .int zia, .int zib] : List Value)).length) Slot.unset).toArray = ls at hl ⊢
  have hl : lv_has ls 3 [(0, .ref zy), (1, .int zia), (2, .int zib)] := hl
  refine w_q (fun Q hQ => ?_)
  have h_zI : WM [] AL zT zR zI zI := WM.rf hw
  refine lv_iload_n hx hb dX11_atomHolds_0 rfl (lv_at hl 2 rfl) ?_
  refine lv_aload_n hx hb dX11_atomHolds_1 rfl (lv_at hl 0 rfl) ?_
  refine ht_getr (C := RX11) (T := TX11) (N := 28) hx hb hts (by decide +kernel) hown hK hP hs t_zy (by decide) rfl rfl 0 (by decide) (hts (.fieldLink RX11 7 "DripStoneModel" "z" "[I") (by decide +kernel)) (fun _ h9 => h9) rfl dX11_atomHolds_2 ?_
  have t_1 : zT (zR zy 0) = 100 := sk_f hs t_zy (by decide) rfl (by decide)
  refine lv_iload_n hx hb dX11_atomHolds_5 rfl (lv_at hl 1 rfl) ?_
  refine lv_iconst (v := 5) hx hb dX11_atomHolds_6 (by decide) ?_
  refine lv_iadd hx hb dX11_atomHolds_7 ?_
  refine lv_topi (fun zi_2 ezi_2 => ?_)
  have tzi_2 : zi_2.toInt = zia.toInt + (5 : Int) := by rw [ezi_2]; exact tiadd (rfl) (show (5 : Int32).toInt = 5 by decide) (by omega) (by omega)
  refine ht_iald (n := 392) (q := 0) hx hb hK hP hs t_1 (by decide) rfl rfl ⟨by omega, by omega⟩ dX11_atomHolds_8 ?_
  refine lv_topi (fun zi_3 ezi_3 => ?_)
  have la_4 : zi_3.toInt = zA (zI (zR zy 0)) (5 + zia.toInt) := (congrArg Int32.toInt (show zI (zR zy 0) zi_2.toNatClampNeg = zi_3 from ezi_3.symm).symm).trans (congrArg (zA (zI (zR zy 0))) (show zi_2.toInt = 5 + zia.toInt from by omega))
  have jn_8 : ∀ (zi_7 : Int32) (H : Heap) (locs : List Loc) (ls : Array Slot), (0 ≤ zi_7.toInt ∧ zi_7.toInt ≤ 1) → (ZI (zI (zR zy 0))) → va_P (dC, dI) vwCl (WL cy zL zT zR zI zJ) H → va_D A (WL cy zL zT zR zI zJ) → va_S A s.heap H locs → lv_has ls 3 [(0, .ref zy), (1, .int zia), (2, .int zib)] → W p l e ({ frames := 0, cells := 0, slots := 0, locals := 0 } : Room) s m ([.ref zy, .int zia, .int zib] : List Value).toArray below meth c H locs 0 0 Q (F0 m 17 ls [.int zi_7]) := by
    intro zi_7 H locs ls b_zi_7 e_jn_8_0 hP hD hS hl
    refine lv_aload_n hx hb dX11_atomHolds_17 rfl (lv_at hl 0 rfl) ?_
    refine ht_getr (C := RX11) (T := TX11) (N := 28) hx hb hts (by decide +kernel) hown hK hP hs t_zy (by decide) rfl rfl 0 (by decide) (hts (.fieldLink RX11 7 "DripStoneModel" "z" "[I") (by decide +kernel)) (fun _ h9 => h9) rfl dX11_atomHolds_18 ?_
    refine lv_iload_n hx hb dX11_atomHolds_21 rfl (lv_at hl 1 rfl) ?_
    refine ht_iald (n := 392) (q := 0) hx hb hK hP hs t_1 (by decide) rfl rfl ⟨by omega, by omega⟩ dX11_atomHolds_22 ?_
    refine lv_topi (fun zi_9 ezi_9 => ?_)
    have la_10 : zi_9.toInt = zA (zI (zR zy 0)) (zia.toInt) := (congrArg Int32.toInt (show zI (zR zy 0) zia.toNatClampNeg = zi_9 from ezi_9.symm).symm).trans (congrArg (zA (zI (zR zy 0))) (show zia.toInt = zia.toInt from by omega))
    have jn_14 : ∀ (zi_13 : Int32) (H : Heap) (locs : List Loc) (ls : Array Slot), (0 ≤ zi_13.toInt ∧ zi_13.toInt ≤ 1) → (ZI (zI (zR zy 0))) → va_P (dC, dI) vwCl (WL cy zL zT zR zI zJ) H → va_D A (WL cy zL zT zR zI zJ) → va_S A s.heap H locs → lv_has ls 3 [(0, .ref zy), (1, .int zia), (2, .int zib)] → W p l e ({ frames := 0, cells := 0, slots := 0, locals := 0 } : Room) s m ([.ref zy, .int zia, .int zib] : List Value).toArray below meth c H locs 0 0 Q (F0 m 31 ls [.int zi_13, .int zi_7]) := by
      intro zi_13 H locs ls b_zi_13 e_jn_14_0 hP hD hS hl
      refine lv_icmp_ne (tgt := 38) hx hb dX11_atomHolds_31 (by decide) (fun c_15 => ?_) (fun c_15 => ?_)
      · have f_16 : zi_7.toInt ≠ zi_13.toInt := ic_ne (rfl) (rfl) c_15
        refine lv_iconst (v := 0) hx hb dX11_atomHolds_38 (by decide) ?_
        subst hQ
        have qc_0 : (0 : Int32).toInt = 0 := by decide
        exact W.zret (v := (0 : Int32)) hx hb hr rfl (fun t ht hW => ⟨⟨(0 : Int32), (), rfl, (show 0 ≤ (0 : Int32).toInt ∧ (0 : Int32).toInt ≤ 1 from by omega), ⟨by rw [ht]; exact hP, va_K.moved hW.alike hK, hD⟩⟩, hS.F ht⟩) hS.2.2 dX11_atomHolds_39
      · have f_16 : ¬ (zi_7.toInt ≠ zi_13.toInt) := ic_nne (rfl) (rfl) c_15
        refine lv_iconst (v := 1) hx hb dX11_atomHolds_34 (by decide) ?_
        refine lv_goto (tgt := 39) hx hb dX11_atomHolds_35 (by decide) ?_
        subst hQ
        have qc_1 : (1 : Int32).toInt = 1 := by decide
        exact W.zret (v := (1 : Int32)) hx hb hr rfl (fun t ht hW => ⟨⟨(1 : Int32), (), rfl, (show 0 ≤ (1 : Int32).toInt ∧ (1 : Int32).toInt ≤ 1 from by omega), ⟨by rw [ht]; exact hP, va_K.moved hW.alike hK, hD⟩⟩, hS.F ht⟩) hS.2.2 dX11_atomHolds_39
    refine lv_if_ne (tgt := 30) hx hb dX11_atomHolds_23 (by decide) (fun c_17 => ?_) (fun c_17 => ?_)
    · have f_18 : zi_9.toInt ≠ 0 := ic_ne (rfl) (by decide) c_17
      refine lv_iconst (v := 0) hx hb dX11_atomHolds_30 (by decide) ?_
      exact jn_14 (0 : Int32) _ _ _ (by decide) e_jn_8_0 hP hD hS (lv_sub hl [0, 1, 2] rfl)
    · have f_18 : ¬ (zi_9.toInt ≠ 0) := ic_nne (rfl) (by decide) c_17
      refine lv_iconst (v := 1) hx hb dX11_atomHolds_26 (by decide) ?_
      refine lv_goto (tgt := 31) hx hb dX11_atomHolds_27 (by decide) ?_
      exact jn_14 (1 : Int32) _ _ _ (by decide) e_jn_8_0 hP hD hS (lv_sub hl [0, 1, 2] rfl)
  refine lv_icmp_lt (tgt := 16) hx hb dX11_atomHolds_9 (by decide) (fun c_19 => ?_) (fun c_19 => ?_)
  · have f_20 : zib.toInt < zi_3.toInt := ic_lt (rfl) (rfl) c_19
    refine lv_iconst (v := 0) hx hb dX11_atomHolds_16 (by decide) ?_
    exact jn_8 (0 : Int32) _ _ _ (by decide) hz hP hD hS (lv_sub hl [0, 1, 2] rfl)
  · have f_20 : ¬ (zib.toInt < zi_3.toInt) := ic_nlt (rfl) (rfl) c_19
    refine lv_iconst (v := 1) hx hb dX11_atomHolds_12 (by decide) ?_
    refine lv_goto (tgt := 17) hx hb dX11_atomHolds_13 (by decide) ?_
    exact jn_8 (1 : Int32) _ _ _ (by decide) hz hP hD hS (lv_sub hl [0, 1, 2] rfl)
set_option maxHeartbeats 8000000 in
set_option maxRecDepth 100000 in
theorem t_X11_claimHolds (l : Launch) (dC : Nat → ClassId) (dI : Nat → Nat → Nat) (cy : Nat → ClassId) (sz : Nat) (zL : List Nat) (zT : Nat → Nat) (zR : Nat → Nat → Nat) (zI : Nat → Nat → Int32) (zJ : Nat → Nat → Int64) (zy : Nat) (zik : Int32) (zia : Int32) (zib : Int32) (hs : SKP zL zT zR) (hw : WT zT zR zI) (t_zy : zT zy = 18) (b_zik : 0 ≤ zik.toInt ∧ zik.toInt ≤ 3) (hz : ZI (zI (zR zy 0))) : Met l yX11_claimHolds wsX11_claimHolds ({ frames := 1, cells := 0, slots := 0, locals := 22 } : Room) (va_Pc [.ref zy, .int zik, .int zia, .int zib] (PRE dC dI cy (WL cy zL zT zR zI zJ) sz)) (va_Qi (fun (r : Int32) (u : Unit) => (0 ≤ r.toInt ∧ r.toInt ≤ 1)) (fun u t => POST dC dI cy (va_A (WL cy zL zT zR zI zJ) sz) (WL cy zL zT zR zI zJ) t) (va_A (WL cy zL zT zR zI zJ) sz)) 0 0 (va_A (WL cy zL zT zR zI zJ) sz) := by
  refine Met.ofW (cc := cX11_claimHolds) (maxL := 7) (ret := (some .boolean)) (by decide) rfl ?_
  intro p e s m args below meth c s₁ B hml hv
  obtain ⟨rfl, hsz, hP, hK, hD0, hN⟩ := hv
  have hx := B.exec
  have hb := B.bytes
  have hr := B.returns
  have hts := atoms_spec (ws := wsX11_claimHolds) B.pre
  have hown : s.vm.findClass RX11 = some m.cls := findClass_of_methodNamed B.named
  have hlocks := B.notSynchronized
  subst hsz
  have hD := hD0.self (sz := s.heap.size)
  generalize hAe : va_A (WL cy zL zT zR zI zJ) s.heap.size = A at hD ⊢
  have hA : ∀ q : Nat, s.heap.size ≤ q → A q := fun q h => by rw [← hAe]; exact Or.inr h
  have hS : va_S A s.heap s.heap [] := va_S.rf
  have hP : va_P (dC, dI) vwCl (WL cy zL zT zR zI zJ) s.heap := hP
  have hl := lv_entry ([.ref zy, .int zik, .int zia, .int zib] : List Value) (n := 7) (Nat.le_of_ble_eq_true rfl)
  rw [lg_entry_eq]
  generalize (lg_sl ([.ref zy, .int zik, .int zia, .int zib] : List Value) ++ List.replicate (7 - (lg_sl ([.ref zy, .int zik, .int zia, .int zib] : List Value)).length) Slot.unset).toArray = ls at hl ⊢
  have hl : lv_has ls 7 [(0, .ref zy), (1, .int zik), (2, .int zia), (3, .int zib)] := hl
  refine w_q (fun Q hQ => ?_)
  have h_zI : WM [] AL zT zR zI zI := WM.rf hw
  refine lv_sipush (v := 326) hx hb dX11_claimHolds_0 (by decide) ?_
  refine lv_bipush (v := 14) hx hb dX11_claimHolds_3 (by decide) ?_
  refine lv_iload_n hx hb dX11_claimHolds_5 rfl (lv_at hl 1 rfl) ?_
  refine lv_imul hx hb dX11_claimHolds_6 ?_
  refine lv_topi (fun zi_1 ezi_1 => ?_)
  have tzi_1 : zi_1.toInt = (14 : Int) * zik.toInt := by rw [ezi_1]; exact timul (show (14 : Int32).toInt = 14 by decide) (rfl) (by omega) (by omega)
  refine lv_iadd hx hb dX11_claimHolds_7 ?_
  refine lv_topi (fun zi_2 ezi_2 => ?_)
  have tzi_2 : zi_2.toInt = (326 : Int) + zi_1.toInt := by rw [ezi_2]; exact tiadd (show (326 : Int32).toInt = 326 by decide) (rfl) (by omega) (by omega)
  refine lv_istore (lv' := [(4, .int zi_2), (0, .ref zy), (1, .int zik), (2, .int zia), (3, .int zib)]) hx hb dX11_claimHolds_8 hl (by decide) rfl (fun ls hl => ?_)
  refine lv_aload_n hx hb dX11_claimHolds_10 rfl (lv_at hl 1 rfl) ?_
  refine lv_iload hx hb dX11_claimHolds_11 (lv_at hl 0 rfl) ?_
  refine lv_iconst (v := 2) hx hb dX11_claimHolds_13 (by decide) ?_
  refine lv_iadd hx hb dX11_claimHolds_14 ?_
  refine lv_topi (fun zi_3 ezi_3 => ?_)
  have tzi_3 : zi_3.toInt = zi_2.toInt + (2 : Int) := by rw [ezi_3]; exact tiadd (rfl) (show (2 : Int32).toInt = 2 by decide) (by omega) (by omega)
  refine lv_iload_n hx hb dX11_claimHolds_15 rfl (lv_at hl 3 rfl) ?_
  refine hj_i (ws := (WL cy zL zT zR zI zJ)) (w1 := fun (u : Unit) => (WL cy zL zT zR zI zJ)) (va_runV (As := [.int zi_3, .int zia]) (rest := []) ⟨hx, hb, hml, hown, hts⟩ (t_X11_atomHolds l dC dI cy s.heap.size zL zT zR zI zJ zy zi_3 zia hs h_zI.1 t_zy (by omega) hz) (cwV 2 hts gX11_claimHolds_X11_atomHolds rfl rfl rfl (by decide +kernel) ⟨(Nat.le_of_ble_eq_true rfl), (Nat.le_of_ble_eq_true rfl)⟩) (PRE.v hP hK hD hN (ht_recv hK hP hs t_zy (by decide) rfl rfl)) rfl rfl hl.1 rfl (lv_room (Nat.le_of_ble_eq_true rfl)) dX11_claimHolds_16 ⟨(Nat.le_of_ble_eq_true rfl), (Nat.le_of_ble_eq_true rfl)⟩) hP hD hS hA (fun zi_4 u_6 H locs hw_5 hP hD hS => ?_)
  have b_zi_4 : 0 ≤ zi_4.toInt ∧ zi_4.toInt ≤ 1 := hw_5
  refine lv_istore (lv' := [(5, .int zi_4), (4, .int zi_2), (0, .ref zy), (1, .int zik), (2, .int zia), (3, .int zib)]) hx hb dX11_claimHolds_19 hl (by decide) rfl (fun ls hl => ?_)
  refine lv_aload_n hx hb dX11_claimHolds_21 rfl (lv_at hl 2 rfl) ?_
  refine ht_getr (C := RX11) (T := TX11) (N := 28) hx hb hts (by decide +kernel) hown hK hP hs t_zy (by decide) rfl rfl 0 (by decide) (hts (.fieldLink RX11 7 "DripStoneModel" "z" "[I") (by decide +kernel)) (fun _ h9 => h9) rfl dX11_claimHolds_22 ?_
  have t_7 : zT (zR zy 0) = 100 := sk_f hs t_zy (by decide) rfl (by decide)
  refine lv_iload hx hb dX11_claimHolds_25 (lv_at hl 1 rfl) ?_
  refine ht_iald (n := 392) (q := 0) hx hb hK hP hs t_7 (by decide) rfl rfl ⟨by omega, by omega⟩ dX11_claimHolds_27 ?_
  refine lv_topi (fun zi_8 ezi_8 => ?_)
  have la_9 : zi_8.toInt = zA (zI (zR zy 0)) (326 + 14 * zik.toInt) := (congrArg Int32.toInt (show zI (zR zy 0) zi_2.toNatClampNeg = zi_8 from ezi_8.symm).symm).trans (congrArg (zA (zI (zR zy 0))) (show zi_2.toInt = 326 + 14 * zik.toInt from by omega))
  refine lv_iconst (v := 1) hx hb dX11_claimHolds_28 (by decide) ?_
  refine lv_icmp_ne (tgt := 35) hx hb dX11_claimHolds_29 (by decide) (fun c_10 => ?_) (fun c_10 => ?_)
  · have f_11 : zi_8.toInt ≠ (1 : Int) := ic_ne (rfl) (show (1 : Int32).toInt = 1 by decide) c_10
    refine lv_aload_n hx hb dX11_claimHolds_35 rfl (lv_at hl 2 rfl) ?_
    refine lv_iload hx hb dX11_claimHolds_36 (lv_at hl 1 rfl) ?_
    refine lv_bipush (v := 8) hx hb dX11_claimHolds_38 (by decide) ?_
    refine lv_iadd hx hb dX11_claimHolds_40 ?_
    refine lv_topi (fun zi_12 ezi_12 => ?_)
    have tzi_12 : zi_12.toInt = zi_2.toInt + (8 : Int) := by rw [ezi_12]; exact tiadd (rfl) (show (8 : Int32).toInt = 8 by decide) (by omega) (by omega)
    refine lv_iload_n hx hb dX11_claimHolds_41 rfl (lv_at hl 5 rfl) ?_
    refine hj_i (ws := (WL cy zL zT zR zI zJ)) (w1 := fun (u : Unit) => (WL cy zL zT zR zI zJ)) (va_runV (As := [.int zi_12, .int zib]) (rest := []) ⟨hx, hb, hml, hown, hts⟩ (t_X11_atomHolds l dC dI cy H.size zL zT zR zI zJ zy zi_12 zib hs h_zI.1 t_zy (by omega) hz) (cwV 2 hts gX11_claimHolds_X11_atomHolds rfl rfl rfl (by decide +kernel) ⟨(Nat.le_of_ble_eq_true rfl), (Nat.le_of_ble_eq_true rfl)⟩) (PRE.v hP hK hD hN (ht_recv hK hP hs t_zy (by decide) rfl rfl)) rfl rfl hl.1 rfl (lv_room (Nat.le_of_ble_eq_true rfl)) dX11_claimHolds_42 ⟨(Nat.le_of_ble_eq_true rfl), (Nat.le_of_ble_eq_true rfl)⟩) hP hD hS hA (fun zi_13 u_15 H locs hw_14 hP hD hS => ?_)
    have b_zi_13 : 0 ≤ zi_13.toInt ∧ zi_13.toInt ≤ 1 := hw_14
    refine lv_istore (lv' := [(6, .int zi_13), (5, .int zi_4), (4, .int zi_2), (0, .ref zy), (1, .int zik), (2, .int zia), (3, .int zib)]) hx hb dX11_claimHolds_45 hl (by decide) rfl (fun ls hl => ?_)
    refine lv_aload_n hx hb dX11_claimHolds_47 rfl (lv_at hl 3 rfl) ?_
    refine ht_getr (C := RX11) (T := TX11) (N := 28) hx hb hts (by decide +kernel) hown hK hP hs t_zy (by decide) rfl rfl 0 (by decide) (hts (.fieldLink RX11 7 "DripStoneModel" "z" "[I") (by decide +kernel)) (fun _ h9 => h9) rfl dX11_claimHolds_48 ?_
    refine lv_iload hx hb dX11_claimHolds_51 (lv_at hl 2 rfl) ?_
    refine lv_iconst (v := 1) hx hb dX11_claimHolds_53 (by decide) ?_
    refine lv_iadd hx hb dX11_claimHolds_54 ?_
    refine lv_topi (fun zi_16 ezi_16 => ?_)
    have tzi_16 : zi_16.toInt = zi_2.toInt + (1 : Int) := by rw [ezi_16]; exact tiadd (rfl) (show (1 : Int32).toInt = 1 by decide) (by omega) (by omega)
    refine ht_iald (n := 392) (q := 0) hx hb hK hP hs t_7 (by decide) rfl rfl ⟨by omega, by omega⟩ dX11_claimHolds_55 ?_
    refine lv_topi (fun zi_17 ezi_17 => ?_)
    have la_18 : zi_17.toInt = zA (zI (zR zy 0)) (327 + 14 * zik.toInt) := (congrArg Int32.toInt (show zI (zR zy 0) zi_16.toNatClampNeg = zi_17 from ezi_17.symm).symm).trans (congrArg (zA (zI (zR zy 0))) (show zi_16.toInt = 327 + 14 * zik.toInt from by omega))
    refine lv_iconst (v := 1) hx hb dX11_claimHolds_56 (by decide) ?_
    refine lv_icmp_ne (tgt := 78) hx hb dX11_claimHolds_57 (by decide) (fun c_19 => ?_) (fun c_19 => ?_)
    · have f_20 : zi_17.toInt ≠ (1 : Int) := ic_ne (rfl) (show (1 : Int32).toInt = 1 by decide) c_19
      refine lv_iload hx hb dX11_claimHolds_78 (lv_at hl 1 rfl) ?_
      refine lv_if_ne (tgt := 88) hx hb dX11_claimHolds_80 (by decide) (fun c_21 => ?_) (fun c_21 => ?_)
      · have f_22 : zi_4.toInt ≠ 0 := ic_ne (rfl) (by decide) c_21
        refine lv_iconst (v := 1) hx hb dX11_claimHolds_88 (by decide) ?_
        refine lv_goto (tgt := 93) hx hb dX11_claimHolds_89 (by decide) ?_
        subst hQ
        have qc_1 : (1 : Int32).toInt = 1 := by decide
        exact W.zret (v := (1 : Int32)) hx hb hr rfl (fun t ht hW => ⟨⟨(1 : Int32), (), rfl, (show 0 ≤ (1 : Int32).toInt ∧ (1 : Int32).toInt ≤ 1 from by omega), ⟨by rw [ht]; exact hP, va_K.moved hW.alike hK, hD⟩⟩, hS.F ht⟩) hS.2.2 dX11_claimHolds_93
      · have f_22 : ¬ (zi_4.toInt ≠ 0) := ic_nne (rfl) (by decide) c_21
        refine lv_iload hx hb dX11_claimHolds_83 (lv_at hl 0 rfl) ?_
        refine lv_if_eq (tgt := 92) hx hb dX11_claimHolds_85 (by decide) (fun c_23 => ?_) (fun c_23 => ?_)
        · have f_24 : zi_13.toInt = 0 := ic_eq (rfl) (by decide) c_23
          refine lv_iconst (v := 0) hx hb dX11_claimHolds_92 (by decide) ?_
          subst hQ
          have qc_0 : (0 : Int32).toInt = 0 := by decide
          exact W.zret (v := (0 : Int32)) hx hb hr rfl (fun t ht hW => ⟨⟨(0 : Int32), (), rfl, (show 0 ≤ (0 : Int32).toInt ∧ (0 : Int32).toInt ≤ 1 from by omega), ⟨by rw [ht]; exact hP, va_K.moved hW.alike hK, hD⟩⟩, hS.F ht⟩) hS.2.2 dX11_claimHolds_93
        · have f_24 : ¬ (zi_13.toInt = 0) := ic_neq (rfl) (by decide) c_23
          refine lv_iconst (v := 1) hx hb dX11_claimHolds_88 (by decide) ?_
          refine lv_goto (tgt := 93) hx hb dX11_claimHolds_89 (by decide) ?_
          subst hQ
          have qc_1 : (1 : Int32).toInt = 1 := by decide
          exact W.zret (v := (1 : Int32)) hx hb hr rfl (fun t ht hW => ⟨⟨(1 : Int32), (), rfl, (show 0 ≤ (1 : Int32).toInt ∧ (1 : Int32).toInt ≤ 1 from by omega), ⟨by rw [ht]; exact hP, va_K.moved hW.alike hK, hD⟩⟩, hS.F ht⟩) hS.2.2 dX11_claimHolds_93
    · have f_20 : ¬ (zi_17.toInt ≠ (1 : Int)) := ic_nne (rfl) (show (1 : Int32).toInt = 1 by decide) c_19
      refine lv_iload hx hb dX11_claimHolds_60 (lv_at hl 1 rfl) ?_
      refine lv_if_eq (tgt := 74) hx hb dX11_claimHolds_62 (by decide) (fun c_25 => ?_) (fun c_25 => ?_)
      · have f_26 : zi_4.toInt = 0 := ic_eq (rfl) (by decide) c_25
        refine lv_iconst (v := 0) hx hb dX11_claimHolds_74 (by decide) ?_
        refine lv_goto (tgt := 93) hx hb dX11_claimHolds_75 (by decide) ?_
        subst hQ
        have qc_0 : (0 : Int32).toInt = 0 := by decide
        exact W.zret (v := (0 : Int32)) hx hb hr rfl (fun t ht hW => ⟨⟨(0 : Int32), (), rfl, (show 0 ≤ (0 : Int32).toInt ∧ (0 : Int32).toInt ≤ 1 from by omega), ⟨by rw [ht]; exact hP, va_K.moved hW.alike hK, hD⟩⟩, hS.F ht⟩) hS.2.2 dX11_claimHolds_93
      · have f_26 : ¬ (zi_4.toInt = 0) := ic_neq (rfl) (by decide) c_25
        refine lv_iload hx hb dX11_claimHolds_65 (lv_at hl 0 rfl) ?_
        refine lv_if_eq (tgt := 74) hx hb dX11_claimHolds_67 (by decide) (fun c_27 => ?_) (fun c_27 => ?_)
        · have f_28 : zi_13.toInt = 0 := ic_eq (rfl) (by decide) c_27
          refine lv_iconst (v := 0) hx hb dX11_claimHolds_74 (by decide) ?_
          refine lv_goto (tgt := 93) hx hb dX11_claimHolds_75 (by decide) ?_
          subst hQ
          have qc_0 : (0 : Int32).toInt = 0 := by decide
          exact W.zret (v := (0 : Int32)) hx hb hr rfl (fun t ht hW => ⟨⟨(0 : Int32), (), rfl, (show 0 ≤ (0 : Int32).toInt ∧ (0 : Int32).toInt ≤ 1 from by omega), ⟨by rw [ht]; exact hP, va_K.moved hW.alike hK, hD⟩⟩, hS.F ht⟩) hS.2.2 dX11_claimHolds_93
        · have f_28 : ¬ (zi_13.toInt = 0) := ic_neq (rfl) (by decide) c_27
          refine lv_iconst (v := 1) hx hb dX11_claimHolds_70 (by decide) ?_
          refine lv_goto (tgt := 93) hx hb dX11_claimHolds_71 (by decide) ?_
          subst hQ
          have qc_1 : (1 : Int32).toInt = 1 := by decide
          exact W.zret (v := (1 : Int32)) hx hb hr rfl (fun t ht hW => ⟨⟨(1 : Int32), (), rfl, (show 0 ≤ (1 : Int32).toInt ∧ (1 : Int32).toInt ≤ 1 from by omega), ⟨by rw [ht]; exact hP, va_K.moved hW.alike hK, hD⟩⟩, hS.F ht⟩) hS.2.2 dX11_claimHolds_93
  · have f_11 : ¬ (zi_8.toInt ≠ (1 : Int)) := ic_nne (rfl) (show (1 : Int32).toInt = 1 by decide) c_10
    refine lv_iload hx hb dX11_claimHolds_32 (lv_at hl 0 rfl) ?_
    subst hQ
    exact W.zret (v := zi_4) hx hb hr (zb_n2 (by omega)) (fun t ht hW => ⟨⟨zi_4, (), rfl, (show 0 ≤ zi_4.toInt ∧ zi_4.toInt ≤ 1 from by omega), ⟨by rw [ht]; exact hP, va_K.moved hW.alike hK, hD⟩⟩, hS.F ht⟩) hS.2.2 dX11_claimHolds_34
set_option maxHeartbeats 8000000 in
set_option maxRecDepth 100000 in
theorem t_X11_countsThing (l : Launch) (dC : Nat → ClassId) (dI : Nat → Nat → Nat) (cy : Nat → ClassId) (sz : Nat) (zL : List Nat) (zT : Nat → Nat) (zR : Nat → Nat → Nat) (zI : Nat → Nat → Int32) (zJ : Nat → Nat → Int64) (zy : Nat) (zia : Int32) (zic : Int32) (zit : Int32) (ziq : Int32) (zis : Int32) (hs : SKP zL zT zR) (hw : WT zT zR zI) (t_zy : zT zy = 18) (b_zia : 326 ≤ zia.toInt ∧ zia.toInt ≤ 376) (b_zic : 0 ≤ zic.toInt ∧ zic.toInt ≤ 1) (b_zit : 0 ≤ zit.toInt ∧ zit.toInt ≤ 11) (hz : ZI (zI (zR zy 0))) : Met l yX11_countsThing wsX11_countsThing ({ frames := 1, cells := 0, slots := 0, locals := 25 } : Room) (va_Pc [.ref zy, .int zia, .int zic, .int zit, .int ziq, .int zis] (PRE dC dI cy (WL cy zL zT zR zI zJ) sz)) (va_Qi (fun (r : Int32) (u : Unit) => (0 ≤ r.toInt ∧ r.toInt ≤ 1)) (fun u t => POST dC dI cy (va_A (WL cy zL zT zR zI zJ) sz) (WL cy zL zT zR zI zJ) t) (va_A (WL cy zL zT zR zI zJ) sz)) 0 0 (va_A (WL cy zL zT zR zI zJ) sz) := by
  refine Met.ofW (cc := cX11_countsThing) (maxL := 8) (ret := (some .boolean)) (by decide) rfl ?_
  intro p e s m args below meth c s₁ B hml hv
  obtain ⟨rfl, hsz, hP, hK, hD0, hN⟩ := hv
  have hx := B.exec
  have hb := B.bytes
  have hr := B.returns
  have hts := atoms_spec (ws := wsX11_countsThing) B.pre
  have hown : s.vm.findClass RX11 = some m.cls := findClass_of_methodNamed B.named
  have hlocks := B.notSynchronized
  subst hsz
  have hD := hD0.self (sz := s.heap.size)
  generalize hAe : va_A (WL cy zL zT zR zI zJ) s.heap.size = A at hD ⊢
  have hA : ∀ q : Nat, s.heap.size ≤ q → A q := fun q h => by rw [← hAe]; exact Or.inr h
  have hS : va_S A s.heap s.heap [] := va_S.rf
  have hP : va_P (dC, dI) vwCl (WL cy zL zT zR zI zJ) s.heap := hP
  have hl := lv_entry ([.ref zy, .int zia, .int zic, .int zit, .int ziq, .int zis] : List Value) (n := 8) (Nat.le_of_ble_eq_true rfl)
  rw [lg_entry_eq]
  generalize (lg_sl ([.ref zy, .int zia, .int zic, .int zit, .int ziq, .int zis] : List Value) ++ List.replicate (8 - (lg_sl ([.ref zy, .int zia, .int zic, .int zit, .int ziq, .int zis] : List Value)).length) Slot.unset).toArray = ls at hl ⊢
  have hl : lv_has ls 8 [(0, .ref zy), (1, .int zia), (2, .int zic), (3, .int zit), (4, .int ziq), (5, .int zis)] := hl
  refine w_q (fun Q hQ => ?_)
  have h_zI : WM [] AL zT zR zI zI := WM.rf hw
  refine lv_aload_n hx hb dX11_countsThing_0 rfl (lv_at hl 0 rfl) ?_
  refine ht_getr (C := RX11) (T := TX11) (N := 28) hx hb hts (by decide +kernel) hown hK hP hs t_zy (by decide) rfl rfl 0 (by decide) (hts (.fieldLink RX11 7 "DripStoneModel" "z" "[I") (by decide +kernel)) (fun _ h9 => h9) rfl dX11_countsThing_1 ?_
  have t_1 : zT (zR zy 0) = 100 := sk_f hs t_zy (by decide) rfl (by decide)
  refine lv_iload_n hx hb dX11_countsThing_4 rfl (lv_at hl 1 rfl) ?_
  refine lv_iconst (v := 1) hx hb dX11_countsThing_5 (by decide) ?_
  refine lv_iadd hx hb dX11_countsThing_6 ?_
  refine lv_topi (fun zi_2 ezi_2 => ?_)
  have tzi_2 : zi_2.toInt = zia.toInt + (1 : Int) := by rw [ezi_2]; exact tiadd (rfl) (show (1 : Int32).toInt = 1 by decide) (by omega) (by omega)
  refine ht_iald (n := 392) (q := 0) hx hb hK hP hs t_1 (by decide) rfl rfl ⟨by omega, by omega⟩ dX11_countsThing_7 ?_
  refine lv_topi (fun zi_3 ezi_3 => ?_)
  have la_4 : zi_3.toInt = zA (zI (zR zy 0)) (1 + zia.toInt) := (congrArg Int32.toInt (show zI (zR zy 0) zi_2.toNatClampNeg = zi_3 from ezi_3.symm).symm).trans (congrArg (zA (zI (zR zy 0))) (show zi_2.toInt = 1 + zia.toInt from by omega))
  refine lv_istore (lv' := [(6, .int zi_3), (0, .ref zy), (1, .int zia), (2, .int zic), (3, .int zit), (4, .int ziq), (5, .int zis)]) hx hb dX11_countsThing_8 hl (by decide) rfl (fun ls hl => ?_)
  refine lv_iload hx hb dX11_countsThing_10 (lv_at hl 0 rfl) ?_
  have jn_60 : ∀  (H : Heap) (locs : List Loc) (ls : Array Slot), (ZI (zI (zR zy 0))) → va_P (dC, dI) vwCl (WL cy zL zT zR zI zJ) H → va_D A (WL cy zL zT zR zI zJ) → va_S A s.heap H locs → lv_has ls 8 [(0, .ref zy), (1, .int zia), (2, .int zic), (3, .int zit), (4, .int ziq), (5, .int zis), (6, .int zi_3)] → W p l e ({ frames := 1, cells := 0, slots := 0, locals := 25 } : Room) s m ([.ref zy, .int zia, .int zic, .int zit, .int ziq, .int zis] : List Value).toArray below meth c H locs 0 0 Q (F0 m 67 ls []) := by
    intro  H locs ls e_jn_60_0 hP hD hS hl
    refine lv_iconst (v := 1) hx hb dX11_countsThing_67 (by decide) ?_
    refine lv_goto (tgt := 72) hx hb dX11_countsThing_68 (by decide) ?_
    refine lv_istore (lv' := [(7, .int 1), (0, .ref zy), (1, .int zia), (2, .int zic), (3, .int zit), (4, .int ziq), (5, .int zis), (6, .int zi_3)]) hx hb dX11_countsThing_72 hl (by decide) rfl (fun ls hl => ?_)
    refine lv_iload hx hb dX11_countsThing_74 (lv_at hl 0 rfl) ?_
    refine lv_if_eq (tgt := 116) hx hb dX11_countsThing_76 (by decide) (fun c_61 => absurd c_61 (by decide)) (fun c_61 => ?_)
    refine lv_iload hx hb dX11_countsThing_79 (lv_at hl 5 rfl) ?_
    refine lv_i2l (v := ziq.toInt64) hx hb dX11_countsThing_81 rfl ?_
    refine lv_topl (fun zj_62 ezj_62 => ?_)
    have tzj_62 : zj_62.toInt = ziq.toInt := by rw [ezj_62]; exact Int32.toInt_toInt64 _
    refine lv_aload_n hx hb dX11_countsThing_82 rfl (lv_at hl 1 rfl) ?_
    refine ht_getr (C := RX11) (T := TX11) (N := 28) hx hb hts (by decide +kernel) hown hK hP hs t_zy (by decide) rfl rfl 0 (by decide) (hts (.fieldLink RX11 7 "DripStoneModel" "z" "[I") (by decide +kernel)) (fun _ h9 => h9) rfl dX11_countsThing_83 ?_
    refine lv_iload_n hx hb dX11_countsThing_86 rfl (lv_at hl 2 rfl) ?_
    refine lv_iconst (v := 3) hx hb dX11_countsThing_87 (by decide) ?_
    refine lv_iadd hx hb dX11_countsThing_88 ?_
    refine lv_topi (fun zi_63 ezi_63 => ?_)
    have tzi_63 : zi_63.toInt = zia.toInt + (3 : Int) := by rw [ezi_63]; exact tiadd (rfl) (show (3 : Int32).toInt = 3 by decide) (by omega) (by omega)
    refine ht_iald (n := 392) (q := 0) hx hb hK hP hs t_1 (by decide) rfl rfl ⟨by omega, by omega⟩ dX11_countsThing_89 ?_
    refine lv_topi (fun zi_64 ezi_64 => ?_)
    have la_65 : zi_64.toInt = zA (zI (zR zy 0)) (3 + zia.toInt) := (congrArg Int32.toInt (show zI (zR zy 0) zi_63.toNatClampNeg = zi_64 from ezi_64.symm).symm).trans (congrArg (zA (zI (zR zy 0))) (show zi_63.toInt = 3 + zia.toInt from by omega))
    refine lv_iload hx hb dX11_countsThing_90 (lv_at hl 6 rfl) ?_
    refine lv_iadd hx hb dX11_countsThing_92 ?_
    refine lv_topi (fun zi_66 ezi_66 => ?_)
    refine lv_i2l (v := zi_66.toInt64) hx hb dX11_countsThing_93 rfl ?_
    refine lv_topl (fun zj_67 ezj_67 => ?_)
    have tzj_67 : zj_67.toInt = zi_66.toInt := by rw [ezj_67]; exact Int32.toInt_toInt64 _
    refine lv_aload_n hx hb dX11_countsThing_94 rfl (lv_at hl 1 rfl) ?_
    refine ht_getr (C := RX11) (T := TX11) (N := 28) hx hb hts (by decide +kernel) hown hK hP hs t_zy (by decide) rfl rfl 0 (by decide) (hts (.fieldLink RX11 7 "DripStoneModel" "z" "[I") (by decide +kernel)) (fun _ h9 => h9) rfl dX11_countsThing_95 ?_
    refine lv_iload_n hx hb dX11_countsThing_98 rfl (lv_at hl 2 rfl) ?_
    refine lv_iconst (v := 4) hx hb dX11_countsThing_99 (by decide) ?_
    refine lv_iadd hx hb dX11_countsThing_100 ?_
    refine lv_topi (fun zi_68 ezi_68 => ?_)
    have tzi_68 : zi_68.toInt = zia.toInt + (4 : Int) := by rw [ezi_68]; exact tiadd (rfl) (show (4 : Int32).toInt = 4 by decide) (by omega) (by omega)
    refine ht_iald (n := 392) (q := 0) hx hb hK hP hs t_1 (by decide) rfl rfl ⟨by omega, by omega⟩ dX11_countsThing_101 ?_
    refine lv_topi (fun zi_69 ezi_69 => ?_)
    have la_70 : zi_69.toInt = zA (zI (zR zy 0)) (4 + zia.toInt) := (congrArg Int32.toInt (show zI (zR zy 0) zi_68.toNatClampNeg = zi_69 from ezi_69.symm).symm).trans (congrArg (zA (zI (zR zy 0))) (show zi_68.toInt = 4 + zia.toInt from by omega))
    refine lv_iload hx hb dX11_countsThing_102 (lv_at hl 6 rfl) ?_
    refine lv_iadd hx hb dX11_countsThing_104 ?_
    refine lv_topi (fun zi_71 ezi_71 => ?_)
    refine lv_i2l (v := zi_71.toInt64) hx hb dX11_countsThing_105 rfl ?_
    refine lv_topl (fun zj_72 ezj_72 => ?_)
    have tzj_72 : zj_72.toInt = zi_71.toInt := by rw [ezj_72]; exact Int32.toInt_toInt64 _
    refine hj0_i (ws := (WL cy zL zT zR zI zJ)) (va_runS (As := [.long zj_62, .long zj_67, .long zj_72]) (rest := []) ⟨hx, hb, hml, hown, hts⟩ (c_X11_in l dC dI cy H.size zj_62 zj_67 zj_72 zj_67.toInt zj_72.toInt zj_62.toInt (by first | rfl | decide | omega | exact Int32.toInt_toInt64 _) (by first | rfl | decide | omega | exact Int32.toInt_toInt64 _) (by first | rfl | decide | omega | exact Int32.toInt_toInt64 _)) (va_cwS 3 hts gX11_countsThing_X11_in rfl rfl rfl (by decide +kernel) ⟨(Nat.le_of_ble_eq_true rfl), (Nat.le_of_ble_eq_true rfl)⟩) (PRE.s (hP.sub [] rfl) hK (hD.sub [] (by decide) rfl) hN) rfl rfl hl.1 rfl (lv_room (Nat.le_of_ble_eq_true rfl)) dX11_countsThing_106 ⟨(Nat.le_of_ble_eq_true rfl), (Nat.le_of_ble_eq_true rfl)⟩) hP hD hS hA (fun zi_73 u_75 H locs hw_74 hP hD hS => ?_)
    have hw_74 : zi_73 = if zj_67.toInt ≤ zj_62.toInt ∧ zj_62.toInt ≤ zj_72.toInt then 1 else 0 := hw_74
    have b_zi_73 : 0 ≤ zi_73.toInt ∧ zi_73.toInt ≤ 1 := bz_b hw_74
    refine lv_if_eq (tgt := 116) hx hb dX11_countsThing_109 (by decide) (fun c_76 => ?_) (fun c_76 => ?_)
    · have f_77 : ¬ (zj_67.toInt ≤ zj_62.toInt ∧ zj_62.toInt ≤ zj_72.toInt) := bz_0 hw_74 c_76
      refine lv_iconst (v := 0) hx hb dX11_countsThing_116 (by decide) ?_
      subst hQ
      have qc_0 : (0 : Int32).toInt = 0 := by decide
      exact W.zret (v := (0 : Int32)) hx hb hr rfl (fun t ht hW => ⟨⟨(0 : Int32), (), rfl, (show 0 ≤ (0 : Int32).toInt ∧ (0 : Int32).toInt ≤ 1 from by omega), ⟨by rw [ht]; exact hP, va_K.moved hW.alike hK, hD⟩⟩, hS.F ht⟩) hS.2.2 dX11_countsThing_117
    · have f_77 : zj_67.toInt ≤ zj_62.toInt ∧ zj_62.toInt ≤ zj_72.toInt := bz_1 hw_74 c_76
      refine lv_iconst (v := 1) hx hb dX11_countsThing_112 (by decide) ?_
      refine lv_goto (tgt := 117) hx hb dX11_countsThing_113 (by decide) ?_
      subst hQ
      have qc_1 : (1 : Int32).toInt = 1 := by decide
      exact W.zret (v := (1 : Int32)) hx hb hr rfl (fun t ht hW => ⟨⟨(1 : Int32), (), rfl, (show 0 ≤ (1 : Int32).toInt ∧ (1 : Int32).toInt ≤ 1 from by omega), ⟨by rw [ht]; exact hP, va_K.moved hW.alike hK, hD⟩⟩, hS.F ht⟩) hS.2.2 dX11_countsThing_117
  refine lv_if_eq (tgt := 67) hx hb dX11_countsThing_12 (by decide) (fun c_78 => ?_) (fun c_78 => ?_)
  · have f_79 : zi_3.toInt = 0 := ic_eq (rfl) (by decide) c_78
    exact jn_60  _ _ _ hz hP hD hS (lv_sub hl [1, 2, 3, 4, 5, 6, 0] rfl)
  · have f_79 : ¬ (zi_3.toInt = 0) := ic_neq (rfl) (by decide) c_78
    refine lv_aload_n hx hb dX11_countsThing_15 rfl (lv_at hl 1 rfl) ?_
    refine lv_iload_n hx hb dX11_countsThing_16 rfl (lv_at hl 3 rfl) ?_
    refine lv_iload_n hx hb dX11_countsThing_17 rfl (lv_at hl 4 rfl) ?_
    refine hj_i (ws := (WL cy zL zT zR zI zJ)) (w1 := fun (u : Unit) => (WL cy zL zT zR zI zJ)) (va_runV (As := [.int zic, .int zit]) (rest := []) ⟨hx, hb, hml, hown, hts⟩ (t_X11_kindOf l dC dI cy s.heap.size zL zT zR zI zJ zy zic zit hs h_zI.1 t_zy (by omega) (by omega) hz) (cwV 2 hts gX11_countsThing_X11_kindOf rfl rfl rfl (by decide +kernel) ⟨(Nat.le_of_ble_eq_true rfl), (Nat.le_of_ble_eq_true rfl)⟩) (PRE.v hP hK hD hN (ht_recv hK hP hs t_zy (by decide) rfl rfl)) rfl rfl hl.1 rfl (lv_room (Nat.le_of_ble_eq_true rfl)) dX11_countsThing_18 ⟨(Nat.le_of_ble_eq_true rfl), (Nat.le_of_ble_eq_true rfl)⟩) hP hD hS hA (fun zi_80 u_82 H locs hw_81 hP hD hS => ?_)
    have ps_83 : zi_80.toInt = zA (zI (zR zy 0)) (158 + 12 * zic.toInt + zit.toInt) := hw_81
    have rzi_80 := rng zi_80
    have jn_108 : ∀  (H : Heap) (locs : List Loc) (ls : Array Slot), (ZI (zI (zR zy 0))) → va_P (dC, dI) vwCl (WL cy zL zT zR zI zJ) H → va_D A (WL cy zL zT zR zI zJ) → va_S A s.heap H locs → lv_has ls 8 [(0, .ref zy), (1, .int zia), (2, .int zic), (3, .int zit), (4, .int ziq), (5, .int zis), (6, .int zi_3)] → W p l e ({ frames := 1, cells := 0, slots := 0, locals := 25 } : Room) s m ([.ref zy, .int zia, .int zic, .int zit, .int ziq, .int zis] : List Value).toArray below meth c H locs 0 0 Q (F0 m 71 ls []) := by
      intro  H locs ls e_jn_108_0 hP hD hS hl
      refine lv_iconst (v := 0) hx hb dX11_countsThing_71 (by decide) ?_
      refine lv_istore (lv' := [(7, .int 0), (0, .ref zy), (1, .int zia), (2, .int zic), (3, .int zit), (4, .int ziq), (5, .int zis), (6, .int zi_3)]) hx hb dX11_countsThing_72 hl (by decide) rfl (fun ls hl => ?_)
      refine lv_iload hx hb dX11_countsThing_74 (lv_at hl 0 rfl) ?_
      refine lv_if_eq (tgt := 116) hx hb dX11_countsThing_76 (by decide) (fun c_109 => ?_) (fun c_109 => absurd (by decide) c_109)
      refine lv_iconst (v := 0) hx hb dX11_countsThing_116 (by decide) ?_
      subst hQ
      have qc_0 : (0 : Int32).toInt = 0 := by decide
      exact W.zret (v := (0 : Int32)) hx hb hr rfl (fun t ht hW => ⟨⟨(0 : Int32), (), rfl, (show 0 ≤ (0 : Int32).toInt ∧ (0 : Int32).toInt ≤ 1 from by omega), ⟨by rw [ht]; exact hP, va_K.moved hW.alike hK, hD⟩⟩, hS.F ht⟩) hS.2.2 dX11_countsThing_117
    refine lv_if_ne (tgt := 71) hx hb dX11_countsThing_21 (by decide) (fun c_110 => ?_) (fun c_110 => ?_)
    · have f_111 : zi_80.toInt ≠ 0 := ic_ne (rfl) (by decide) c_110
      exact jn_108  _ _ _ hz hP hD hS (lv_sub hl [1, 2, 3, 4, 5, 6, 0] rfl)
    · have f_111 : ¬ (zi_80.toInt ≠ 0) := ic_nne (rfl) (by decide) c_110
      refine lv_iload hx hb dX11_countsThing_24 (lv_at hl 0 rfl) ?_
      refine lv_iconst (v := 1) hx hb dX11_countsThing_26 (by decide) ?_
      refine lv_icmp_ne (tgt := 50) hx hb dX11_countsThing_27 (by decide) (fun c_112 => ?_) (fun c_112 => ?_)
      · have f_113 : zi_3.toInt ≠ (1 : Int) := ic_ne (rfl) (show (1 : Int32).toInt = 1 by decide) c_112
        refine lv_aload_n hx hb dX11_countsThing_50 rfl (lv_at hl 1 rfl) ?_
        refine lv_iload_n hx hb dX11_countsThing_51 rfl (lv_at hl 3 rfl) ?_
        refine lv_iload_n hx hb dX11_countsThing_52 rfl (lv_at hl 4 rfl) ?_
        refine hj_i (ws := (WL cy zL zT zR zI zJ)) (w1 := fun (u : Unit) => (WL cy zL zT zR zI zJ)) (va_runV (As := [.int zic, .int zit]) (rest := []) ⟨hx, hb, hml, hown, hts⟩ (t_X11_weightOf l dC dI cy H.size zL zT zR zI zJ zy zic zit hs h_zI.1 t_zy (by omega) (by omega) hz) (cwV 2 hts gX11_countsThing_X11_weightOf rfl rfl rfl (by decide +kernel) ⟨(Nat.le_of_ble_eq_true rfl), (Nat.le_of_ble_eq_true rfl)⟩) (PRE.v hP hK hD hN (ht_recv hK hP hs t_zy (by decide) rfl rfl)) rfl rfl hl.1 rfl (lv_room (Nat.le_of_ble_eq_true rfl)) dX11_countsThing_53 ⟨(Nat.le_of_ble_eq_true rfl), (Nat.le_of_ble_eq_true rfl)⟩) hP hD hS hA (fun zi_114 u_116 H locs hw_115 hP hD hS => ?_)
        have rzi_114 := rng zi_114
        refine lv_aload_n hx hb dX11_countsThing_56 rfl (lv_at hl 1 rfl) ?_
        refine ht_getr (C := RX11) (T := TX11) (N := 28) hx hb hts (by decide +kernel) hown hK hP hs t_zy (by decide) rfl rfl 0 (by decide) (hts (.fieldLink RX11 7 "DripStoneModel" "z" "[I") (by decide +kernel)) (fun _ h9 => h9) rfl dX11_countsThing_57 ?_
        refine lv_iload_n hx hb dX11_countsThing_60 rfl (lv_at hl 2 rfl) ?_
        refine lv_iconst (v := 2) hx hb dX11_countsThing_61 (by decide) ?_
        refine lv_iadd hx hb dX11_countsThing_62 ?_
        refine lv_topi (fun zi_117 ezi_117 => ?_)
        have tzi_117 : zi_117.toInt = zia.toInt + (2 : Int) := by rw [ezi_117]; exact tiadd (rfl) (show (2 : Int32).toInt = 2 by decide) (by omega) (by omega)
        refine ht_iald (n := 392) (q := 0) hx hb hK hP hs t_1 (by decide) rfl rfl ⟨by omega, by omega⟩ dX11_countsThing_63 ?_
        refine lv_topi (fun zi_118 ezi_118 => ?_)
        have la_119 : zi_118.toInt = zA (zI (zR zy 0)) (2 + zia.toInt) := (congrArg Int32.toInt (show zI (zR zy 0) zi_117.toNatClampNeg = zi_118 from ezi_118.symm).symm).trans (congrArg (zA (zI (zR zy 0))) (show zi_117.toInt = 2 + zia.toInt from by omega))
        refine lv_icmp_le (tgt := 71) hx hb dX11_countsThing_64 (by decide) (fun c_122 => ?_) (fun c_122 => ?_)
        · have f_123 : zi_114.toInt ≤ zi_118.toInt := ic_le (rfl) (rfl) c_122
          exact jn_108  _ _ _ hz hP hD hS (lv_sub hl [1, 2, 3, 4, 5, 6, 0] rfl)
        · have f_123 : ¬ (zi_114.toInt ≤ zi_118.toInt) := ic_nle (rfl) (rfl) c_122
          exact jn_60  _ _ _ hz hP hD hS (lv_sub hl [1, 2, 3, 4, 5, 6, 0] rfl)
      · have f_113 : ¬ (zi_3.toInt ≠ (1 : Int)) := ic_nne (rfl) (show (1 : Int32).toInt = 1 by decide) c_112
        refine lv_aload_n hx hb dX11_countsThing_30 rfl (lv_at hl 1 rfl) ?_
        refine lv_iload_n hx hb dX11_countsThing_31 rfl (lv_at hl 3 rfl) ?_
        refine lv_iload_n hx hb dX11_countsThing_32 rfl (lv_at hl 4 rfl) ?_
        refine hj_i (ws := (WL cy zL zT zR zI zJ)) (w1 := fun (u : Unit) => (WL cy zL zT zR zI zJ)) (va_runV (As := [.int zic, .int zit]) (rest := []) ⟨hx, hb, hml, hown, hts⟩ (t_X11_weightOf l dC dI cy H.size zL zT zR zI zJ zy zic zit hs h_zI.1 t_zy (by omega) (by omega) hz) (cwV 2 hts gX11_countsThing_X11_weightOf rfl rfl rfl (by decide +kernel) ⟨(Nat.le_of_ble_eq_true rfl), (Nat.le_of_ble_eq_true rfl)⟩) (PRE.v hP hK hD hN (ht_recv hK hP hs t_zy (by decide) rfl rfl)) rfl rfl hl.1 rfl (lv_room (Nat.le_of_ble_eq_true rfl)) dX11_countsThing_33 ⟨(Nat.le_of_ble_eq_true rfl), (Nat.le_of_ble_eq_true rfl)⟩) hP hD hS hA (fun zi_124 u_126 H locs hw_125 hP hD hS => ?_)
        have rzi_124 := rng zi_124
        refine lv_aload_n hx hb dX11_countsThing_36 rfl (lv_at hl 1 rfl) ?_
        refine ht_getr (C := RX11) (T := TX11) (N := 28) hx hb hts (by decide +kernel) hown hK hP hs t_zy (by decide) rfl rfl 0 (by decide) (hts (.fieldLink RX11 7 "DripStoneModel" "z" "[I") (by decide +kernel)) (fun _ h9 => h9) rfl dX11_countsThing_37 ?_
        refine lv_iload_n hx hb dX11_countsThing_40 rfl (lv_at hl 2 rfl) ?_
        refine lv_iconst (v := 2) hx hb dX11_countsThing_41 (by decide) ?_
        refine lv_iadd hx hb dX11_countsThing_42 ?_
        refine lv_topi (fun zi_127 ezi_127 => ?_)
        have tzi_127 : zi_127.toInt = zia.toInt + (2 : Int) := by rw [ezi_127]; exact tiadd (rfl) (show (2 : Int32).toInt = 2 by decide) (by omega) (by omega)
        refine ht_iald (n := 392) (q := 0) hx hb hK hP hs t_1 (by decide) rfl rfl ⟨by omega, by omega⟩ dX11_countsThing_43 ?_
        refine lv_topi (fun zi_128 ezi_128 => ?_)
        have la_129 : zi_128.toInt = zA (zI (zR zy 0)) (2 + zia.toInt) := (congrArg Int32.toInt (show zI (zR zy 0) zi_127.toNatClampNeg = zi_128 from ezi_128.symm).symm).trans (congrArg (zA (zI (zR zy 0))) (show zi_127.toInt = 2 + zia.toInt from by omega))
        refine lv_icmp_ge (tgt := 71) hx hb dX11_countsThing_44 (by decide) (fun c_132 => ?_) (fun c_132 => ?_)
        · have f_133 : zi_124.toInt ≥ zi_128.toInt := ic_ge (rfl) (rfl) c_132
          exact jn_108  _ _ _ hz hP hD hS (lv_sub hl [1, 2, 3, 4, 5, 6, 0] rfl)
        · have f_133 : ¬ (zi_124.toInt ≥ zi_128.toInt) := ic_nge (rfl) (rfl) c_132
          refine lv_goto (tgt := 67) hx hb dX11_countsThing_47 (by decide) ?_
          exact jn_60  _ _ _ hz hP hD hS (lv_sub hl [1, 2, 3, 4, 5, 6, 0] rfl)
set_option maxHeartbeats 8000000 in
set_option maxRecDepth 100000 in
theorem t_X11_holds (l : Launch) (dC : Nat → ClassId) (dI : Nat → Nat → Nat) (cy : Nat → ClassId) (sz : Nat) (zL : List Nat) (zT : Nat → Nat) (zR : Nat → Nat → Nat) (zI : Nat → Nat → Int32) (zJ : Nat → Nat → Int64) (zy : Nat) (zia : Int32) (zib : Int32) (hs : SKP zL zT zR) (hw : WT zT zR zI) (t_zy : zT zy = 18) (hz : ZI (zI (zR zy 0))) : Met l yX11_holds wsX11_holds ({ frames := 2, cells := 0, slots := 0, locals := 52 } : Room) (va_Pc [.ref zy, .int zia, .int zib] (PRE dC dI cy (WL cy zL zT zR zI zJ) sz)) (va_Qi (fun (r : Int32) (u : Unit) => ((-2) ≤ r.toInt ∧ r.toInt ≤ 1)) (fun u t => POST dC dI cy (va_A (WL cy zL zT zR zI zJ) sz) (WL cy zL zT zR zI zJ) t) (va_A (WL cy zL zT zR zI zJ) sz)) 0 0 (va_A (WL cy zL zT zR zI zJ) sz) := by
  refine Met.ofW (cc := cX11_holds) (maxL := 8) (ret := (some .int)) (by decide) rfl ?_
  intro p e s m args below meth c s₁ B hml hv
  obtain ⟨rfl, hsz, hP, hK, hD0, hN⟩ := hv
  have hx := B.exec
  have hb := B.bytes
  have hr := B.returns
  have hts := atoms_spec (ws := wsX11_holds) B.pre
  have hown : s.vm.findClass RX11 = some m.cls := findClass_of_methodNamed B.named
  have hlocks := B.notSynchronized
  subst hsz
  have hD := hD0.self (sz := s.heap.size)
  generalize hAe : va_A (WL cy zL zT zR zI zJ) s.heap.size = A at hD ⊢
  have hA : ∀ q : Nat, s.heap.size ≤ q → A q := fun q h => by rw [← hAe]; exact Or.inr h
  have hS : va_S A s.heap s.heap [] := va_S.rf
  have hP : va_P (dC, dI) vwCl (WL cy zL zT zR zI zJ) s.heap := hP
  have hl := lv_entry ([.ref zy, .int zia, .int zib] : List Value) (n := 8) (Nat.le_of_ble_eq_true rfl)
  rw [lg_entry_eq]
  generalize (lg_sl ([.ref zy, .int zia, .int zib] : List Value) ++ List.replicate (8 - (lg_sl ([.ref zy, .int zia, .int zib] : List Value)).length) Slot.unset).toArray = ls at hl ⊢
  have hl : lv_has ls 8 [(0, .ref zy), (1, .int zia), (2, .int zib)] := hl
  refine w_q (fun Q hQ => ?_)
  have h_zI : WM [] AL zT zR zI zI := WM.rf hw
  refine lv_aload_n hx hb dX11_holds_0 rfl (lv_at hl 0 rfl) ?_
  refine lv_iload_n hx hb dX11_holds_1 rfl (lv_at hl 1 rfl) ?_
  refine hj_i (ws := (WL cy zL zT zR zI zJ)) (w1 := fun (u : Unit) => (WL cy zL zT zR zI zJ)) (va_runV (As := [.int zia]) (rest := []) ⟨hx, hb, hml, hown, hts⟩ (t_X11_isClaim l dC dI cy s.heap.size zL zT zR zI zJ zy zia hs h_zI.1 t_zy hz) (cwV 1 hts gX11_holds_X11_isClaim rfl rfl rfl (by decide +kernel) ⟨(Nat.le_of_ble_eq_true rfl), (Nat.le_of_ble_eq_true rfl)⟩) (PRE.v hP hK hD hN (ht_recv hK hP hs t_zy (by decide) rfl rfl)) rfl rfl hl.1 rfl (lv_room (Nat.le_of_ble_eq_true rfl)) dX11_holds_2 ⟨(Nat.le_of_ble_eq_true rfl), (Nat.le_of_ble_eq_true rfl)⟩) hP hD hS hA (fun zi_1 u_3 H locs hw_2 hP hD hS => ?_)
  obtain ⟨b_zi_1, ps_4, ps_5⟩ : (0 ≤ zi_1.toInt ∧ zi_1.toInt ≤ 1) ∧ (zi_1.toInt = 0 ∨ (0 ≤ zia.toInt ∧ zia.toInt ≤ 3)) ∧ (zi_1.toInt = 0 ∨ zia.toInt < zA (zI (zR zy 0)) (12)) := hw_2
  refine lv_if_eq (tgt := 15) hx hb dX11_holds_5 (by decide) (fun c_6 => ?_) (fun c_6 => ?_)
  · have f_7 : zi_1.toInt = 0 := ic_eq (rfl) (by decide) c_6
    refine lv_iconst (v := (-1)) hx hb dX11_holds_15 (by decide) ?_
    subst hQ
    have qc_m1 : (-1 : Int32).toInt = -1 := by decide
    exact W.iret (v := (-1 : Int32)) hx hb hr (fun t ht hW => ⟨⟨(-1 : Int32), (), rfl, (show (-2) ≤ (-1 : Int32).toInt ∧ (-1 : Int32).toInt ≤ 1 from by omega), ⟨by rw [ht]; exact hP, va_K.moved hW.alike hK, hD⟩⟩, hS.F ht⟩) hS.2.2 dX11_holds_16
  · have f_7 : ¬ (zi_1.toInt = 0) := ic_neq (rfl) (by decide) c_6
    have b9_zia : 0 ≤ zia.toInt ∧ zia.toInt ≤ 3 := by omega
    refine lv_iload_n hx hb dX11_holds_8 rfl (lv_at hl 2 rfl) ?_
    refine hj0_i (ws := (WL cy zL zT zR zI zJ)) (va_runS (As := [.int zib]) (rest := []) ⟨hx, hb, hml, hown, hts⟩ (c_X11_isCandle l dC dI cy H.size zib) (va_cwS 1 hts gX11_holds_X11_isCandle rfl rfl rfl (by decide +kernel) ⟨(Nat.le_of_ble_eq_true rfl), (Nat.le_of_ble_eq_true rfl)⟩) (PRE.s (hP.sub [] rfl) hK (hD.sub [] (by decide) rfl) hN) rfl rfl hl.1 rfl (lv_room (Nat.le_of_ble_eq_true rfl)) dX11_holds_9 ⟨(Nat.le_of_ble_eq_true rfl), (Nat.le_of_ble_eq_true rfl)⟩) hP hD hS hA (fun zi_8 u_10 H locs hw_9 hP hD hS => ?_)
    have hw_9 : zi_8 = if 0 ≤ zib.toInt ∧ zib.toInt ≤ 1 then 1 else 0 := hw_9
    have b_zi_8 : 0 ≤ zi_8.toInt ∧ zi_8.toInt ≤ 1 := bz_b hw_9
    refine lv_if_ne (tgt := 17) hx hb dX11_holds_12 (by decide) (fun c_11 => ?_) (fun c_11 => ?_)
    · have f_12 : 0 ≤ zib.toInt ∧ zib.toInt ≤ 1 := bz_1 hw_9 c_11
      refine lv_aload_n hx hb dX11_holds_17 rfl (lv_at hl 0 rfl) ?_
      refine ht_getr (C := RX11) (T := TX11) (N := 28) hx hb hts (by decide +kernel) hown hK hP hs t_zy (by decide) rfl rfl 0 (by decide) (hts (.fieldLink RX11 7 "DripStoneModel" "z" "[I") (by decide +kernel)) (fun _ h9 => h9) rfl dX11_holds_18 ?_
      have t_13 : zT (zR zy 0) = 100 := sk_f hs t_zy (by decide) rfl (by decide)
      refine lv_bipush (v := 7) hx hb dX11_holds_21 (by decide) ?_
      refine lv_iload_n hx hb dX11_holds_23 rfl (lv_at hl 2 rfl) ?_
      refine lv_iadd hx hb dX11_holds_24 ?_
      refine lv_topi (fun zi_14 ezi_14 => ?_)
      have tzi_14 : zi_14.toInt = (7 : Int) + zib.toInt := by rw [ezi_14]; exact tiadd (show (7 : Int32).toInt = 7 by decide) (rfl) (by omega) (by omega)
      refine ht_iald (n := 392) (q := 0) hx hb hK hP hs t_13 (by decide) rfl rfl ⟨by omega, by omega⟩ dX11_holds_25 ?_
      refine lv_topi (fun zi_15 ezi_15 => ?_)
      have la_16 : zi_15.toInt = zA (zI (zR zy 0)) (7 + zib.toInt) := (congrArg Int32.toInt (show zI (zR zy 0) zi_14.toNatClampNeg = zi_15 from ezi_15.symm).symm).trans (congrArg (zA (zI (zR zy 0))) (show zi_14.toInt = 7 + zib.toInt from by omega))
      refine lv_if_ne (tgt := 32) hx hb dX11_holds_26 (by decide) (fun c_17 => ?_) (fun c_17 => ?_)
      · have f_18 : zi_15.toInt ≠ 0 := ic_ne (rfl) (by decide) c_17
        refine lv_sipush (v := 326) hx hb dX11_holds_32 (by decide) ?_
        refine lv_bipush (v := 14) hx hb dX11_holds_35 (by decide) ?_
        refine lv_iload_n hx hb dX11_holds_37 rfl (lv_at hl 1 rfl) ?_
        refine lv_imul hx hb dX11_holds_38 ?_
        refine lv_topi (fun zi_19 ezi_19 => ?_)
        have tzi_19 : zi_19.toInt = (14 : Int) * zia.toInt := by rw [ezi_19]; exact timul (show (14 : Int32).toInt = 14 by decide) (rfl) (by omega) (by omega)
        refine lv_iadd hx hb dX11_holds_39 ?_
        refine lv_topi (fun zi_20 ezi_20 => ?_)
        have tzi_20 : zi_20.toInt = (326 : Int) + zi_19.toInt := by rw [ezi_20]; exact tiadd (show (326 : Int32).toInt = 326 by decide) (rfl) (by omega) (by omega)
        refine lv_istore_n (lv' := [(3, .int zi_20), (0, .ref zy), (1, .int zia), (2, .int zib)]) hx hb dX11_holds_40 rfl hl (by decide) rfl (fun ls hl => ?_)
        refine lv_iconst (v := 0) hx hb dX11_holds_41 (by decide) ?_
        refine lv_istore (lv' := [(4, .int 0), (3, .int zi_20), (0, .ref zy), (1, .int zia), (2, .int zib)]) hx hb dX11_holds_42 hl (by decide) rfl (fun ls hl => ?_)
        refine lv_iconst (v := 0) hx hb dX11_holds_44 (by decide) ?_
        refine lv_istore (lv' := [(5, .int 0), (4, .int 0), (3, .int zi_20), (0, .ref zy), (1, .int zia), (2, .int zib)]) hx hb dX11_holds_45 hl (by decide) rfl (fun ls hl => ?_)
        refine lv_iconst (v := 0) hx hb dX11_holds_47 (by decide) ?_
        refine lv_istore (lv' := [(6, .int 0), (5, .int 0), (4, .int 0), (3, .int zi_20), (0, .ref zy), (1, .int zia), (2, .int zib)]) hx hb dX11_holds_48 hl (by decide) rfl (fun ls hl => ?_)
        have lp_621 : ∀ (n : Nat) (zi_560 : Int32) (zi_561 : Int32) (zi_562 : Int32) (H : Heap) (locs : List Loc) (ls : Array Slot), (12 - zi_562.toInt).toNat = n → (0 ≤ zi_560.toInt ∧ zi_560.toInt ≤ 12) → (0 ≤ zi_561.toInt ∧ zi_561.toInt ≤ 12) → (0 ≤ zi_562.toInt ∧ zi_562.toInt ≤ 12) → (zi_560.toInt ≤ zi_562.toInt ∧ zi_561.toInt ≤ zi_562.toInt) → (ZI (zI (zR zy 0))) → va_P (dC, dI) vwCl (WL cy zL zT zR zI zJ) H → va_D A (WL cy zL zT zR zI zJ) → va_S A s.heap H locs → lv_has ls 8 [(0, .ref zy), (1, .int zia), (2, .int zib), (3, .int zi_20), (4, .int zi_560), (5, .int zi_561), (6, .int zi_562)] → W p l e ({ frames := 2, cells := 0, slots := 0, locals := 52 } : Room) s m ([.ref zy, .int zia, .int zib] : List Value).toArray below meth c H locs 0 0 Q (F0 m 50 ls []) := by
          intro n
          induction n using Nat.strongRecOn with
          | _ n ih_621 =>
            intro zi_560 zi_561 zi_562 H locs ls hn b_zi_560 b_zi_561 b_zi_562 e_lp_621_0 e_lp_621_1 hP hD hS hl
            refine lv_iload hx hb dX11_holds_50 (lv_at hl 6 rfl) ?_
            refine lv_aload_n hx hb dX11_holds_52 rfl (lv_at hl 0 rfl) ?_
            refine ht_getr (C := RX11) (T := TX11) (N := 28) hx hb hts (by decide +kernel) hown hK hP hs t_zy (by decide) rfl rfl 0 (by decide) (hts (.fieldLink RX11 7 "DripStoneModel" "z" "[I") (by decide +kernel)) (fun _ h9 => h9) rfl dX11_holds_53 ?_
            refine lv_iconst (v := 5) hx hb dX11_holds_56 (by decide) ?_
            refine lv_iload_n hx hb dX11_holds_57 rfl (lv_at hl 2 rfl) ?_
            refine lv_iadd hx hb dX11_holds_58 ?_
            refine lv_topi (fun zi_622 ezi_622 => ?_)
            have tzi_622 : zi_622.toInt = (5 : Int) + zib.toInt := by rw [ezi_622]; exact tiadd (show (5 : Int32).toInt = 5 by decide) (rfl) (by omega) (by omega)
            refine ht_iald (n := 392) (q := 0) hx hb hK hP hs t_13 (by decide) rfl rfl ⟨by omega, by omega⟩ dX11_holds_59 ?_
            refine lv_topi (fun zi_623 ezi_623 => ?_)
            have la_624 : zi_623.toInt = zA (zI (zR zy 0)) (5 + zib.toInt) := (congrArg Int32.toInt (show zI (zR zy 0) zi_622.toNatClampNeg = zi_623 from ezi_623.symm).symm).trans (congrArg (zA (zI (zR zy 0))) (show zi_622.toInt = 5 + zib.toInt from by omega))
            have tz_625 : 0 ≤ zi_623.toInt ∧ zi_623.toInt ≤ 12 := by rw [← (show zI (zR zy 0) zi_622.toNatClampNeg = zi_623 from ezi_623.symm)]; exact ZI.g5 e_lp_621_1 (by omega) (by omega)
            refine lv_icmp_ge (tgt := 161) hx hb dX11_holds_60 (by decide) (fun c_626 => ?_) (fun c_626 => ?_)
            · have f_627 : zi_562.toInt ≥ zi_623.toInt := ic_ge (rfl) (rfl) c_626
              refine lv_aload_n hx hb dX11_holds_161 rfl (lv_at hl 0 rfl) ?_
              refine lv_iload_n hx hb dX11_holds_162 rfl (lv_at hl 1 rfl) ?_
              refine lv_iload hx hb dX11_holds_163 (lv_at hl 4 rfl) ?_
              refine lv_iload hx hb dX11_holds_165 (lv_at hl 5 rfl) ?_
              refine hj_i (ws := (WL cy zL zT zR zI zJ)) (w1 := fun (u : Unit) => (WL cy zL zT zR zI zJ)) (va_runV (As := [.int zia, .int zi_560, .int zi_561]) (rest := []) ⟨hx, hb, hml, hown, hts⟩ (t_X11_claimHolds l dC dI cy H.size zL zT zR zI zJ zy zia zi_560 zi_561 hs h_zI.1 t_zy (by omega) e_lp_621_1) (cwV 3 hts gX11_holds_X11_claimHolds rfl rfl rfl (by decide +kernel) ⟨(Nat.le_of_ble_eq_true rfl), (Nat.le_of_ble_eq_true rfl)⟩) (PRE.v hP hK hD hN (ht_recv hK hP hs t_zy (by decide) rfl rfl)) rfl rfl hl.1 rfl (lv_room (Nat.le_of_ble_eq_true rfl)) dX11_holds_167 ⟨(Nat.le_of_ble_eq_true rfl), (Nat.le_of_ble_eq_true rfl)⟩) hP hD hS hA (fun zi_628 u_630 H locs hw_629 hP hD hS => ?_)
              have b_zi_628 : 0 ≤ zi_628.toInt ∧ zi_628.toInt ≤ 1 := hw_629
              refine lv_if_eq (tgt := 177) hx hb dX11_holds_170 (by decide) (fun c_631 => ?_) (fun c_631 => ?_)
              · have f_632 : zi_628.toInt = 0 := ic_eq (rfl) (by decide) c_631
                refine lv_iconst (v := 0) hx hb dX11_holds_177 (by decide) ?_
                subst hQ
                have qc_0 : (0 : Int32).toInt = 0 := by decide
                exact W.iret (v := (0 : Int32)) hx hb hr (fun t ht hW => ⟨⟨(0 : Int32), (), rfl, (show (-2) ≤ (0 : Int32).toInt ∧ (0 : Int32).toInt ≤ 1 from by omega), ⟨by rw [ht]; exact hP, va_K.moved hW.alike hK, hD⟩⟩, hS.F ht⟩) hS.2.2 dX11_holds_178
              · have f_632 : ¬ (zi_628.toInt = 0) := ic_neq (rfl) (by decide) c_631
                refine lv_iconst (v := 1) hx hb dX11_holds_173 (by decide) ?_
                refine lv_goto (tgt := 178) hx hb dX11_holds_174 (by decide) ?_
                subst hQ
                have qc_1 : (1 : Int32).toInt = 1 := by decide
                exact W.iret (v := (1 : Int32)) hx hb hr (fun t ht hW => ⟨⟨(1 : Int32), (), rfl, (show (-2) ≤ (1 : Int32).toInt ∧ (1 : Int32).toInt ≤ 1 from by omega), ⟨by rw [ht]; exact hP, va_K.moved hW.alike hK, hD⟩⟩, hS.F ht⟩) hS.2.2 dX11_holds_178
            · have f_627 : ¬ (zi_562.toInt ≥ zi_623.toInt) := ic_nge (rfl) (rfl) c_626
              refine lv_aload_n hx hb dX11_holds_63 rfl (lv_at hl 0 rfl) ?_
              refine lv_iload_n hx hb dX11_holds_64 rfl (lv_at hl 2 rfl) ?_
              refine lv_iload hx hb dX11_holds_65 (lv_at hl 6 rfl) ?_
              refine hj_i (ws := (WL cy zL zT zR zI zJ)) (w1 := fun (u : Unit) => (WL cy zL zT zR zI zJ)) (va_runV (As := [.int zib, .int zi_562]) (rest := []) ⟨hx, hb, hml, hown, hts⟩ (t_X11_kindOf l dC dI cy H.size zL zT zR zI zJ zy zib zi_562 hs h_zI.1 t_zy (by omega) (by omega) e_lp_621_1) (cwV 2 hts gX11_holds_X11_kindOf rfl rfl rfl (by decide +kernel) ⟨(Nat.le_of_ble_eq_true rfl), (Nat.le_of_ble_eq_true rfl)⟩) (PRE.v hP hK hD hN (ht_recv hK hP hs t_zy (by decide) rfl rfl)) rfl rfl hl.1 rfl (lv_room (Nat.le_of_ble_eq_true rfl)) dX11_holds_67 ⟨(Nat.le_of_ble_eq_true rfl), (Nat.le_of_ble_eq_true rfl)⟩) hP hD hS hA (fun zi_633 u_635 H locs hw_634 hP hD hS => ?_)
              have ps_636 : zi_633.toInt = zA (zI (zR zy 0)) (158 + 12 * zib.toInt + zi_562.toInt) := hw_634
              have rzi_633 := rng zi_633
              refine lv_iconst (v := 2) hx hb dX11_holds_70 (by decide) ?_
              refine lv_icmp_eq (tgt := 155) hx hb dX11_holds_71 (by decide) (fun c_637 => ?_) (fun c_637 => ?_)
              · have f_638 : zi_633.toInt = (2 : Int) := ic_eq (rfl) (show (2 : Int32).toInt = 2 by decide) c_637
                obtain ⟨zi_639, ezi_639⟩ : ∃ y : Int32, y = zi_562 + 1 := ⟨_, rfl⟩
                have tzi_639 : zi_639.toInt = zi_562.toInt + 1 := by rw [ezi_639]; exact tadd rfl (show (1 : Int32).toInt = 1 by decide) (by omega) (by omega)
                refine lv_iinc (v := zi_639) (lv' := [(6, .int zi_639), (0, .ref zy), (1, .int zia), (2, .int zib), (3, .int zi_20), (4, .int zi_560), (5, .int zi_561)]) hx hb dX11_holds_155 hl (k := 6) rfl (by rw [ezi_639]; rfl) (by decide) rfl (fun ls hl => ?_)
                refine lv_goto (tgt := 50) hx hb dX11_holds_158 (by decide) ?_
                exact ih_621 (12 - zi_639.toInt).toNat (by omega) zi_560 zi_561 zi_639 _ _ _ rfl (by omega) (by omega) (by omega) (by omega) e_lp_621_1 hP hD hS (lv_sub hl [1, 2, 3, 4, 5, 6, 0] rfl)
              · have f_638 : ¬ (zi_633.toInt = (2 : Int)) := ic_neq (rfl) (show (2 : Int32).toInt = 2 by decide) c_637
                refine lv_aload_n hx hb dX11_holds_74 rfl (lv_at hl 0 rfl) ?_
                refine ht_getr (C := RX11) (T := TX11) (N := 28) hx hb hts (by decide +kernel) hown hK hP hs t_zy (by decide) rfl rfl 0 (by decide) (hts (.fieldLink RX11 7 "DripStoneModel" "z" "[I") (by decide +kernel)) (fun _ h9 => h9) rfl dX11_holds_75 ?_
                refine lv_sipush (v := 206) hx hb dX11_holds_78 (by decide) ?_
                refine lv_bipush (v := 12) hx hb dX11_holds_81 (by decide) ?_
                refine lv_iload_n hx hb dX11_holds_83 rfl (lv_at hl 2 rfl) ?_
                refine lv_imul hx hb dX11_holds_84 ?_
                refine lv_topi (fun zi_640 ezi_640 => ?_)
                have tzi_640 : zi_640.toInt = (12 : Int) * zib.toInt := by rw [ezi_640]; exact timul (show (12 : Int32).toInt = 12 by decide) (rfl) (by omega) (by omega)
                refine lv_iadd hx hb dX11_holds_85 ?_
                refine lv_topi (fun zi_641 ezi_641 => ?_)
                have tzi_641 : zi_641.toInt = (206 : Int) + zi_640.toInt := by rw [ezi_641]; exact tiadd (show (206 : Int32).toInt = 206 by decide) (rfl) (by omega) (by omega)
                refine lv_iload hx hb dX11_holds_86 (lv_at hl 6 rfl) ?_
                refine lv_iadd hx hb dX11_holds_88 ?_
                refine lv_topi (fun zi_642 ezi_642 => ?_)
                have tzi_642 : zi_642.toInt = zi_641.toInt + zi_562.toInt := by rw [ezi_642]; exact tiadd (rfl) (rfl) (by omega) (by omega)
                refine ht_iald (n := 392) (q := 0) hx hb hK hP hs t_13 (by decide) rfl rfl ⟨by omega, by omega⟩ dX11_holds_89 ?_
                refine lv_topi (fun zi_643 ezi_643 => ?_)
                have la_644 : zi_643.toInt = zA (zI (zR zy 0)) (206 + zi_562.toInt + 12 * zib.toInt) := (congrArg Int32.toInt (show zI (zR zy 0) zi_642.toNatClampNeg = zi_643 from ezi_643.symm).symm).trans (congrArg (zA (zI (zR zy 0))) (show zi_642.toInt = 206 + zi_562.toInt + 12 * zib.toInt from by omega))
                refine lv_istore (lv' := [(7, .int zi_643), (0, .ref zy), (1, .int zia), (2, .int zib), (3, .int zi_20), (4, .int zi_560), (5, .int zi_561), (6, .int zi_562)]) hx hb dX11_holds_90 hl (by decide) rfl (fun ls hl => ?_)
                refine lv_iload hx hb dX11_holds_92 (lv_at hl 5 rfl) ?_
                refine lv_aload_n hx hb dX11_holds_94 rfl (lv_at hl 1 rfl) ?_
                refine lv_iload_n hx hb dX11_holds_95 rfl (lv_at hl 4 rfl) ?_
                refine lv_iconst (v := 2) hx hb dX11_holds_96 (by decide) ?_
                refine lv_iadd hx hb dX11_holds_97 ?_
                refine lv_topi (fun zi_645 ezi_645 => ?_)
                have tzi_645 : zi_645.toInt = zi_20.toInt + (2 : Int) := by rw [ezi_645]; exact tiadd (rfl) (show (2 : Int32).toInt = 2 by decide) (by omega) (by omega)
                refine lv_iload_n hx hb dX11_holds_98 rfl (lv_at hl 3 rfl) ?_
                refine lv_iload hx hb dX11_holds_99 (lv_at hl 7 rfl) ?_
                refine lv_iload hx hb dX11_holds_101 (lv_at hl 0 rfl) ?_
                refine lv_iconst (v := 0) hx hb dX11_holds_103 (by decide) ?_
                have qc_0 : (0 : Int32).toInt = 0 := by decide
                refine hj_i (ws := (WL cy zL zT zR zI zJ)) (w1 := fun (u : Unit) => (WL cy zL zT zR zI zJ)) (va_runV (As := [.int zi_645, .int zib, .int zi_562, .int zi_643, .int 0]) (rest := [.int zi_560]) ⟨hx, hb, hml, hown, hts⟩ (t_X11_countsThing l dC dI cy H.size zL zT zR zI zJ zy zi_645 zib zi_562 zi_643 (0 : Int32) hs h_zI.1 t_zy (by omega) (by omega) (by omega) e_lp_621_1) (cwV 5 hts gX11_holds_X11_countsThing rfl rfl rfl (by decide +kernel) ⟨(Nat.le_of_ble_eq_true rfl), (Nat.le_of_ble_eq_true rfl)⟩) (PRE.v hP hK hD hN (ht_recv hK hP hs t_zy (by decide) rfl rfl)) rfl rfl hl.1 rfl (lv_room (Nat.le_of_ble_eq_true rfl)) dX11_holds_104 ⟨(Nat.le_of_ble_eq_true rfl), (Nat.le_of_ble_eq_true rfl)⟩) hP hD hS hA (fun zi_646 u_648 H locs hw_647 hP hD hS => ?_)
                have b_zi_646 : 0 ≤ zi_646.toInt ∧ zi_646.toInt ≤ 1 := hw_647
                refine lv_if_eq (tgt := 114) hx hb dX11_holds_107 (by decide) (fun c_649 => ?_) (fun c_649 => ?_)
                · have f_650 : zi_646.toInt = 0 := ic_eq (rfl) (by decide) c_649
                  refine lv_iconst (v := 0) hx hb dX11_holds_114 (by decide) ?_
                  refine lv_iadd hx hb dX11_holds_115 ?_
                  refine lv_topi (fun zi_651 ezi_651 => ?_)
                  have tzi_651 : zi_651.toInt = zi_560.toInt + (0 : Int) := by rw [ezi_651]; exact tiadd (rfl) (show (0 : Int32).toInt = 0 by decide) (by omega) (by omega)
                  refine lv_istore (lv' := [(4, .int zi_651), (7, .int zi_643), (0, .ref zy), (1, .int zia), (2, .int zib), (3, .int zi_20), (5, .int zi_561), (6, .int zi_562)]) hx hb dX11_holds_116 hl (by decide) rfl (fun ls hl => ?_)
                  refine lv_iload hx hb dX11_holds_118 (lv_at hl 6 rfl) ?_
                  refine lv_aload_n hx hb dX11_holds_120 rfl (lv_at hl 2 rfl) ?_
                  refine ht_getr (C := RX11) (T := TX11) (N := 28) hx hb hts (by decide +kernel) hown hK hP hs t_zy (by decide) rfl rfl 0 (by decide) (hts (.fieldLink RX11 7 "DripStoneModel" "z" "[I") (by decide +kernel)) (fun _ h9 => h9) rfl dX11_holds_121 ?_
                  refine lv_iload_n hx hb dX11_holds_124 rfl (lv_at hl 5 rfl) ?_
                  refine ht_iald (n := 392) (q := 0) hx hb hK hP hs t_13 (by decide) rfl rfl ⟨by omega, by omega⟩ dX11_holds_125 ?_
                  refine lv_topi (fun zi_652 ezi_652 => ?_)
                  have la_653 : zi_652.toInt = zA (zI (zR zy 0)) (326 + 14 * zia.toInt) := (congrArg Int32.toInt (show zI (zR zy 0) zi_20.toNatClampNeg = zi_652 from ezi_652.symm).symm).trans (congrArg (zA (zI (zR zy 0))) (show zi_20.toInt = 326 + 14 * zia.toInt from by omega))
                  refine lv_iconst (v := 2) hx hb dX11_holds_126 (by decide) ?_
                  refine lv_icmp_ne (tgt := 151) hx hb dX11_holds_127 (by decide) (fun c_654 => ?_) (fun c_654 => ?_)
                  · have f_655 : zi_652.toInt ≠ (2 : Int) := ic_ne (rfl) (show (2 : Int32).toInt = 2 by decide) c_654
                    refine lv_iconst (v := 0) hx hb dX11_holds_151 (by decide) ?_
                    refine lv_iadd hx hb dX11_holds_152 ?_
                    refine lv_topi (fun zi_656 ezi_656 => ?_)
                    have tzi_656 : zi_656.toInt = zi_561.toInt + (0 : Int) := by rw [ezi_656]; exact tiadd (rfl) (show (0 : Int32).toInt = 0 by decide) (by omega) (by omega)
                    refine lv_istore (lv' := [(5, .int zi_656), (4, .int zi_651), (7, .int zi_643), (0, .ref zy), (1, .int zia), (2, .int zib), (3, .int zi_20), (6, .int zi_562)]) hx hb dX11_holds_153 hl (by decide) rfl (fun ls hl => ?_)
                    obtain ⟨zi_657, ezi_657⟩ : ∃ y : Int32, y = zi_562 + 1 := ⟨_, rfl⟩
                    have tzi_657 : zi_657.toInt = zi_562.toInt + 1 := by rw [ezi_657]; exact tadd rfl (show (1 : Int32).toInt = 1 by decide) (by omega) (by omega)
                    refine lv_iinc (v := zi_657) (lv' := [(6, .int zi_657), (5, .int zi_656), (4, .int zi_651), (7, .int zi_643), (0, .ref zy), (1, .int zia), (2, .int zib), (3, .int zi_20)]) hx hb dX11_holds_155 hl (k := 7) rfl (by rw [ezi_657]; rfl) (by decide) rfl (fun ls hl => ?_)
                    refine lv_goto (tgt := 50) hx hb dX11_holds_158 (by decide) ?_
                    exact ih_621 (12 - zi_657.toInt).toNat (by omega) zi_651 zi_656 zi_657 _ _ _ rfl (by omega) (by omega) (by omega) (by omega) e_lp_621_1 hP hD hS (lv_sub hl [4, 5, 6, 7, 2, 1, 0] rfl)
                  · have f_655 : ¬ (zi_652.toInt ≠ (2 : Int)) := ic_nne (rfl) (show (2 : Int32).toInt = 2 by decide) c_654
                    refine lv_aload_n hx hb dX11_holds_130 rfl (lv_at hl 2 rfl) ?_
                    refine lv_iload_n hx hb dX11_holds_131 rfl (lv_at hl 5 rfl) ?_
                    refine lv_bipush (v := 8) hx hb dX11_holds_132 (by decide) ?_
                    refine lv_iadd hx hb dX11_holds_134 ?_
                    refine lv_topi (fun zi_658 ezi_658 => ?_)
                    have tzi_658 : zi_658.toInt = zi_20.toInt + (8 : Int) := by rw [ezi_658]; exact tiadd (rfl) (show (8 : Int32).toInt = 8 by decide) (by omega) (by omega)
                    refine lv_iload_n hx hb dX11_holds_135 rfl (lv_at hl 4 rfl) ?_
                    refine lv_iload hx hb dX11_holds_136 (lv_at hl 7 rfl) ?_
                    refine lv_iload hx hb dX11_holds_138 (lv_at hl 1 rfl) ?_
                    refine lv_iconst (v := 0) hx hb dX11_holds_140 (by decide) ?_
                    refine hj_i (ws := (WL cy zL zT zR zI zJ)) (w1 := fun (u : Unit) => (WL cy zL zT zR zI zJ)) (va_runV (As := [.int zi_658, .int zib, .int zi_562, .int zi_643, .int 0]) (rest := [.int zi_561]) ⟨hx, hb, hml, hown, hts⟩ (t_X11_countsThing l dC dI cy H.size zL zT zR zI zJ zy zi_658 zib zi_562 zi_643 (0 : Int32) hs h_zI.1 t_zy (by omega) (by omega) (by omega) e_lp_621_1) (cwV 5 hts gX11_holds_X11_countsThing rfl rfl rfl (by decide +kernel) ⟨(Nat.le_of_ble_eq_true rfl), (Nat.le_of_ble_eq_true rfl)⟩) (PRE.v hP hK hD hN (ht_recv hK hP hs t_zy (by decide) rfl rfl)) rfl rfl hl.1 rfl (lv_room (Nat.le_of_ble_eq_true rfl)) dX11_holds_141 ⟨(Nat.le_of_ble_eq_true rfl), (Nat.le_of_ble_eq_true rfl)⟩) hP hD hS hA (fun zi_659 u_661 H locs hw_660 hP hD hS => ?_)
                    have b_zi_659 : 0 ≤ zi_659.toInt ∧ zi_659.toInt ≤ 1 := hw_660
                    refine lv_if_eq (tgt := 151) hx hb dX11_holds_144 (by decide) (fun c_662 => ?_) (fun c_662 => ?_)
                    · have f_663 : zi_659.toInt = 0 := ic_eq (rfl) (by decide) c_662
                      refine lv_iconst (v := 0) hx hb dX11_holds_151 (by decide) ?_
                      refine lv_iadd hx hb dX11_holds_152 ?_
                      refine lv_topi (fun zi_664 ezi_664 => ?_)
                      have tzi_664 : zi_664.toInt = zi_561.toInt + (0 : Int) := by rw [ezi_664]; exact tiadd (rfl) (show (0 : Int32).toInt = 0 by decide) (by omega) (by omega)
                      refine lv_istore (lv' := [(5, .int zi_664), (4, .int zi_651), (7, .int zi_643), (0, .ref zy), (1, .int zia), (2, .int zib), (3, .int zi_20), (6, .int zi_562)]) hx hb dX11_holds_153 hl (by decide) rfl (fun ls hl => ?_)
                      obtain ⟨zi_665, ezi_665⟩ : ∃ y : Int32, y = zi_562 + 1 := ⟨_, rfl⟩
                      have tzi_665 : zi_665.toInt = zi_562.toInt + 1 := by rw [ezi_665]; exact tadd rfl (show (1 : Int32).toInt = 1 by decide) (by omega) (by omega)
                      refine lv_iinc (v := zi_665) (lv' := [(6, .int zi_665), (5, .int zi_664), (4, .int zi_651), (7, .int zi_643), (0, .ref zy), (1, .int zia), (2, .int zib), (3, .int zi_20)]) hx hb dX11_holds_155 hl (k := 7) rfl (by rw [ezi_665]; rfl) (by decide) rfl (fun ls hl => ?_)
                      refine lv_goto (tgt := 50) hx hb dX11_holds_158 (by decide) ?_
                      exact ih_621 (12 - zi_665.toInt).toNat (by omega) zi_651 zi_664 zi_665 _ _ _ rfl (by omega) (by omega) (by omega) (by omega) e_lp_621_1 hP hD hS (lv_sub hl [4, 5, 6, 7, 2, 1, 0] rfl)
                    · have f_663 : ¬ (zi_659.toInt = 0) := ic_neq (rfl) (by decide) c_662
                      refine lv_iconst (v := 1) hx hb dX11_holds_147 (by decide) ?_
                      refine lv_goto (tgt := 152) hx hb dX11_holds_148 (by decide) ?_
                      refine lv_iadd hx hb dX11_holds_152 ?_
                      refine lv_topi (fun zi_666 ezi_666 => ?_)
                      have tzi_666 : zi_666.toInt = zi_561.toInt + (1 : Int) := by rw [ezi_666]; exact tiadd (rfl) (show (1 : Int32).toInt = 1 by decide) (by omega) (by omega)
                      refine lv_istore (lv' := [(5, .int zi_666), (4, .int zi_651), (7, .int zi_643), (0, .ref zy), (1, .int zia), (2, .int zib), (3, .int zi_20), (6, .int zi_562)]) hx hb dX11_holds_153 hl (by decide) rfl (fun ls hl => ?_)
                      obtain ⟨zi_667, ezi_667⟩ : ∃ y : Int32, y = zi_562 + 1 := ⟨_, rfl⟩
                      have tzi_667 : zi_667.toInt = zi_562.toInt + 1 := by rw [ezi_667]; exact tadd rfl (show (1 : Int32).toInt = 1 by decide) (by omega) (by omega)
                      refine lv_iinc (v := zi_667) (lv' := [(6, .int zi_667), (5, .int zi_666), (4, .int zi_651), (7, .int zi_643), (0, .ref zy), (1, .int zia), (2, .int zib), (3, .int zi_20)]) hx hb dX11_holds_155 hl (k := 7) rfl (by rw [ezi_667]; rfl) (by decide) rfl (fun ls hl => ?_)
                      refine lv_goto (tgt := 50) hx hb dX11_holds_158 (by decide) ?_
                      exact ih_621 (12 - zi_667.toInt).toNat (by omega) zi_651 zi_666 zi_667 _ _ _ rfl (by omega) (by omega) (by omega) (by omega) e_lp_621_1 hP hD hS (lv_sub hl [4, 5, 6, 7, 2, 1, 0] rfl)
                · have f_650 : ¬ (zi_646.toInt = 0) := ic_neq (rfl) (by decide) c_649
                  refine lv_iconst (v := 1) hx hb dX11_holds_110 (by decide) ?_
                  refine lv_goto (tgt := 115) hx hb dX11_holds_111 (by decide) ?_
                  refine lv_iadd hx hb dX11_holds_115 ?_
                  refine lv_topi (fun zi_668 ezi_668 => ?_)
                  have tzi_668 : zi_668.toInt = zi_560.toInt + (1 : Int) := by rw [ezi_668]; exact tiadd (rfl) (show (1 : Int32).toInt = 1 by decide) (by omega) (by omega)
                  refine lv_istore (lv' := [(4, .int zi_668), (7, .int zi_643), (0, .ref zy), (1, .int zia), (2, .int zib), (3, .int zi_20), (5, .int zi_561), (6, .int zi_562)]) hx hb dX11_holds_116 hl (by decide) rfl (fun ls hl => ?_)
                  refine lv_iload hx hb dX11_holds_118 (lv_at hl 6 rfl) ?_
                  refine lv_aload_n hx hb dX11_holds_120 rfl (lv_at hl 2 rfl) ?_
                  refine ht_getr (C := RX11) (T := TX11) (N := 28) hx hb hts (by decide +kernel) hown hK hP hs t_zy (by decide) rfl rfl 0 (by decide) (hts (.fieldLink RX11 7 "DripStoneModel" "z" "[I") (by decide +kernel)) (fun _ h9 => h9) rfl dX11_holds_121 ?_
                  refine lv_iload_n hx hb dX11_holds_124 rfl (lv_at hl 5 rfl) ?_
                  refine ht_iald (n := 392) (q := 0) hx hb hK hP hs t_13 (by decide) rfl rfl ⟨by omega, by omega⟩ dX11_holds_125 ?_
                  refine lv_topi (fun zi_669 ezi_669 => ?_)
                  have la_670 : zi_669.toInt = zA (zI (zR zy 0)) (326 + 14 * zia.toInt) := (congrArg Int32.toInt (show zI (zR zy 0) zi_20.toNatClampNeg = zi_669 from ezi_669.symm).symm).trans (congrArg (zA (zI (zR zy 0))) (show zi_20.toInt = 326 + 14 * zia.toInt from by omega))
                  refine lv_iconst (v := 2) hx hb dX11_holds_126 (by decide) ?_
                  refine lv_icmp_ne (tgt := 151) hx hb dX11_holds_127 (by decide) (fun c_671 => ?_) (fun c_671 => ?_)
                  · have f_672 : zi_669.toInt ≠ (2 : Int) := ic_ne (rfl) (show (2 : Int32).toInt = 2 by decide) c_671
                    refine lv_iconst (v := 0) hx hb dX11_holds_151 (by decide) ?_
                    refine lv_iadd hx hb dX11_holds_152 ?_
                    refine lv_topi (fun zi_673 ezi_673 => ?_)
                    have tzi_673 : zi_673.toInt = zi_561.toInt + (0 : Int) := by rw [ezi_673]; exact tiadd (rfl) (show (0 : Int32).toInt = 0 by decide) (by omega) (by omega)
                    refine lv_istore (lv' := [(5, .int zi_673), (4, .int zi_668), (7, .int zi_643), (0, .ref zy), (1, .int zia), (2, .int zib), (3, .int zi_20), (6, .int zi_562)]) hx hb dX11_holds_153 hl (by decide) rfl (fun ls hl => ?_)
                    obtain ⟨zi_674, ezi_674⟩ : ∃ y : Int32, y = zi_562 + 1 := ⟨_, rfl⟩
                    have tzi_674 : zi_674.toInt = zi_562.toInt + 1 := by rw [ezi_674]; exact tadd rfl (show (1 : Int32).toInt = 1 by decide) (by omega) (by omega)
                    refine lv_iinc (v := zi_674) (lv' := [(6, .int zi_674), (5, .int zi_673), (4, .int zi_668), (7, .int zi_643), (0, .ref zy), (1, .int zia), (2, .int zib), (3, .int zi_20)]) hx hb dX11_holds_155 hl (k := 7) rfl (by rw [ezi_674]; rfl) (by decide) rfl (fun ls hl => ?_)
                    refine lv_goto (tgt := 50) hx hb dX11_holds_158 (by decide) ?_
                    exact ih_621 (12 - zi_674.toInt).toNat (by omega) zi_668 zi_673 zi_674 _ _ _ rfl (by omega) (by omega) (by omega) (by omega) e_lp_621_1 hP hD hS (lv_sub hl [4, 5, 6, 7, 2, 1, 0] rfl)
                  · have f_672 : ¬ (zi_669.toInt ≠ (2 : Int)) := ic_nne (rfl) (show (2 : Int32).toInt = 2 by decide) c_671
                    refine lv_aload_n hx hb dX11_holds_130 rfl (lv_at hl 2 rfl) ?_
                    refine lv_iload_n hx hb dX11_holds_131 rfl (lv_at hl 5 rfl) ?_
                    refine lv_bipush (v := 8) hx hb dX11_holds_132 (by decide) ?_
                    refine lv_iadd hx hb dX11_holds_134 ?_
                    refine lv_topi (fun zi_675 ezi_675 => ?_)
                    have tzi_675 : zi_675.toInt = zi_20.toInt + (8 : Int) := by rw [ezi_675]; exact tiadd (rfl) (show (8 : Int32).toInt = 8 by decide) (by omega) (by omega)
                    refine lv_iload_n hx hb dX11_holds_135 rfl (lv_at hl 4 rfl) ?_
                    refine lv_iload hx hb dX11_holds_136 (lv_at hl 7 rfl) ?_
                    refine lv_iload hx hb dX11_holds_138 (lv_at hl 1 rfl) ?_
                    refine lv_iconst (v := 0) hx hb dX11_holds_140 (by decide) ?_
                    refine hj_i (ws := (WL cy zL zT zR zI zJ)) (w1 := fun (u : Unit) => (WL cy zL zT zR zI zJ)) (va_runV (As := [.int zi_675, .int zib, .int zi_562, .int zi_643, .int 0]) (rest := [.int zi_561]) ⟨hx, hb, hml, hown, hts⟩ (t_X11_countsThing l dC dI cy H.size zL zT zR zI zJ zy zi_675 zib zi_562 zi_643 (0 : Int32) hs h_zI.1 t_zy (by omega) (by omega) (by omega) e_lp_621_1) (cwV 5 hts gX11_holds_X11_countsThing rfl rfl rfl (by decide +kernel) ⟨(Nat.le_of_ble_eq_true rfl), (Nat.le_of_ble_eq_true rfl)⟩) (PRE.v hP hK hD hN (ht_recv hK hP hs t_zy (by decide) rfl rfl)) rfl rfl hl.1 rfl (lv_room (Nat.le_of_ble_eq_true rfl)) dX11_holds_141 ⟨(Nat.le_of_ble_eq_true rfl), (Nat.le_of_ble_eq_true rfl)⟩) hP hD hS hA (fun zi_676 u_678 H locs hw_677 hP hD hS => ?_)
                    have b_zi_676 : 0 ≤ zi_676.toInt ∧ zi_676.toInt ≤ 1 := hw_677
                    refine lv_if_eq (tgt := 151) hx hb dX11_holds_144 (by decide) (fun c_679 => ?_) (fun c_679 => ?_)
                    · have f_680 : zi_676.toInt = 0 := ic_eq (rfl) (by decide) c_679
                      refine lv_iconst (v := 0) hx hb dX11_holds_151 (by decide) ?_
                      refine lv_iadd hx hb dX11_holds_152 ?_
                      refine lv_topi (fun zi_681 ezi_681 => ?_)
                      have tzi_681 : zi_681.toInt = zi_561.toInt + (0 : Int) := by rw [ezi_681]; exact tiadd (rfl) (show (0 : Int32).toInt = 0 by decide) (by omega) (by omega)
                      refine lv_istore (lv' := [(5, .int zi_681), (4, .int zi_668), (7, .int zi_643), (0, .ref zy), (1, .int zia), (2, .int zib), (3, .int zi_20), (6, .int zi_562)]) hx hb dX11_holds_153 hl (by decide) rfl (fun ls hl => ?_)
                      obtain ⟨zi_682, ezi_682⟩ : ∃ y : Int32, y = zi_562 + 1 := ⟨_, rfl⟩
                      have tzi_682 : zi_682.toInt = zi_562.toInt + 1 := by rw [ezi_682]; exact tadd rfl (show (1 : Int32).toInt = 1 by decide) (by omega) (by omega)
                      refine lv_iinc (v := zi_682) (lv' := [(6, .int zi_682), (5, .int zi_681), (4, .int zi_668), (7, .int zi_643), (0, .ref zy), (1, .int zia), (2, .int zib), (3, .int zi_20)]) hx hb dX11_holds_155 hl (k := 7) rfl (by rw [ezi_682]; rfl) (by decide) rfl (fun ls hl => ?_)
                      refine lv_goto (tgt := 50) hx hb dX11_holds_158 (by decide) ?_
                      exact ih_621 (12 - zi_682.toInt).toNat (by omega) zi_668 zi_681 zi_682 _ _ _ rfl (by omega) (by omega) (by omega) (by omega) e_lp_621_1 hP hD hS (lv_sub hl [4, 5, 6, 7, 2, 1, 0] rfl)
                    · have f_680 : ¬ (zi_676.toInt = 0) := ic_neq (rfl) (by decide) c_679
                      refine lv_iconst (v := 1) hx hb dX11_holds_147 (by decide) ?_
                      refine lv_goto (tgt := 152) hx hb dX11_holds_148 (by decide) ?_
                      refine lv_iadd hx hb dX11_holds_152 ?_
                      refine lv_topi (fun zi_683 ezi_683 => ?_)
                      have tzi_683 : zi_683.toInt = zi_561.toInt + (1 : Int) := by rw [ezi_683]; exact tiadd (rfl) (show (1 : Int32).toInt = 1 by decide) (by omega) (by omega)
                      refine lv_istore (lv' := [(5, .int zi_683), (4, .int zi_668), (7, .int zi_643), (0, .ref zy), (1, .int zia), (2, .int zib), (3, .int zi_20), (6, .int zi_562)]) hx hb dX11_holds_153 hl (by decide) rfl (fun ls hl => ?_)
                      obtain ⟨zi_684, ezi_684⟩ : ∃ y : Int32, y = zi_562 + 1 := ⟨_, rfl⟩
                      have tzi_684 : zi_684.toInt = zi_562.toInt + 1 := by rw [ezi_684]; exact tadd rfl (show (1 : Int32).toInt = 1 by decide) (by omega) (by omega)
                      refine lv_iinc (v := zi_684) (lv' := [(6, .int zi_684), (5, .int zi_683), (4, .int zi_668), (7, .int zi_643), (0, .ref zy), (1, .int zia), (2, .int zib), (3, .int zi_20)]) hx hb dX11_holds_155 hl (k := 7) rfl (by rw [ezi_684]; rfl) (by decide) rfl (fun ls hl => ?_)
                      refine lv_goto (tgt := 50) hx hb dX11_holds_158 (by decide) ?_
                      exact ih_621 (12 - zi_684.toInt).toNat (by omega) zi_668 zi_683 zi_684 _ _ _ rfl (by omega) (by omega) (by omega) (by omega) e_lp_621_1 hP hD hS (lv_sub hl [4, 5, 6, 7, 2, 1, 0] rfl)
        have qc_0 : (0 : Int32).toInt = 0 := by decide
        exact lp_621 _ (0 : Int32) (0 : Int32) (0 : Int32) _ _ _ rfl (by decide) (by decide) (by decide) (by omega) hz hP hD hS (lv_sub hl [4, 5, 6, 3, 2, 1, 0] rfl)
      · have f_18 : ¬ (zi_15.toInt ≠ 0) := ic_nne (rfl) (by decide) c_17
        refine lv_bipush (v := (-2)) hx hb dX11_holds_29 (by decide) ?_
        subst hQ
        have qc_m2 : (-2 : Int32).toInt = -2 := by decide
        exact W.iret (v := (-2 : Int32)) hx hb hr (fun t ht hW => ⟨⟨(-2 : Int32), (), rfl, (show (-2) ≤ (-2 : Int32).toInt ∧ (-2 : Int32).toInt ≤ 1 from by omega), ⟨by rw [ht]; exact hP, va_K.moved hW.alike hK, hD⟩⟩, hS.F ht⟩) hS.2.2 dX11_holds_31
    · have f_12 : ¬ (0 ≤ zib.toInt ∧ zib.toInt ≤ 1) := bz_0 hw_9 c_11
      refine lv_iconst (v := (-1)) hx hb dX11_holds_15 (by decide) ?_
      subst hQ
      have qc_m1 : (-1 : Int32).toInt = -1 := by decide
      exact W.iret (v := (-1 : Int32)) hx hb hr (fun t ht hW => ⟨⟨(-1 : Int32), (), rfl, (show (-2) ≤ (-1 : Int32).toInt ∧ (-1 : Int32).toInt ≤ 1 from by omega), ⟨by rw [ht]; exact hP, va_K.moved hW.alike hK, hD⟩⟩, hS.F ht⟩) hS.2.2 dX11_holds_16
set_option maxHeartbeats 8000000 in
set_option maxRecDepth 100000 in
theorem t_X11_dropStretches (l : Launch) (dC : Nat → ClassId) (dI : Nat → Nat → Nat) (cy : Nat → ClassId) (sz : Nat) (zL : List Nat) (zT : Nat → Nat) (zR : Nat → Nat → Nat) (zI : Nat → Nat → Int32) (zJ : Nat → Nat → Int64) (zy : Nat) (zia : Int32) (zib : Int32) (hs : SKP zL zT zR) (hw : WT zT zR zI) (t_zy : zT zy = 18) (b_zia : 0 ≤ zia.toInt ∧ zia.toInt ≤ 1) (hz : ZI (zI (zR zy 0))) : Met l yX11_dropStretches wsX11_dropStretches ({ frames := 1, cells := 0, slots := 0, locals := 22 } : Room) (va_Pc [.ref zy, .int zia, .int zib] (PRE dC dI cy (WL cy zL zT zR zI zJ) sz)) (va_Qv (fun (u : (Nat → Nat → Int32)) => (WM [10000] AL zT zR zI u) ∧ (FQ (zI (zR zy 0)) (u (zR zy 0))) ∧ (ZI (u (zR zy 0)))) (fun u t => POST dC dI cy (va_A (WL cy zL zT zR zI zJ) sz) (WL cy zL zT zR u zJ) t) (va_A (WL cy zL zT zR zI zJ) sz)) 0 0 (va_A (WL cy zL zT zR zI zJ) sz) := by
  refine Met.ofW (cc := cX11_dropStretches) (maxL := 6) (ret := none) (by decide) rfl ?_
  intro p e s m args below meth c s₁ B hml hv
  obtain ⟨rfl, hsz, hP, hK, hD0, hN⟩ := hv
  have hx := B.exec
  have hb := B.bytes
  have hr := B.returns
  have hts := atoms_spec (ws := wsX11_dropStretches) B.pre
  have hown : s.vm.findClass RX11 = some m.cls := findClass_of_methodNamed B.named
  have hlocks := B.notSynchronized
  subst hsz
  have hD := hD0.self (sz := s.heap.size)
  generalize hAe : va_A (WL cy zL zT zR zI zJ) s.heap.size = A at hD ⊢
  have hA : ∀ q : Nat, s.heap.size ≤ q → A q := fun q h => by rw [← hAe]; exact Or.inr h
  have hS : va_S A s.heap s.heap [] := va_S.rf
  have hP : va_P (dC, dI) vwCl (WL cy zL zT zR zI zJ) s.heap := hP
  have hl := lv_entry ([.ref zy, .int zia, .int zib] : List Value) (n := 6) (Nat.le_of_ble_eq_true rfl)
  rw [lg_entry_eq]
  generalize (lg_sl ([.ref zy, .int zia, .int zib] : List Value) ++ List.replicate (6 - (lg_sl ([.ref zy, .int zia, .int zib] : List Value)).length) Slot.unset).toArray = ls at hl ⊢
  have hl : lv_has ls 6 [(0, .ref zy), (1, .int zia), (2, .int zib)] := hl
  refine w_q (fun Q hQ => ?_)
  have h_zI : WM [10000] AL zT zR zI zI := WM.rf hw
  refine lv_iconst (v := 0) hx hb dX11_dropStretches_0 (by decide) ?_
  refine lv_istore_n (lv' := [(3, .int 0), (0, .ref zy), (1, .int zia), (2, .int zib)]) hx hb dX11_dropStretches_1 rfl hl (by decide) rfl (fun ls hl => ?_)
  refine lv_iconst (v := 0) hx hb dX11_dropStretches_2 (by decide) ?_
  refine lv_istore (lv' := [(4, .int 0), (3, .int 0), (0, .ref zy), (1, .int zia), (2, .int zib)]) hx hb dX11_dropStretches_3 hl (by decide) rfl (fun ls hl => ?_)
  have lp_565 : ∀ (n : Nat) (zi_509 : Int32) (zi_510 : Int32) (zI_511 : Nat → Nat → Int32) (H : Heap) (locs : List Loc) (ls : Array Slot), (6 - zi_510.toInt).toNat = n → (0 ≤ zi_509.toInt ∧ zi_509.toInt ≤ 6) → (0 ≤ zi_510.toInt ∧ zi_510.toInt ≤ 6) → (WM [10000] AL zT zR zI zI_511) → (zi_509.toInt ≤ zi_510.toInt) → (FQ (zI (zR zy 0)) (zI_511 (zR zy 0))) → (ZI (zI_511 (zR zy 0))) → va_P (dC, dI) vwCl (WL cy zL zT zR zI_511 zJ) H → va_D A (WL cy zL zT zR zI_511 zJ) → va_S A s.heap H locs → lv_has ls 6 [(0, .ref zy), (1, .int zia), (2, .int zib), (3, .int zi_509), (4, .int zi_510)] → W p l e ({ frames := 1, cells := 0, slots := 0, locals := 22 } : Room) s m ([.ref zy, .int zia, .int zib] : List Value).toArray below meth c H locs 0 0 Q (F0 m 5 ls []) := by
    intro n
    induction n using Nat.strongRecOn with
    | _ n ih_565 =>
      intro zi_509 zi_510 zI_511 H locs ls hn b_zi_509 b_zi_510 h_zI_511 e_lp_565_0 e_lp_565_1 e_lp_565_2 hP hD hS hl
      refine lv_iload hx hb dX11_dropStretches_5 (lv_at hl 4 rfl) ?_
      refine lv_aload_n hx hb dX11_dropStretches_7 rfl (lv_at hl 0 rfl) ?_
      refine ht_getr (C := RX11) (T := TX11) (N := 28) hx hb hts (by decide +kernel) hown hK hP hs t_zy (by decide) rfl rfl 0 (by decide) (hts (.fieldLink RX11 7 "DripStoneModel" "z" "[I") (by decide +kernel)) (fun _ h9 => h9) rfl dX11_dropStretches_8 ?_
      have t_566 : zT (zR zy 0) = 100 := sk_f hs t_zy (by decide) rfl (by decide)
      refine lv_bipush (v := 9) hx hb dX11_dropStretches_11 (by decide) ?_
      refine lv_iload_n hx hb dX11_dropStretches_13 rfl (lv_at hl 1 rfl) ?_
      refine lv_iadd hx hb dX11_dropStretches_14 ?_
      refine lv_topi (fun zi_567 ezi_567 => ?_)
      have tzi_567 : zi_567.toInt = (9 : Int) + zia.toInt := by rw [ezi_567]; exact tiadd (show (9 : Int32).toInt = 9 by decide) (rfl) (by omega) (by omega)
      refine ht_iald (n := 392) (q := 0) hx hb hK hP hs t_566 (by decide) rfl rfl ⟨by omega, by omega⟩ dX11_dropStretches_15 ?_
      refine lv_topi (fun zi_568 ezi_568 => ?_)
      have la_569 : zi_568.toInt = zA (zI_511 (zR zy 0)) (9 + zia.toInt) := (congrArg Int32.toInt (show zI_511 (zR zy 0) zi_567.toNatClampNeg = zi_568 from ezi_568.symm).symm).trans (congrArg (zA (zI_511 (zR zy 0))) (show zi_567.toInt = 9 + zia.toInt from by omega))
      have tz_570 : 0 ≤ zi_568.toInt ∧ zi_568.toInt ≤ 6 := by rw [← (show zI_511 (zR zy 0) zi_567.toNatClampNeg = zi_568 from ezi_568.symm)]; exact ZI.g9 e_lp_565_2 (by omega) (by omega)
      refine lv_icmp_ge (tgt := 90) hx hb dX11_dropStretches_16 (by decide) (fun c_571 => ?_) (fun c_571 => ?_)
      · have f_572 : zi_510.toInt ≥ zi_568.toInt := ic_ge (rfl) (rfl) c_571
        refine lv_aload_n hx hb dX11_dropStretches_90 rfl (lv_at hl 0 rfl) ?_
        refine ht_getr (C := RX11) (T := TX11) (N := 28) hx hb hts (by decide +kernel) hown hK hP hs t_zy (by decide) rfl rfl 0 (by decide) (hts (.fieldLink RX11 7 "DripStoneModel" "z" "[I") (by decide +kernel)) (fun _ h9 => h9) rfl dX11_dropStretches_91 ?_
        refine lv_bipush (v := 9) hx hb dX11_dropStretches_94 (by decide) ?_
        refine lv_iload_n hx hb dX11_dropStretches_96 rfl (lv_at hl 1 rfl) ?_
        refine lv_iadd hx hb dX11_dropStretches_97 ?_
        refine lv_topi (fun zi_573 ezi_573 => ?_)
        have tzi_573 : zi_573.toInt = (9 : Int) + zia.toInt := by rw [ezi_573]; exact tiadd (show (9 : Int32).toInt = 9 by decide) (rfl) (by omega) (by omega)
        refine lv_iload_n hx hb dX11_dropStretches_98 rfl (lv_at hl 3 rfl) ?_
        refine ht_iast (v := zi_509) (n := 392) (q := 0) hx hb hK hP hD hS hs t_566 (by decide) rfl rfl ⟨by omega, by omega⟩ dX11_dropStretches_99 (fun H locs hP hD hS => ?_)
        have h_zI_574 : WM [10000] AL zT zR zI (u2 zI_511 (zR zy 0) zi_573.toNatClampNeg zi_509) := h_zI_511.putA hs t_566 rfl (rgF _) (by decide) (fun h => absurd h (by decide)) (by decide) trivial
        generalize uzI_574 : u2 zI_511 (zR zy 0) zi_573.toNatClampNeg zi_509 = zI_574 at hP hD h_zI_574
        have z_zI_574 : ZI (zI_574 (zR zy 0)) := by rw [← uzI_574, u2_r]; exact ZI.sm e_lp_565_2 (by omega) (by unfold RR; omega)
        have fq_zI_574 : FQ (zI (zR zy 0)) (zI_574 (zR zy 0)) := by rw [← uzI_574, u2_r]; exact FQ.up e_lp_565_1 (by omega) (by omega)
        subst hQ
        exact W.vret hx hb hr (fun t ht hW => ⟨⟨zI_574, rfl, ⟨h_zI_574, (show FQ (zI (zR zy 0)) (zI_574 (zR zy 0)) from fq_zI_574), (show ZI (zI_574 (zR zy 0)) from z_zI_574)⟩, ⟨by rw [ht]; exact hP, va_K.moved hW.alike hK, hD⟩⟩, hS.F ht⟩) hS.2.2 dX11_dropStretches_100
      · have f_572 : ¬ (zi_510.toInt ≥ zi_568.toInt) := ic_nge (rfl) (rfl) c_571
        refine lv_aload_n hx hb dX11_dropStretches_19 rfl (lv_at hl 0 rfl) ?_
        refine ht_getr (C := RX11) (T := TX11) (N := 28) hx hb hts (by decide +kernel) hown hK hP hs t_zy (by decide) rfl rfl 0 (by decide) (hts (.fieldLink RX11 7 "DripStoneModel" "z" "[I") (by decide +kernel)) (fun _ h9 => h9) rfl dX11_dropStretches_20 ?_
        refine lv_aload_n hx hb dX11_dropStretches_23 rfl (lv_at hl 0 rfl) ?_
        refine lv_iload_n hx hb dX11_dropStretches_24 rfl (lv_at hl 1 rfl) ?_
        refine lv_iload hx hb dX11_dropStretches_25 (lv_at hl 4 rfl) ?_
        refine hj_i (ws := (WL cy zL zT zR zI_511 zJ)) (w1 := fun (u : Unit) => (WL cy zL zT zR zI_511 zJ)) (va_runV (As := [.int zia, .int zi_510]) (rest := [.ref (zR zy 0)]) ⟨hx, hb, hml, hown, hts⟩ (t_X11_stretchAt l dC dI cy H.size zL zT zR zI_511 zJ zy zia zi_510 hs h_zI_511.1 t_zy (by omega) (by omega)) (cwV 2 hts gX11_dropStretches_X11_stretchAt rfl rfl rfl (by decide +kernel) ⟨(Nat.le_of_ble_eq_true rfl), (Nat.le_of_ble_eq_true rfl)⟩) (PRE.v hP hK hD hN (ht_recv hK hP hs t_zy (by decide) rfl rfl)) rfl rfl hl.1 rfl (lv_room (Nat.le_of_ble_eq_true rfl)) dX11_dropStretches_27 ⟨(Nat.le_of_ble_eq_true rfl), (Nat.le_of_ble_eq_true rfl)⟩) hP hD hS hA (fun zi_575 u_577 H locs hw_576 hP hD hS => ?_)
        obtain ⟨b_zi_575, ps_578⟩ : (230 ≤ zi_575.toInt ∧ zi_575.toInt ≤ 278) ∧ (zi_575.toInt = 230 + 24 * zia.toInt + 4 * zi_510.toInt) := hw_576
        refine lv_iconst (v := 2) hx hb dX11_dropStretches_30 (by decide) ?_
        refine lv_iadd hx hb dX11_dropStretches_31 ?_
        refine lv_topi (fun zi_579 ezi_579 => ?_)
        have tzi_579 : zi_579.toInt = zi_575.toInt + (2 : Int) := by rw [ezi_579]; exact tiadd (rfl) (show (2 : Int32).toInt = 2 by decide) (by omega) (by omega)
        refine ht_iald (n := 392) (q := 0) hx hb hK hP hs t_566 (by decide) rfl rfl ⟨by omega, by omega⟩ dX11_dropStretches_32 ?_
        refine lv_topi (fun zi_580 ezi_580 => ?_)
        have la_581 : zi_580.toInt = zA (zI_511 (zR zy 0)) (232 + 4 * zi_510.toInt + 24 * zia.toInt) := (congrArg Int32.toInt (show zI_511 (zR zy 0) zi_579.toNatClampNeg = zi_580 from ezi_580.symm).symm).trans (congrArg (zA (zI_511 (zR zy 0))) (show zi_579.toInt = 232 + 4 * zi_510.toInt + 24 * zia.toInt from by omega))
        refine lv_iload_n hx hb dX11_dropStretches_33 rfl (lv_at hl 2 rfl) ?_
        refine lv_icmp_ge (tgt := 84) hx hb dX11_dropStretches_34 (by decide) (fun c_582 => ?_) (fun c_582 => ?_)
        · have f_583 : zi_580.toInt ≥ zib.toInt := ic_ge (rfl) (rfl) c_582
          obtain ⟨zi_584, ezi_584⟩ : ∃ y : Int32, y = zi_510 + 1 := ⟨_, rfl⟩
          have tzi_584 : zi_584.toInt = zi_510.toInt + 1 := by rw [ezi_584]; exact tadd rfl (show (1 : Int32).toInt = 1 by decide) (by omega) (by omega)
          refine lv_iinc (v := zi_584) (lv' := [(4, .int zi_584), (0, .ref zy), (1, .int zia), (2, .int zib), (3, .int zi_509)]) hx hb dX11_dropStretches_84 hl (k := 4) rfl (by rw [ezi_584]; rfl) (by decide) rfl (fun ls hl => ?_)
          refine lv_goto (tgt := 5) hx hb dX11_dropStretches_87 (by decide) ?_
          exact ih_565 (6 - zi_584.toInt).toNat (by omega) zi_509 zi_584 zI_511 _ _ _ rfl (by omega) (by omega) h_zI_511 (by omega) e_lp_565_1 e_lp_565_2 hP hD hS (lv_sub hl [1, 2, 3, 4, 0] rfl)
        · have f_583 : ¬ (zi_580.toInt ≥ zib.toInt) := ic_nge (rfl) (rfl) c_582
          refine lv_iconst (v := 0) hx hb dX11_dropStretches_37 (by decide) ?_
          refine lv_istore (lv' := [(5, .int 0), (0, .ref zy), (1, .int zia), (2, .int zib), (3, .int zi_509), (4, .int zi_510)]) hx hb dX11_dropStretches_38 hl (by decide) rfl (fun ls hl => ?_)
          have lp_603 : ∀ (n : Nat) (zi_585 : Int32) (zI_586 : Nat → Nat → Int32) (H : Heap) (locs : List Loc) (ls : Array Slot), (4 - zi_585.toInt).toNat = n → (0 ≤ zi_585.toInt ∧ zi_585.toInt ≤ 4) → (WM [10000] AL zT zR zI zI_586) → (FQ (zI (zR zy 0)) (zI_586 (zR zy 0))) → (ZI (zI_586 (zR zy 0))) → va_P (dC, dI) vwCl (WL cy zL zT zR zI_586 zJ) H → va_D A (WL cy zL zT zR zI_586 zJ) → va_S A s.heap H locs → lv_has ls 6 [(0, .ref zy), (1, .int zia), (2, .int zib), (3, .int zi_509), (4, .int zi_510), (5, .int zi_585)] → W p l e ({ frames := 1, cells := 0, slots := 0, locals := 22 } : Room) s m ([.ref zy, .int zia, .int zib] : List Value).toArray below meth c H locs 0 0 Q (F0 m 40 ls []) := by
            intro n
            induction n using Nat.strongRecOn with
            | _ n ih_603 =>
              intro zi_585 zI_586 H locs ls hn b_zi_585 h_zI_586 e_lp_603_0 e_lp_603_1 hP hD hS hl
              refine lv_iload hx hb dX11_dropStretches_40 (lv_at hl 5 rfl) ?_
              refine lv_iconst (v := 4) hx hb dX11_dropStretches_42 (by decide) ?_
              refine lv_icmp_ge (tgt := 81) hx hb dX11_dropStretches_43 (by decide) (fun c_604 => ?_) (fun c_604 => ?_)
              · have f_605 : zi_585.toInt ≥ (4 : Int) := ic_ge (rfl) (show (4 : Int32).toInt = 4 by decide) c_604
                obtain ⟨zi_606, ezi_606⟩ : ∃ y : Int32, y = zi_509 + 1 := ⟨_, rfl⟩
                have tzi_606 : zi_606.toInt = zi_509.toInt + 1 := by rw [ezi_606]; exact tadd rfl (show (1 : Int32).toInt = 1 by decide) (by omega) (by omega)
                refine lv_iinc (v := zi_606) (lv' := [(3, .int zi_606), (0, .ref zy), (1, .int zia), (2, .int zib), (4, .int zi_510), (5, .int zi_585)]) hx hb dX11_dropStretches_81 hl (k := 3) rfl (by rw [ezi_606]; rfl) (by decide) rfl (fun ls hl => ?_)
                obtain ⟨zi_607, ezi_607⟩ : ∃ y : Int32, y = zi_510 + 1 := ⟨_, rfl⟩
                have tzi_607 : zi_607.toInt = zi_510.toInt + 1 := by rw [ezi_607]; exact tadd rfl (show (1 : Int32).toInt = 1 by decide) (by omega) (by omega)
                refine lv_iinc (v := zi_607) (lv' := [(4, .int zi_607), (3, .int zi_606), (0, .ref zy), (1, .int zia), (2, .int zib), (5, .int zi_585)]) hx hb dX11_dropStretches_84 hl (k := 4) rfl (by rw [ezi_607]; rfl) (by decide) rfl (fun ls hl => ?_)
                refine lv_goto (tgt := 5) hx hb dX11_dropStretches_87 (by decide) ?_
                exact ih_565 (6 - zi_607.toInt).toNat (by omega) zi_606 zi_607 zI_586 _ _ _ rfl (by omega) (by omega) h_zI_586 (by omega) e_lp_603_0 e_lp_603_1 hP hD hS (lv_sub hl [2, 3, 4, 1, 0] rfl)
              · have f_605 : ¬ (zi_585.toInt ≥ (4 : Int)) := ic_nge (rfl) (show (4 : Int32).toInt = 4 by decide) c_604
                refine lv_aload_n hx hb dX11_dropStretches_46 rfl (lv_at hl 0 rfl) ?_
                refine ht_getr (C := RX11) (T := TX11) (N := 28) hx hb hts (by decide +kernel) hown hK hP hs t_zy (by decide) rfl rfl 0 (by decide) (hts (.fieldLink RX11 7 "DripStoneModel" "z" "[I") (by decide +kernel)) (fun _ h9 => h9) rfl dX11_dropStretches_47 ?_
                refine lv_aload_n hx hb dX11_dropStretches_50 rfl (lv_at hl 0 rfl) ?_
                refine lv_iload_n hx hb dX11_dropStretches_51 rfl (lv_at hl 1 rfl) ?_
                refine lv_iload_n hx hb dX11_dropStretches_52 rfl (lv_at hl 3 rfl) ?_
                refine hj_i (ws := (WL cy zL zT zR zI_586 zJ)) (w1 := fun (u : Unit) => (WL cy zL zT zR zI_586 zJ)) (va_runV (As := [.int zia, .int zi_509]) (rest := [.ref (zR zy 0)]) ⟨hx, hb, hml, hown, hts⟩ (t_X11_stretchAt l dC dI cy H.size zL zT zR zI_586 zJ zy zia zi_509 hs h_zI_586.1 t_zy (by omega) (by omega)) (cwV 2 hts gX11_dropStretches_X11_stretchAt rfl rfl rfl (by decide +kernel) ⟨(Nat.le_of_ble_eq_true rfl), (Nat.le_of_ble_eq_true rfl)⟩) (PRE.v hP hK hD hN (ht_recv hK hP hs t_zy (by decide) rfl rfl)) rfl rfl hl.1 rfl (lv_room (Nat.le_of_ble_eq_true rfl)) dX11_dropStretches_53 ⟨(Nat.le_of_ble_eq_true rfl), (Nat.le_of_ble_eq_true rfl)⟩) hP hD hS hA (fun zi_608 u_610 H locs hw_609 hP hD hS => ?_)
                obtain ⟨b_zi_608, ps_611⟩ : (230 ≤ zi_608.toInt ∧ zi_608.toInt ≤ 278) ∧ (zi_608.toInt = 230 + 24 * zia.toInt + 4 * zi_509.toInt) := hw_609
                refine lv_iload hx hb dX11_dropStretches_56 (lv_at hl 5 rfl) ?_
                refine lv_iadd hx hb dX11_dropStretches_58 ?_
                refine lv_topi (fun zi_612 ezi_612 => ?_)
                have tzi_612 : zi_612.toInt = zi_608.toInt + zi_585.toInt := by rw [ezi_612]; exact tiadd (rfl) (rfl) (by omega) (by omega)
                refine lv_aload_n hx hb dX11_dropStretches_59 rfl (lv_at hl 0 rfl) ?_
                refine ht_getr (C := RX11) (T := TX11) (N := 28) hx hb hts (by decide +kernel) hown hK hP hs t_zy (by decide) rfl rfl 0 (by decide) (hts (.fieldLink RX11 7 "DripStoneModel" "z" "[I") (by decide +kernel)) (fun _ h9 => h9) rfl dX11_dropStretches_60 ?_
                refine lv_aload_n hx hb dX11_dropStretches_63 rfl (lv_at hl 0 rfl) ?_
                refine lv_iload_n hx hb dX11_dropStretches_64 rfl (lv_at hl 1 rfl) ?_
                refine lv_iload hx hb dX11_dropStretches_65 (lv_at hl 4 rfl) ?_
                refine hj_i (ws := (WL cy zL zT zR zI_586 zJ)) (w1 := fun (u : Unit) => (WL cy zL zT zR zI_586 zJ)) (va_runV (As := [.int zia, .int zi_510]) (rest := [.ref (zR zy 0), .int zi_612, .ref (zR zy 0)]) ⟨hx, hb, hml, hown, hts⟩ (t_X11_stretchAt l dC dI cy H.size zL zT zR zI_586 zJ zy zia zi_510 hs h_zI_586.1 t_zy (by omega) (by omega)) (cwV 2 hts gX11_dropStretches_X11_stretchAt rfl rfl rfl (by decide +kernel) ⟨(Nat.le_of_ble_eq_true rfl), (Nat.le_of_ble_eq_true rfl)⟩) (PRE.v hP hK hD hN (ht_recv hK hP hs t_zy (by decide) rfl rfl)) rfl rfl hl.1 rfl (lv_room (Nat.le_of_ble_eq_true rfl)) dX11_dropStretches_67 ⟨(Nat.le_of_ble_eq_true rfl), (Nat.le_of_ble_eq_true rfl)⟩) hP hD hS hA (fun zi_613 u_615 H locs hw_614 hP hD hS => ?_)
                obtain ⟨b_zi_613, ps_616⟩ : (230 ≤ zi_613.toInt ∧ zi_613.toInt ≤ 278) ∧ (zi_613.toInt = 230 + 24 * zia.toInt + 4 * zi_510.toInt) := hw_614
                refine lv_iload hx hb dX11_dropStretches_70 (lv_at hl 5 rfl) ?_
                refine lv_iadd hx hb dX11_dropStretches_72 ?_
                refine lv_topi (fun zi_617 ezi_617 => ?_)
                have tzi_617 : zi_617.toInt = zi_613.toInt + zi_585.toInt := by rw [ezi_617]; exact tiadd (rfl) (rfl) (by omega) (by omega)
                refine ht_iald (n := 392) (q := 0) hx hb hK hP hs t_566 (by decide) rfl rfl ⟨by omega, by omega⟩ dX11_dropStretches_73 ?_
                refine lv_topi (fun zi_618 ezi_618 => ?_)
                have la_619 : zi_618.toInt = zA (zI_586 (zR zy 0)) (230 + 4 * zi_510.toInt + zi_585.toInt + 24 * zia.toInt) := (congrArg Int32.toInt (show zI_586 (zR zy 0) zi_617.toNatClampNeg = zi_618 from ezi_618.symm).symm).trans (congrArg (zA (zI_586 (zR zy 0))) (show zi_617.toInt = 230 + 4 * zi_510.toInt + zi_585.toInt + 24 * zia.toInt from by omega))
                refine ht_iast (v := zi_618) (n := 392) (q := 0) hx hb hK hP hD hS hs t_566 (by decide) rfl rfl ⟨by omega, by omega⟩ dX11_dropStretches_74 (fun H locs hP hD hS => ?_)
                have h_zI_620 : WM [10000] AL zT zR zI (u2 zI_586 (zR zy 0) zi_612.toNatClampNeg zi_618) := h_zI_586.putA hs t_566 rfl (rgF _) (by decide) (fun h => absurd h (by decide)) (by decide) trivial
                generalize uzI_620 : u2 zI_586 (zR zy 0) zi_612.toNatClampNeg zi_618 = zI_620 at hP hD h_zI_620
                have z_zI_620 : ZI (zI_620 (zR zy 0)) := by rw [← uzI_620, u2_r]; exact ZI.fr e_lp_603_1 (by omega)
                have fq_zI_620 : FQ (zI (zR zy 0)) (zI_620 (zR zy 0)) := by rw [← uzI_620, u2_r]; exact FQ.up e_lp_603_0 (by omega) (by omega)
                obtain ⟨zi_621, ezi_621⟩ : ∃ y : Int32, y = zi_585 + 1 := ⟨_, rfl⟩
                have tzi_621 : zi_621.toInt = zi_585.toInt + 1 := by rw [ezi_621]; exact tadd rfl (show (1 : Int32).toInt = 1 by decide) (by omega) (by omega)
                refine lv_iinc (v := zi_621) (lv' := [(5, .int zi_621), (0, .ref zy), (1, .int zia), (2, .int zib), (3, .int zi_509), (4, .int zi_510)]) hx hb dX11_dropStretches_75 hl (k := 5) rfl (by rw [ezi_621]; rfl) (by decide) rfl (fun ls hl => ?_)
                refine lv_goto (tgt := 40) hx hb dX11_dropStretches_78 (by decide) ?_
                exact ih_603 (4 - zi_621.toInt).toNat (by omega) zi_621 zI_620 _ _ _ rfl (by omega) h_zI_620 fq_zI_620 z_zI_620 hP hD hS (lv_sub hl [1, 2, 3, 4, 5, 0] rfl)
          have qc_0 : (0 : Int32).toInt = 0 := by decide
          exact lp_603 _ (0 : Int32) zI_511 _ _ _ rfl (by decide) h_zI_511 e_lp_565_1 e_lp_565_2 hP hD hS (lv_sub hl [1, 2, 3, 4, 5, 0] rfl)
  have qc_0 : (0 : Int32).toInt = 0 := by decide
  exact lp_565 _ (0 : Int32) (0 : Int32) zI _ _ _ rfl (by decide) (by decide) h_zI (by omega) FQ.rf hz hP hD hS (lv_sub hl [2, 3, 4, 1, 0] rfl)
set_option maxHeartbeats 8000000 in
set_option maxRecDepth 100000 in
theorem t_X11_stretch (l : Launch) (dC : Nat → ClassId) (dI : Nat → Nat → Nat) (cy : Nat → ClassId) (sz : Nat) (zL : List Nat) (zT : Nat → Nat) (zR : Nat → Nat → Nat) (zI : Nat → Nat → Int32) (zJ : Nat → Nat → Int64) (zy : Nat) (zia : Int32) (zib : Int32) (zic : Int32) (zid : Int32) (zie : Int32) (hs : SKP zL zT zR) (hw : WT zT zR zI) (t_zy : zT zy = 18) (hz : ZI (zI (zR zy 0))) : Met l yX11_stretch wsX11_stretch ({ frames := 2, cells := 0, slots := 0, locals := 47 } : Room) (va_Pc [.ref zy, .int zia, .int zib, .int zic, .int zid, .int zie] (PRE dC dI cy (WL cy zL zT zR zI zJ) sz)) (va_Qi (fun (r : Int32) (u : (Nat → Nat → Int32)) => (WM [10000] AL zT zR zI u) ∧ ((-12) ≤ r.toInt ∧ r.toInt ≤ 6) ∧ (FQ (zI (zR zy 0)) (u (zR zy 0))) ∧ (ZI (u (zR zy 0)))) (fun u t => POST dC dI cy (va_A (WL cy zL zT zR zI zJ) sz) (WL cy zL zT zR u zJ) t) (va_A (WL cy zL zT zR zI zJ) sz)) 0 0 (va_A (WL cy zL zT zR zI zJ) sz) := by
  refine Met.ofW (cc := cX11_stretch) (maxL := 7) (ret := (some .int)) (by decide) rfl ?_
  intro p e s m args below meth c s₁ B hml hv
  obtain ⟨rfl, hsz, hP, hK, hD0, hN⟩ := hv
  have hx := B.exec
  have hb := B.bytes
  have hr := B.returns
  have hts := atoms_spec (ws := wsX11_stretch) B.pre
  have hown : s.vm.findClass RX11 = some m.cls := findClass_of_methodNamed B.named
  have hlocks := B.notSynchronized
  subst hsz
  have hD := hD0.self (sz := s.heap.size)
  generalize hAe : va_A (WL cy zL zT zR zI zJ) s.heap.size = A at hD ⊢
  have hA : ∀ q : Nat, s.heap.size ≤ q → A q := fun q h => by rw [← hAe]; exact Or.inr h
  have hS : va_S A s.heap s.heap [] := va_S.rf
  have hP : va_P (dC, dI) vwCl (WL cy zL zT zR zI zJ) s.heap := hP
  have hl := lv_entry ([.ref zy, .int zia, .int zib, .int zic, .int zid, .int zie] : List Value) (n := 7) (Nat.le_of_ble_eq_true rfl)
  rw [lg_entry_eq]
  generalize (lg_sl ([.ref zy, .int zia, .int zib, .int zic, .int zid, .int zie] : List Value) ++ List.replicate (7 - (lg_sl ([.ref zy, .int zia, .int zib, .int zic, .int zid, .int zie] : List Value)).length) Slot.unset).toArray = ls at hl ⊢
  have hl : lv_has ls 7 [(0, .ref zy), (1, .int zia), (2, .int zib), (3, .int zic), (4, .int zid), (5, .int zie)] := hl
  refine w_q (fun Q hQ => ?_)
  have h_zI : WM [10000] AL zT zR zI zI := WM.rf hw
  refine lv_iload_n hx hb dX11_stretch_0 rfl (lv_at hl 1 rfl) ?_
  refine hj0_i (ws := (WL cy zL zT zR zI zJ)) (va_runS (As := [.int zia]) (rest := []) ⟨hx, hb, hml, hown, hts⟩ (c_X11_isCandle l dC dI cy s.heap.size zia) (va_cwS 1 hts gX11_stretch_X11_isCandle rfl rfl rfl (by decide +kernel) ⟨(Nat.le_of_ble_eq_true rfl), (Nat.le_of_ble_eq_true rfl)⟩) (PRE.s (hP.sub [] rfl) hK (hD.sub [] (by decide) rfl) hN) rfl rfl hl.1 rfl (lv_room (Nat.le_of_ble_eq_true rfl)) dX11_stretch_1 ⟨(Nat.le_of_ble_eq_true rfl), (Nat.le_of_ble_eq_true rfl)⟩) hP hD hS hA (fun zi_1 u_3 H locs hw_2 hP hD hS => ?_)
  have hw_2 : zi_1 = if 0 ≤ zia.toInt ∧ zia.toInt ≤ 1 then 1 else 0 := hw_2
  have b_zi_1 : 0 ≤ zi_1.toInt ∧ zi_1.toInt ≤ 1 := bz_b hw_2
  refine lv_if_eq (tgt := 84) hx hb dX11_stretch_4 (by decide) (fun c_4 => ?_) (fun c_4 => ?_)
  · have f_5 : ¬ (0 ≤ zia.toInt ∧ zia.toInt ≤ 1) := bz_0 hw_2 c_4
    refine lv_iconst (v := (-1)) hx hb dX11_stretch_84 (by decide) ?_
    subst hQ
    have qc_m1 : (-1 : Int32).toInt = -1 := by decide
    exact W.iret (v := (-1 : Int32)) hx hb hr (fun t ht hW => ⟨⟨(-1 : Int32), zI, rfl, ⟨h_zI, (show (-12) ≤ (-1 : Int32).toInt ∧ (-1 : Int32).toInt ≤ 6 from by omega), (show FQ (zI (zR zy 0)) (zI (zR zy 0)) from FQ.rf), (show ZI (zI (zR zy 0)) from hz)⟩, ⟨by rw [ht]; exact hP, va_K.moved hW.alike hK, hD⟩⟩, hS.F ht⟩) hS.2.2 dX11_stretch_85
  · have f_5 : 0 ≤ zia.toInt ∧ zia.toInt ≤ 1 := bz_1 hw_2 c_4
    refine lv_iload_n hx hb dX11_stretch_7 rfl (lv_at hl 2 rfl) ?_
    refine lv_i2l (v := zib.toInt64) hx hb dX11_stretch_8 rfl ?_
    refine lv_topl (fun zj_6 ezj_6 => ?_)
    have tzj_6 : zj_6.toInt = zib.toInt := by rw [ezj_6]; exact Int32.toInt_toInt64 _
    refine lv_lconst (v := 0) hx hb dX11_stretch_9 (by decide) ?_
    refine lv_ldc2 (v := 2) hx hb hown (hts (.constantLong RX11 180 2) (by decide +kernel)) dX11_stretch_10 ?_
    refine hj0_i (ws := (WL cy zL zT zR zI zJ)) (va_runS (As := [.long zj_6, .long 0, .long 2]) (rest := []) ⟨hx, hb, hml, hown, hts⟩ (c_X11_in l dC dI cy H.size zj_6 0 2 0 2 zj_6.toInt (by first | rfl | decide | omega | exact Int32.toInt_toInt64 _) (by first | rfl | decide | omega | exact Int32.toInt_toInt64 _) (by first | rfl | decide | omega | exact Int32.toInt_toInt64 _)) (va_cwS 3 hts gX11_stretch_X11_in rfl rfl rfl (by decide +kernel) ⟨(Nat.le_of_ble_eq_true rfl), (Nat.le_of_ble_eq_true rfl)⟩) (PRE.s (hP.sub [] rfl) hK (hD.sub [] (by decide) rfl) hN) rfl rfl hl.1 rfl (lv_room (Nat.le_of_ble_eq_true rfl)) dX11_stretch_13 ⟨(Nat.le_of_ble_eq_true rfl), (Nat.le_of_ble_eq_true rfl)⟩) hP hD hS hA (fun zi_7 u_9 H locs hw_8 hP hD hS => ?_)
    have hw_8 : zi_7 = if 0 ≤ zj_6.toInt ∧ zj_6.toInt ≤ 2 then 1 else 0 := hw_8
    have b_zi_7 : 0 ≤ zi_7.toInt ∧ zi_7.toInt ≤ 1 := bz_b hw_8
    refine lv_if_eq (tgt := 84) hx hb dX11_stretch_16 (by decide) (fun c_10 => ?_) (fun c_10 => ?_)
    · have f_11 : ¬ (0 ≤ zj_6.toInt ∧ zj_6.toInt ≤ 2) := bz_0 hw_8 c_10
      refine lv_iconst (v := (-1)) hx hb dX11_stretch_84 (by decide) ?_
      subst hQ
      have qc_m1 : (-1 : Int32).toInt = -1 := by decide
      exact W.iret (v := (-1 : Int32)) hx hb hr (fun t ht hW => ⟨⟨(-1 : Int32), zI, rfl, ⟨h_zI, (show (-12) ≤ (-1 : Int32).toInt ∧ (-1 : Int32).toInt ≤ 6 from by omega), (show FQ (zI (zR zy 0)) (zI (zR zy 0)) from FQ.rf), (show ZI (zI (zR zy 0)) from hz)⟩, ⟨by rw [ht]; exact hP, va_K.moved hW.alike hK, hD⟩⟩, hS.F ht⟩) hS.2.2 dX11_stretch_85
    · have f_11 : 0 ≤ zj_6.toInt ∧ zj_6.toInt ≤ 2 := bz_1 hw_8 c_10
      refine lv_aload_n hx hb dX11_stretch_19 rfl (lv_at hl 0 rfl) ?_
      refine lv_iload_n hx hb dX11_stretch_20 rfl (lv_at hl 1 rfl) ?_
      refine lv_iload_n hx hb dX11_stretch_21 rfl (lv_at hl 3 rfl) ?_
      refine hj_i (ws := (WL cy zL zT zR zI zJ)) (w1 := fun (u : Unit) => (WL cy zL zT zR zI zJ)) (va_runV (As := [.int zia, .int zic]) (rest := []) ⟨hx, hb, hml, hown, hts⟩ (t_X11_isThing l dC dI cy H.size zL zT zR zI zJ zy zia zic hs h_zI.1 t_zy (by omega) hz) (cwV 2 hts gX11_stretch_X11_isThing rfl rfl rfl (by decide +kernel) ⟨(Nat.le_of_ble_eq_true rfl), (Nat.le_of_ble_eq_true rfl)⟩) (PRE.v hP hK hD hN (ht_recv hK hP hs t_zy (by decide) rfl rfl)) rfl rfl hl.1 rfl (lv_room (Nat.le_of_ble_eq_true rfl)) dX11_stretch_22 ⟨(Nat.le_of_ble_eq_true rfl), (Nat.le_of_ble_eq_true rfl)⟩) hP hD hS hA (fun zi_12 u_14 H locs hw_13 hP hD hS => ?_)
      obtain ⟨b_zi_12, ps_15, ps_16⟩ : (0 ≤ zi_12.toInt ∧ zi_12.toInt ≤ 1) ∧ (zi_12.toInt = 0 ∨ (0 ≤ zic.toInt ∧ zic.toInt ≤ 11)) ∧ (zi_12.toInt = 0 ∨ zic.toInt < zA (zI (zR zy 0)) (5 + zia.toInt)) := hw_13
      refine lv_if_eq (tgt := 84) hx hb dX11_stretch_25 (by decide) (fun c_17 => ?_) (fun c_17 => ?_)
      · have f_18 : zi_12.toInt = 0 := ic_eq (rfl) (by decide) c_17
        refine lv_iconst (v := (-1)) hx hb dX11_stretch_84 (by decide) ?_
        subst hQ
        have qc_m1 : (-1 : Int32).toInt = -1 := by decide
        exact W.iret (v := (-1 : Int32)) hx hb hr (fun t ht hW => ⟨⟨(-1 : Int32), zI, rfl, ⟨h_zI, (show (-12) ≤ (-1 : Int32).toInt ∧ (-1 : Int32).toInt ≤ 6 from by omega), (show FQ (zI (zR zy 0)) (zI (zR zy 0)) from FQ.rf), (show ZI (zI (zR zy 0)) from hz)⟩, ⟨by rw [ht]; exact hP, va_K.moved hW.alike hK, hD⟩⟩, hS.F ht⟩) hS.2.2 dX11_stretch_85
      · have f_18 : ¬ (zi_12.toInt = 0) := ic_neq (rfl) (by decide) c_17
        have b9_zic : 0 ≤ zic.toInt ∧ zic.toInt ≤ 11 := by omega
        refine lv_aload_n hx hb dX11_stretch_28 rfl (lv_at hl 0 rfl) ?_
        refine lv_iload_n hx hb dX11_stretch_29 rfl (lv_at hl 1 rfl) ?_
        refine lv_iload hx hb dX11_stretch_30 (lv_at hl 4 rfl) ?_
        refine hj_i (ws := (WL cy zL zT zR zI zJ)) (w1 := fun (u : Unit) => (WL cy zL zT zR zI zJ)) (va_runV (As := [.int zia, .int zid]) (rest := []) ⟨hx, hb, hml, hown, hts⟩ (t_X11_isThing l dC dI cy H.size zL zT zR zI zJ zy zia zid hs h_zI.1 t_zy (by omega) hz) (cwV 2 hts gX11_stretch_X11_isThing rfl rfl rfl (by decide +kernel) ⟨(Nat.le_of_ble_eq_true rfl), (Nat.le_of_ble_eq_true rfl)⟩) (PRE.v hP hK hD hN (ht_recv hK hP hs t_zy (by decide) rfl rfl)) rfl rfl hl.1 rfl (lv_room (Nat.le_of_ble_eq_true rfl)) dX11_stretch_32 ⟨(Nat.le_of_ble_eq_true rfl), (Nat.le_of_ble_eq_true rfl)⟩) hP hD hS hA (fun zi_19 u_21 H locs hw_20 hP hD hS => ?_)
        obtain ⟨b_zi_19, ps_22, ps_23⟩ : (0 ≤ zi_19.toInt ∧ zi_19.toInt ≤ 1) ∧ (zi_19.toInt = 0 ∨ (0 ≤ zid.toInt ∧ zid.toInt ≤ 11)) ∧ (zi_19.toInt = 0 ∨ zid.toInt < zA (zI (zR zy 0)) (5 + zia.toInt)) := hw_20
        refine lv_if_eq (tgt := 84) hx hb dX11_stretch_35 (by decide) (fun c_24 => ?_) (fun c_24 => ?_)
        · have f_25 : zi_19.toInt = 0 := ic_eq (rfl) (by decide) c_24
          refine lv_iconst (v := (-1)) hx hb dX11_stretch_84 (by decide) ?_
          subst hQ
          have qc_m1 : (-1 : Int32).toInt = -1 := by decide
          exact W.iret (v := (-1 : Int32)) hx hb hr (fun t ht hW => ⟨⟨(-1 : Int32), zI, rfl, ⟨h_zI, (show (-12) ≤ (-1 : Int32).toInt ∧ (-1 : Int32).toInt ≤ 6 from by omega), (show FQ (zI (zR zy 0)) (zI (zR zy 0)) from FQ.rf), (show ZI (zI (zR zy 0)) from hz)⟩, ⟨by rw [ht]; exact hP, va_K.moved hW.alike hK, hD⟩⟩, hS.F ht⟩) hS.2.2 dX11_stretch_85
        · have f_25 : ¬ (zi_19.toInt = 0) := ic_neq (rfl) (by decide) c_24
          have b9_zid : 0 ≤ zid.toInt ∧ zid.toInt ≤ 11 := by omega
          refine lv_iload_n hx hb dX11_stretch_38 rfl (lv_at hl 3 rfl) ?_
          refine lv_iload hx hb dX11_stretch_39 (lv_at hl 4 rfl) ?_
          refine lv_icmp_gt (tgt := 84) hx hb dX11_stretch_41 (by decide) (fun c_26 => ?_) (fun c_26 => ?_)
          · have f_27 : zic.toInt > zid.toInt := ic_gt (rfl) (rfl) c_26
            refine lv_iconst (v := (-1)) hx hb dX11_stretch_84 (by decide) ?_
            subst hQ
            have qc_m1 : (-1 : Int32).toInt = -1 := by decide
            exact W.iret (v := (-1 : Int32)) hx hb hr (fun t ht hW => ⟨⟨(-1 : Int32), zI, rfl, ⟨h_zI, (show (-12) ≤ (-1 : Int32).toInt ∧ (-1 : Int32).toInt ≤ 6 from by omega), (show FQ (zI (zR zy 0)) (zI (zR zy 0)) from FQ.rf), (show ZI (zI (zR zy 0)) from hz)⟩, ⟨by rw [ht]; exact hP, va_K.moved hW.alike hK, hD⟩⟩, hS.F ht⟩) hS.2.2 dX11_stretch_85
          · have f_27 : ¬ (zic.toInt > zid.toInt) := ic_ngt (rfl) (rfl) c_26
            refine lv_iload hx hb dX11_stretch_44 (lv_at hl 5 rfl) ?_
            refine lv_i2l (v := zie.toInt64) hx hb dX11_stretch_46 rfl ?_
            refine lv_topl (fun zj_28 ezj_28 => ?_)
            have tzj_28 : zj_28.toInt = zie.toInt := by rw [ezj_28]; exact Int32.toInt_toInt64 _
            refine lv_iload_n hx hb dX11_stretch_47 rfl (lv_at hl 2 rfl) ?_
            have jn_32 : ∀ (zj_31 : Int64) (H : Heap) (locs : List Loc) (ls : Array Slot), (FQ (zI (zR zy 0)) (zI (zR zy 0))) → (ZI (zI (zR zy 0))) → va_P (dC, dI) vwCl (WL cy zL zT zR zI zJ) H → va_D A (WL cy zL zT zR zI zJ) → va_S A s.heap H locs → lv_has ls 7 [(0, .ref zy), (1, .int zia), (2, .int zib), (3, .int zic), (4, .int zid), (5, .int zie)] → W p l e ({ frames := 2, cells := 0, slots := 0, locals := 47 } : Room) s m ([.ref zy, .int zia, .int zib, .int zic, .int zid, .int zie] : List Value).toArray below meth c H locs 0 0 Q (F0 m 56 ls [.long zj_31, .long zj_28]) := by
              intro zj_31 H locs ls e_jn_32_0 e_jn_32_1 hP hD hS hl
              refine lv_iload_n hx hb dX11_stretch_56 rfl (lv_at hl 2 rfl) ?_
              have jn_38 : ∀ (zj_37 : Int64) (H : Heap) (locs : List Loc) (ls : Array Slot), (FQ (zI (zR zy 0)) (zI (zR zy 0))) → (ZI (zI (zR zy 0))) → va_P (dC, dI) vwCl (WL cy zL zT zR zI zJ) H → va_D A (WL cy zL zT zR zI zJ) → va_S A s.heap H locs → lv_has ls 7 [(0, .ref zy), (1, .int zia), (2, .int zib), (3, .int zic), (4, .int zid), (5, .int zie)] → W p l e ({ frames := 2, cells := 0, slots := 0, locals := 47 } : Room) s m ([.ref zy, .int zia, .int zib, .int zic, .int zid, .int zie] : List Value).toArray below meth c H locs 0 0 Q (F0 m 78 ls [.long zj_37, .long zj_31, .long zj_28]) := by
                intro zj_37 H locs ls e_jn_38_0 e_jn_38_1 hP hD hS hl
                refine hj0_i (ws := (WL cy zL zT zR zI zJ)) (va_runS (As := [.long zj_28, .long zj_31, .long zj_37]) (rest := []) ⟨hx, hb, hml, hown, hts⟩ (c_X11_in l dC dI cy H.size zj_28 zj_31 zj_37 zj_31.toInt zj_37.toInt zj_28.toInt (by first | rfl | decide | omega | exact Int32.toInt_toInt64 _) (by first | rfl | decide | omega | exact Int32.toInt_toInt64 _) (by first | rfl | decide | omega | exact Int32.toInt_toInt64 _)) (va_cwS 3 hts gX11_stretch_X11_in rfl rfl rfl (by decide +kernel) ⟨(Nat.le_of_ble_eq_true rfl), (Nat.le_of_ble_eq_true rfl)⟩) (PRE.s (hP.sub [] rfl) hK (hD.sub [] (by decide) rfl) hN) rfl rfl hl.1 rfl (lv_room (Nat.le_of_ble_eq_true rfl)) dX11_stretch_78 ⟨(Nat.le_of_ble_eq_true rfl), (Nat.le_of_ble_eq_true rfl)⟩) hP hD hS hA (fun zi_39 u_41 H locs hw_40 hP hD hS => ?_)
                have hw_40 : zi_39 = if zj_31.toInt ≤ zj_28.toInt ∧ zj_28.toInt ≤ zj_37.toInt then 1 else 0 := hw_40
                have b_zi_39 : 0 ≤ zi_39.toInt ∧ zi_39.toInt ≤ 1 := bz_b hw_40
                refine lv_if_ne (tgt := 86) hx hb dX11_stretch_81 (by decide) (fun c_42 => ?_) (fun c_42 => ?_)
                · have f_43 : zj_31.toInt ≤ zj_28.toInt ∧ zj_28.toInt ≤ zj_37.toInt := bz_1 hw_40 c_42
                  refine lv_aload_n hx hb dX11_stretch_86 rfl (lv_at hl 0 rfl) ?_
                  refine lv_iload_n hx hb dX11_stretch_87 rfl (lv_at hl 1 rfl) ?_
                  refine lv_iload_n hx hb dX11_stretch_88 rfl (lv_at hl 3 rfl) ?_
                  refine hj_i (ws := (WL cy zL zT zR zI zJ)) (w1 := fun (u : Unit) => (WL cy zL zT zR zI zJ)) (va_runV (As := [.int zia, .int zic]) (rest := []) ⟨hx, hb, hml, hown, hts⟩ (t_X11_kindOf l dC dI cy H.size zL zT zR zI zJ zy zia zic hs h_zI.1 t_zy (by omega) (by omega) e_jn_38_1) (cwV 2 hts gX11_stretch_X11_kindOf rfl rfl rfl (by decide +kernel) ⟨(Nat.le_of_ble_eq_true rfl), (Nat.le_of_ble_eq_true rfl)⟩) (PRE.v hP hK hD hN (ht_recv hK hP hs t_zy (by decide) rfl rfl)) rfl rfl hl.1 rfl (lv_room (Nat.le_of_ble_eq_true rfl)) dX11_stretch_89 ⟨(Nat.le_of_ble_eq_true rfl), (Nat.le_of_ble_eq_true rfl)⟩) hP hD hS hA (fun zi_44 u_46 H locs hw_45 hP hD hS => ?_)
                  have ps_47 : zi_44.toInt = zA (zI (zR zy 0)) (158 + 12 * zia.toInt + zic.toInt) := hw_45
                  have rzi_44 := rng zi_44
                  refine lv_iconst (v := 2) hx hb dX11_stretch_92 (by decide) ?_
                  refine lv_icmp_eq (tgt := 107) hx hb dX11_stretch_93 (by decide) (fun c_48 => ?_) (fun c_48 => ?_)
                  · have f_49 : zi_44.toInt = (2 : Int) := ic_eq (rfl) (show (2 : Int32).toInt = 2 by decide) c_48
                    refine lv_bipush (v := (-12)) hx hb dX11_stretch_107 (by decide) ?_
                    subst hQ
                    have qc_m12 : (-12 : Int32).toInt = -12 := by decide
                    exact W.iret (v := (-12 : Int32)) hx hb hr (fun t ht hW => ⟨⟨(-12 : Int32), zI, rfl, ⟨h_zI, (show (-12) ≤ (-12 : Int32).toInt ∧ (-12 : Int32).toInt ≤ 6 from by omega), (show FQ (zI (zR zy 0)) (zI (zR zy 0)) from e_jn_38_0), (show ZI (zI (zR zy 0)) from e_jn_38_1)⟩, ⟨by rw [ht]; exact hP, va_K.moved hW.alike hK, hD⟩⟩, hS.F ht⟩) hS.2.2 dX11_stretch_109
                  · have f_49 : ¬ (zi_44.toInt = (2 : Int)) := ic_neq (rfl) (show (2 : Int32).toInt = 2 by decide) c_48
                    refine lv_aload_n hx hb dX11_stretch_96 rfl (lv_at hl 0 rfl) ?_
                    refine lv_iload_n hx hb dX11_stretch_97 rfl (lv_at hl 1 rfl) ?_
                    refine lv_iload hx hb dX11_stretch_98 (lv_at hl 4 rfl) ?_
                    refine hj_i (ws := (WL cy zL zT zR zI zJ)) (w1 := fun (u : Unit) => (WL cy zL zT zR zI zJ)) (va_runV (As := [.int zia, .int zid]) (rest := []) ⟨hx, hb, hml, hown, hts⟩ (t_X11_kindOf l dC dI cy H.size zL zT zR zI zJ zy zia zid hs h_zI.1 t_zy (by omega) (by omega) e_jn_38_1) (cwV 2 hts gX11_stretch_X11_kindOf rfl rfl rfl (by decide +kernel) ⟨(Nat.le_of_ble_eq_true rfl), (Nat.le_of_ble_eq_true rfl)⟩) (PRE.v hP hK hD hN (ht_recv hK hP hs t_zy (by decide) rfl rfl)) rfl rfl hl.1 rfl (lv_room (Nat.le_of_ble_eq_true rfl)) dX11_stretch_100 ⟨(Nat.le_of_ble_eq_true rfl), (Nat.le_of_ble_eq_true rfl)⟩) hP hD hS hA (fun zi_50 u_52 H locs hw_51 hP hD hS => ?_)
                    have ps_53 : zi_50.toInt = zA (zI (zR zy 0)) (158 + 12 * zia.toInt + zid.toInt) := hw_51
                    have rzi_50 := rng zi_50
                    refine lv_iconst (v := 2) hx hb dX11_stretch_103 (by decide) ?_
                    refine lv_icmp_ne (tgt := 110) hx hb dX11_stretch_104 (by decide) (fun c_54 => ?_) (fun c_54 => ?_)
                    · have f_55 : zi_50.toInt ≠ (2 : Int) := ic_ne (rfl) (show (2 : Int32).toInt = 2 by decide) c_54
                      refine lv_aload_n hx hb dX11_stretch_110 rfl (lv_at hl 0 rfl) ?_
                      refine ht_getr (C := RX11) (T := TX11) (N := 28) hx hb hts (by decide +kernel) hown hK hP hs t_zy (by decide) rfl rfl 0 (by decide) (hts (.fieldLink RX11 7 "DripStoneModel" "z" "[I") (by decide +kernel)) (fun _ h9 => h9) rfl dX11_stretch_111 ?_
                      have t_56 : zT (zR zy 0) = 100 := sk_f hs t_zy (by decide) rfl (by decide)
                      refine lv_bipush (v := 9) hx hb dX11_stretch_114 (by decide) ?_
                      refine lv_iload_n hx hb dX11_stretch_116 rfl (lv_at hl 1 rfl) ?_
                      refine lv_iadd hx hb dX11_stretch_117 ?_
                      refine lv_topi (fun zi_57 ezi_57 => ?_)
                      have tzi_57 : zi_57.toInt = (9 : Int) + zia.toInt := by rw [ezi_57]; exact tiadd (show (9 : Int32).toInt = 9 by decide) (rfl) (by omega) (by omega)
                      refine ht_iald (n := 392) (q := 0) hx hb hK hP hs t_56 (by decide) rfl rfl ⟨by omega, by omega⟩ dX11_stretch_118 ?_
                      refine lv_topi (fun zi_58 ezi_58 => ?_)
                      have la_59 : zi_58.toInt = zA (zI (zR zy 0)) (9 + zia.toInt) := (congrArg Int32.toInt (show zI (zR zy 0) zi_57.toNatClampNeg = zi_58 from ezi_58.symm).symm).trans (congrArg (zA (zI (zR zy 0))) (show zi_57.toInt = 9 + zia.toInt from by omega))
                      have tz_60 : 0 ≤ zi_58.toInt ∧ zi_58.toInt ≤ 6 := by rw [← (show zI (zR zy 0) zi_57.toNatClampNeg = zi_58 from ezi_58.symm)]; exact ZI.g9 e_jn_38_1 (by omega) (by omega)
                      refine lv_bipush (v := 6) hx hb dX11_stretch_119 (by decide) ?_
                      refine lv_icmp_ne (tgt := 127) hx hb dX11_stretch_121 (by decide) (fun c_61 => ?_) (fun c_61 => ?_)
                      · have f_62 : zi_58.toInt ≠ (6 : Int) := ic_ne (rfl) (show (6 : Int32).toInt = 6 by decide) c_61
                        refine lv_aload_n hx hb dX11_stretch_127 rfl (lv_at hl 0 rfl) ?_
                        refine lv_iload_n hx hb dX11_stretch_128 rfl (lv_at hl 1 rfl) ?_
                        refine lv_aload_n hx hb dX11_stretch_129 rfl (lv_at hl 0 rfl) ?_
                        refine ht_getr (C := RX11) (T := TX11) (N := 28) hx hb hts (by decide +kernel) hown hK hP hs t_zy (by decide) rfl rfl 0 (by decide) (hts (.fieldLink RX11 7 "DripStoneModel" "z" "[I") (by decide +kernel)) (fun _ h9 => h9) rfl dX11_stretch_130 ?_
                        refine lv_bipush (v := 9) hx hb dX11_stretch_133 (by decide) ?_
                        refine lv_iload_n hx hb dX11_stretch_135 rfl (lv_at hl 1 rfl) ?_
                        refine lv_iadd hx hb dX11_stretch_136 ?_
                        refine lv_topi (fun zi_63 ezi_63 => ?_)
                        have tzi_63 : zi_63.toInt = (9 : Int) + zia.toInt := by rw [ezi_63]; exact tiadd (show (9 : Int32).toInt = 9 by decide) (rfl) (by omega) (by omega)
                        refine ht_iald (n := 392) (q := 0) hx hb hK hP hs t_56 (by decide) rfl rfl ⟨by omega, by omega⟩ dX11_stretch_137 ?_
                        refine lv_topi (fun zi_64 ezi_64 => ?_)
                        have la_65 : zi_64.toInt = zA (zI (zR zy 0)) (9 + zia.toInt) := (congrArg Int32.toInt (show zI (zR zy 0) zi_63.toNatClampNeg = zi_64 from ezi_64.symm).symm).trans (congrArg (zA (zI (zR zy 0))) (show zi_63.toInt = 9 + zia.toInt from by omega))
                        have tz_66 : 0 ≤ zi_64.toInt ∧ zi_64.toInt ≤ 6 := by rw [← (show zI (zR zy 0) zi_63.toNatClampNeg = zi_64 from ezi_64.symm)]; exact ZI.g9 e_jn_38_1 (by omega) (by omega)
                        refine hj_i (ws := (WL cy zL zT zR zI zJ)) (w1 := fun (u : Unit) => (WL cy zL zT zR zI zJ)) (va_runV (As := [.int zia, .int zi_64]) (rest := []) ⟨hx, hb, hml, hown, hts⟩ (t_X11_stretchAt l dC dI cy H.size zL zT zR zI zJ zy zia zi_64 hs h_zI.1 t_zy (by omega) (by omega)) (cwV 2 hts gX11_stretch_X11_stretchAt rfl rfl rfl (by decide +kernel) ⟨(Nat.le_of_ble_eq_true rfl), (Nat.le_of_ble_eq_true rfl)⟩) (PRE.v hP hK hD hN (ht_recv hK hP hs t_zy (by decide) rfl rfl)) rfl rfl hl.1 rfl (lv_room (Nat.le_of_ble_eq_true rfl)) dX11_stretch_138 ⟨(Nat.le_of_ble_eq_true rfl), (Nat.le_of_ble_eq_true rfl)⟩) hP hD hS hA (fun zi_67 u_69 H locs hw_68 hP hD hS => ?_)
                        obtain ⟨b_zi_67, ps_70⟩ : (230 ≤ zi_67.toInt ∧ zi_67.toInt ≤ 278) ∧ (zi_67.toInt = 230 + 24 * zia.toInt + 4 * zi_64.toInt) := hw_68
                        refine lv_istore (lv' := [(6, .int zi_67), (0, .ref zy), (1, .int zia), (2, .int zib), (3, .int zic), (4, .int zid), (5, .int zie)]) hx hb dX11_stretch_141 hl (by decide) rfl (fun ls hl => ?_)
                        refine lv_aload_n hx hb dX11_stretch_143 rfl (lv_at hl 1 rfl) ?_
                        refine ht_getr (C := RX11) (T := TX11) (N := 28) hx hb hts (by decide +kernel) hown hK hP hs t_zy (by decide) rfl rfl 0 (by decide) (hts (.fieldLink RX11 7 "DripStoneModel" "z" "[I") (by decide +kernel)) (fun _ h9 => h9) rfl dX11_stretch_144 ?_
                        refine lv_iload hx hb dX11_stretch_147 (lv_at hl 0 rfl) ?_
                        refine lv_iload_n hx hb dX11_stretch_149 rfl (lv_at hl 3 rfl) ?_
                        refine ht_iast (v := zib) (n := 392) (q := 0) hx hb hK hP hD hS hs t_56 (by decide) rfl rfl ⟨by omega, by omega⟩ dX11_stretch_150 (fun H locs hP hD hS => ?_)
                        have h_zI_71 : WM [10000] AL zT zR zI (u2 zI (zR zy 0) zi_67.toNatClampNeg zib) := h_zI.putA hs t_56 rfl (rgF _) (by decide) (fun h => absurd h (by decide)) (by decide) trivial
                        generalize uzI_71 : u2 zI (zR zy 0) zi_67.toNatClampNeg zib = zI_71 at hP hD h_zI_71
                        have kt_72 : zA (zI_71 (zR zy 0)) (9 + zia.toInt) = zA (zI (zR zy 0)) (9 + zia.toInt) := by rw [← uzI_71, u2_r]; exact zu_n (by omega) (by omega) (by omega)
                        have z_zI_71 : ZI (zI_71 (zR zy 0)) := by rw [← uzI_71, u2_r]; exact ZI.fr e_jn_38_1 (by omega)
                        have fq_zI_71 : FQ (zI (zR zy 0)) (zI_71 (zR zy 0)) := by rw [← uzI_71, u2_r]; exact FQ.up e_jn_38_0 (by omega) (by omega)
                        refine lv_aload_n hx hb dX11_stretch_151 rfl (lv_at hl 1 rfl) ?_
                        refine ht_getr (C := RX11) (T := TX11) (N := 28) hx hb hts (by decide +kernel) hown hK hP hs t_zy (by decide) rfl rfl 0 (by decide) (hts (.fieldLink RX11 7 "DripStoneModel" "z" "[I") (by decide +kernel)) (fun _ h9 => h9) rfl dX11_stretch_152 ?_
                        refine lv_iload hx hb dX11_stretch_155 (lv_at hl 0 rfl) ?_
                        refine lv_iconst (v := 1) hx hb dX11_stretch_157 (by decide) ?_
                        refine lv_iadd hx hb dX11_stretch_158 ?_
                        refine lv_topi (fun zi_73 ezi_73 => ?_)
                        have tzi_73 : zi_73.toInt = zi_67.toInt + (1 : Int) := by rw [ezi_73]; exact tiadd (rfl) (show (1 : Int32).toInt = 1 by decide) (by omega) (by omega)
                        refine lv_iload_n hx hb dX11_stretch_159 rfl (lv_at hl 4 rfl) ?_
                        refine ht_iast (v := zic) (n := 392) (q := 0) hx hb hK hP hD hS hs t_56 (by decide) rfl rfl ⟨by omega, by omega⟩ dX11_stretch_160 (fun H locs hP hD hS => ?_)
                        have h_zI_74 : WM [10000] AL zT zR zI (u2 zI_71 (zR zy 0) zi_73.toNatClampNeg zic) := h_zI_71.putA hs t_56 rfl (rgF _) (by decide) (fun h => absurd h (by decide)) (by decide) trivial
                        generalize uzI_74 : u2 zI_71 (zR zy 0) zi_73.toNatClampNeg zic = zI_74 at hP hD h_zI_74
                        have kt_75 : zA (zI_74 (zR zy 0)) (9 + zia.toInt) = zA (zI_71 (zR zy 0)) (9 + zia.toInt) := by rw [← uzI_74, u2_r]; exact zu_n (by omega) (by omega) (by omega)
                        have z_zI_74 : ZI (zI_74 (zR zy 0)) := by rw [← uzI_74, u2_r]; exact ZI.fr z_zI_71 (by omega)
                        have fq_zI_74 : FQ (zI (zR zy 0)) (zI_74 (zR zy 0)) := by rw [← uzI_74, u2_r]; exact FQ.up fq_zI_71 (by omega) (by omega)
                        refine lv_aload_n hx hb dX11_stretch_161 rfl (lv_at hl 1 rfl) ?_
                        refine ht_getr (C := RX11) (T := TX11) (N := 28) hx hb hts (by decide +kernel) hown hK hP hs t_zy (by decide) rfl rfl 0 (by decide) (hts (.fieldLink RX11 7 "DripStoneModel" "z" "[I") (by decide +kernel)) (fun _ h9 => h9) rfl dX11_stretch_162 ?_
                        refine lv_iload hx hb dX11_stretch_165 (lv_at hl 0 rfl) ?_
                        refine lv_iconst (v := 2) hx hb dX11_stretch_167 (by decide) ?_
                        refine lv_iadd hx hb dX11_stretch_168 ?_
                        refine lv_topi (fun zi_76 ezi_76 => ?_)
                        have tzi_76 : zi_76.toInt = zi_67.toInt + (2 : Int) := by rw [ezi_76]; exact tiadd (rfl) (show (2 : Int32).toInt = 2 by decide) (by omega) (by omega)
                        refine lv_iload hx hb dX11_stretch_169 (lv_at hl 5 rfl) ?_
                        refine ht_iast (v := zid) (n := 392) (q := 0) hx hb hK hP hD hS hs t_56 (by decide) rfl rfl ⟨by omega, by omega⟩ dX11_stretch_171 (fun H locs hP hD hS => ?_)
                        have h_zI_77 : WM [10000] AL zT zR zI (u2 zI_74 (zR zy 0) zi_76.toNatClampNeg zid) := h_zI_74.putA hs t_56 rfl (rgF _) (by decide) (fun h => absurd h (by decide)) (by decide) trivial
                        generalize uzI_77 : u2 zI_74 (zR zy 0) zi_76.toNatClampNeg zid = zI_77 at hP hD h_zI_77
                        have kt_78 : zA (zI_77 (zR zy 0)) (9 + zia.toInt) = zA (zI_74 (zR zy 0)) (9 + zia.toInt) := by rw [← uzI_77, u2_r]; exact zu_n (by omega) (by omega) (by omega)
                        have z_zI_77 : ZI (zI_77 (zR zy 0)) := by rw [← uzI_77, u2_r]; exact ZI.fr z_zI_74 (by omega)
                        have fq_zI_77 : FQ (zI (zR zy 0)) (zI_77 (zR zy 0)) := by rw [← uzI_77, u2_r]; exact FQ.up fq_zI_74 (by omega) (by omega)
                        refine lv_aload_n hx hb dX11_stretch_172 rfl (lv_at hl 1 rfl) ?_
                        refine ht_getr (C := RX11) (T := TX11) (N := 28) hx hb hts (by decide +kernel) hown hK hP hs t_zy (by decide) rfl rfl 0 (by decide) (hts (.fieldLink RX11 7 "DripStoneModel" "z" "[I") (by decide +kernel)) (fun _ h9 => h9) rfl dX11_stretch_173 ?_
                        refine lv_iload hx hb dX11_stretch_176 (lv_at hl 0 rfl) ?_
                        refine lv_iconst (v := 3) hx hb dX11_stretch_178 (by decide) ?_
                        refine lv_iadd hx hb dX11_stretch_179 ?_
                        refine lv_topi (fun zi_79 ezi_79 => ?_)
                        have tzi_79 : zi_79.toInt = zi_67.toInt + (3 : Int) := by rw [ezi_79]; exact tiadd (rfl) (show (3 : Int32).toInt = 3 by decide) (by omega) (by omega)
                        refine lv_iload hx hb dX11_stretch_180 (lv_at hl 6 rfl) ?_
                        refine ht_iast (v := zie) (n := 392) (q := 0) hx hb hK hP hD hS hs t_56 (by decide) rfl rfl ⟨by omega, by omega⟩ dX11_stretch_182 (fun H locs hP hD hS => ?_)
                        have h_zI_80 : WM [10000] AL zT zR zI (u2 zI_77 (zR zy 0) zi_79.toNatClampNeg zie) := h_zI_77.putA hs t_56 rfl (rgF _) (by decide) (fun h => absurd h (by decide)) (by decide) trivial
                        generalize uzI_80 : u2 zI_77 (zR zy 0) zi_79.toNatClampNeg zie = zI_80 at hP hD h_zI_80
                        have kt_81 : zA (zI_80 (zR zy 0)) (9 + zia.toInt) = zA (zI_77 (zR zy 0)) (9 + zia.toInt) := by rw [← uzI_80, u2_r]; exact zu_n (by omega) (by omega) (by omega)
                        have z_zI_80 : ZI (zI_80 (zR zy 0)) := by rw [← uzI_80, u2_r]; exact ZI.fr z_zI_77 (by omega)
                        have fq_zI_80 : FQ (zI (zR zy 0)) (zI_80 (zR zy 0)) := by rw [← uzI_80, u2_r]; exact FQ.up fq_zI_77 (by omega) (by omega)
                        refine lv_aload_n hx hb dX11_stretch_183 rfl (lv_at hl 1 rfl) ?_
                        refine ht_getr (C := RX11) (T := TX11) (N := 28) hx hb hts (by decide +kernel) hown hK hP hs t_zy (by decide) rfl rfl 0 (by decide) (hts (.fieldLink RX11 7 "DripStoneModel" "z" "[I") (by decide +kernel)) (fun _ h9 => h9) rfl dX11_stretch_184 ?_
                        refine lv_bipush (v := 9) hx hb dX11_stretch_187 (by decide) ?_
                        refine lv_iload_n hx hb dX11_stretch_189 rfl (lv_at hl 2 rfl) ?_
                        refine lv_iadd hx hb dX11_stretch_190 ?_
                        refine lv_topi (fun zi_82 ezi_82 => ?_)
                        have tzi_82 : zi_82.toInt = (9 : Int) + zia.toInt := by rw [ezi_82]; exact tiadd (show (9 : Int32).toInt = 9 by decide) (rfl) (by omega) (by omega)
                        refine lv_dup2_11 hx hb dX11_stretch_191 rfl rfl ?_
                        refine ht_iald (n := 392) (q := 0) hx hb hK hP hs t_56 (by decide) rfl rfl ⟨by omega, by omega⟩ dX11_stretch_192 ?_
                        refine lv_topi (fun zi_83 ezi_83 => ?_)
                        have la_84 : zi_83.toInt = zA (zI_80 (zR zy 0)) (9 + zia.toInt) := (congrArg Int32.toInt (show zI_80 (zR zy 0) zi_82.toNatClampNeg = zi_83 from ezi_83.symm).symm).trans (congrArg (zA (zI_80 (zR zy 0))) (show zi_82.toInt = 9 + zia.toInt from by omega))
                        have tz_85 : 0 ≤ zi_83.toInt ∧ zi_83.toInt ≤ 6 := by rw [← (show zI_80 (zR zy 0) zi_82.toNatClampNeg = zi_83 from ezi_83.symm)]; exact ZI.g9 z_zI_80 (by omega) (by omega)
                        refine lv_iconst (v := 1) hx hb dX11_stretch_193 (by decide) ?_
                        refine lv_iadd hx hb dX11_stretch_194 ?_
                        refine lv_topi (fun zi_86 ezi_86 => ?_)
                        have tzi_86 : zi_86.toInt = zi_83.toInt + (1 : Int) := by rw [ezi_86]; exact tiadd (rfl) (show (1 : Int32).toInt = 1 by decide) (by omega) (by omega)
                        refine ht_iast (v := zi_86) (n := 392) (q := 0) hx hb hK hP hD hS hs t_56 (by decide) rfl rfl ⟨by omega, by omega⟩ dX11_stretch_195 (fun H locs hP hD hS => ?_)
                        have h_zI_87 : WM [10000] AL zT zR zI (u2 zI_80 (zR zy 0) zi_82.toNatClampNeg zi_86) := h_zI_80.putA hs t_56 rfl (rgF _) (by decide) (fun h => absurd h (by decide)) (by decide) trivial
                        generalize uzI_87 : u2 zI_80 (zR zy 0) zi_82.toNatClampNeg zi_86 = zI_87 at hP hD h_zI_87
                        have kt_88 : zA (zI_87 (zR zy 0)) (9 + zia.toInt) = zi_86.toInt := by rw [← uzI_87, u2_r]; exact zu_s (by omega)
                        have z_zI_87 : ZI (zI_87 (zR zy 0)) := by rw [← uzI_87, u2_r]; exact ZI.sm z_zI_80 (by omega) (by unfold RR; omega)
                        have fq_zI_87 : FQ (zI (zR zy 0)) (zI_87 (zR zy 0)) := by rw [← uzI_87, u2_r]; exact FQ.up fq_zI_80 (by omega) (by omega)
                        refine lv_aload_n hx hb dX11_stretch_196 rfl (lv_at hl 1 rfl) ?_
                        refine ht_getr (C := RX11) (T := TX11) (N := 28) hx hb hts (by decide +kernel) hown hK hP hs t_zy (by decide) rfl rfl 0 (by decide) (hts (.fieldLink RX11 7 "DripStoneModel" "z" "[I") (by decide +kernel)) (fun _ h9 => h9) rfl dX11_stretch_197 ?_
                        refine lv_bipush (v := 9) hx hb dX11_stretch_200 (by decide) ?_
                        refine lv_iload_n hx hb dX11_stretch_202 rfl (lv_at hl 2 rfl) ?_
                        refine lv_iadd hx hb dX11_stretch_203 ?_
                        refine lv_topi (fun zi_89 ezi_89 => ?_)
                        have tzi_89 : zi_89.toInt = (9 : Int) + zia.toInt := by rw [ezi_89]; exact tiadd (show (9 : Int32).toInt = 9 by decide) (rfl) (by omega) (by omega)
                        refine ht_iald (n := 392) (q := 0) hx hb hK hP hs t_56 (by decide) rfl rfl ⟨by omega, by omega⟩ dX11_stretch_204 ?_
                        refine lv_topi (fun zi_90 ezi_90 => ?_)
                        have la_91 : zi_90.toInt = zA (zI_87 (zR zy 0)) (9 + zia.toInt) := (congrArg Int32.toInt (show zI_87 (zR zy 0) zi_89.toNatClampNeg = zi_90 from ezi_90.symm).symm).trans (congrArg (zA (zI_87 (zR zy 0))) (show zi_89.toInt = 9 + zia.toInt from by omega))
                        have tz_92 : 0 ≤ zi_90.toInt ∧ zi_90.toInt ≤ 6 := by rw [← (show zI_87 (zR zy 0) zi_89.toNatClampNeg = zi_90 from ezi_90.symm)]; exact ZI.g9 z_zI_87 (by omega) (by omega)
                        subst hQ
                        exact W.iret (v := zi_90) hx hb hr (fun t ht hW => ⟨⟨zi_90, zI_87, rfl, ⟨h_zI_87, (show (-12) ≤ zi_90.toInt ∧ zi_90.toInt ≤ 6 from by omega), (show FQ (zI (zR zy 0)) (zI_87 (zR zy 0)) from fq_zI_87), (show ZI (zI_87 (zR zy 0)) from z_zI_87)⟩, ⟨by rw [ht]; exact hP, va_K.moved hW.alike hK, hD⟩⟩, hS.F ht⟩) hS.2.2 dX11_stretch_205
                      · have f_62 : ¬ (zi_58.toInt ≠ (6 : Int)) := ic_nne (rfl) (show (6 : Int32).toInt = 6 by decide) c_61
                        refine lv_bipush (v := (-3)) hx hb dX11_stretch_124 (by decide) ?_
                        subst hQ
                        have qc_m3 : (-3 : Int32).toInt = -3 := by decide
                        exact W.iret (v := (-3 : Int32)) hx hb hr (fun t ht hW => ⟨⟨(-3 : Int32), zI, rfl, ⟨h_zI, (show (-12) ≤ (-3 : Int32).toInt ∧ (-3 : Int32).toInt ≤ 6 from by omega), (show FQ (zI (zR zy 0)) (zI (zR zy 0)) from e_jn_38_0), (show ZI (zI (zR zy 0)) from e_jn_38_1)⟩, ⟨by rw [ht]; exact hP, va_K.moved hW.alike hK, hD⟩⟩, hS.F ht⟩) hS.2.2 dX11_stretch_126
                    · have f_55 : ¬ (zi_50.toInt ≠ (2 : Int)) := ic_nne (rfl) (show (2 : Int32).toInt = 2 by decide) c_54
                      refine lv_bipush (v := (-12)) hx hb dX11_stretch_107 (by decide) ?_
                      subst hQ
                      have qc_m12 : (-12 : Int32).toInt = -12 := by decide
                      exact W.iret (v := (-12 : Int32)) hx hb hr (fun t ht hW => ⟨⟨(-12 : Int32), zI, rfl, ⟨h_zI, (show (-12) ≤ (-12 : Int32).toInt ∧ (-12 : Int32).toInt ≤ 6 from by omega), (show FQ (zI (zR zy 0)) (zI (zR zy 0)) from e_jn_38_0), (show ZI (zI (zR zy 0)) from e_jn_38_1)⟩, ⟨by rw [ht]; exact hP, va_K.moved hW.alike hK, hD⟩⟩, hS.F ht⟩) hS.2.2 dX11_stretch_109
                · have f_43 : ¬ (zj_31.toInt ≤ zj_28.toInt ∧ zj_28.toInt ≤ zj_37.toInt) := bz_0 hw_40 c_42
                  refine lv_iconst (v := (-1)) hx hb dX11_stretch_84 (by decide) ?_
                  subst hQ
                  have qc_m1 : (-1 : Int32).toInt = -1 := by decide
                  exact W.iret (v := (-1 : Int32)) hx hb hr (fun t ht hW => ⟨⟨(-1 : Int32), zI, rfl, ⟨h_zI, (show (-12) ≤ (-1 : Int32).toInt ∧ (-1 : Int32).toInt ≤ 6 from by omega), (show FQ (zI (zR zy 0)) (zI (zR zy 0)) from e_jn_38_0), (show ZI (zI (zR zy 0)) from e_jn_38_1)⟩, ⟨by rw [ht]; exact hP, va_K.moved hW.alike hK, hD⟩⟩, hS.F ht⟩) hS.2.2 dX11_stretch_85
              refine lv_if_ne (tgt := 64) hx hb dX11_stretch_57 (by decide) (fun c_93 => ?_) (fun c_93 => ?_)
              · have f_94 : zib.toInt ≠ 0 := ic_ne (rfl) (by decide) c_93
                refine lv_iload_n hx hb dX11_stretch_64 rfl (lv_at hl 2 rfl) ?_
                refine lv_iconst (v := 1) hx hb dX11_stretch_65 (by decide) ?_
                refine lv_icmp_ne (tgt := 75) hx hb dX11_stretch_66 (by decide) (fun c_95 => ?_) (fun c_95 => ?_)
                · have f_96 : zib.toInt ≠ (1 : Int) := ic_ne (rfl) (show (1 : Int32).toInt = 1 by decide) c_95
                  refine lv_ldc2 (v := 20) hx hb hown (hts (.constantLong RX11 78 20) (by decide +kernel)) dX11_stretch_75 ?_
                  exact jn_38 (20 : Int64) _ _ _ e_jn_32_0 e_jn_32_1 hP hD hS (lv_sub hl [0, 1, 2, 3, 4, 5] rfl)
                · have f_96 : ¬ (zib.toInt ≠ (1 : Int)) := ic_nne (rfl) (show (1 : Int32).toInt = 1 by decide) c_95
                  refine lv_ldc2 (v := 4) hx hb hown (hts (.constantLong RX11 136 4) (by decide +kernel)) dX11_stretch_69 ?_
                  refine lv_goto (tgt := 78) hx hb dX11_stretch_72 (by decide) ?_
                  exact jn_38 (4 : Int64) _ _ _ e_jn_32_0 e_jn_32_1 hP hD hS (lv_sub hl [0, 1, 2, 3, 4, 5] rfl)
              · have f_94 : ¬ (zib.toInt ≠ 0) := ic_nne (rfl) (by decide) c_93
                refine lv_lconst (v := 0) hx hb dX11_stretch_60 (by decide) ?_
                refine lv_goto (tgt := 78) hx hb dX11_stretch_61 (by decide) ?_
                exact jn_38 (0 : Int64) _ _ _ e_jn_32_0 e_jn_32_1 hP hD hS (lv_sub hl [0, 1, 2, 3, 4, 5] rfl)
            refine lv_if_ne (tgt := 55) hx hb dX11_stretch_48 (by decide) (fun c_97 => ?_) (fun c_97 => ?_)
            · have f_98 : zib.toInt ≠ 0 := ic_ne (rfl) (by decide) c_97
              refine lv_lconst (v := 1) hx hb dX11_stretch_55 (by decide) ?_
              exact jn_32 (1 : Int64) _ _ _ FQ.rf hz hP hD hS (lv_sub hl [0, 1, 2, 3, 4, 5] rfl)
            · have f_98 : ¬ (zib.toInt ≠ 0) := ic_nne (rfl) (by decide) c_97
              refine lv_lconst (v := 0) hx hb dX11_stretch_51 (by decide) ?_
              refine lv_goto (tgt := 56) hx hb dX11_stretch_52 (by decide) ?_
              exact jn_32 (0 : Int64) _ _ _ FQ.rf hz hP hD hS (lv_sub hl [0, 1, 2, 3, 4, 5] rfl)
set_option maxHeartbeats 8000000 in
set_option maxRecDepth 100000 in
theorem t_X11_layStretch (l : Launch) (dC : Nat → ClassId) (dI : Nat → Nat → Nat) (cy : Nat → ClassId) (sz : Nat) (zL : List Nat) (zT : Nat → Nat) (zR : Nat → Nat → Nat) (zI : Nat → Nat → Int32) (zJ : Nat → Nat → Int64) (zy : Nat) (zia : Int32) (hs : SKP zL zT zR) (hw : WT zT zR zI) (t_zy : zT zy = 18) (b_zia : 230 ≤ zia.toInt ∧ zia.toInt ≤ 274) (hz : ZI (zI (zR zy 0))) : Met l yX11_layStretch wsX11_layStretch ({ frames := 0, cells := 0, slots := 0, locals := 0 } : Room) (va_Pc [.ref zy, .int zia] (PRE dC dI cy (WL cy zL zT zR zI zJ) sz)) (va_Qv (fun (u : (Nat → Nat → Int32)) => (WM [10500, 10600, 10700] AL zT zR zI u)) (fun u t => POST dC dI cy (va_A (WL cy zL zT zR zI zJ) sz) (WL cy zL zT zR u zJ) t) (va_A (WL cy zL zT zR zI zJ) sz)) 0 0 (va_A (WL cy zL zT zR zI zJ) sz) := by
  refine Met.ofW (cc := cX11_layStretch) (maxL := 3) (ret := none) (by decide) rfl ?_
  intro p e s m args below meth c s₁ B hml hv
  obtain ⟨rfl, hsz, hP, hK, hD0, hN⟩ := hv
  have hx := B.exec
  have hb := B.bytes
  have hr := B.returns
  have hts := atoms_spec (ws := wsX11_layStretch) B.pre
  have hown : s.vm.findClass RX11 = some m.cls := findClass_of_methodNamed B.named
  have hlocks := B.notSynchronized
  subst hsz
  have hD := hD0.self (sz := s.heap.size)
  generalize hAe : va_A (WL cy zL zT zR zI zJ) s.heap.size = A at hD ⊢
  have hA : ∀ q : Nat, s.heap.size ≤ q → A q := fun q h => by rw [← hAe]; exact Or.inr h
  have hS : va_S A s.heap s.heap [] := va_S.rf
  have hP : va_P (dC, dI) vwCl (WL cy zL zT zR zI zJ) s.heap := hP
  have hl := lv_entry ([.ref zy, .int zia] : List Value) (n := 3) (Nat.le_of_ble_eq_true rfl)
  rw [lg_entry_eq]
  generalize (lg_sl ([.ref zy, .int zia] : List Value) ++ List.replicate (3 - (lg_sl ([.ref zy, .int zia] : List Value)).length) Slot.unset).toArray = ls at hl ⊢
  have hl : lv_has ls 3 [(0, .ref zy), (1, .int zia)] := hl
  refine w_q (fun Q hQ => ?_)
  have h_zI : WM [10500, 10600, 10700] AL zT zR zI zI := WM.rf hw
  refine lv_iconst (v := 1) hx hb dX11_layStretch_0 (by decide) ?_
  refine lv_istore_n (lv' := [(2, .int 1), (0, .ref zy), (1, .int zia)]) hx hb dX11_layStretch_1 rfl hl (by decide) rfl (fun ls hl => ?_)
  have lp_801 : ∀ (n : Nat) (zi_640 : Int32) (zI_641 : Nat → Nat → Int32) (H : Heap) (locs : List Loc) (ls : Array Slot), (12 - zi_640.toInt).toNat = n → (1 ≤ zi_640.toInt ∧ zi_640.toInt ≤ 12) → (WM [10500, 10600, 10700] AL zT zR zI zI_641) → (ZI (zI_641 (zR zy 0))) → va_P (dC, dI) vwCl (WL cy zL zT zR zI_641 zJ) H → va_D A (WL cy zL zT zR zI_641 zJ) → va_S A s.heap H locs → lv_has ls 3 [(0, .ref zy), (1, .int zia), (2, .int zi_640)] → W p l e ({ frames := 0, cells := 0, slots := 0, locals := 0 } : Room) s m ([.ref zy, .int zia] : List Value).toArray below meth c H locs 0 0 Q (F0 m 2 ls []) := by
    intro n
    induction n using Nat.strongRecOn with
    | _ n ih_801 =>
      intro zi_640 zI_641 H locs ls hn b_zi_640 h_zI_641 e_lp_801_0 hP hD hS hl
      refine lv_iload_n hx hb dX11_layStretch_2 rfl (lv_at hl 2 rfl) ?_
      refine lv_aload_n hx hb dX11_layStretch_3 rfl (lv_at hl 0 rfl) ?_
      refine ht_geti (C := RX11) (T := TX11) (N := 28) hx hb hts (by decide +kernel) hown hK hP hs t_zy (by decide) rfl rfl 6 (by decide) (hts (.fieldLink RX11 192 "DripStoneModel" "places" "I") (by decide +kernel)) (fun _ h9 => h9) rfl dX11_layStretch_4 ?_
      refine lv_topi (fun zi_802 ezi_802 => ?_)
      have tzi_802 : 0 ≤ zi_802.toInt ∧ zi_802.toInt ≤ 12 := by rw [ezi_802]; exact h_zI_641.at t_zy _ rfl
      refine lv_icmp_ge (tgt := 162) hx hb dX11_layStretch_7 (by decide) (fun c_803 => ?_) (fun c_803 => ?_)
      · have f_804 : zi_640.toInt ≥ zi_802.toInt := ic_ge (rfl) (rfl) c_803
        subst hQ
        exact W.vret hx hb hr (fun t ht hW => ⟨⟨zI_641, rfl, h_zI_641, ⟨by rw [ht]; exact hP, va_K.moved hW.alike hK, hD⟩⟩, hS.F ht⟩) hS.2.2 dX11_layStretch_162
      · have f_804 : ¬ (zi_640.toInt ≥ zi_802.toInt) := ic_nge (rfl) (rfl) c_803
        refine lv_aload_n hx hb dX11_layStretch_10 rfl (lv_at hl 0 rfl) ?_
        refine ht_getr (C := RX11) (T := TX11) (N := 28) hx hb hts (by decide +kernel) hown hK hP hs t_zy (by decide) rfl rfl 8 (by decide) (hts (.fieldLink RX11 19 "DripStoneModel" "placeThing" "[I") (by decide +kernel)) (fun _ h9 => h9) rfl dX11_layStretch_11 ?_
        have t_805 : zT (zR zy 8) = 103 := sk_f hs t_zy (by decide) rfl (by decide)
        refine lv_iload_n hx hb dX11_layStretch_14 rfl (lv_at hl 2 rfl) ?_
        refine lv_iconst (v := 1) hx hb dX11_layStretch_15 (by decide) ?_
        refine lv_isub hx hb dX11_layStretch_16 ?_
        refine lv_topi (fun zi_806 ezi_806 => ?_)
        have tzi_806 : zi_806.toInt = zi_640.toInt - (1 : Int) := by rw [ezi_806]; exact tisub (rfl) (show (1 : Int32).toInt = 1 by decide) (by omega) (by omega)
        refine ht_iald (n := 12) (q := 0) hx hb hK hP hs t_805 (by decide) rfl rfl ⟨by omega, by omega⟩ dX11_layStretch_17 ?_
        refine lv_topi (fun zi_807 ezi_807 => ?_)
        have tzi_807 : 0 ≤ zi_807.toInt ∧ zi_807.toInt ≤ 11 := by rw [ezi_807]; exact h_zI_641.at t_805 _ rfl
        have la_808 : zi_807.toInt = zA (zI_641 (zR zy 8)) ((-1) + zi_640.toInt) := (congrArg Int32.toInt (show zI_641 (zR zy 8) zi_806.toNatClampNeg = zi_807 from ezi_807.symm).symm).trans (congrArg (zA (zI_641 (zR zy 8))) (show zi_806.toInt = (-1) + zi_640.toInt from by omega))
        refine lv_aload_n hx hb dX11_layStretch_18 rfl (lv_at hl 0 rfl) ?_
        refine ht_getr (C := RX11) (T := TX11) (N := 28) hx hb hts (by decide +kernel) hown hK hP hs t_zy (by decide) rfl rfl 0 (by decide) (hts (.fieldLink RX11 7 "DripStoneModel" "z" "[I") (by decide +kernel)) (fun _ h9 => h9) rfl dX11_layStretch_19 ?_
        have t_809 : zT (zR zy 0) = 100 := sk_f hs t_zy (by decide) rfl (by decide)
        refine lv_iload_n hx hb dX11_layStretch_22 rfl (lv_at hl 1 rfl) ?_
        refine lv_iconst (v := 1) hx hb dX11_layStretch_23 (by decide) ?_
        refine lv_iadd hx hb dX11_layStretch_24 ?_
        refine lv_topi (fun zi_810 ezi_810 => ?_)
        have tzi_810 : zi_810.toInt = zia.toInt + (1 : Int) := by rw [ezi_810]; exact tiadd (rfl) (show (1 : Int32).toInt = 1 by decide) (by omega) (by omega)
        refine ht_iald (n := 392) (q := 0) hx hb hK hP hs t_809 (by decide) rfl rfl ⟨by omega, by omega⟩ dX11_layStretch_25 ?_
        refine lv_topi (fun zi_811 ezi_811 => ?_)
        have la_812 : zi_811.toInt = zA (zI_641 (zR zy 0)) (1 + zia.toInt) := (congrArg Int32.toInt (show zI_641 (zR zy 0) zi_810.toNatClampNeg = zi_811 from ezi_811.symm).symm).trans (congrArg (zA (zI_641 (zR zy 0))) (show zi_810.toInt = 1 + zia.toInt from by omega))
        have jn_887 : ∀ (zI_886 : Nat → Nat → Int32) (H : Heap) (locs : List Loc) (ls : Array Slot), (WM [10500, 10600, 10700] AL zT zR zI zI_886) → (ZI (zI_886 (zR zy 0))) → va_P (dC, dI) vwCl (WL cy zL zT zR zI_886 zJ) H → va_D A (WL cy zL zT zR zI_886 zJ) → va_S A s.heap H locs → lv_has ls 3 [(0, .ref zy), (1, .int zia), (2, .int zi_640)] → W p l e ({ frames := 0, cells := 0, slots := 0, locals := 0 } : Room) s m ([.ref zy, .int zia] : List Value).toArray below meth c H locs 0 0 Q (F0 m 156 ls []) := by
          intro zI_886 H locs ls h_zI_886 e_jn_887_0 hP hD hS hl
          obtain ⟨zi_888, ezi_888⟩ : ∃ y : Int32, y = zi_640 + 1 := ⟨_, rfl⟩
          have tzi_888 : zi_888.toInt = zi_640.toInt + 1 := by rw [ezi_888]; exact tadd rfl (show (1 : Int32).toInt = 1 by decide) (by omega) (by omega)
          refine lv_iinc (v := zi_888) (lv' := [(2, .int zi_888), (0, .ref zy), (1, .int zia)]) hx hb dX11_layStretch_156 hl (k := 2) rfl (by rw [ezi_888]; rfl) (by decide) rfl (fun ls hl => ?_)
          refine lv_goto (tgt := 2) hx hb dX11_layStretch_159 (by decide) ?_
          exact ih_801 (12 - zi_888.toInt).toNat (by omega) zi_888 zI_886 _ _ _ rfl (by omega) h_zI_886 e_jn_887_0 hP hD hS (lv_sub hl [1, 2, 0] rfl)
        refine lv_icmp_lt (tgt := 156) hx hb dX11_layStretch_26 (by decide) (fun c_889 => ?_) (fun c_889 => ?_)
        · have f_890 : zi_807.toInt < zi_811.toInt := ic_lt (rfl) (rfl) c_889
          exact jn_887 zI_641 _ _ _ h_zI_641 e_lp_801_0 hP hD hS (lv_sub hl [0, 1, 2] rfl)
        · have f_890 : ¬ (zi_807.toInt < zi_811.toInt) := ic_nlt (rfl) (rfl) c_889
          refine lv_aload_n hx hb dX11_layStretch_29 rfl (lv_at hl 0 rfl) ?_
          refine ht_getr (C := RX11) (T := TX11) (N := 28) hx hb hts (by decide +kernel) hown hK hP hs t_zy (by decide) rfl rfl 8 (by decide) (hts (.fieldLink RX11 19 "DripStoneModel" "placeThing" "[I") (by decide +kernel)) (fun _ h9 => h9) rfl dX11_layStretch_30 ?_
          refine lv_iload_n hx hb dX11_layStretch_33 rfl (lv_at hl 2 rfl) ?_
          refine ht_iald (n := 12) (q := 0) hx hb hK hP hs t_805 (by decide) rfl rfl ⟨by omega, by omega⟩ dX11_layStretch_34 ?_
          refine lv_topi (fun zi_891 ezi_891 => ?_)
          have tzi_891 : 0 ≤ zi_891.toInt ∧ zi_891.toInt ≤ 11 := by rw [ezi_891]; exact h_zI_641.at t_805 _ rfl
          have la_892 : zi_891.toInt = zA (zI_641 (zR zy 8)) (zi_640.toInt) := (congrArg Int32.toInt (show zI_641 (zR zy 8) zi_640.toNatClampNeg = zi_891 from ezi_891.symm).symm).trans (congrArg (zA (zI_641 (zR zy 8))) (show zi_640.toInt = zi_640.toInt from by omega))
          refine lv_aload_n hx hb dX11_layStretch_35 rfl (lv_at hl 0 rfl) ?_
          refine ht_getr (C := RX11) (T := TX11) (N := 28) hx hb hts (by decide +kernel) hown hK hP hs t_zy (by decide) rfl rfl 0 (by decide) (hts (.fieldLink RX11 7 "DripStoneModel" "z" "[I") (by decide +kernel)) (fun _ h9 => h9) rfl dX11_layStretch_36 ?_
          refine lv_iload_n hx hb dX11_layStretch_39 rfl (lv_at hl 1 rfl) ?_
          refine lv_iconst (v := 2) hx hb dX11_layStretch_40 (by decide) ?_
          refine lv_iadd hx hb dX11_layStretch_41 ?_
          refine lv_topi (fun zi_893 ezi_893 => ?_)
          have tzi_893 : zi_893.toInt = zia.toInt + (2 : Int) := by rw [ezi_893]; exact tiadd (rfl) (show (2 : Int32).toInt = 2 by decide) (by omega) (by omega)
          refine ht_iald (n := 392) (q := 0) hx hb hK hP hs t_809 (by decide) rfl rfl ⟨by omega, by omega⟩ dX11_layStretch_42 ?_
          refine lv_topi (fun zi_894 ezi_894 => ?_)
          have la_895 : zi_894.toInt = zA (zI_641 (zR zy 0)) (2 + zia.toInt) := (congrArg Int32.toInt (show zI_641 (zR zy 0) zi_893.toNatClampNeg = zi_894 from ezi_894.symm).symm).trans (congrArg (zA (zI_641 (zR zy 0))) (show zi_893.toInt = 2 + zia.toInt from by omega))
          refine lv_icmp_gt (tgt := 156) hx hb dX11_layStretch_43 (by decide) (fun c_896 => ?_) (fun c_896 => ?_)
          · have f_897 : zi_891.toInt > zi_894.toInt := ic_gt (rfl) (rfl) c_896
            exact jn_887 zI_641 _ _ _ h_zI_641 e_lp_801_0 hP hD hS (lv_sub hl [0, 1, 2] rfl)
          · have f_897 : ¬ (zi_891.toInt > zi_894.toInt) := ic_ngt (rfl) (rfl) c_896
            refine lv_aload_n hx hb dX11_layStretch_46 rfl (lv_at hl 0 rfl) ?_
            refine ht_getr (C := RX11) (T := TX11) (N := 28) hx hb hts (by decide +kernel) hown hK hP hs t_zy (by decide) rfl rfl 0 (by decide) (hts (.fieldLink RX11 7 "DripStoneModel" "z" "[I") (by decide +kernel)) (fun _ h9 => h9) rfl dX11_layStretch_47 ?_
            refine lv_iload_n hx hb dX11_layStretch_50 rfl (lv_at hl 1 rfl) ?_
            refine ht_iald (n := 392) (q := 0) hx hb hK hP hs t_809 (by decide) rfl rfl ⟨by omega, by omega⟩ dX11_layStretch_51 ?_
            refine lv_topi (fun zi_898 ezi_898 => ?_)
            have la_899 : zi_898.toInt = zA (zI_641 (zR zy 0)) (zia.toInt) := (congrArg Int32.toInt (show zI_641 (zR zy 0) zia.toNatClampNeg = zi_898 from ezi_898.symm).symm).trans (congrArg (zA (zI_641 (zR zy 0))) (show zia.toInt = zia.toInt from by omega))
            refine lv_iconst (v := 2) hx hb dX11_layStretch_52 (by decide) ?_
            refine lv_icmp_ne (tgt := 99) hx hb dX11_layStretch_53 (by decide) (fun c_900 => ?_) (fun c_900 => ?_)
            · have f_901 : zi_898.toInt ≠ (2 : Int) := ic_ne (rfl) (show (2 : Int32).toInt = 2 by decide) c_900
              refine lv_aload_n hx hb dX11_layStretch_99 rfl (lv_at hl 0 rfl) ?_
              refine ht_getr (C := RX11) (T := TX11) (N := 28) hx hb hts (by decide +kernel) hown hK hP hs t_zy (by decide) rfl rfl 11 (by decide) (hts (.fieldLink RX11 28 "DripStoneModel" "highStep" "[I") (by decide +kernel)) (fun _ h9 => h9) rfl dX11_layStretch_100 ?_
              have t_902 : zT (zR zy 11) = 106 := sk_f hs t_zy (by decide) rfl (by decide)
              refine lv_iload_n hx hb dX11_layStretch_103 rfl (lv_at hl 2 rfl) ?_
              refine lv_iconst (v := 1) hx hb dX11_layStretch_104 (by decide) ?_
              refine ht_iast (v := (1 : Int32)) (n := 12) (q := 0) hx hb hK hP hD hS hs t_902 (by decide) rfl rfl ⟨by omega, by omega⟩ dX11_layStretch_105 (fun H locs hP hD hS => ?_)
              have h_zI_903 : WM [10500, 10600, 10700] AL zT zR zI (u2 zI_641 (zR zy 11) zi_640.toNatClampNeg (1 : Int32)) := h_zI_641.putA hs t_902 rfl (rgF _) (by decide) (fun h => absurd h (by decide)) (by decide) trivial
              generalize uzI_903 : u2 zI_641 (zR zy 11) zi_640.toNatClampNeg (1 : Int32) = zI_903 at hP hD h_zI_903
              refine lv_aload_n hx hb dX11_layStretch_106 rfl (lv_at hl 0 rfl) ?_
              refine ht_getr (C := RX11) (T := TX11) (N := 28) hx hb hts (by decide +kernel) hown hK hP hs t_zy (by decide) rfl rfl 12 (by decide) (hts (.fieldLink RX11 31 "DripStoneModel" "needRun" "[I") (by decide +kernel)) (fun _ h9 => h9) rfl dX11_layStretch_107 ?_
              have t_904 : zT (zR zy 12) = 107 := sk_f hs t_zy (by decide) rfl (by decide)
              refine lv_iload_n hx hb dX11_layStretch_110 rfl (lv_at hl 2 rfl) ?_
              refine lv_aload_n hx hb dX11_layStretch_111 rfl (lv_at hl 0 rfl) ?_
              refine ht_getr (C := RX11) (T := TX11) (N := 28) hx hb hts (by decide +kernel) hown hK hP hs t_zy (by decide) rfl rfl 0 (by decide) (hts (.fieldLink RX11 7 "DripStoneModel" "z" "[I") (by decide +kernel)) (fun _ h9 => h9) rfl dX11_layStretch_112 ?_
              refine lv_iload_n hx hb dX11_layStretch_115 rfl (lv_at hl 1 rfl) ?_
              refine ht_iald (n := 392) (q := 0) hx hb hK hP hs t_809 (by decide) rfl rfl ⟨by omega, by omega⟩ dX11_layStretch_116 ?_
              refine lv_topi (fun zi_905 ezi_905 => ?_)
              obtain rfl : zi_898 = zi_905 := (ezi_905.trans ((show zI_903 (zR zy 0) zia.toNatClampNeg = zI_641 (zR zy 0) zia.toNatClampNeg from by rw [← uzI_903]; exact u2_n (tne t_809 t_902 (by decide))).trans ezi_898.symm)).symm
              have la_906 : zi_898.toInt = zA (zI_903 (zR zy 0)) (zia.toInt) := (congrArg Int32.toInt (show zI_903 (zR zy 0) zia.toNatClampNeg = zi_898 from ((show zI_903 (zR zy 0) zia.toNatClampNeg = zI_641 (zR zy 0) zia.toNatClampNeg from by rw [← uzI_903]; exact u2_n (tne t_809 t_902 (by decide))).trans ezi_898.symm)).symm).trans (congrArg (zA (zI_903 (zR zy 0))) (show zia.toInt = zia.toInt from by omega))
              refine lv_iconst (v := 1) hx hb dX11_layStretch_117 (by decide) ?_
              have jn_925 : ∀  (H : Heap) (locs : List Loc) (ls : Array Slot), (ZI (zI_903 (zR zy 0))) → va_P (dC, dI) vwCl (WL cy zL zT zR zI_903 zJ) H → va_D A (WL cy zL zT zR zI_903 zJ) → va_S A s.heap H locs → lv_has ls 3 [(0, .ref zy), (1, .int zia), (2, .int zi_640)] → W p l e ({ frames := 0, cells := 0, slots := 0, locals := 0 } : Room) s m ([.ref zy, .int zia] : List Value).toArray below meth c H locs 0 0 Q (F0 m 149 ls [.int zi_640, .ref (zR zy 12)]) := by
                intro  H locs ls e_jn_925_0 hP hD hS hl
                refine lv_aload_n hx hb dX11_layStretch_149 rfl (lv_at hl 0 rfl) ?_
                refine ht_getr (C := RX11) (T := TX11) (N := 28) hx hb hts (by decide +kernel) hown hK hP hs t_zy (by decide) rfl rfl 12 (by decide) (hts (.fieldLink RX11 31 "DripStoneModel" "needRun" "[I") (by decide +kernel)) (fun _ h9 => h9) rfl dX11_layStretch_150 ?_
                refine lv_iload_n hx hb dX11_layStretch_153 rfl (lv_at hl 2 rfl) ?_
                refine ht_iald (n := 12) (q := 0) hx hb hK hP hs t_904 (by decide) rfl rfl ⟨by omega, by omega⟩ dX11_layStretch_154 ?_
                refine lv_topi (fun zi_926 ezi_926 => ?_)
                refine ht_iast (v := zi_926) (n := 12) (q := 0) hx hb hK hP hD hS hs t_904 (by decide) rfl rfl ⟨by omega, by omega⟩ dX11_layStretch_155 (fun H locs hP hD hS => ?_)
                have h_zI_927 : WM [10500, 10600, 10700] AL zT zR zI (u2 zI_903 (zR zy 12) zi_640.toNatClampNeg zi_926) := h_zI_903.putA hs t_904 rfl (rgF _) (by decide) (fun h => absurd h (by decide)) (by decide) trivial
                generalize uzI_927 : u2 zI_903 (zR zy 12) zi_640.toNatClampNeg zi_926 = zI_927 at hP hD h_zI_927
                have zz_928 : ZI (zI_927 (zR zy 0)) := by rw [(show zI_927 (zR zy 0) = zI_903 (zR zy 0) from by rw [← uzI_927]; exact u2_a (tne t_809 t_904 (by decide)))]; exact e_jn_925_0
                exact jn_887 zI_927 _ _ _ h_zI_927 zz_928 hP hD hS (lv_sub hl [0, 1, 2] rfl)
              refine lv_icmp_ne (tgt := 149) hx hb dX11_layStretch_118 (by decide) (fun c_929 => ?_) (fun c_929 => ?_)
              · have f_930 : zi_898.toInt ≠ (1 : Int) := ic_ne (rfl) (show (1 : Int32).toInt = 1 by decide) c_929
                have zz_931 : ZI (zI_903 (zR zy 0)) := by rw [(show zI_903 (zR zy 0) = zI_641 (zR zy 0) from by rw [← uzI_903]; exact u2_a (tne t_809 t_902 (by decide)))]; exact e_lp_801_0
                exact jn_925  _ _ _ zz_931 hP hD hS (lv_sub hl [0, 1, 2] rfl)
              · have f_930 : ¬ (zi_898.toInt ≠ (1 : Int)) := ic_nne (rfl) (show (1 : Int32).toInt = 1 by decide) c_929
                refine lv_aload_n hx hb dX11_layStretch_121 rfl (lv_at hl 0 rfl) ?_
                refine ht_getr (C := RX11) (T := TX11) (N := 28) hx hb hts (by decide +kernel) hown hK hP hs t_zy (by decide) rfl rfl 0 (by decide) (hts (.fieldLink RX11 7 "DripStoneModel" "z" "[I") (by decide +kernel)) (fun _ h9 => h9) rfl dX11_layStretch_122 ?_
                refine lv_iload_n hx hb dX11_layStretch_125 rfl (lv_at hl 1 rfl) ?_
                refine lv_iconst (v := 3) hx hb dX11_layStretch_126 (by decide) ?_
                refine lv_iadd hx hb dX11_layStretch_127 ?_
                refine lv_topi (fun zi_932 ezi_932 => ?_)
                have tzi_932 : zi_932.toInt = zia.toInt + (3 : Int) := by rw [ezi_932]; exact tiadd (rfl) (show (3 : Int32).toInt = 3 by decide) (by omega) (by omega)
                refine ht_iald (n := 392) (q := 0) hx hb hK hP hs t_809 (by decide) rfl rfl ⟨by omega, by omega⟩ dX11_layStretch_128 ?_
                refine lv_topi (fun zi_933 ezi_933 => ?_)
                have la_934 : zi_933.toInt = zA (zI_903 (zR zy 0)) (3 + zia.toInt) := (congrArg Int32.toInt (show zI_903 (zR zy 0) zi_932.toNatClampNeg = zi_933 from ezi_933.symm).symm).trans (congrArg (zA (zI_903 (zR zy 0))) (show zi_932.toInt = 3 + zia.toInt from by omega))
                refine lv_aload_n hx hb dX11_layStretch_129 rfl (lv_at hl 0 rfl) ?_
                refine ht_getr (C := RX11) (T := TX11) (N := 28) hx hb hts (by decide +kernel) hown hK hP hs t_zy (by decide) rfl rfl 12 (by decide) (hts (.fieldLink RX11 31 "DripStoneModel" "needRun" "[I") (by decide +kernel)) (fun _ h9 => h9) rfl dX11_layStretch_130 ?_
                refine lv_iload_n hx hb dX11_layStretch_133 rfl (lv_at hl 2 rfl) ?_
                refine ht_iald (n := 12) (q := 0) hx hb hK hP hs t_904 (by decide) rfl rfl ⟨by omega, by omega⟩ dX11_layStretch_134 ?_
                refine lv_topi (fun zi_935 ezi_935 => ?_)
                refine lv_icmp_le (tgt := 149) hx hb dX11_layStretch_135 (by decide) (fun c_942 => ?_) (fun c_942 => ?_)
                · have f_943 : zi_933.toInt ≤ zi_935.toInt := ic_le (rfl) (rfl) c_942
                  have zz_944 : ZI (zI_903 (zR zy 0)) := by rw [(show zI_903 (zR zy 0) = zI_641 (zR zy 0) from by rw [← uzI_903]; exact u2_a (tne t_809 t_902 (by decide)))]; exact e_lp_801_0
                  exact jn_925  _ _ _ zz_944 hP hD hS (lv_sub hl [0, 1, 2] rfl)
                · have f_943 : ¬ (zi_933.toInt ≤ zi_935.toInt) := ic_nle (rfl) (rfl) c_942
                  refine lv_aload_n hx hb dX11_layStretch_138 rfl (lv_at hl 0 rfl) ?_
                  refine ht_getr (C := RX11) (T := TX11) (N := 28) hx hb hts (by decide +kernel) hown hK hP hs t_zy (by decide) rfl rfl 0 (by decide) (hts (.fieldLink RX11 7 "DripStoneModel" "z" "[I") (by decide +kernel)) (fun _ h9 => h9) rfl dX11_layStretch_139 ?_
                  refine lv_iload_n hx hb dX11_layStretch_142 rfl (lv_at hl 1 rfl) ?_
                  refine lv_iconst (v := 3) hx hb dX11_layStretch_143 (by decide) ?_
                  refine lv_iadd hx hb dX11_layStretch_144 ?_
                  refine lv_topi (fun zi_945 ezi_945 => ?_)
                  have tzi_945 : zi_945.toInt = zia.toInt + (3 : Int) := by rw [ezi_945]; exact tiadd (rfl) (show (3 : Int32).toInt = 3 by decide) (by omega) (by omega)
                  refine ht_iald (n := 392) (q := 0) hx hb hK hP hs t_809 (by decide) rfl rfl ⟨by omega, by omega⟩ dX11_layStretch_145 ?_
                  refine lv_topi (fun zi_946 ezi_946 => ?_)
                  have la_947 : zi_946.toInt = zA (zI_903 (zR zy 0)) (3 + zia.toInt) := (congrArg Int32.toInt (show zI_903 (zR zy 0) zi_945.toNatClampNeg = zi_946 from ezi_946.symm).symm).trans (congrArg (zA (zI_903 (zR zy 0))) (show zi_945.toInt = 3 + zia.toInt from by omega))
                  refine lv_goto (tgt := 155) hx hb dX11_layStretch_146 (by decide) ?_
                  refine ht_iast (v := zi_946) (n := 12) (q := 0) hx hb hK hP hD hS hs t_904 (by decide) rfl rfl ⟨by omega, by omega⟩ dX11_layStretch_155 (fun H locs hP hD hS => ?_)
                  have h_zI_948 : WM [10500, 10600, 10700] AL zT zR zI (u2 zI_903 (zR zy 12) zi_640.toNatClampNeg zi_946) := h_zI_903.putA hs t_904 rfl (rgF _) (by decide) (fun h => absurd h (by decide)) (by decide) trivial
                  generalize uzI_948 : u2 zI_903 (zR zy 12) zi_640.toNatClampNeg zi_946 = zI_948 at hP hD h_zI_948
                  have zz_949 : ZI (zI_948 (zR zy 0)) := by rw [(show zI_948 (zR zy 0) = zI_903 (zR zy 0) from by rw [← uzI_948]; exact u2_a (tne t_809 t_904 (by decide))), (show zI_903 (zR zy 0) = zI_641 (zR zy 0) from by rw [← uzI_903]; exact u2_a (tne t_809 t_902 (by decide)))]; exact e_lp_801_0
                  exact jn_887 zI_948 _ _ _ h_zI_948 zz_949 hP hD hS (lv_sub hl [0, 1, 2] rfl)
            · have f_901 : ¬ (zi_898.toInt ≠ (2 : Int)) := ic_nne (rfl) (show (2 : Int32).toInt = 2 by decide) c_900
              refine lv_aload_n hx hb dX11_layStretch_56 rfl (lv_at hl 0 rfl) ?_
              refine ht_getr (C := RX11) (T := TX11) (N := 28) hx hb hts (by decide +kernel) hown hK hP hs t_zy (by decide) rfl rfl 10 (by decide) (hts (.fieldLink RX11 25 "DripStoneModel" "lowStep" "[I") (by decide +kernel)) (fun _ h9 => h9) rfl dX11_layStretch_57 ?_
              have t_950 : zT (zR zy 10) = 105 := sk_f hs t_zy (by decide) rfl (by decide)
              refine lv_iload_n hx hb dX11_layStretch_60 rfl (lv_at hl 2 rfl) ?_
              refine lv_aload_n hx hb dX11_layStretch_61 rfl (lv_at hl 0 rfl) ?_
              refine ht_getr (C := RX11) (T := TX11) (N := 28) hx hb hts (by decide +kernel) hown hK hP hs t_zy (by decide) rfl rfl 10 (by decide) (hts (.fieldLink RX11 25 "DripStoneModel" "lowStep" "[I") (by decide +kernel)) (fun _ h9 => h9) rfl dX11_layStretch_62 ?_
              refine lv_iload_n hx hb dX11_layStretch_65 rfl (lv_at hl 2 rfl) ?_
              refine ht_iald (n := 12) (q := 0) hx hb hK hP hs t_950 (by decide) rfl rfl ⟨by omega, by omega⟩ dX11_layStretch_66 ?_
              refine lv_topi (fun zi_951 ezi_951 => ?_)
              refine lv_aload_n hx hb dX11_layStretch_67 rfl (lv_at hl 0 rfl) ?_
              refine ht_getr (C := RX11) (T := TX11) (N := 28) hx hb hts (by decide +kernel) hown hK hP hs t_zy (by decide) rfl rfl 0 (by decide) (hts (.fieldLink RX11 7 "DripStoneModel" "z" "[I") (by decide +kernel)) (fun _ h9 => h9) rfl dX11_layStretch_68 ?_
              refine lv_iload_n hx hb dX11_layStretch_71 rfl (lv_at hl 1 rfl) ?_
              refine lv_iconst (v := 3) hx hb dX11_layStretch_72 (by decide) ?_
              refine lv_iadd hx hb dX11_layStretch_73 ?_
              refine lv_topi (fun zi_952 ezi_952 => ?_)
              have tzi_952 : zi_952.toInt = zia.toInt + (3 : Int) := by rw [ezi_952]; exact tiadd (rfl) (show (3 : Int32).toInt = 3 by decide) (by omega) (by omega)
              refine ht_iald (n := 392) (q := 0) hx hb hK hP hs t_809 (by decide) rfl rfl ⟨by omega, by omega⟩ dX11_layStretch_74 ?_
              refine lv_topi (fun zi_953 ezi_953 => ?_)
              have la_954 : zi_953.toInt = zA (zI_641 (zR zy 0)) (3 + zia.toInt) := (congrArg Int32.toInt (show zI_641 (zR zy 0) zi_952.toNatClampNeg = zi_953 from ezi_953.symm).symm).trans (congrArg (zA (zI_641 (zR zy 0))) (show zi_952.toInt = 3 + zia.toInt from by omega))
              have jn_962 : ∀ (zi_961 : Int32) (H : Heap) (locs : List Loc) (ls : Array Slot), (ZI (zI_641 (zR zy 0))) → va_P (dC, dI) vwCl (WL cy zL zT zR zI_641 zJ) H → va_D A (WL cy zL zT zR zI_641 zJ) → va_S A s.heap H locs → lv_has ls 3 [(0, .ref zy), (1, .int zia), (2, .int zi_640)] → W p l e ({ frames := 0, cells := 0, slots := 0, locals := 0 } : Room) s m ([.ref zy, .int zia] : List Value).toArray below meth c H locs 0 0 Q (F0 m 95 ls [.int zi_961, .int zi_640, .ref (zR zy 10)]) := by
                intro zi_961 H locs ls e_jn_962_0 hP hD hS hl
                refine ht_iast (v := zi_961) (n := 12) (q := 0) hx hb hK hP hD hS hs t_950 (by decide) rfl rfl ⟨by omega, by omega⟩ dX11_layStretch_95 (fun H locs hP hD hS => ?_)
                have h_zI_963 : WM [10500, 10600, 10700] AL zT zR zI (u2 zI_641 (zR zy 10) zi_640.toNatClampNeg zi_961) := h_zI_641.putA hs t_950 rfl (rgF _) (by decide) (fun h => absurd h (by decide)) (by decide) trivial
                generalize uzI_963 : u2 zI_641 (zR zy 10) zi_640.toNatClampNeg zi_961 = zI_963 at hP hD h_zI_963
                refine lv_goto (tgt := 156) hx hb dX11_layStretch_96 (by decide) ?_
                have zz_964 : ZI (zI_963 (zR zy 0)) := by rw [(show zI_963 (zR zy 0) = zI_641 (zR zy 0) from by rw [← uzI_963]; exact u2_a (tne t_809 t_950 (by decide)))]; exact e_jn_962_0
                exact jn_887 zI_963 _ _ _ h_zI_963 zz_964 hP hD hS (lv_sub hl [0, 1, 2] rfl)
              refine lv_icmp_le (tgt := 87) hx hb dX11_layStretch_75 (by decide) (fun c_965 => ?_) (fun c_965 => ?_)
              · have f_966 : zi_951.toInt ≤ zi_953.toInt := ic_le (rfl) (rfl) c_965
                refine lv_aload_n hx hb dX11_layStretch_87 rfl (lv_at hl 0 rfl) ?_
                refine ht_getr (C := RX11) (T := TX11) (N := 28) hx hb hts (by decide +kernel) hown hK hP hs t_zy (by decide) rfl rfl 0 (by decide) (hts (.fieldLink RX11 7 "DripStoneModel" "z" "[I") (by decide +kernel)) (fun _ h9 => h9) rfl dX11_layStretch_88 ?_
                refine lv_iload_n hx hb dX11_layStretch_91 rfl (lv_at hl 1 rfl) ?_
                refine lv_iconst (v := 3) hx hb dX11_layStretch_92 (by decide) ?_
                refine lv_iadd hx hb dX11_layStretch_93 ?_
                refine lv_topi (fun zi_967 ezi_967 => ?_)
                have tzi_967 : zi_967.toInt = zia.toInt + (3 : Int) := by rw [ezi_967]; exact tiadd (rfl) (show (3 : Int32).toInt = 3 by decide) (by omega) (by omega)
                refine ht_iald (n := 392) (q := 0) hx hb hK hP hs t_809 (by decide) rfl rfl ⟨by omega, by omega⟩ dX11_layStretch_94 ?_
                refine lv_topi (fun zi_968 ezi_968 => ?_)
                have la_969 : zi_968.toInt = zA (zI_641 (zR zy 0)) (3 + zia.toInt) := (congrArg Int32.toInt (show zI_641 (zR zy 0) zi_967.toNatClampNeg = zi_968 from ezi_968.symm).symm).trans (congrArg (zA (zI_641 (zR zy 0))) (show zi_967.toInt = 3 + zia.toInt from by omega))
                exact jn_962 zi_968 _ _ _ e_lp_801_0 hP hD hS (lv_sub hl [0, 1, 2] rfl)
              · have f_966 : ¬ (zi_951.toInt ≤ zi_953.toInt) := ic_nle (rfl) (rfl) c_965
                refine lv_aload_n hx hb dX11_layStretch_78 rfl (lv_at hl 0 rfl) ?_
                refine ht_getr (C := RX11) (T := TX11) (N := 28) hx hb hts (by decide +kernel) hown hK hP hs t_zy (by decide) rfl rfl 10 (by decide) (hts (.fieldLink RX11 25 "DripStoneModel" "lowStep" "[I") (by decide +kernel)) (fun _ h9 => h9) rfl dX11_layStretch_79 ?_
                refine lv_iload_n hx hb dX11_layStretch_82 rfl (lv_at hl 2 rfl) ?_
                refine ht_iald (n := 12) (q := 0) hx hb hK hP hs t_950 (by decide) rfl rfl ⟨by omega, by omega⟩ dX11_layStretch_83 ?_
                refine lv_topi (fun zi_970 ezi_970 => ?_)
                obtain rfl : zi_951 = zi_970 := (ezi_970.trans ezi_951.symm).symm
                refine lv_goto (tgt := 95) hx hb dX11_layStretch_84 (by decide) ?_
                exact jn_962 zi_951 _ _ _ e_lp_801_0 hP hD hS (lv_sub hl [0, 1, 2] rfl)
  have qc_1 : (1 : Int32).toInt = 1 := by decide
  exact lp_801 _ (1 : Int32) zI _ _ _ rfl (by decide) h_zI hz hP hD hS (lv_sub hl [1, 2, 0] rfl)
set_option maxHeartbeats 8000000 in
set_option maxRecDepth 100000 in
theorem t_X11_date (l : Launch) (dC : Nat → ClassId) (dI : Nat → Nat → Nat) (cy : Nat → ClassId) (sz : Nat) (zL : List Nat) (zT : Nat → Nat) (zR : Nat → Nat → Nat) (zI : Nat → Nat → Int32) (zJ : Nat → Nat → Int64) (zy : Nat) (zia : Int32) (zib : Int32) (zic : Int32) (zid : Int32) (zie : Int32) (hs : SKP zL zT zR) (hw : WT zT zR zI) (t_zy : zT zy = 18) (hz : ZI (zI (zR zy 0))) : Met l yX11_date wsX11_date ({ frames := 2, cells := 0, slots := 0, locals := 47 } : Room) (va_Pc [.ref zy, .int zia, .int zib, .int zic, .int zid, .int zie] (PRE dC dI cy (WL cy zL zT zR zI zJ) sz)) (va_Qi (fun (r : Int32) (u : (Nat → Nat → Int32)) => (WM [10000] AL zT zR zI u) ∧ ((-12) ≤ r.toInt ∧ r.toInt ≤ 7) ∧ (FQ (zI (zR zy 0)) (u (zR zy 0))) ∧ (ZI (u (zR zy 0)))) (fun u t => POST dC dI cy (va_A (WL cy zL zT zR zI zJ) sz) (WL cy zL zT zR u zJ) t) (va_A (WL cy zL zT zR zI zJ) sz)) 0 0 (va_A (WL cy zL zT zR zI zJ) sz) := by
  refine Met.ofW (cc := cX11_date) (maxL := 7) (ret := (some .int)) (by decide) rfl ?_
  intro p e s m args below meth c s₁ B hml hv
  obtain ⟨rfl, hsz, hP, hK, hD0, hN⟩ := hv
  have hx := B.exec
  have hb := B.bytes
  have hr := B.returns
  have hts := atoms_spec (ws := wsX11_date) B.pre
  have hown : s.vm.findClass RX11 = some m.cls := findClass_of_methodNamed B.named
  have hlocks := B.notSynchronized
  subst hsz
  have hD := hD0.self (sz := s.heap.size)
  generalize hAe : va_A (WL cy zL zT zR zI zJ) s.heap.size = A at hD ⊢
  have hA : ∀ q : Nat, s.heap.size ≤ q → A q := fun q h => by rw [← hAe]; exact Or.inr h
  have hS : va_S A s.heap s.heap [] := va_S.rf
  have hP : va_P (dC, dI) vwCl (WL cy zL zT zR zI zJ) s.heap := hP
  have hl := lv_entry ([.ref zy, .int zia, .int zib, .int zic, .int zid, .int zie] : List Value) (n := 7) (Nat.le_of_ble_eq_true rfl)
  rw [lg_entry_eq]
  generalize (lg_sl ([.ref zy, .int zia, .int zib, .int zic, .int zid, .int zie] : List Value) ++ List.replicate (7 - (lg_sl ([.ref zy, .int zia, .int zib, .int zic, .int zid, .int zie] : List Value)).length) Slot.unset).toArray = ls at hl ⊢
  have hl : lv_has ls 7 [(0, .ref zy), (1, .int zia), (2, .int zib), (3, .int zic), (4, .int zid), (5, .int zie)] := hl
  refine w_q (fun Q hQ => ?_)
  have h_zI : WM [10000] AL zT zR zI zI := WM.rf hw
  refine lv_iload_n hx hb dX11_date_0 rfl (lv_at hl 1 rfl) ?_
  refine hj0_i (ws := (WL cy zL zT zR zI zJ)) (va_runS (As := [.int zia]) (rest := []) ⟨hx, hb, hml, hown, hts⟩ (c_X11_isCandle l dC dI cy s.heap.size zia) (va_cwS 1 hts gX11_date_X11_isCandle rfl rfl rfl (by decide +kernel) ⟨(Nat.le_of_ble_eq_true rfl), (Nat.le_of_ble_eq_true rfl)⟩) (PRE.s (hP.sub [] rfl) hK (hD.sub [] (by decide) rfl) hN) rfl rfl hl.1 rfl (lv_room (Nat.le_of_ble_eq_true rfl)) dX11_date_1 ⟨(Nat.le_of_ble_eq_true rfl), (Nat.le_of_ble_eq_true rfl)⟩) hP hD hS hA (fun zi_1 u_3 H locs hw_2 hP hD hS => ?_)
  have hw_2 : zi_1 = if 0 ≤ zia.toInt ∧ zia.toInt ≤ 1 then 1 else 0 := hw_2
  have b_zi_1 : 0 ≤ zi_1.toInt ∧ zi_1.toInt ≤ 1 := bz_b hw_2
  refine lv_if_eq (tgt := 48) hx hb dX11_date_4 (by decide) (fun c_4 => ?_) (fun c_4 => ?_)
  · have f_5 : ¬ (0 ≤ zia.toInt ∧ zia.toInt ≤ 1) := bz_0 hw_2 c_4
    refine lv_iconst (v := (-1)) hx hb dX11_date_48 (by decide) ?_
    subst hQ
    have qc_m1 : (-1 : Int32).toInt = -1 := by decide
    exact W.iret (v := (-1 : Int32)) hx hb hr (fun t ht hW => ⟨⟨(-1 : Int32), zI, rfl, ⟨h_zI, (show (-12) ≤ (-1 : Int32).toInt ∧ (-1 : Int32).toInt ≤ 7 from by omega), (show FQ (zI (zR zy 0)) (zI (zR zy 0)) from FQ.rf), (show ZI (zI (zR zy 0)) from hz)⟩, ⟨by rw [ht]; exact hP, va_K.moved hW.alike hK, hD⟩⟩, hS.F ht⟩) hS.2.2 dX11_date_49
  · have f_5 : 0 ≤ zia.toInt ∧ zia.toInt ≤ 1 := bz_1 hw_2 c_4
    refine lv_aload_n hx hb dX11_date_7 rfl (lv_at hl 0 rfl) ?_
    refine lv_iload_n hx hb dX11_date_8 rfl (lv_at hl 1 rfl) ?_
    refine lv_iload_n hx hb dX11_date_9 rfl (lv_at hl 2 rfl) ?_
    refine hj_i (ws := (WL cy zL zT zR zI zJ)) (w1 := fun (u : Unit) => (WL cy zL zT zR zI zJ)) (va_runV (As := [.int zia, .int zib]) (rest := []) ⟨hx, hb, hml, hown, hts⟩ (t_X11_isThing l dC dI cy H.size zL zT zR zI zJ zy zia zib hs h_zI.1 t_zy (by omega) hz) (cwV 2 hts gX11_date_X11_isThing rfl rfl rfl (by decide +kernel) ⟨(Nat.le_of_ble_eq_true rfl), (Nat.le_of_ble_eq_true rfl)⟩) (PRE.v hP hK hD hN (ht_recv hK hP hs t_zy (by decide) rfl rfl)) rfl rfl hl.1 rfl (lv_room (Nat.le_of_ble_eq_true rfl)) dX11_date_10 ⟨(Nat.le_of_ble_eq_true rfl), (Nat.le_of_ble_eq_true rfl)⟩) hP hD hS hA (fun zi_6 u_8 H locs hw_7 hP hD hS => ?_)
    obtain ⟨b_zi_6, ps_9, ps_10⟩ : (0 ≤ zi_6.toInt ∧ zi_6.toInt ≤ 1) ∧ (zi_6.toInt = 0 ∨ (0 ≤ zib.toInt ∧ zib.toInt ≤ 11)) ∧ (zi_6.toInt = 0 ∨ zib.toInt < zA (zI (zR zy 0)) (5 + zia.toInt)) := hw_7
    refine lv_if_eq (tgt := 48) hx hb dX11_date_13 (by decide) (fun c_11 => ?_) (fun c_11 => ?_)
    · have f_12 : zi_6.toInt = 0 := ic_eq (rfl) (by decide) c_11
      refine lv_iconst (v := (-1)) hx hb dX11_date_48 (by decide) ?_
      subst hQ
      have qc_m1 : (-1 : Int32).toInt = -1 := by decide
      exact W.iret (v := (-1 : Int32)) hx hb hr (fun t ht hW => ⟨⟨(-1 : Int32), zI, rfl, ⟨h_zI, (show (-12) ≤ (-1 : Int32).toInt ∧ (-1 : Int32).toInt ≤ 7 from by omega), (show FQ (zI (zR zy 0)) (zI (zR zy 0)) from FQ.rf), (show ZI (zI (zR zy 0)) from hz)⟩, ⟨by rw [ht]; exact hP, va_K.moved hW.alike hK, hD⟩⟩, hS.F ht⟩) hS.2.2 dX11_date_49
    · have f_12 : ¬ (zi_6.toInt = 0) := ic_neq (rfl) (by decide) c_11
      have b9_zib : 0 ≤ zib.toInt ∧ zib.toInt ≤ 11 := by omega
      refine lv_iload_n hx hb dX11_date_16 rfl (lv_at hl 3 rfl) ?_
      refine hj0_i (ws := (WL cy zL zT zR zI zJ)) (va_runS (As := [.int zic]) (rest := []) ⟨hx, hb, hml, hown, hts⟩ (c_X11_isYear l dC dI cy H.size zic) (va_cwS 1 hts gX11_date_X11_isYear rfl rfl rfl (by decide +kernel) ⟨(Nat.le_of_ble_eq_true rfl), (Nat.le_of_ble_eq_true rfl)⟩) (PRE.s (hP.sub [] rfl) hK (hD.sub [] (by decide) rfl) hN) rfl rfl hl.1 rfl (lv_room (Nat.le_of_ble_eq_true rfl)) dX11_date_17 ⟨(Nat.le_of_ble_eq_true rfl), (Nat.le_of_ble_eq_true rfl)⟩) hP hD hS hA (fun zi_13 u_15 H locs hw_14 hP hD hS => ?_)
      have hw_14 : zi_13 = if 0 ≤ zic.toInt ∧ zic.toInt ≤ 23 then 1 else 0 := hw_14
      have b_zi_13 : 0 ≤ zi_13.toInt ∧ zi_13.toInt ≤ 1 := bz_b hw_14
      refine lv_if_eq (tgt := 48) hx hb dX11_date_20 (by decide) (fun c_16 => ?_) (fun c_16 => ?_)
      · have f_17 : ¬ (0 ≤ zic.toInt ∧ zic.toInt ≤ 23) := bz_0 hw_14 c_16
        refine lv_iconst (v := (-1)) hx hb dX11_date_48 (by decide) ?_
        subst hQ
        have qc_m1 : (-1 : Int32).toInt = -1 := by decide
        exact W.iret (v := (-1 : Int32)) hx hb hr (fun t ht hW => ⟨⟨(-1 : Int32), zI, rfl, ⟨h_zI, (show (-12) ≤ (-1 : Int32).toInt ∧ (-1 : Int32).toInt ≤ 7 from by omega), (show FQ (zI (zR zy 0)) (zI (zR zy 0)) from FQ.rf), (show ZI (zI (zR zy 0)) from hz)⟩, ⟨by rw [ht]; exact hP, va_K.moved hW.alike hK, hD⟩⟩, hS.F ht⟩) hS.2.2 dX11_date_49
      · have f_17 : 0 ≤ zic.toInt ∧ zic.toInt ≤ 23 := bz_1 hw_14 c_16
        refine lv_iload hx hb dX11_date_23 (lv_at hl 4 rfl) ?_
        refine hj0_i (ws := (WL cy zL zT zR zI zJ)) (va_runS (As := [.int zid]) (rest := []) ⟨hx, hb, hml, hown, hts⟩ (c_X11_isYear l dC dI cy H.size zid) (va_cwS 1 hts gX11_date_X11_isYear rfl rfl rfl (by decide +kernel) ⟨(Nat.le_of_ble_eq_true rfl), (Nat.le_of_ble_eq_true rfl)⟩) (PRE.s (hP.sub [] rfl) hK (hD.sub [] (by decide) rfl) hN) rfl rfl hl.1 rfl (lv_room (Nat.le_of_ble_eq_true rfl)) dX11_date_25 ⟨(Nat.le_of_ble_eq_true rfl), (Nat.le_of_ble_eq_true rfl)⟩) hP hD hS hA (fun zi_18 u_20 H locs hw_19 hP hD hS => ?_)
        have hw_19 : zi_18 = if 0 ≤ zid.toInt ∧ zid.toInt ≤ 23 then 1 else 0 := hw_19
        have b_zi_18 : 0 ≤ zi_18.toInt ∧ zi_18.toInt ≤ 1 := bz_b hw_19
        refine lv_if_eq (tgt := 48) hx hb dX11_date_28 (by decide) (fun c_21 => ?_) (fun c_21 => ?_)
        · have f_22 : ¬ (0 ≤ zid.toInt ∧ zid.toInt ≤ 23) := bz_0 hw_19 c_21
          refine lv_iconst (v := (-1)) hx hb dX11_date_48 (by decide) ?_
          subst hQ
          have qc_m1 : (-1 : Int32).toInt = -1 := by decide
          exact W.iret (v := (-1 : Int32)) hx hb hr (fun t ht hW => ⟨⟨(-1 : Int32), zI, rfl, ⟨h_zI, (show (-12) ≤ (-1 : Int32).toInt ∧ (-1 : Int32).toInt ≤ 7 from by omega), (show FQ (zI (zR zy 0)) (zI (zR zy 0)) from FQ.rf), (show ZI (zI (zR zy 0)) from hz)⟩, ⟨by rw [ht]; exact hP, va_K.moved hW.alike hK, hD⟩⟩, hS.F ht⟩) hS.2.2 dX11_date_49
        · have f_22 : 0 ≤ zid.toInt ∧ zid.toInt ≤ 23 := bz_1 hw_19 c_21
          refine lv_iload_n hx hb dX11_date_31 rfl (lv_at hl 3 rfl) ?_
          refine lv_iload hx hb dX11_date_32 (lv_at hl 4 rfl) ?_
          refine lv_icmp_gt (tgt := 48) hx hb dX11_date_34 (by decide) (fun c_23 => ?_) (fun c_23 => ?_)
          · have f_24 : zic.toInt > zid.toInt := ic_gt (rfl) (rfl) c_23
            refine lv_iconst (v := (-1)) hx hb dX11_date_48 (by decide) ?_
            subst hQ
            have qc_m1 : (-1 : Int32).toInt = -1 := by decide
            exact W.iret (v := (-1 : Int32)) hx hb hr (fun t ht hW => ⟨⟨(-1 : Int32), zI, rfl, ⟨h_zI, (show (-12) ≤ (-1 : Int32).toInt ∧ (-1 : Int32).toInt ≤ 7 from by omega), (show FQ (zI (zR zy 0)) (zI (zR zy 0)) from FQ.rf), (show ZI (zI (zR zy 0)) from hz)⟩, ⟨by rw [ht]; exact hP, va_K.moved hW.alike hK, hD⟩⟩, hS.F ht⟩) hS.2.2 dX11_date_49
          · have f_24 : ¬ (zic.toInt > zid.toInt) := ic_ngt (rfl) (rfl) c_23
            refine lv_iload hx hb dX11_date_37 (lv_at hl 5 rfl) ?_
            refine lv_i2l (v := zie.toInt64) hx hb dX11_date_39 rfl ?_
            refine lv_topl (fun zj_25 ezj_25 => ?_)
            have tzj_25 : zj_25.toInt = zie.toInt := by rw [ezj_25]; exact Int32.toInt_toInt64 _
            refine lv_lconst (v := 0) hx hb dX11_date_40 (by decide) ?_
            refine lv_lconst (v := 1) hx hb dX11_date_41 (by decide) ?_
            refine hj0_i (ws := (WL cy zL zT zR zI zJ)) (va_runS (As := [.long zj_25, .long 0, .long 1]) (rest := []) ⟨hx, hb, hml, hown, hts⟩ (c_X11_in l dC dI cy H.size zj_25 0 1 0 1 zj_25.toInt (by first | rfl | decide | omega | exact Int32.toInt_toInt64 _) (by first | rfl | decide | omega | exact Int32.toInt_toInt64 _) (by first | rfl | decide | omega | exact Int32.toInt_toInt64 _)) (va_cwS 3 hts gX11_date_X11_in rfl rfl rfl (by decide +kernel) ⟨(Nat.le_of_ble_eq_true rfl), (Nat.le_of_ble_eq_true rfl)⟩) (PRE.s (hP.sub [] rfl) hK (hD.sub [] (by decide) rfl) hN) rfl rfl hl.1 rfl (lv_room (Nat.le_of_ble_eq_true rfl)) dX11_date_42 ⟨(Nat.le_of_ble_eq_true rfl), (Nat.le_of_ble_eq_true rfl)⟩) hP hD hS hA (fun zi_26 u_28 H locs hw_27 hP hD hS => ?_)
            have hw_27 : zi_26 = if 0 ≤ zj_25.toInt ∧ zj_25.toInt ≤ 1 then 1 else 0 := hw_27
            have b_zi_26 : 0 ≤ zi_26.toInt ∧ zi_26.toInt ≤ 1 := bz_b hw_27
            refine lv_if_ne (tgt := 50) hx hb dX11_date_45 (by decide) (fun c_29 => ?_) (fun c_29 => ?_)
            · have f_30 : 0 ≤ zj_25.toInt ∧ zj_25.toInt ≤ 1 := bz_1 hw_27 c_29
              refine lv_aload_n hx hb dX11_date_50 rfl (lv_at hl 0 rfl) ?_
              refine lv_iload_n hx hb dX11_date_51 rfl (lv_at hl 1 rfl) ?_
              refine lv_iload_n hx hb dX11_date_52 rfl (lv_at hl 2 rfl) ?_
              refine hj_i (ws := (WL cy zL zT zR zI zJ)) (w1 := fun (u : Unit) => (WL cy zL zT zR zI zJ)) (va_runV (As := [.int zia, .int zib]) (rest := []) ⟨hx, hb, hml, hown, hts⟩ (t_X11_kindOf l dC dI cy H.size zL zT zR zI zJ zy zia zib hs h_zI.1 t_zy (by omega) (by omega) hz) (cwV 2 hts gX11_date_X11_kindOf rfl rfl rfl (by decide +kernel) ⟨(Nat.le_of_ble_eq_true rfl), (Nat.le_of_ble_eq_true rfl)⟩) (PRE.v hP hK hD hN (ht_recv hK hP hs t_zy (by decide) rfl rfl)) rfl rfl hl.1 rfl (lv_room (Nat.le_of_ble_eq_true rfl)) dX11_date_53 ⟨(Nat.le_of_ble_eq_true rfl), (Nat.le_of_ble_eq_true rfl)⟩) hP hD hS hA (fun zi_31 u_33 H locs hw_32 hP hD hS => ?_)
              have ps_34 : zi_31.toInt = zA (zI (zR zy 0)) (158 + 12 * zia.toInt + zib.toInt) := hw_32
              have rzi_31 := rng zi_31
              refine lv_iconst (v := 2) hx hb dX11_date_56 (by decide) ?_
              refine lv_icmp_ne (tgt := 63) hx hb dX11_date_57 (by decide) (fun c_35 => ?_) (fun c_35 => ?_)
              · have f_36 : zi_31.toInt ≠ (2 : Int) := ic_ne (rfl) (show (2 : Int32).toInt = 2 by decide) c_35
                refine lv_aload_n hx hb dX11_date_63 rfl (lv_at hl 0 rfl) ?_
                refine ht_getr (C := RX11) (T := TX11) (N := 28) hx hb hts (by decide +kernel) hown hK hP hs t_zy (by decide) rfl rfl 0 (by decide) (hts (.fieldLink RX11 7 "DripStoneModel" "z" "[I") (by decide +kernel)) (fun _ h9 => h9) rfl dX11_date_64 ?_
                have t_37 : zT (zR zy 0) = 100 := sk_f hs t_zy (by decide) rfl (by decide)
                refine lv_bipush (v := 11) hx hb dX11_date_67 (by decide) ?_
                refine ht_iald (n := 392) (q := 0) hx hb hK hP hs t_37 (by decide) rfl rfl ⟨by decide, by decide⟩ dX11_date_69 ?_
                refine lv_topi (fun zi_38 ezi_38 => ?_)
                have la_39 : zi_38.toInt = zA (zI (zR zy 0)) (11) := (congrArg Int32.toInt (show zI (zR zy 0) (11 : Int32).toNatClampNeg = zi_38 from ezi_38.symm).symm).trans (congrArg (zA (zI (zR zy 0))) (show (11 : Int32).toInt = 11 from by decide))
                have tz_40 : 0 ≤ zi_38.toInt ∧ zi_38.toInt ≤ 8 := by rw [← (show zI (zR zy 0) (11 : Int32).toNatClampNeg = zi_38 from ezi_38.symm)]; exact ZI.g11 hz (by decide) (by decide)
                refine lv_bipush (v := 8) hx hb dX11_date_70 (by decide) ?_
                refine lv_icmp_ne (tgt := 78) hx hb dX11_date_72 (by decide) (fun c_41 => ?_) (fun c_41 => ?_)
                · have f_42 : zi_38.toInt ≠ (8 : Int) := ic_ne (rfl) (show (8 : Int32).toInt = 8 by decide) c_41
                  refine lv_aload_n hx hb dX11_date_78 rfl (lv_at hl 0 rfl) ?_
                  refine lv_aload_n hx hb dX11_date_79 rfl (lv_at hl 0 rfl) ?_
                  refine ht_getr (C := RX11) (T := TX11) (N := 28) hx hb hts (by decide +kernel) hown hK hP hs t_zy (by decide) rfl rfl 0 (by decide) (hts (.fieldLink RX11 7 "DripStoneModel" "z" "[I") (by decide +kernel)) (fun _ h9 => h9) rfl dX11_date_80 ?_
                  refine lv_bipush (v := 11) hx hb dX11_date_83 (by decide) ?_
                  refine ht_iald (n := 392) (q := 0) hx hb hK hP hs t_37 (by decide) rfl rfl ⟨by decide, by decide⟩ dX11_date_85 ?_
                  refine lv_topi (fun zi_43 ezi_43 => ?_)
                  obtain rfl : zi_38 = zi_43 := (ezi_43.trans ezi_38.symm).symm
                  refine hj_i (ws := (WL cy zL zT zR zI zJ)) (w1 := fun (u : Unit) => (WL cy zL zT zR zI zJ)) (va_runV (As := [.int zi_38]) (rest := []) ⟨hx, hb, hml, hown, hts⟩ (t_X11_dateAt l dC dI cy H.size zL zT zR zI zJ zy zi_38 hs h_zI.1 t_zy (by omega)) (cwV 1 hts gX11_date_X11_dateAt rfl rfl rfl (by decide +kernel) ⟨(Nat.le_of_ble_eq_true rfl), (Nat.le_of_ble_eq_true rfl)⟩) (PRE.v hP hK hD hN (ht_recv hK hP hs t_zy (by decide) rfl rfl)) rfl rfl hl.1 rfl (lv_room (Nat.le_of_ble_eq_true rfl)) dX11_date_86 ⟨(Nat.le_of_ble_eq_true rfl), (Nat.le_of_ble_eq_true rfl)⟩) hP hD hS hA (fun zi_44 u_46 H locs hw_45 hP hD hS => ?_)
                  obtain ⟨b_zi_44, ps_47⟩ : (278 ≤ zi_44.toInt ∧ zi_44.toInt ≤ 326) ∧ (zi_44.toInt = 278 + 6 * zi_38.toInt) := hw_45
                  refine lv_istore (lv' := [(6, .int zi_44), (0, .ref zy), (1, .int zia), (2, .int zib), (3, .int zic), (4, .int zid), (5, .int zie)]) hx hb dX11_date_89 hl (by decide) rfl (fun ls hl => ?_)
                  refine lv_aload_n hx hb dX11_date_91 rfl (lv_at hl 1 rfl) ?_
                  refine ht_getr (C := RX11) (T := TX11) (N := 28) hx hb hts (by decide +kernel) hown hK hP hs t_zy (by decide) rfl rfl 0 (by decide) (hts (.fieldLink RX11 7 "DripStoneModel" "z" "[I") (by decide +kernel)) (fun _ h9 => h9) rfl dX11_date_92 ?_
                  refine lv_iload hx hb dX11_date_95 (lv_at hl 0 rfl) ?_
                  refine lv_iload_n hx hb dX11_date_97 rfl (lv_at hl 2 rfl) ?_
                  refine ht_iast (v := zia) (n := 392) (q := 0) hx hb hK hP hD hS hs t_37 (by decide) rfl rfl ⟨by omega, by omega⟩ dX11_date_98 (fun H locs hP hD hS => ?_)
                  have h_zI_48 : WM [10000] AL zT zR zI (u2 zI (zR zy 0) zi_44.toNatClampNeg zia) := h_zI.putA hs t_37 rfl (rgF _) (by decide) (fun h => absurd h (by decide)) (by decide) trivial
                  generalize uzI_48 : u2 zI (zR zy 0) zi_44.toNatClampNeg zia = zI_48 at hP hD h_zI_48
                  have kt_49 : zA (zI_48 (zR zy 0)) (11) = zA (zI (zR zy 0)) (11) := by rw [← uzI_48, u2_r]; exact zu_n (by omega) (by omega) (by omega)
                  have kt_50 : zA (zI_48 (zR zy 0)) (5 + zia.toInt) = zA (zI (zR zy 0)) (5 + zia.toInt) := by rw [← uzI_48, u2_r]; exact zu_n (by omega) (by omega) (by omega)
                  have kt_51 : zA (zI_48 (zR zy 0)) (158 + 12 * zia.toInt + zib.toInt) = zA (zI (zR zy 0)) (158 + 12 * zia.toInt + zib.toInt) := by rw [← uzI_48, u2_r]; exact zu_n (by omega) (by omega) (by omega)
                  have kt_52 : zA (zI_48 (zR zy 0)) (zi_44.toInt) = zia.toInt := by rw [← uzI_48, u2_r]; exact zu_s (by omega)
                  have kt_53 : zA (zI_48 (zR zy 0)) (zi_44.toInt + 1) = zA (zI (zR zy 0)) (zi_44.toInt + 1) := by rw [← uzI_48, u2_r]; exact zu_n (by omega) (by omega) (by omega)
                  have z_zI_48 : ZI (zI_48 (zR zy 0)) := by rw [← uzI_48, u2_r]; exact ZI.dt hz (by omega)
                  have fq_zI_48 : FQ (zI (zR zy 0)) (zI_48 (zR zy 0)) := by rw [← uzI_48, u2_r]; exact FQ.up FQ.rf (by omega) (by omega)
                  refine lv_aload_n hx hb dX11_date_99 rfl (lv_at hl 1 rfl) ?_
                  refine ht_getr (C := RX11) (T := TX11) (N := 28) hx hb hts (by decide +kernel) hown hK hP hs t_zy (by decide) rfl rfl 0 (by decide) (hts (.fieldLink RX11 7 "DripStoneModel" "z" "[I") (by decide +kernel)) (fun _ h9 => h9) rfl dX11_date_100 ?_
                  refine lv_iload hx hb dX11_date_103 (lv_at hl 0 rfl) ?_
                  refine lv_iconst (v := 1) hx hb dX11_date_105 (by decide) ?_
                  refine lv_iadd hx hb dX11_date_106 ?_
                  refine lv_topi (fun zi_54 ezi_54 => ?_)
                  have tzi_54 : zi_54.toInt = zi_44.toInt + (1 : Int) := by rw [ezi_54]; exact tiadd (rfl) (show (1 : Int32).toInt = 1 by decide) (by omega) (by omega)
                  refine lv_iload_n hx hb dX11_date_107 rfl (lv_at hl 3 rfl) ?_
                  refine ht_iast (v := zib) (n := 392) (q := 0) hx hb hK hP hD hS hs t_37 (by decide) rfl rfl ⟨by omega, by omega⟩ dX11_date_108 (fun H locs hP hD hS => ?_)
                  have h_zI_55 : WM [10000] AL zT zR zI (u2 zI_48 (zR zy 0) zi_54.toNatClampNeg zib) := h_zI_48.putA hs t_37 rfl (rgF _) (by decide) (fun h => absurd h (by decide)) (by decide) trivial
                  generalize uzI_55 : u2 zI_48 (zR zy 0) zi_54.toNatClampNeg zib = zI_55 at hP hD h_zI_55
                  have kt_56 : zA (zI_55 (zR zy 0)) (11) = zA (zI_48 (zR zy 0)) (11) := by rw [← uzI_55, u2_r]; exact zu_n (by omega) (by omega) (by omega)
                  have kt_57 : zA (zI_55 (zR zy 0)) (5 + zia.toInt) = zA (zI_48 (zR zy 0)) (5 + zia.toInt) := by rw [← uzI_55, u2_r]; exact zu_n (by omega) (by omega) (by omega)
                  have kt_58 : zA (zI_55 (zR zy 0)) (158 + 12 * zia.toInt + zib.toInt) = zA (zI_48 (zR zy 0)) (158 + 12 * zia.toInt + zib.toInt) := by rw [← uzI_55, u2_r]; exact zu_n (by omega) (by omega) (by omega)
                  have kt_59 : zA (zI_55 (zR zy 0)) (zi_44.toInt) = zA (zI_48 (zR zy 0)) (zi_44.toInt) := by rw [← uzI_55, u2_r]; exact zu_n (by omega) (by omega) (by omega)
                  have kt_60 : zA (zI_55 (zR zy 0)) (zi_44.toInt + 1) = zib.toInt := by rw [← uzI_55, u2_r]; exact zu_s (by omega)
                  have z_zI_55 : ZI (zI_55 (zR zy 0)) := by rw [← uzI_55, u2_r]; exact ZI.dt z_zI_48 (by omega)
                  have fq_zI_55 : FQ (zI (zR zy 0)) (zI_55 (zR zy 0)) := by rw [← uzI_55, u2_r]; exact FQ.up fq_zI_48 (by omega) (by omega)
                  refine lv_aload_n hx hb dX11_date_109 rfl (lv_at hl 1 rfl) ?_
                  refine ht_getr (C := RX11) (T := TX11) (N := 28) hx hb hts (by decide +kernel) hown hK hP hs t_zy (by decide) rfl rfl 0 (by decide) (hts (.fieldLink RX11 7 "DripStoneModel" "z" "[I") (by decide +kernel)) (fun _ h9 => h9) rfl dX11_date_110 ?_
                  refine lv_iload hx hb dX11_date_113 (lv_at hl 0 rfl) ?_
                  refine lv_iconst (v := 2) hx hb dX11_date_115 (by decide) ?_
                  refine lv_iadd hx hb dX11_date_116 ?_
                  refine lv_topi (fun zi_61 ezi_61 => ?_)
                  have tzi_61 : zi_61.toInt = zi_44.toInt + (2 : Int) := by rw [ezi_61]; exact tiadd (rfl) (show (2 : Int32).toInt = 2 by decide) (by omega) (by omega)
                  refine lv_iload_n hx hb dX11_date_117 rfl (lv_at hl 4 rfl) ?_
                  refine ht_iast (v := zic) (n := 392) (q := 0) hx hb hK hP hD hS hs t_37 (by decide) rfl rfl ⟨by omega, by omega⟩ dX11_date_118 (fun H locs hP hD hS => ?_)
                  have h_zI_62 : WM [10000] AL zT zR zI (u2 zI_55 (zR zy 0) zi_61.toNatClampNeg zic) := h_zI_55.putA hs t_37 rfl (rgF _) (by decide) (fun h => absurd h (by decide)) (by decide) trivial
                  generalize uzI_62 : u2 zI_55 (zR zy 0) zi_61.toNatClampNeg zic = zI_62 at hP hD h_zI_62
                  have kt_63 : zA (zI_62 (zR zy 0)) (11) = zA (zI_55 (zR zy 0)) (11) := by rw [← uzI_62, u2_r]; exact zu_n (by omega) (by omega) (by omega)
                  have kt_64 : zA (zI_62 (zR zy 0)) (5 + zia.toInt) = zA (zI_55 (zR zy 0)) (5 + zia.toInt) := by rw [← uzI_62, u2_r]; exact zu_n (by omega) (by omega) (by omega)
                  have kt_65 : zA (zI_62 (zR zy 0)) (158 + 12 * zia.toInt + zib.toInt) = zA (zI_55 (zR zy 0)) (158 + 12 * zia.toInt + zib.toInt) := by rw [← uzI_62, u2_r]; exact zu_n (by omega) (by omega) (by omega)
                  have kt_66 : zA (zI_62 (zR zy 0)) (zi_44.toInt) = zA (zI_55 (zR zy 0)) (zi_44.toInt) := by rw [← uzI_62, u2_r]; exact zu_n (by omega) (by omega) (by omega)
                  have kt_67 : zA (zI_62 (zR zy 0)) (zi_44.toInt + 1) = zA (zI_55 (zR zy 0)) (zi_44.toInt + 1) := by rw [← uzI_62, u2_r]; exact zu_n (by omega) (by omega) (by omega)
                  have z_zI_62 : ZI (zI_62 (zR zy 0)) := by rw [← uzI_62, u2_r]; exact ZI.dt z_zI_55 (by omega)
                  have fq_zI_62 : FQ (zI (zR zy 0)) (zI_62 (zR zy 0)) := by rw [← uzI_62, u2_r]; exact FQ.up fq_zI_55 (by omega) (by omega)
                  refine lv_aload_n hx hb dX11_date_119 rfl (lv_at hl 1 rfl) ?_
                  refine ht_getr (C := RX11) (T := TX11) (N := 28) hx hb hts (by decide +kernel) hown hK hP hs t_zy (by decide) rfl rfl 0 (by decide) (hts (.fieldLink RX11 7 "DripStoneModel" "z" "[I") (by decide +kernel)) (fun _ h9 => h9) rfl dX11_date_120 ?_
                  refine lv_iload hx hb dX11_date_123 (lv_at hl 0 rfl) ?_
                  refine lv_iconst (v := 3) hx hb dX11_date_125 (by decide) ?_
                  refine lv_iadd hx hb dX11_date_126 ?_
                  refine lv_topi (fun zi_68 ezi_68 => ?_)
                  have tzi_68 : zi_68.toInt = zi_44.toInt + (3 : Int) := by rw [ezi_68]; exact tiadd (rfl) (show (3 : Int32).toInt = 3 by decide) (by omega) (by omega)
                  refine lv_iload hx hb dX11_date_127 (lv_at hl 5 rfl) ?_
                  refine ht_iast (v := zid) (n := 392) (q := 0) hx hb hK hP hD hS hs t_37 (by decide) rfl rfl ⟨by omega, by omega⟩ dX11_date_129 (fun H locs hP hD hS => ?_)
                  have h_zI_69 : WM [10000] AL zT zR zI (u2 zI_62 (zR zy 0) zi_68.toNatClampNeg zid) := h_zI_62.putA hs t_37 rfl (rgF _) (by decide) (fun h => absurd h (by decide)) (by decide) trivial
                  generalize uzI_69 : u2 zI_62 (zR zy 0) zi_68.toNatClampNeg zid = zI_69 at hP hD h_zI_69
                  have kt_70 : zA (zI_69 (zR zy 0)) (11) = zA (zI_62 (zR zy 0)) (11) := by rw [← uzI_69, u2_r]; exact zu_n (by omega) (by omega) (by omega)
                  have kt_71 : zA (zI_69 (zR zy 0)) (5 + zia.toInt) = zA (zI_62 (zR zy 0)) (5 + zia.toInt) := by rw [← uzI_69, u2_r]; exact zu_n (by omega) (by omega) (by omega)
                  have kt_72 : zA (zI_69 (zR zy 0)) (158 + 12 * zia.toInt + zib.toInt) = zA (zI_62 (zR zy 0)) (158 + 12 * zia.toInt + zib.toInt) := by rw [← uzI_69, u2_r]; exact zu_n (by omega) (by omega) (by omega)
                  have kt_73 : zA (zI_69 (zR zy 0)) (zi_44.toInt) = zA (zI_62 (zR zy 0)) (zi_44.toInt) := by rw [← uzI_69, u2_r]; exact zu_n (by omega) (by omega) (by omega)
                  have kt_74 : zA (zI_69 (zR zy 0)) (zi_44.toInt + 1) = zA (zI_62 (zR zy 0)) (zi_44.toInt + 1) := by rw [← uzI_69, u2_r]; exact zu_n (by omega) (by omega) (by omega)
                  have z_zI_69 : ZI (zI_69 (zR zy 0)) := by rw [← uzI_69, u2_r]; exact ZI.dt z_zI_62 (by omega)
                  have fq_zI_69 : FQ (zI (zR zy 0)) (zI_69 (zR zy 0)) := by rw [← uzI_69, u2_r]; exact FQ.up fq_zI_62 (by omega) (by omega)
                  refine lv_aload_n hx hb dX11_date_130 rfl (lv_at hl 1 rfl) ?_
                  refine ht_getr (C := RX11) (T := TX11) (N := 28) hx hb hts (by decide +kernel) hown hK hP hs t_zy (by decide) rfl rfl 0 (by decide) (hts (.fieldLink RX11 7 "DripStoneModel" "z" "[I") (by decide +kernel)) (fun _ h9 => h9) rfl dX11_date_131 ?_
                  refine lv_iload hx hb dX11_date_134 (lv_at hl 0 rfl) ?_
                  refine lv_iconst (v := 4) hx hb dX11_date_136 (by decide) ?_
                  refine lv_iadd hx hb dX11_date_137 ?_
                  refine lv_topi (fun zi_75 ezi_75 => ?_)
                  have tzi_75 : zi_75.toInt = zi_44.toInt + (4 : Int) := by rw [ezi_75]; exact tiadd (rfl) (show (4 : Int32).toInt = 4 by decide) (by omega) (by omega)
                  refine lv_iload hx hb dX11_date_138 (lv_at hl 6 rfl) ?_
                  refine ht_iast (v := zie) (n := 392) (q := 0) hx hb hK hP hD hS hs t_37 (by decide) rfl rfl ⟨by omega, by omega⟩ dX11_date_140 (fun H locs hP hD hS => ?_)
                  have h_zI_76 : WM [10000] AL zT zR zI (u2 zI_69 (zR zy 0) zi_75.toNatClampNeg zie) := h_zI_69.putA hs t_37 rfl (rgF _) (by decide) (fun h => absurd h (by decide)) (by decide) trivial
                  generalize uzI_76 : u2 zI_69 (zR zy 0) zi_75.toNatClampNeg zie = zI_76 at hP hD h_zI_76
                  have kt_77 : zA (zI_76 (zR zy 0)) (11) = zA (zI_69 (zR zy 0)) (11) := by rw [← uzI_76, u2_r]; exact zu_n (by omega) (by omega) (by omega)
                  have kt_78 : zA (zI_76 (zR zy 0)) (5 + zia.toInt) = zA (zI_69 (zR zy 0)) (5 + zia.toInt) := by rw [← uzI_76, u2_r]; exact zu_n (by omega) (by omega) (by omega)
                  have kt_79 : zA (zI_76 (zR zy 0)) (158 + 12 * zia.toInt + zib.toInt) = zA (zI_69 (zR zy 0)) (158 + 12 * zia.toInt + zib.toInt) := by rw [← uzI_76, u2_r]; exact zu_n (by omega) (by omega) (by omega)
                  have kt_80 : zA (zI_76 (zR zy 0)) (zi_44.toInt) = zA (zI_69 (zR zy 0)) (zi_44.toInt) := by rw [← uzI_76, u2_r]; exact zu_n (by omega) (by omega) (by omega)
                  have kt_81 : zA (zI_76 (zR zy 0)) (zi_44.toInt + 1) = zA (zI_69 (zR zy 0)) (zi_44.toInt + 1) := by rw [← uzI_76, u2_r]; exact zu_n (by omega) (by omega) (by omega)
                  have z_zI_76 : ZI (zI_76 (zR zy 0)) := by rw [← uzI_76, u2_r]; exact ZI.dt z_zI_69 (by omega)
                  have fq_zI_76 : FQ (zI (zR zy 0)) (zI_76 (zR zy 0)) := by rw [← uzI_76, u2_r]; exact FQ.up fq_zI_69 (by omega) (by omega)
                  refine lv_aload_n hx hb dX11_date_141 rfl (lv_at hl 1 rfl) ?_
                  refine ht_getr (C := RX11) (T := TX11) (N := 28) hx hb hts (by decide +kernel) hown hK hP hs t_zy (by decide) rfl rfl 0 (by decide) (hts (.fieldLink RX11 7 "DripStoneModel" "z" "[I") (by decide +kernel)) (fun _ h9 => h9) rfl dX11_date_142 ?_
                  refine lv_iload hx hb dX11_date_145 (lv_at hl 0 rfl) ?_
                  refine lv_iconst (v := 5) hx hb dX11_date_147 (by decide) ?_
                  refine lv_iadd hx hb dX11_date_148 ?_
                  refine lv_topi (fun zi_82 ezi_82 => ?_)
                  have tzi_82 : zi_82.toInt = zi_44.toInt + (5 : Int) := by rw [ezi_82]; exact tiadd (rfl) (show (5 : Int32).toInt = 5 by decide) (by omega) (by omega)
                  refine lv_iconst (v := 0) hx hb dX11_date_149 (by decide) ?_
                  refine ht_iast (v := (0 : Int32)) (n := 392) (q := 0) hx hb hK hP hD hS hs t_37 (by decide) rfl rfl ⟨by omega, by omega⟩ dX11_date_150 (fun H locs hP hD hS => ?_)
                  have h_zI_83 : WM [10000] AL zT zR zI (u2 zI_76 (zR zy 0) zi_82.toNatClampNeg (0 : Int32)) := h_zI_76.putA hs t_37 rfl (rgF _) (by decide) (fun h => absurd h (by decide)) (by decide) trivial
                  generalize uzI_83 : u2 zI_76 (zR zy 0) zi_82.toNatClampNeg (0 : Int32) = zI_83 at hP hD h_zI_83
                  have kt_84 : zA (zI_83 (zR zy 0)) (11) = zA (zI_76 (zR zy 0)) (11) := by rw [← uzI_83, u2_r]; exact zu_n (by omega) (by omega) (by omega)
                  have kt_85 : zA (zI_83 (zR zy 0)) (5 + zia.toInt) = zA (zI_76 (zR zy 0)) (5 + zia.toInt) := by rw [← uzI_83, u2_r]; exact zu_n (by omega) (by omega) (by omega)
                  have kt_86 : zA (zI_83 (zR zy 0)) (158 + 12 * zia.toInt + zib.toInt) = zA (zI_76 (zR zy 0)) (158 + 12 * zia.toInt + zib.toInt) := by rw [← uzI_83, u2_r]; exact zu_n (by omega) (by omega) (by omega)
                  have kt_87 : zA (zI_83 (zR zy 0)) (zi_44.toInt) = zA (zI_76 (zR zy 0)) (zi_44.toInt) := by rw [← uzI_83, u2_r]; exact zu_n (by omega) (by omega) (by omega)
                  have kt_88 : zA (zI_83 (zR zy 0)) (zi_44.toInt + 1) = zA (zI_76 (zR zy 0)) (zi_44.toInt + 1) := by rw [← uzI_83, u2_r]; exact zu_n (by omega) (by omega) (by omega)
                  have z_zI_83 : ZI (zI_83 (zR zy 0)) := by rw [← uzI_83, u2_r]; exact ZI.dt z_zI_76 (by omega)
                  have fq_zI_83 : FQ (zI (zR zy 0)) (zI_83 (zR zy 0)) := by rw [← uzI_83, u2_r]; exact FQ.up fq_zI_76 (by omega) (by omega)
                  refine lv_aload_n hx hb dX11_date_151 rfl (lv_at hl 1 rfl) ?_
                  refine ht_getr (C := RX11) (T := TX11) (N := 28) hx hb hts (by decide +kernel) hown hK hP hs t_zy (by decide) rfl rfl 0 (by decide) (hts (.fieldLink RX11 7 "DripStoneModel" "z" "[I") (by decide +kernel)) (fun _ h9 => h9) rfl dX11_date_152 ?_
                  refine lv_bipush (v := 11) hx hb dX11_date_155 (by decide) ?_
                  refine lv_dup2_11 hx hb dX11_date_157 rfl rfl ?_
                  refine ht_iald (n := 392) (q := 0) hx hb hK hP hs t_37 (by decide) rfl rfl ⟨by decide, by decide⟩ dX11_date_158 ?_
                  refine lv_topi (fun zi_89 ezi_89 => ?_)
                  have qc_11 : (11 : Int32).toInt = 11 := by decide
                  obtain rfl : zi_38 = zi_89 := (ezi_89.trans ((show zI_83 (zR zy 0) (11 : Int32).toNatClampNeg = zI_76 (zR zy 0) (11 : Int32).toNatClampNeg from by rw [← uzI_83]; exact u2_k (cl_ne (by omega) (by omega) (by omega))).trans ((show zI_76 (zR zy 0) (11 : Int32).toNatClampNeg = zI_69 (zR zy 0) (11 : Int32).toNatClampNeg from by rw [← uzI_76]; exact u2_k (cl_ne (by omega) (by omega) (by omega))).trans ((show zI_69 (zR zy 0) (11 : Int32).toNatClampNeg = zI_62 (zR zy 0) (11 : Int32).toNatClampNeg from by rw [← uzI_69]; exact u2_k (cl_ne (by omega) (by omega) (by omega))).trans ((show zI_62 (zR zy 0) (11 : Int32).toNatClampNeg = zI_55 (zR zy 0) (11 : Int32).toNatClampNeg from by rw [← uzI_62]; exact u2_k (cl_ne (by omega) (by omega) (by omega))).trans ((show zI_55 (zR zy 0) (11 : Int32).toNatClampNeg = zI_48 (zR zy 0) (11 : Int32).toNatClampNeg from by rw [← uzI_55]; exact u2_k (cl_ne (by omega) (by omega) (by omega))).trans ((show zI_48 (zR zy 0) (11 : Int32).toNatClampNeg = zI (zR zy 0) (11 : Int32).toNatClampNeg from by rw [← uzI_48]; exact u2_k (cl_ne (by omega) (by omega) (by omega))).trans ezi_38.symm))))))).symm
                  have la_90 : zi_38.toInt = zA (zI_83 (zR zy 0)) (11) := (congrArg Int32.toInt (show zI_83 (zR zy 0) (11 : Int32).toNatClampNeg = zi_38 from ((show zI_83 (zR zy 0) (11 : Int32).toNatClampNeg = zI_76 (zR zy 0) (11 : Int32).toNatClampNeg from by rw [← uzI_83]; exact u2_k (cl_ne (by omega) (by omega) (by omega))).trans ((show zI_76 (zR zy 0) (11 : Int32).toNatClampNeg = zI_69 (zR zy 0) (11 : Int32).toNatClampNeg from by rw [← uzI_76]; exact u2_k (cl_ne (by omega) (by omega) (by omega))).trans ((show zI_69 (zR zy 0) (11 : Int32).toNatClampNeg = zI_62 (zR zy 0) (11 : Int32).toNatClampNeg from by rw [← uzI_69]; exact u2_k (cl_ne (by omega) (by omega) (by omega))).trans ((show zI_62 (zR zy 0) (11 : Int32).toNatClampNeg = zI_55 (zR zy 0) (11 : Int32).toNatClampNeg from by rw [← uzI_62]; exact u2_k (cl_ne (by omega) (by omega) (by omega))).trans ((show zI_55 (zR zy 0) (11 : Int32).toNatClampNeg = zI_48 (zR zy 0) (11 : Int32).toNatClampNeg from by rw [← uzI_55]; exact u2_k (cl_ne (by omega) (by omega) (by omega))).trans ((show zI_48 (zR zy 0) (11 : Int32).toNatClampNeg = zI (zR zy 0) (11 : Int32).toNatClampNeg from by rw [← uzI_48]; exact u2_k (cl_ne (by omega) (by omega) (by omega))).trans ezi_38.symm))))))).symm).trans (congrArg (zA (zI_83 (zR zy 0))) (show (11 : Int32).toInt = 11 from by decide))
                  refine lv_iconst (v := 1) hx hb dX11_date_159 (by decide) ?_
                  refine lv_iadd hx hb dX11_date_160 ?_
                  refine lv_topi (fun zi_91 ezi_91 => ?_)
                  have tzi_91 : zi_91.toInt = zi_38.toInt + (1 : Int) := by rw [ezi_91]; exact tiadd (rfl) (show (1 : Int32).toInt = 1 by decide) (by omega) (by omega)
                  refine ht_iast (v := zi_91) (n := 392) (q := 0) hx hb hK hP hD hS hs t_37 (by decide) rfl rfl ⟨by decide, by decide⟩ dX11_date_161 (fun H locs hP hD hS => ?_)
                  have dn : zA (zI_83 (zR zy 0)) (11) = zi_38.toInt := by omega
                  have d1 : zA (zI_83 (zR zy 0)) (278 + 6 * zA (zI_83 (zR zy 0)) (11)) = zia.toInt := by rw [show (278 + 6 * zA (zI_83 (zR zy 0)) (11) : Int) = zi_44.toInt from by omega]; omega
                  have d2 : zA (zI_83 (zR zy 0)) (279 + 6 * zA (zI_83 (zR zy 0)) (11)) = zib.toInt := by rw [show (279 + 6 * zA (zI_83 (zR zy 0)) (11) : Int) = zi_44.toInt + 1 from by omega]; omega
                  have qc_11 : (11 : Int32).toInt = 11 := by decide
                  have h_zI_92 : WM [10000] AL zT zR zI (u2 zI_83 (zR zy 0) (11 : Int32).toNatClampNeg zi_91) := h_zI_83.putA hs t_37 rfl (rgF _) (by decide) (fun h => absurd h (by decide)) (by decide) trivial
                  generalize uzI_92 : u2 zI_83 (zR zy 0) (11 : Int32).toNatClampNeg zi_91 = zI_92 at hP hD h_zI_92
                  have kt_93 : zA (zI_92 (zR zy 0)) (11) = zi_91.toInt := by rw [← uzI_92, u2_r]; exact zu_s (by omega)
                  have kt_94 : zA (zI_92 (zR zy 0)) (5 + zia.toInt) = zA (zI_83 (zR zy 0)) (5 + zia.toInt) := by rw [← uzI_92, u2_r]; exact zu_n (by omega) (by omega) (by omega)
                  have kt_95 : zA (zI_92 (zR zy 0)) (158 + 12 * zia.toInt + zib.toInt) = zA (zI_83 (zR zy 0)) (158 + 12 * zia.toInt + zib.toInt) := by rw [← uzI_92, u2_r]; exact zu_n (by omega) (by omega) (by omega)
                  have kt_96 : zA (zI_92 (zR zy 0)) (zi_44.toInt) = zA (zI_83 (zR zy 0)) (zi_44.toInt) := by rw [← uzI_92, u2_r]; exact zu_n (by omega) (by omega) (by omega)
                  have kt_97 : zA (zI_92 (zR zy 0)) (zi_44.toInt + 1) = zA (zI_83 (zR zy 0)) (zi_44.toInt + 1) := by rw [← uzI_92, u2_r]; exact zu_n (by omega) (by omega) (by omega)
                  have z_zI_92 : ZI (zI_92 (zR zy 0)) := by rw [← uzI_92, u2_r]; exact ZI.d1 z_zI_83 (by omega) (by omega) (by omega) (DO.mk9 d1 d2 (by omega) (by omega) (by omega))
                  have qc_11 : (11 : Int32).toInt = 11 := by decide
                  have fq_zI_92 : FQ (zI (zR zy 0)) (zI_92 (zR zy 0)) := by rw [← uzI_92, u2_r]; exact FQ.up fq_zI_83 (by omega) (by omega)
                  refine lv_aload_n hx hb dX11_date_162 rfl (lv_at hl 1 rfl) ?_
                  refine ht_getr (C := RX11) (T := TX11) (N := 28) hx hb hts (by decide +kernel) hown hK hP hs t_zy (by decide) rfl rfl 0 (by decide) (hts (.fieldLink RX11 7 "DripStoneModel" "z" "[I") (by decide +kernel)) (fun _ h9 => h9) rfl dX11_date_163 ?_
                  refine lv_bipush (v := 11) hx hb dX11_date_166 (by decide) ?_
                  refine ht_iald (n := 392) (q := 0) hx hb hK hP hs t_37 (by decide) rfl rfl ⟨by decide, by decide⟩ dX11_date_168 ?_
                  refine lv_topi (fun zi_98 ezi_98 => ?_)
                  obtain rfl : zi_91 = zi_98 := (ezi_98.trans (by rw [← uzI_92]; exact u2_s)).symm
                  have la_99 : zi_91.toInt = zA (zI_92 (zR zy 0)) (11) := (congrArg Int32.toInt (show zI_92 (zR zy 0) (11 : Int32).toNatClampNeg = zi_91 from (by rw [← uzI_92]; exact u2_s)).symm).trans (congrArg (zA (zI_92 (zR zy 0))) (show (11 : Int32).toInt = 11 from by decide))
                  refine lv_iconst (v := 1) hx hb dX11_date_169 (by decide) ?_
                  refine lv_isub hx hb dX11_date_170 ?_
                  refine lv_topi (fun zi_100 ezi_100 => ?_)
                  have tzi_100 : zi_100.toInt = zi_91.toInt - (1 : Int) := by rw [ezi_100]; exact tisub (rfl) (show (1 : Int32).toInt = 1 by decide) (by omega) (by omega)
                  subst hQ
                  exact W.iret (v := zi_100) hx hb hr (fun t ht hW => ⟨⟨zi_100, zI_92, rfl, ⟨h_zI_92, (show (-12) ≤ zi_100.toInt ∧ zi_100.toInt ≤ 7 from by omega), (show FQ (zI (zR zy 0)) (zI_92 (zR zy 0)) from fq_zI_92), (show ZI (zI_92 (zR zy 0)) from z_zI_92)⟩, ⟨by rw [ht]; exact hP, va_K.moved hW.alike hK, hD⟩⟩, hS.F ht⟩) hS.2.2 dX11_date_171
                · have f_42 : ¬ (zi_38.toInt ≠ (8 : Int)) := ic_nne (rfl) (show (8 : Int32).toInt = 8 by decide) c_41
                  refine lv_bipush (v := (-3)) hx hb dX11_date_75 (by decide) ?_
                  subst hQ
                  have qc_m3 : (-3 : Int32).toInt = -3 := by decide
                  exact W.iret (v := (-3 : Int32)) hx hb hr (fun t ht hW => ⟨⟨(-3 : Int32), zI, rfl, ⟨h_zI, (show (-12) ≤ (-3 : Int32).toInt ∧ (-3 : Int32).toInt ≤ 7 from by omega), (show FQ (zI (zR zy 0)) (zI (zR zy 0)) from FQ.rf), (show ZI (zI (zR zy 0)) from hz)⟩, ⟨by rw [ht]; exact hP, va_K.moved hW.alike hK, hD⟩⟩, hS.F ht⟩) hS.2.2 dX11_date_77
              · have f_36 : ¬ (zi_31.toInt ≠ (2 : Int)) := ic_nne (rfl) (show (2 : Int32).toInt = 2 by decide) c_35
                refine lv_bipush (v := (-12)) hx hb dX11_date_60 (by decide) ?_
                subst hQ
                have qc_m12 : (-12 : Int32).toInt = -12 := by decide
                exact W.iret (v := (-12 : Int32)) hx hb hr (fun t ht hW => ⟨⟨(-12 : Int32), zI, rfl, ⟨h_zI, (show (-12) ≤ (-12 : Int32).toInt ∧ (-12 : Int32).toInt ≤ 7 from by omega), (show FQ (zI (zR zy 0)) (zI (zR zy 0)) from FQ.rf), (show ZI (zI (zR zy 0)) from hz)⟩, ⟨by rw [ht]; exact hP, va_K.moved hW.alike hK, hD⟩⟩, hS.F ht⟩) hS.2.2 dX11_date_62
            · have f_30 : ¬ (0 ≤ zj_25.toInt ∧ zj_25.toInt ≤ 1) := bz_0 hw_27 c_29
              refine lv_iconst (v := (-1)) hx hb dX11_date_48 (by decide) ?_
              subst hQ
              have qc_m1 : (-1 : Int32).toInt = -1 := by decide
              exact W.iret (v := (-1 : Int32)) hx hb hr (fun t ht hW => ⟨⟨(-1 : Int32), zI, rfl, ⟨h_zI, (show (-12) ≤ (-1 : Int32).toInt ∧ (-1 : Int32).toInt ≤ 7 from by omega), (show FQ (zI (zR zy 0)) (zI (zR zy 0)) from FQ.rf), (show ZI (zI (zR zy 0)) from hz)⟩, ⟨by rw [ht]; exact hP, va_K.moved hW.alike hK, hD⟩⟩, hS.F ht⟩) hS.2.2 dX11_date_49
set_option maxHeartbeats 8000000 in
set_option maxRecDepth 100000 in
theorem t_X11_addThing (l : Launch) (dC : Nat → ClassId) (dI : Nat → Nat → Nat) (cy : Nat → ClassId) (sz : Nat) (zL : List Nat) (zT : Nat → Nat) (zR : Nat → Nat → Nat) (zI : Nat → Nat → Int32) (zJ : Nat → Nat → Int64) (zy : Nat) (zia : Int32) (zib : Int32) (zic : Int32) (zid : Int32) (hs : SKP zL zT zR) (hw : WT zT zR zI) (t_zy : zT zy = 18) (b_zia : 0 ≤ zia.toInt ∧ zia.toInt ≤ 1) (hz : ZI (zI (zR zy 0))) : Met l yX11_addThing wsX11_addThing ({ frames := 0, cells := 0, slots := 0, locals := 0 } : Room) (va_Pc [.ref zy, .int zia, .int zib, .int zic, .int zid] (PRE dC dI cy (WL cy zL zT zR zI zJ) sz)) (va_Qv (fun (u : (Nat → Nat → Int32)) => (WM [10000] AL zT zR zI u) ∧ (FA (zI (zR zy 0)) (u (zR zy 0))) ∧ (FQ (zI (zR zy 0)) (u (zR zy 0))) ∧ (ZI (u (zR zy 0)))) (fun u t => POST dC dI cy (va_A (WL cy zL zT zR zI zJ) sz) (WL cy zL zT zR u zJ) t) (va_A (WL cy zL zT zR zI zJ) sz)) 0 0 (va_A (WL cy zL zT zR zI zJ) sz) := by
  refine Met.ofW (cc := cX11_addThing) (maxL := 6) (ret := none) (by decide) rfl ?_
  intro p e s m args below meth c s₁ B hml hv
  obtain ⟨rfl, hsz, hP, hK, hD0, hN⟩ := hv
  have hx := B.exec
  have hb := B.bytes
  have hr := B.returns
  have hts := atoms_spec (ws := wsX11_addThing) B.pre
  have hown : s.vm.findClass RX11 = some m.cls := findClass_of_methodNamed B.named
  have hlocks := B.notSynchronized
  subst hsz
  have hD := hD0.self (sz := s.heap.size)
  generalize hAe : va_A (WL cy zL zT zR zI zJ) s.heap.size = A at hD ⊢
  have hA : ∀ q : Nat, s.heap.size ≤ q → A q := fun q h => by rw [← hAe]; exact Or.inr h
  have hS : va_S A s.heap s.heap [] := va_S.rf
  have hP : va_P (dC, dI) vwCl (WL cy zL zT zR zI zJ) s.heap := hP
  have hl := lv_entry ([.ref zy, .int zia, .int zib, .int zic, .int zid] : List Value) (n := 6) (Nat.le_of_ble_eq_true rfl)
  rw [lg_entry_eq]
  generalize (lg_sl ([.ref zy, .int zia, .int zib, .int zic, .int zid] : List Value) ++ List.replicate (6 - (lg_sl ([.ref zy, .int zia, .int zib, .int zic, .int zid] : List Value)).length) Slot.unset).toArray = ls at hl ⊢
  have hl : lv_has ls 6 [(0, .ref zy), (1, .int zia), (2, .int zib), (3, .int zic), (4, .int zid)] := hl
  refine w_q (fun Q hQ => ?_)
  have h_zI : WM [10000] AL zT zR zI zI := WM.rf hw
  refine lv_aload_n hx hb dX11_addThing_0 rfl (lv_at hl 0 rfl) ?_
  refine ht_getr (C := RX11) (T := TX11) (N := 28) hx hb hts (by decide +kernel) hown hK hP hs t_zy (by decide) rfl rfl 0 (by decide) (hts (.fieldLink RX11 7 "DripStoneModel" "z" "[I") (by decide +kernel)) (fun _ h9 => h9) rfl dX11_addThing_1 ?_
  have t_1 : zT (zR zy 0) = 100 := sk_f hs t_zy (by decide) rfl (by decide)
  refine lv_iconst (v := 5) hx hb dX11_addThing_4 (by decide) ?_
  refine lv_iload_n hx hb dX11_addThing_5 rfl (lv_at hl 1 rfl) ?_
  refine lv_iadd hx hb dX11_addThing_6 ?_
  refine lv_topi (fun zi_2 ezi_2 => ?_)
  have tzi_2 : zi_2.toInt = (5 : Int) + zia.toInt := by rw [ezi_2]; exact tiadd (show (5 : Int32).toInt = 5 by decide) (rfl) (by omega) (by omega)
  refine ht_iald (n := 392) (q := 0) hx hb hK hP hs t_1 (by decide) rfl rfl ⟨by omega, by omega⟩ dX11_addThing_7 ?_
  refine lv_topi (fun zi_3 ezi_3 => ?_)
  have la_4 : zi_3.toInt = zA (zI (zR zy 0)) (5 + zia.toInt) := (congrArg Int32.toInt (show zI (zR zy 0) zi_2.toNatClampNeg = zi_3 from ezi_3.symm).symm).trans (congrArg (zA (zI (zR zy 0))) (show zi_2.toInt = 5 + zia.toInt from by omega))
  have tz_5 : 0 ≤ zi_3.toInt ∧ zi_3.toInt ≤ 12 := by rw [← (show zI (zR zy 0) zi_2.toNatClampNeg = zi_3 from ezi_3.symm)]; exact ZI.g5 hz (by omega) (by omega)
  refine lv_istore (lv' := [(5, .int zi_3), (0, .ref zy), (1, .int zia), (2, .int zib), (3, .int zic), (4, .int zid)]) hx hb dX11_addThing_8 hl (by decide) rfl (fun ls hl => ?_)
  refine lv_iload hx hb dX11_addThing_10 (lv_at hl 0 rfl) ?_
  refine lv_bipush (v := 12) hx hb dX11_addThing_12 (by decide) ?_
  refine lv_icmp_ge (tgt := 81) hx hb dX11_addThing_14 (by decide) (fun c_6 => ?_) (fun c_6 => ?_)
  · have f_7 : zi_3.toInt ≥ (12 : Int) := ic_ge (rfl) (show (12 : Int32).toInt = 12 by decide) c_6
    subst hQ
    exact W.vret hx hb hr (fun t ht hW => ⟨⟨zI, rfl, ⟨h_zI, (show FA (zI (zR zy 0)) (zI (zR zy 0)) from FA.rf), (show FQ (zI (zR zy 0)) (zI (zR zy 0)) from FQ.rf), (show ZI (zI (zR zy 0)) from hz)⟩, ⟨by rw [ht]; exact hP, va_K.moved hW.alike hK, hD⟩⟩, hS.F ht⟩) hS.2.2 dX11_addThing_81
  · have f_7 : ¬ (zi_3.toInt ≥ (12 : Int)) := ic_nge (rfl) (show (12 : Int32).toInt = 12 by decide) c_6
    refine lv_aload_n hx hb dX11_addThing_17 rfl (lv_at hl 1 rfl) ?_
    refine ht_getr (C := RX11) (T := TX11) (N := 28) hx hb hts (by decide +kernel) hown hK hP hs t_zy (by decide) rfl rfl 0 (by decide) (hts (.fieldLink RX11 7 "DripStoneModel" "z" "[I") (by decide +kernel)) (fun _ h9 => h9) rfl dX11_addThing_18 ?_
    refine lv_sipush (v := 158) hx hb dX11_addThing_21 (by decide) ?_
    refine lv_bipush (v := 12) hx hb dX11_addThing_24 (by decide) ?_
    refine lv_iload_n hx hb dX11_addThing_26 rfl (lv_at hl 2 rfl) ?_
    refine lv_imul hx hb dX11_addThing_27 ?_
    refine lv_topi (fun zi_8 ezi_8 => ?_)
    have tzi_8 : zi_8.toInt = (12 : Int) * zia.toInt := by rw [ezi_8]; exact timul (show (12 : Int32).toInt = 12 by decide) (rfl) (by omega) (by omega)
    refine lv_iadd hx hb dX11_addThing_28 ?_
    refine lv_topi (fun zi_9 ezi_9 => ?_)
    have tzi_9 : zi_9.toInt = (158 : Int) + zi_8.toInt := by rw [ezi_9]; exact tiadd (show (158 : Int32).toInt = 158 by decide) (rfl) (by omega) (by omega)
    refine lv_iload hx hb dX11_addThing_29 (lv_at hl 0 rfl) ?_
    refine lv_iadd hx hb dX11_addThing_31 ?_
    refine lv_topi (fun zi_10 ezi_10 => ?_)
    have tzi_10 : zi_10.toInt = zi_9.toInt + zi_3.toInt := by rw [ezi_10]; exact tiadd (rfl) (rfl) (by omega) (by omega)
    refine lv_iload_n hx hb dX11_addThing_32 rfl (lv_at hl 3 rfl) ?_
    refine ht_iast (v := zib) (n := 392) (q := 0) hx hb hK hP hD hS hs t_1 (by decide) rfl rfl ⟨by omega, by omega⟩ dX11_addThing_33 (fun H locs hP hD hS => ?_)
    have h_zI_11 : WM [10000] AL zT zR zI (u2 zI (zR zy 0) zi_10.toNatClampNeg zib) := h_zI.putA hs t_1 rfl (rgF _) (by decide) (fun h => absurd h (by decide)) (by decide) trivial
    generalize uzI_11 : u2 zI (zR zy 0) zi_10.toNatClampNeg zib = zI_11 at hP hD h_zI_11
    have kt_12 : zA (zI_11 (zR zy 0)) (5 + zia.toInt) = zA (zI (zR zy 0)) (5 + zia.toInt) := by rw [← uzI_11, u2_r]; exact zu_n (by omega) (by omega) (by omega)
    have fa_zI_11 : FA (zI (zR zy 0)) (zI_11 (zR zy 0)) := by rw [← uzI_11, u2_r]; exact FA.up FA.rf (by omega)
    have z_zI_11 : ZI (zI_11 (zR zy 0)) := by rw [← uzI_11, u2_r]; exact ZI.kd hz (c := zia.toInt) (t := zi_3.toInt) (by omega) (by omega) (by omega) (by omega)
    have fq_zI_11 : FQ (zI (zR zy 0)) (zI_11 (zR zy 0)) := by rw [← uzI_11, u2_r]; exact FQ.up FQ.rf (by omega) (by omega)
    refine lv_aload_n hx hb dX11_addThing_34 rfl (lv_at hl 1 rfl) ?_
    refine ht_getr (C := RX11) (T := TX11) (N := 28) hx hb hts (by decide +kernel) hown hK hP hs t_zy (by decide) rfl rfl 0 (by decide) (hts (.fieldLink RX11 7 "DripStoneModel" "z" "[I") (by decide +kernel)) (fun _ h9 => h9) rfl dX11_addThing_35 ?_
    refine lv_sipush (v := 182) hx hb dX11_addThing_38 (by decide) ?_
    refine lv_bipush (v := 12) hx hb dX11_addThing_41 (by decide) ?_
    refine lv_iload_n hx hb dX11_addThing_43 rfl (lv_at hl 2 rfl) ?_
    refine lv_imul hx hb dX11_addThing_44 ?_
    refine lv_topi (fun zi_13 ezi_13 => ?_)
    have tzi_13 : zi_13.toInt = (12 : Int) * zia.toInt := by rw [ezi_13]; exact timul (show (12 : Int32).toInt = 12 by decide) (rfl) (by omega) (by omega)
    refine lv_iadd hx hb dX11_addThing_45 ?_
    refine lv_topi (fun zi_14 ezi_14 => ?_)
    have tzi_14 : zi_14.toInt = (182 : Int) + zi_13.toInt := by rw [ezi_14]; exact tiadd (show (182 : Int32).toInt = 182 by decide) (rfl) (by omega) (by omega)
    refine lv_iload hx hb dX11_addThing_46 (lv_at hl 0 rfl) ?_
    refine lv_iadd hx hb dX11_addThing_48 ?_
    refine lv_topi (fun zi_15 ezi_15 => ?_)
    have tzi_15 : zi_15.toInt = zi_14.toInt + zi_3.toInt := by rw [ezi_15]; exact tiadd (rfl) (rfl) (by omega) (by omega)
    refine lv_iload_n hx hb dX11_addThing_49 rfl (lv_at hl 4 rfl) ?_
    refine ht_iast (v := zic) (n := 392) (q := 0) hx hb hK hP hD hS hs t_1 (by decide) rfl rfl ⟨by omega, by omega⟩ dX11_addThing_50 (fun H locs hP hD hS => ?_)
    have h_zI_16 : WM [10000] AL zT zR zI (u2 zI_11 (zR zy 0) zi_15.toNatClampNeg zic) := h_zI_11.putA hs t_1 rfl (rgF _) (by decide) (fun h => absurd h (by decide)) (by decide) trivial
    generalize uzI_16 : u2 zI_11 (zR zy 0) zi_15.toNatClampNeg zic = zI_16 at hP hD h_zI_16
    have kt_17 : zA (zI_16 (zR zy 0)) (5 + zia.toInt) = zA (zI_11 (zR zy 0)) (5 + zia.toInt) := by rw [← uzI_16, u2_r]; exact zu_n (by omega) (by omega) (by omega)
    have fa_zI_16 : FA (zI (zR zy 0)) (zI_16 (zR zy 0)) := by rw [← uzI_16, u2_r]; exact FA.up fa_zI_11 (by omega)
    have z_zI_16 : ZI (zI_16 (zR zy 0)) := by rw [← uzI_16, u2_r]; exact ZI.fr z_zI_11 (by omega)
    have fq_zI_16 : FQ (zI (zR zy 0)) (zI_16 (zR zy 0)) := by rw [← uzI_16, u2_r]; exact FQ.up fq_zI_11 (by omega) (by omega)
    refine lv_aload_n hx hb dX11_addThing_51 rfl (lv_at hl 1 rfl) ?_
    refine ht_getr (C := RX11) (T := TX11) (N := 28) hx hb hts (by decide +kernel) hown hK hP hs t_zy (by decide) rfl rfl 0 (by decide) (hts (.fieldLink RX11 7 "DripStoneModel" "z" "[I") (by decide +kernel)) (fun _ h9 => h9) rfl dX11_addThing_52 ?_
    refine lv_sipush (v := 206) hx hb dX11_addThing_55 (by decide) ?_
    refine lv_bipush (v := 12) hx hb dX11_addThing_58 (by decide) ?_
    refine lv_iload_n hx hb dX11_addThing_60 rfl (lv_at hl 2 rfl) ?_
    refine lv_imul hx hb dX11_addThing_61 ?_
    refine lv_topi (fun zi_18 ezi_18 => ?_)
    have tzi_18 : zi_18.toInt = (12 : Int) * zia.toInt := by rw [ezi_18]; exact timul (show (12 : Int32).toInt = 12 by decide) (rfl) (by omega) (by omega)
    refine lv_iadd hx hb dX11_addThing_62 ?_
    refine lv_topi (fun zi_19 ezi_19 => ?_)
    have tzi_19 : zi_19.toInt = (206 : Int) + zi_18.toInt := by rw [ezi_19]; exact tiadd (show (206 : Int32).toInt = 206 by decide) (rfl) (by omega) (by omega)
    refine lv_iload hx hb dX11_addThing_63 (lv_at hl 0 rfl) ?_
    refine lv_iadd hx hb dX11_addThing_65 ?_
    refine lv_topi (fun zi_20 ezi_20 => ?_)
    have tzi_20 : zi_20.toInt = zi_19.toInt + zi_3.toInt := by rw [ezi_20]; exact tiadd (rfl) (rfl) (by omega) (by omega)
    refine lv_iload hx hb dX11_addThing_66 (lv_at hl 5 rfl) ?_
    refine ht_iast (v := zid) (n := 392) (q := 0) hx hb hK hP hD hS hs t_1 (by decide) rfl rfl ⟨by omega, by omega⟩ dX11_addThing_68 (fun H locs hP hD hS => ?_)
    have h_zI_21 : WM [10000] AL zT zR zI (u2 zI_16 (zR zy 0) zi_20.toNatClampNeg zid) := h_zI_16.putA hs t_1 rfl (rgF _) (by decide) (fun h => absurd h (by decide)) (by decide) trivial
    generalize uzI_21 : u2 zI_16 (zR zy 0) zi_20.toNatClampNeg zid = zI_21 at hP hD h_zI_21
    have kt_22 : zA (zI_21 (zR zy 0)) (5 + zia.toInt) = zA (zI_16 (zR zy 0)) (5 + zia.toInt) := by rw [← uzI_21, u2_r]; exact zu_n (by omega) (by omega) (by omega)
    have fa_zI_21 : FA (zI (zR zy 0)) (zI_21 (zR zy 0)) := by rw [← uzI_21, u2_r]; exact FA.up fa_zI_16 (by omega)
    have z_zI_21 : ZI (zI_21 (zR zy 0)) := by rw [← uzI_21, u2_r]; exact ZI.fr z_zI_16 (by omega)
    have fq_zI_21 : FQ (zI (zR zy 0)) (zI_21 (zR zy 0)) := by rw [← uzI_21, u2_r]; exact FQ.up fq_zI_16 (by omega) (by omega)
    refine lv_aload_n hx hb dX11_addThing_69 rfl (lv_at hl 1 rfl) ?_
    refine ht_getr (C := RX11) (T := TX11) (N := 28) hx hb hts (by decide +kernel) hown hK hP hs t_zy (by decide) rfl rfl 0 (by decide) (hts (.fieldLink RX11 7 "DripStoneModel" "z" "[I") (by decide +kernel)) (fun _ h9 => h9) rfl dX11_addThing_70 ?_
    refine lv_iconst (v := 5) hx hb dX11_addThing_73 (by decide) ?_
    refine lv_iload_n hx hb dX11_addThing_74 rfl (lv_at hl 2 rfl) ?_
    refine lv_iadd hx hb dX11_addThing_75 ?_
    refine lv_topi (fun zi_23 ezi_23 => ?_)
    have tzi_23 : zi_23.toInt = (5 : Int) + zia.toInt := by rw [ezi_23]; exact tiadd (show (5 : Int32).toInt = 5 by decide) (rfl) (by omega) (by omega)
    refine lv_dup2_11 hx hb dX11_addThing_76 rfl rfl ?_
    refine ht_iald (n := 392) (q := 0) hx hb hK hP hs t_1 (by decide) rfl rfl ⟨by omega, by omega⟩ dX11_addThing_77 ?_
    refine lv_topi (fun zi_24 ezi_24 => ?_)
    have la_25 : zi_24.toInt = zA (zI_21 (zR zy 0)) (5 + zia.toInt) := (congrArg Int32.toInt (show zI_21 (zR zy 0) zi_23.toNatClampNeg = zi_24 from ezi_24.symm).symm).trans (congrArg (zA (zI_21 (zR zy 0))) (show zi_23.toInt = 5 + zia.toInt from by omega))
    have tz_26 : 0 ≤ zi_24.toInt ∧ zi_24.toInt ≤ 12 := by rw [← (show zI_21 (zR zy 0) zi_23.toNatClampNeg = zi_24 from ezi_24.symm)]; exact ZI.g5 z_zI_21 (by omega) (by omega)
    refine lv_iconst (v := 1) hx hb dX11_addThing_78 (by decide) ?_
    refine lv_iadd hx hb dX11_addThing_79 ?_
    refine lv_topi (fun zi_27 ezi_27 => ?_)
    have tzi_27 : zi_27.toInt = zi_24.toInt + (1 : Int) := by rw [ezi_27]; exact tiadd (rfl) (show (1 : Int32).toInt = 1 by decide) (by omega) (by omega)
    refine ht_iast (v := zi_27) (n := 392) (q := 0) hx hb hK hP hD hS hs t_1 (by decide) rfl rfl ⟨by omega, by omega⟩ dX11_addThing_80 (fun H locs hP hD hS => ?_)
    have h_zI_28 : WM [10000] AL zT zR zI (u2 zI_21 (zR zy 0) zi_23.toNatClampNeg zi_27) := h_zI_21.putA hs t_1 rfl (rgF _) (by decide) (fun h => absurd h (by decide)) (by decide) trivial
    generalize uzI_28 : u2 zI_21 (zR zy 0) zi_23.toNatClampNeg zi_27 = zI_28 at hP hD h_zI_28
    have kt_29 : zA (zI_28 (zR zy 0)) (5 + zia.toInt) = zi_27.toInt := by rw [← uzI_28, u2_r]; exact zu_s (by omega)
    have fa_zI_28 : FA (zI (zR zy 0)) (zI_28 (zR zy 0)) := by rw [← uzI_28, u2_r]; exact FA.up fa_zI_21 (by omega)
    have z_zI_28 : ZI (zI_28 (zR zy 0)) := by rw [← uzI_28, u2_r]; exact ZI.sz1 z_zI_21 (c := zia.toInt) (by omega) (by omega) (by omega) (by omega)
    have fq_zI_28 : FQ (zI (zR zy 0)) (zI_28 (zR zy 0)) := by rw [← uzI_28, u2_r]; exact FQ.up fq_zI_21 (by omega) (by omega)
    subst hQ
    exact W.vret hx hb hr (fun t ht hW => ⟨⟨zI_28, rfl, ⟨h_zI_28, (show FA (zI (zR zy 0)) (zI_28 (zR zy 0)) from fa_zI_28), (show FQ (zI (zR zy 0)) (zI_28 (zR zy 0)) from fq_zI_28), (show ZI (zI_28 (zR zy 0)) from z_zI_28)⟩, ⟨by rw [ht]; exact hP, va_K.moved hW.alike hK, hD⟩⟩, hS.F ht⟩) hS.2.2 dX11_addThing_81
set_option maxHeartbeats 8000000 in
set_option maxRecDepth 100000 in
theorem t_X11_put (l : Launch) (dC : Nat → ClassId) (dI : Nat → Nat → Nat) (cy : Nat → ClassId) (sz : Nat) (zL : List Nat) (zT : Nat → Nat) (zR : Nat → Nat → Nat) (zI : Nat → Nat → Int32) (zJ : Nat → Nat → Int64) (zy : Nat) (zia : Int32) (zib : Int32) (zic : Int32) (hs : SKP zL zT zR) (hw : WT zT zR zI) (t_zy : zT zy = 18) (hz : ZI (zI (zR zy 0))) : Met l yX11_put wsX11_put ({ frames := 2, cells := 0, slots := 0, locals := 45 } : Room) (va_Pc [.ref zy, .int zia, .int zib, .int zic] (PRE dC dI cy (WL cy zL zT zR zI zJ) sz)) (va_Qi (fun (r : Int32) (u : (Nat → Nat → Int32)) => (WM [10000] AL zT zR zI u) ∧ ((-3) ≤ r.toInt ∧ r.toInt ≤ 11) ∧ (FQ (zI (zR zy 0)) (u (zR zy 0))) ∧ (ZI (u (zR zy 0)))) (fun u t => POST dC dI cy (va_A (WL cy zL zT zR zI zJ) sz) (WL cy zL zT zR u zJ) t) (va_A (WL cy zL zT zR zI zJ) sz)) 0 0 (va_A (WL cy zL zT zR zI zJ) sz) := by
  refine Met.ofW (cc := cX11_put) (maxL := 4) (ret := (some .int)) (by decide) rfl ?_
  intro p e s m args below meth c s₁ B hml hv
  obtain ⟨rfl, hsz, hP, hK, hD0, hN⟩ := hv
  have hx := B.exec
  have hb := B.bytes
  have hr := B.returns
  have hts := atoms_spec (ws := wsX11_put) B.pre
  have hown : s.vm.findClass RX11 = some m.cls := findClass_of_methodNamed B.named
  have hlocks := B.notSynchronized
  subst hsz
  have hD := hD0.self (sz := s.heap.size)
  generalize hAe : va_A (WL cy zL zT zR zI zJ) s.heap.size = A at hD ⊢
  have hA : ∀ q : Nat, s.heap.size ≤ q → A q := fun q h => by rw [← hAe]; exact Or.inr h
  have hS : va_S A s.heap s.heap [] := va_S.rf
  have hP : va_P (dC, dI) vwCl (WL cy zL zT zR zI zJ) s.heap := hP
  have hl := lv_entry ([.ref zy, .int zia, .int zib, .int zic] : List Value) (n := 4) (Nat.le_of_ble_eq_true rfl)
  rw [lg_entry_eq]
  generalize (lg_sl ([.ref zy, .int zia, .int zib, .int zic] : List Value) ++ List.replicate (4 - (lg_sl ([.ref zy, .int zia, .int zib, .int zic] : List Value)).length) Slot.unset).toArray = ls at hl ⊢
  have hl : lv_has ls 4 [(0, .ref zy), (1, .int zia), (2, .int zib), (3, .int zic)] := hl
  refine w_q (fun Q hQ => ?_)
  have h_zI : WM [10000] AL zT zR zI zI := WM.rf hw
  refine lv_iload_n hx hb dX11_put_0 rfl (lv_at hl 1 rfl) ?_
  refine hj0_i (ws := (WL cy zL zT zR zI zJ)) (va_runS (As := [.int zia]) (rest := []) ⟨hx, hb, hml, hown, hts⟩ (c_X11_isCandle l dC dI cy s.heap.size zia) (va_cwS 1 hts gX11_put_X11_isCandle rfl rfl rfl (by decide +kernel) ⟨(Nat.le_of_ble_eq_true rfl), (Nat.le_of_ble_eq_true rfl)⟩) (PRE.s (hP.sub [] rfl) hK (hD.sub [] (by decide) rfl) hN) rfl rfl hl.1 rfl (lv_room (Nat.le_of_ble_eq_true rfl)) dX11_put_1 ⟨(Nat.le_of_ble_eq_true rfl), (Nat.le_of_ble_eq_true rfl)⟩) hP hD hS hA (fun zi_1 u_3 H locs hw_2 hP hD hS => ?_)
  have hw_2 : zi_1 = if 0 ≤ zia.toInt ∧ zia.toInt ≤ 1 then 1 else 0 := hw_2
  have b_zi_1 : 0 ≤ zi_1.toInt ∧ zi_1.toInt ≤ 1 := bz_b hw_2
  refine lv_if_eq (tgt := 41) hx hb dX11_put_4 (by decide) (fun c_4 => ?_) (fun c_4 => ?_)
  · have f_5 : ¬ (0 ≤ zia.toInt ∧ zia.toInt ≤ 1) := bz_0 hw_2 c_4
    refine lv_iconst (v := (-1)) hx hb dX11_put_41 (by decide) ?_
    subst hQ
    have qc_m1 : (-1 : Int32).toInt = -1 := by decide
    exact W.iret (v := (-1 : Int32)) hx hb hr (fun t ht hW => ⟨⟨(-1 : Int32), zI, rfl, ⟨h_zI, (show (-3) ≤ (-1 : Int32).toInt ∧ (-1 : Int32).toInt ≤ 11 from by omega), (show FQ (zI (zR zy 0)) (zI (zR zy 0)) from FQ.rf), (show ZI (zI (zR zy 0)) from hz)⟩, ⟨by rw [ht]; exact hP, va_K.moved hW.alike hK, hD⟩⟩, hS.F ht⟩) hS.2.2 dX11_put_42
  · have f_5 : 0 ≤ zia.toInt ∧ zia.toInt ≤ 1 := bz_1 hw_2 c_4
    refine lv_iload_n hx hb dX11_put_7 rfl (lv_at hl 2 rfl) ?_
    refine lv_i2l (v := zib.toInt64) hx hb dX11_put_8 rfl ?_
    refine lv_topl (fun zj_6 ezj_6 => ?_)
    have tzj_6 : zj_6.toInt = zib.toInt := by rw [ezj_6]; exact Int32.toInt_toInt64 _
    refine lv_lconst (v := 0) hx hb dX11_put_9 (by decide) ?_
    refine lv_ldc2 (v := 2) hx hb hown (hts (.constantLong RX11 180 2) (by decide +kernel)) dX11_put_10 ?_
    refine hj0_i (ws := (WL cy zL zT zR zI zJ)) (va_runS (As := [.long zj_6, .long 0, .long 2]) (rest := []) ⟨hx, hb, hml, hown, hts⟩ (c_X11_in l dC dI cy H.size zj_6 0 2 0 2 zj_6.toInt (by first | rfl | decide | omega | exact Int32.toInt_toInt64 _) (by first | rfl | decide | omega | exact Int32.toInt_toInt64 _) (by first | rfl | decide | omega | exact Int32.toInt_toInt64 _)) (va_cwS 3 hts gX11_put_X11_in rfl rfl rfl (by decide +kernel) ⟨(Nat.le_of_ble_eq_true rfl), (Nat.le_of_ble_eq_true rfl)⟩) (PRE.s (hP.sub [] rfl) hK (hD.sub [] (by decide) rfl) hN) rfl rfl hl.1 rfl (lv_room (Nat.le_of_ble_eq_true rfl)) dX11_put_13 ⟨(Nat.le_of_ble_eq_true rfl), (Nat.le_of_ble_eq_true rfl)⟩) hP hD hS hA (fun zi_7 u_9 H locs hw_8 hP hD hS => ?_)
    have hw_8 : zi_7 = if 0 ≤ zj_6.toInt ∧ zj_6.toInt ≤ 2 then 1 else 0 := hw_8
    have b_zi_7 : 0 ≤ zi_7.toInt ∧ zi_7.toInt ≤ 1 := bz_b hw_8
    refine lv_if_eq (tgt := 41) hx hb dX11_put_16 (by decide) (fun c_10 => ?_) (fun c_10 => ?_)
    · have f_11 : ¬ (0 ≤ zj_6.toInt ∧ zj_6.toInt ≤ 2) := bz_0 hw_8 c_10
      refine lv_iconst (v := (-1)) hx hb dX11_put_41 (by decide) ?_
      subst hQ
      have qc_m1 : (-1 : Int32).toInt = -1 := by decide
      exact W.iret (v := (-1 : Int32)) hx hb hr (fun t ht hW => ⟨⟨(-1 : Int32), zI, rfl, ⟨h_zI, (show (-3) ≤ (-1 : Int32).toInt ∧ (-1 : Int32).toInt ≤ 11 from by omega), (show FQ (zI (zR zy 0)) (zI (zR zy 0)) from FQ.rf), (show ZI (zI (zR zy 0)) from hz)⟩, ⟨by rw [ht]; exact hP, va_K.moved hW.alike hK, hD⟩⟩, hS.F ht⟩) hS.2.2 dX11_put_42
    · have f_11 : 0 ≤ zj_6.toInt ∧ zj_6.toInt ≤ 2 := bz_1 hw_8 c_10
      refine lv_iload_n hx hb dX11_put_19 rfl (lv_at hl 3 rfl) ?_
      refine lv_i2l (v := zic.toInt64) hx hb dX11_put_20 rfl ?_
      refine lv_topl (fun zj_12 ezj_12 => ?_)
      have tzj_12 : zj_12.toInt = zic.toInt := by rw [ezj_12]; exact Int32.toInt_toInt64 _
      refine lv_ldc2 (v := (-50)) hx hb hown (hts (.constantLong RX11 182 (-50)) (by decide +kernel)) dX11_put_21 ?_
      refine lv_ldc2 (v := 50) hx hb hown (hts (.constantLong RX11 184 50) (by decide +kernel)) dX11_put_24 ?_
      refine hj0_i (ws := (WL cy zL zT zR zI zJ)) (va_runS (As := [.long zj_12, .long (-50), .long 50]) (rest := []) ⟨hx, hb, hml, hown, hts⟩ (c_X11_in l dC dI cy H.size zj_12 (-50) 50 (-50) 50 zj_12.toInt (by first | rfl | decide | omega | exact Int32.toInt_toInt64 _) (by first | rfl | decide | omega | exact Int32.toInt_toInt64 _) (by first | rfl | decide | omega | exact Int32.toInt_toInt64 _)) (va_cwS 3 hts gX11_put_X11_in rfl rfl rfl (by decide +kernel) ⟨(Nat.le_of_ble_eq_true rfl), (Nat.le_of_ble_eq_true rfl)⟩) (PRE.s (hP.sub [] rfl) hK (hD.sub [] (by decide) rfl) hN) rfl rfl hl.1 rfl (lv_room (Nat.le_of_ble_eq_true rfl)) dX11_put_27 ⟨(Nat.le_of_ble_eq_true rfl), (Nat.le_of_ble_eq_true rfl)⟩) hP hD hS hA (fun zi_13 u_15 H locs hw_14 hP hD hS => ?_)
      have hw_14 : zi_13 = if (-50) ≤ zj_12.toInt ∧ zj_12.toInt ≤ 50 then 1 else 0 := hw_14
      have b_zi_13 : 0 ≤ zi_13.toInt ∧ zi_13.toInt ≤ 1 := bz_b hw_14
      refine lv_if_eq (tgt := 41) hx hb dX11_put_30 (by decide) (fun c_16 => ?_) (fun c_16 => ?_)
      · have f_17 : ¬ ((-50) ≤ zj_12.toInt ∧ zj_12.toInt ≤ 50) := bz_0 hw_14 c_16
        refine lv_iconst (v := (-1)) hx hb dX11_put_41 (by decide) ?_
        subst hQ
        have qc_m1 : (-1 : Int32).toInt = -1 := by decide
        exact W.iret (v := (-1 : Int32)) hx hb hr (fun t ht hW => ⟨⟨(-1 : Int32), zI, rfl, ⟨h_zI, (show (-3) ≤ (-1 : Int32).toInt ∧ (-1 : Int32).toInt ≤ 11 from by omega), (show FQ (zI (zR zy 0)) (zI (zR zy 0)) from FQ.rf), (show ZI (zI (zR zy 0)) from hz)⟩, ⟨by rw [ht]; exact hP, va_K.moved hW.alike hK, hD⟩⟩, hS.F ht⟩) hS.2.2 dX11_put_42
      · have f_17 : (-50) ≤ zj_12.toInt ∧ zj_12.toInt ≤ 50 := bz_1 hw_14 c_16
        refine lv_iload_n hx hb dX11_put_33 rfl (lv_at hl 2 rfl) ?_
        have jn_22 : ∀  (H : Heap) (locs : List Loc) (ls : Array Slot), (FQ (zI (zR zy 0)) (zI (zR zy 0))) → (ZI (zI (zR zy 0))) → va_P (dC, dI) vwCl (WL cy zL zT zR zI zJ) H → va_D A (WL cy zL zT zR zI zJ) → va_S A s.heap H locs → lv_has ls 4 [(0, .ref zy), (1, .int zia), (2, .int zib), (3, .int zic)] → W p l e ({ frames := 2, cells := 0, slots := 0, locals := 45 } : Room) s m ([.ref zy, .int zia, .int zib, .int zic] : List Value).toArray below meth c H locs 0 0 Q (F0 m 43 ls []) := by
          intro  H locs ls e_jn_22_0 e_jn_22_1 hP hD hS hl
          refine lv_aload_n hx hb dX11_put_43 rfl (lv_at hl 0 rfl) ?_
          refine ht_getr (C := RX11) (T := TX11) (N := 28) hx hb hts (by decide +kernel) hown hK hP hs t_zy (by decide) rfl rfl 0 (by decide) (hts (.fieldLink RX11 7 "DripStoneModel" "z" "[I") (by decide +kernel)) (fun _ h9 => h9) rfl dX11_put_44 ?_
          have t_23 : zT (zR zy 0) = 100 := sk_f hs t_zy (by decide) rfl (by decide)
          refine lv_iconst (v := 5) hx hb dX11_put_47 (by decide) ?_
          refine lv_iload_n hx hb dX11_put_48 rfl (lv_at hl 1 rfl) ?_
          refine lv_iadd hx hb dX11_put_49 ?_
          refine lv_topi (fun zi_24 ezi_24 => ?_)
          have tzi_24 : zi_24.toInt = (5 : Int) + zia.toInt := by rw [ezi_24]; exact tiadd (show (5 : Int32).toInt = 5 by decide) (rfl) (by omega) (by omega)
          refine ht_iald (n := 392) (q := 0) hx hb hK hP hs t_23 (by decide) rfl rfl ⟨by omega, by omega⟩ dX11_put_50 ?_
          refine lv_topi (fun zi_25 ezi_25 => ?_)
          have la_26 : zi_25.toInt = zA (zI (zR zy 0)) (5 + zia.toInt) := (congrArg Int32.toInt (show zI (zR zy 0) zi_24.toNatClampNeg = zi_25 from ezi_25.symm).symm).trans (congrArg (zA (zI (zR zy 0))) (show zi_24.toInt = 5 + zia.toInt from by omega))
          have tz_27 : 0 ≤ zi_25.toInt ∧ zi_25.toInt ≤ 12 := by rw [← (show zI (zR zy 0) zi_24.toNatClampNeg = zi_25 from ezi_25.symm)]; exact ZI.g5 e_jn_22_1 (by omega) (by omega)
          refine lv_bipush (v := 12) hx hb dX11_put_51 (by decide) ?_
          refine lv_icmp_ne (tgt := 59) hx hb dX11_put_53 (by decide) (fun c_28 => ?_) (fun c_28 => ?_)
          · have f_29 : zi_25.toInt ≠ (12 : Int) := ic_ne (rfl) (show (12 : Int32).toInt = 12 by decide) c_28
            refine lv_aload_n hx hb dX11_put_59 rfl (lv_at hl 0 rfl) ?_
            refine lv_iload_n hx hb dX11_put_60 rfl (lv_at hl 1 rfl) ?_
            refine lv_iload_n hx hb dX11_put_61 rfl (lv_at hl 2 rfl) ?_
            refine lv_iload_n hx hb dX11_put_62 rfl (lv_at hl 3 rfl) ?_
            refine lv_iconst (v := 0) hx hb dX11_put_63 (by decide) ?_
            have qc_0 : (0 : Int32).toInt = 0 := by decide
            refine hj_v (ws := (WL cy zL zT zR zI zJ)) (w1 := fun (u : (Nat → Nat → Int32)) => (WL cy zL zT zR u zJ)) (va_runV (As := [.int zia, .int zib, .int zic, .int 0]) (rest := []) ⟨hx, hb, hml, hown, hts⟩ (t_X11_addThing l dC dI cy H.size zL zT zR zI zJ zy zia zib zic (0 : Int32) hs h_zI.1 t_zy (by omega) e_jn_22_1) (cwV 4 hts gX11_put_X11_addThing rfl rfl rfl (by decide +kernel) ⟨(Nat.le_of_ble_eq_true rfl), (Nat.le_of_ble_eq_true rfl)⟩) (PRE.v hP hK hD hN (ht_recv hK hP hs t_zy (by decide) rfl rfl)) rfl rfl hl.1 rfl (lv_room (Nat.le_of_ble_eq_true rfl)) dX11_put_64 ⟨(Nat.le_of_ble_eq_true rfl), (Nat.le_of_ble_eq_true rfl)⟩) hP hD hS hA (fun zI_33 H locs hw_31 hP hD hS => ?_)
            obtain ⟨k_zI_33, ps_34, ps_35, ps_36⟩ : (WM [10000] AL zT zR zI zI_33) ∧ (FA (zI (zR zy 0)) (zI_33 (zR zy 0))) ∧ (FQ (zI (zR zy 0)) (zI_33 (zR zy 0))) ∧ (ZI (zI_33 (zR zy 0))) := hw_31
            have h_zI_33 : WM [10000] AL zT zR zI zI_33 := h_zI.tr k_zI_33 (by decide) (fun _ _ => trivial)
            have fq_zI_33 : FQ (zI (zR zy 0)) (zI_33 (zR zy 0)) := FQ.tr e_jn_22_0 ps_35
            refine lv_aload_n hx hb dX11_put_67 rfl (lv_at hl 0 rfl) ?_
            refine ht_getr (C := RX11) (T := TX11) (N := 28) hx hb hts (by decide +kernel) hown hK hP hs t_zy (by decide) rfl rfl 0 (by decide) (hts (.fieldLink RX11 7 "DripStoneModel" "z" "[I") (by decide +kernel)) (fun _ h9 => h9) rfl dX11_put_68 ?_
            refine lv_bipush (v := 7) hx hb dX11_put_71 (by decide) ?_
            refine lv_iload_n hx hb dX11_put_73 rfl (lv_at hl 1 rfl) ?_
            refine lv_iadd hx hb dX11_put_74 ?_
            refine lv_topi (fun zi_37 ezi_37 => ?_)
            have tzi_37 : zi_37.toInt = (7 : Int) + zia.toInt := by rw [ezi_37]; exact tiadd (show (7 : Int32).toInt = 7 by decide) (rfl) (by omega) (by omega)
            refine lv_iconst (v := 0) hx hb dX11_put_75 (by decide) ?_
            refine ht_iast (v := (0 : Int32)) (n := 392) (q := 0) hx hb hK hP hD hS hs t_23 (by decide) rfl rfl ⟨by omega, by omega⟩ dX11_put_76 (fun H locs hP hD hS => ?_)
            have h_zI_38 : WM [10000] AL zT zR zI (u2 zI_33 (zR zy 0) zi_37.toNatClampNeg (0 : Int32)) := h_zI_33.putA hs t_23 rfl (rgF _) (by decide) (fun h => absurd h (by decide)) (by decide) trivial
            generalize uzI_38 : u2 zI_33 (zR zy 0) zi_37.toNatClampNeg (0 : Int32) = zI_38 at hP hD h_zI_38
            have z_zI_38 : ZI (zI_38 (zR zy 0)) := by rw [← uzI_38, u2_r]; exact ZI.fr ps_36 (by omega)
            have fq_zI_38 : FQ (zI (zR zy 0)) (zI_38 (zR zy 0)) := by rw [← uzI_38, u2_r]; exact FQ.up fq_zI_33 (by omega) (by omega)
            refine lv_aload_n hx hb dX11_put_77 rfl (lv_at hl 0 rfl) ?_
            refine ht_getr (C := RX11) (T := TX11) (N := 28) hx hb hts (by decide +kernel) hown hK hP hs t_zy (by decide) rfl rfl 0 (by decide) (hts (.fieldLink RX11 7 "DripStoneModel" "z" "[I") (by decide +kernel)) (fun _ h9 => h9) rfl dX11_put_78 ?_
            refine lv_iconst (v := 5) hx hb dX11_put_81 (by decide) ?_
            refine lv_iload_n hx hb dX11_put_82 rfl (lv_at hl 1 rfl) ?_
            refine lv_iadd hx hb dX11_put_83 ?_
            refine lv_topi (fun zi_39 ezi_39 => ?_)
            have tzi_39 : zi_39.toInt = (5 : Int) + zia.toInt := by rw [ezi_39]; exact tiadd (show (5 : Int32).toInt = 5 by decide) (rfl) (by omega) (by omega)
            refine ht_iald (n := 392) (q := 0) hx hb hK hP hs t_23 (by decide) rfl rfl ⟨by omega, by omega⟩ dX11_put_84 ?_
            refine lv_topi (fun zi_40 ezi_40 => ?_)
            have la_41 : zi_40.toInt = zA (zI_38 (zR zy 0)) (5 + zia.toInt) := (congrArg Int32.toInt (show zI_38 (zR zy 0) zi_39.toNatClampNeg = zi_40 from ezi_40.symm).symm).trans (congrArg (zA (zI_38 (zR zy 0))) (show zi_39.toInt = 5 + zia.toInt from by omega))
            have tz_42 : 0 ≤ zi_40.toInt ∧ zi_40.toInt ≤ 12 := by rw [← (show zI_38 (zR zy 0) zi_39.toNatClampNeg = zi_40 from ezi_40.symm)]; exact ZI.g5 z_zI_38 (by omega) (by omega)
            refine lv_iconst (v := 1) hx hb dX11_put_85 (by decide) ?_
            refine lv_isub hx hb dX11_put_86 ?_
            refine lv_topi (fun zi_43 ezi_43 => ?_)
            have tzi_43 : zi_43.toInt = zi_40.toInt - (1 : Int) := by rw [ezi_43]; exact tisub (rfl) (show (1 : Int32).toInt = 1 by decide) (by omega) (by omega)
            subst hQ
            exact W.iret (v := zi_43) hx hb hr (fun t ht hW => ⟨⟨zi_43, zI_38, rfl, ⟨h_zI_38, (show (-3) ≤ zi_43.toInt ∧ zi_43.toInt ≤ 11 from by omega), (show FQ (zI (zR zy 0)) (zI_38 (zR zy 0)) from fq_zI_38), (show ZI (zI_38 (zR zy 0)) from z_zI_38)⟩, ⟨by rw [ht]; exact hP, va_K.moved hW.alike hK, hD⟩⟩, hS.F ht⟩) hS.2.2 dX11_put_87
          · have f_29 : ¬ (zi_25.toInt ≠ (12 : Int)) := ic_nne (rfl) (show (12 : Int32).toInt = 12 by decide) c_28
            refine lv_bipush (v := (-3)) hx hb dX11_put_56 (by decide) ?_
            subst hQ
            have qc_m3 : (-3 : Int32).toInt = -3 := by decide
            exact W.iret (v := (-3 : Int32)) hx hb hr (fun t ht hW => ⟨⟨(-3 : Int32), zI, rfl, ⟨h_zI, (show (-3) ≤ (-3 : Int32).toInt ∧ (-3 : Int32).toInt ≤ 11 from by omega), (show FQ (zI (zR zy 0)) (zI (zR zy 0)) from e_jn_22_0), (show ZI (zI (zR zy 0)) from e_jn_22_1)⟩, ⟨by rw [ht]; exact hP, va_K.moved hW.alike hK, hD⟩⟩, hS.F ht⟩) hS.2.2 dX11_put_58
        refine lv_if_eq (tgt := 43) hx hb dX11_put_34 (by decide) (fun c_44 => ?_) (fun c_44 => ?_)
        · have f_45 : zib.toInt = 0 := ic_eq (rfl) (by decide) c_44
          exact jn_22  _ _ _ FQ.rf hz hP hD hS (lv_sub hl [0, 1, 2, 3] rfl)
        · have f_45 : ¬ (zib.toInt = 0) := ic_neq (rfl) (by decide) c_44
          refine lv_iload_n hx hb dX11_put_37 rfl (lv_at hl 3 rfl) ?_
          refine lv_if_eq (tgt := 43) hx hb dX11_put_38 (by decide) (fun c_46 => ?_) (fun c_46 => ?_)
          · have f_47 : zic.toInt = 0 := ic_eq (rfl) (by decide) c_46
            exact jn_22  _ _ _ FQ.rf hz hP hD hS (lv_sub hl [0, 1, 2, 3] rfl)
          · have f_47 : ¬ (zic.toInt = 0) := ic_neq (rfl) (by decide) c_46
            refine lv_iconst (v := (-1)) hx hb dX11_put_41 (by decide) ?_
            subst hQ
            have qc_m1 : (-1 : Int32).toInt = -1 := by decide
            exact W.iret (v := (-1 : Int32)) hx hb hr (fun t ht hW => ⟨⟨(-1 : Int32), zI, rfl, ⟨h_zI, (show (-3) ≤ (-1 : Int32).toInt ∧ (-1 : Int32).toInt ≤ 11 from by omega), (show FQ (zI (zR zy 0)) (zI (zR zy 0)) from FQ.rf), (show ZI (zI (zR zy 0)) from hz)⟩, ⟨by rw [ht]; exact hP, va_K.moved hW.alike hK, hD⟩⟩, hS.F ht⟩) hS.2.2 dX11_put_42
