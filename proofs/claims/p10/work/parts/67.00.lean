set_option maxHeartbeats 8000000 in
set_option maxRecDepth 100000 in
theorem t_X11_more_0 (l : Launch) (dC : Nat → ClassId) (dI : Nat → Nat → Nat) (cy : Nat → ClassId) (sz : Nat) (zL : List Nat) (zT : Nat → Nat) (zR : Nat → Nat → Nat) (zI : Nat → Nat → Int32) (zJ : Nat → Nat → Int64) (zy : Nat) (zia : Int32) (zic : Int32) (zip : Int32) (ziq : Int32) (zis : Int32) (zih : Int32) (hs : SKP zL zT zR) (hw : WT zT zR zI) (t_zy : zT zy = 18) (b_zia : 0 ≤ zia.toInt ∧ zia.toInt ≤ 3) (b_zic : 0 ≤ zic.toInt ∧ zic.toInt ≤ 1) (b_zip : 0 ≤ zip.toInt ∧ zip.toInt ≤ 11) (b_zih : 0 ≤ zih.toInt ∧ zih.toInt ≤ 12) (hz : ZI (zI (zR zy 0))) (hx1 : zia.toInt < zA (zI (zR zy 0)) (12)) : Met l yX11_more wsX11_more ({ frames := 2, cells := 0, slots := 0, locals := 52 } : Room) (va_Pc [.ref zy, .int zia, .int 0, .int zic, .int zip, .int ziq, .int zis, .int zih] (PRE dC dI cy (WL cy zL zT zR zI zJ) sz)) (va_Qi (fun (r : Int32) (u : Unit) => (0 ≤ r.toInt ∧ r.toInt ≤ 12)) (fun u t => POST dC dI cy (va_A (WL cy zL zT zR zI zJ) sz) (WL cy zL zT zR zI zJ) t) (va_A (WL cy zL zT zR zI zJ) sz)) 0 0 (va_A (WL cy zL zT zR zI zJ) sz) := by
  refine Met.ofW (cc := cX11_more) (maxL := 10) (ret := (some .int)) (by decide) rfl ?_
  intro p e s m args below meth c s₁ B hml hv
  obtain ⟨rfl, hsz, hP, hK, hD0, hN⟩ := hv
  have hx := B.exec
  have hb := B.bytes
  have hr := B.returns
  have hts := atoms_spec (ws := wsX11_more) B.pre
  have hown : s.vm.findClass RX11 = some m.cls := findClass_of_methodNamed B.named
  have hlocks := B.notSynchronized
  subst hsz
  have hD := hD0.self (sz := s.heap.size)
  generalize hAe : va_A (WL cy zL zT zR zI zJ) s.heap.size = A at hD ⊢
  have hA : ∀ q : Nat, s.heap.size ≤ q → A q := fun q h => by rw [← hAe]; exact Or.inr h
  have hS : va_S A s.heap s.heap [] := va_S.rf
  have hP : va_P (dC, dI) vwCl (WL cy zL zT zR zI zJ) s.heap := hP
  have hl := lv_entry ([.ref zy, .int zia, .int 0, .int zic, .int zip, .int ziq, .int zis, .int zih] : List Value) (n := 10) (Nat.le_of_ble_eq_true rfl)
  rw [lg_entry_eq]
  generalize (lg_sl ([.ref zy, .int zia, .int 0, .int zic, .int zip, .int ziq, .int zis, .int zih] : List Value) ++ List.replicate (10 - (lg_sl ([.ref zy, .int zia, .int 0, .int zic, .int zip, .int ziq, .int zis, .int zih] : List Value)).length) Slot.unset).toArray = ls at hl ⊢
  have hl : lv_has ls 10 [(0, .ref zy), (1, .int zia), (2, .int 0), (3, .int zic), (4, .int zip), (5, .int ziq), (6, .int zis), (7, .int zih)] := hl
  refine w_q (fun Q hQ => ?_)
  have h_zI : WM [] AL zT zR zI zI := WM.rf hw
  refine lv_sipush (v := 326) hx hb dX11_more_0 (by decide) ?_
  refine lv_bipush (v := 14) hx hb dX11_more_3 (by decide) ?_
  refine lv_iload_n hx hb dX11_more_5 rfl (lv_at hl 1 rfl) ?_
  refine lv_imul hx hb dX11_more_6 ?_
  refine lv_topi (fun zi_1 ezi_1 => ?_)
  have tzi_1 : zi_1.toInt = (14 : Int) * zia.toInt := by rw [ezi_1]; exact timul (show (14 : Int32).toInt = 14 by decide) (rfl) (by omega) (by omega)
  refine lv_iadd hx hb dX11_more_7 ?_
  refine lv_topi (fun zi_2 ezi_2 => ?_)
  have tzi_2 : zi_2.toInt = (326 : Int) + zi_1.toInt := by rw [ezi_2]; exact tiadd (show (326 : Int32).toInt = 326 by decide) (rfl) (by omega) (by omega)
  refine lv_iconst (v := 2) hx hb dX11_more_8 (by decide) ?_
  refine lv_iadd hx hb dX11_more_9 ?_
  refine lv_topi (fun zi_3 ezi_3 => ?_)
  have tzi_3 : zi_3.toInt = zi_2.toInt + (2 : Int) := by rw [ezi_3]; exact tiadd (rfl) (show (2 : Int32).toInt = 2 by decide) (by omega) (by omega)
  refine lv_bipush (v := 6) hx hb dX11_more_10 (by decide) ?_
  refine lv_iload_n hx hb dX11_more_12 rfl (lv_at hl 2 rfl) ?_
  refine lv_imul hx hb dX11_more_13 ?_
  refine lv_topi (fun zi_4 ezi_4 => ?_)
  obtain rfl : zi_4 = (0 : Int32) := ezi_4.trans (by decide)
  refine lv_iadd hx hb dX11_more_14 ?_
  refine lv_topi (fun zi_5 ezi_5 => ?_)
  have tzi_5 : zi_5.toInt = zi_3.toInt + (0 : Int) := by rw [ezi_5]; exact tiadd (rfl) (show (0 : Int32).toInt = 0 by decide) (by omega) (by omega)
  refine lv_istore (lv' := [(8, .int zi_5), (0, .ref zy), (1, .int zia), (2, .int 0), (3, .int zic), (4, .int zip), (5, .int ziq), (6, .int zis), (7, .int zih)]) hx hb dX11_more_15 hl (by decide) rfl (fun ls hl => ?_)
  refine lv_iload_n hx hb dX11_more_17 rfl (lv_at hl 3 rfl) ?_
  refine lv_aload_n hx hb dX11_more_18 rfl (lv_at hl 1 rfl) ?_
  refine ht_getr (C := RX11) (T := TX11) (N := 28) hx hb hts (by decide +kernel) hown hK hP hs t_zy (by decide) rfl rfl 0 (by decide) (hts (.fieldLink RX11 7 "DripStoneModel" "z" "[I") (by decide +kernel)) (fun _ h9 => h9) rfl dX11_more_19 ?_
  have t_6 : zT (zR zy 0) = 100 := sk_f hs t_zy (by decide) rfl (by decide)
  refine lv_sipush (v := 326) hx hb dX11_more_22 (by decide) ?_
  refine lv_bipush (v := 14) hx hb dX11_more_25 (by decide) ?_
  refine lv_iload_n hx hb dX11_more_27 rfl (lv_at hl 2 rfl) ?_
  refine lv_imul hx hb dX11_more_28 ?_
  refine lv_topi (fun zi_7 ezi_7 => ?_)
  have tzi_7 : zi_7.toInt = (14 : Int) * zia.toInt := by rw [ezi_7]; exact timul (show (14 : Int32).toInt = 14 by decide) (rfl) (by omega) (by omega)
  refine lv_iadd hx hb dX11_more_29 ?_
  refine lv_topi (fun zi_8 ezi_8 => ?_)
  have tzi_8 : zi_8.toInt = (326 : Int) + zi_7.toInt := by rw [ezi_8]; exact tiadd (show (326 : Int32).toInt = 326 by decide) (rfl) (by omega) (by omega)
  refine ht_iald (n := 392) (q := 0) hx hb hK hP hs t_6 (by decide) rfl rfl ⟨by omega, by omega⟩ dX11_more_30 ?_
  refine lv_topi (fun zi_9 ezi_9 => ?_)
  have la_10 : zi_9.toInt = zA (zI (zR zy 0)) (326 + 14 * zia.toInt) := (congrArg Int32.toInt (show zI (zR zy 0) zi_8.toNatClampNeg = zi_9 from ezi_9.symm).symm).trans (congrArg (zA (zI (zR zy 0))) (show zi_8.toInt = 326 + 14 * zia.toInt from by omega))
  refine lv_icmp_ge (tgt := 59) hx hb dX11_more_31 (by decide) (fun c_11 => ?_) (fun c_11 => ?_)
  · have f_12 : (0 : Int) ≥ zi_9.toInt := ic_ge (show (0 : Int32).toInt = 0 by decide) (rfl) c_11
    refine lv_iconst (v := 0) hx hb dX11_more_59 (by decide) ?_
    refine lv_istore (lv' := [(9, .int 0), (8, .int zi_5), (0, .ref zy), (1, .int zia), (2, .int 0), (3, .int zic), (4, .int zip), (5, .int ziq), (6, .int zis), (7, .int zih)]) hx hb dX11_more_60 hl (by decide) rfl (fun ls hl => ?_)
    refine lv_iload hx hb dX11_more_62 (lv_at hl 0 rfl) ?_
    refine lv_if_eq (tgt := 88) hx hb dX11_more_64 (by decide) (fun c_13 => ?_) (fun c_13 => absurd (by decide) c_13)
    refine lv_iload hx hb dX11_more_88 (lv_at hl 9 rfl) ?_
    subst hQ
    exact W.iret (v := zih) hx hb hr (fun t ht hW => ⟨⟨zih, (), rfl, (show 0 ≤ zih.toInt ∧ zih.toInt ≤ 12 from by omega), ⟨by rw [ht]; exact hP, va_K.moved hW.alike hK, hD⟩⟩, hS.F ht⟩) hS.2.2 dX11_more_90
  · have f_12 : ¬ ((0 : Int) ≥ zi_9.toInt) := ic_nge (show (0 : Int32).toInt = 0 by decide) (rfl) c_11
    refine lv_aload_n hx hb dX11_more_34 rfl (lv_at hl 1 rfl) ?_
    refine lv_iload hx hb dX11_more_35 (lv_at hl 0 rfl) ?_
    refine lv_iload_n hx hb dX11_more_37 rfl (lv_at hl 4 rfl) ?_
    refine lv_aload_n hx hb dX11_more_38 rfl (lv_at hl 1 rfl) ?_
    refine ht_getr (C := RX11) (T := TX11) (N := 28) hx hb hts (by decide +kernel) hown hK hP hs t_zy (by decide) rfl rfl 8 (by decide) (hts (.fieldLink RX11 19 "DripStoneModel" "placeThing" "[I") (by decide +kernel)) (fun _ h9 => h9) rfl dX11_more_39 ?_
    have t_14 : zT (zR zy 8) = 103 := sk_f hs t_zy (by decide) rfl (by decide)
    refine lv_iload hx hb dX11_more_42 (lv_at hl 5 rfl) ?_
    refine ht_iald (n := 12) (q := 0) hx hb hK hP hs t_14 (by decide) rfl rfl ⟨by omega, by omega⟩ dX11_more_44 ?_
    refine lv_topi (fun zi_15 ezi_15 => ?_)
    have tzi_15 : 0 ≤ zi_15.toInt ∧ zi_15.toInt ≤ 11 := by rw [ezi_15]; exact h_zI.at t_14 _ rfl
    have la_16 : zi_15.toInt = zA (zI (zR zy 8)) (zip.toInt) := (congrArg Int32.toInt (show zI (zR zy 8) zip.toNatClampNeg = zi_15 from ezi_15.symm).symm).trans (congrArg (zA (zI (zR zy 8))) (show zip.toInt = zip.toInt from by omega))
    refine lv_iload hx hb dX11_more_45 (lv_at hl 6 rfl) ?_
    refine lv_iload hx hb dX11_more_47 (lv_at hl 7 rfl) ?_
    refine hj_i (ws := (WL cy zL zT zR zI zJ)) (w1 := fun (u : Unit) => (WL cy zL zT zR zI zJ)) (va_runV (As := [.int zi_5, .int zic, .int zi_15, .int ziq, .int zis]) (rest := []) ⟨hx, hb, hml, hown, hts⟩ (t_X11_countsThing l dC dI cy s.heap.size zL zT zR zI zJ zy zi_5 zic zi_15 ziq zis hs h_zI.1 t_zy (by omega) (by omega) (by omega) hz) (cwV 5 hts gX11_more_X11_countsThing rfl rfl rfl (by decide +kernel) ⟨(Nat.le_of_ble_eq_true rfl), (Nat.le_of_ble_eq_true rfl)⟩) (PRE.v hP hK hD hN (ht_recv hK hP hs t_zy (by decide) rfl rfl)) rfl rfl hl.1 rfl (lv_room (Nat.le_of_ble_eq_true rfl)) dX11_more_49 ⟨(Nat.le_of_ble_eq_true rfl), (Nat.le_of_ble_eq_true rfl)⟩) hP hD hS hA (fun zi_17 u_19 H locs hw_18 hP hD hS => ?_)
    have b_zi_17 : 0 ≤ zi_17.toInt ∧ zi_17.toInt ≤ 1 := hw_18
    refine lv_if_eq (tgt := 59) hx hb dX11_more_52 (by decide) (fun c_20 => ?_) (fun c_20 => ?_)
    · have f_21 : zi_17.toInt = 0 := ic_eq (rfl) (by decide) c_20
      refine lv_iconst (v := 0) hx hb dX11_more_59 (by decide) ?_
      refine lv_istore (lv' := [(9, .int 0), (8, .int zi_5), (0, .ref zy), (1, .int zia), (2, .int 0), (3, .int zic), (4, .int zip), (5, .int ziq), (6, .int zis), (7, .int zih)]) hx hb dX11_more_60 hl (by decide) rfl (fun ls hl => ?_)
      refine lv_iload hx hb dX11_more_62 (lv_at hl 0 rfl) ?_
      refine lv_if_eq (tgt := 88) hx hb dX11_more_64 (by decide) (fun c_22 => ?_) (fun c_22 => absurd (by decide) c_22)
      refine lv_iload hx hb dX11_more_88 (lv_at hl 9 rfl) ?_
      subst hQ
      exact W.iret (v := zih) hx hb hr (fun t ht hW => ⟨⟨zih, (), rfl, (show 0 ≤ zih.toInt ∧ zih.toInt ≤ 12 from by omega), ⟨by rw [ht]; exact hP, va_K.moved hW.alike hK, hD⟩⟩, hS.F ht⟩) hS.2.2 dX11_more_90
    · have f_21 : ¬ (zi_17.toInt = 0) := ic_neq (rfl) (by decide) c_20
      refine lv_iconst (v := 1) hx hb dX11_more_55 (by decide) ?_
      refine lv_goto (tgt := 60) hx hb dX11_more_56 (by decide) ?_
      refine lv_istore (lv' := [(9, .int 1), (8, .int zi_5), (0, .ref zy), (1, .int zia), (2, .int 0), (3, .int zic), (4, .int zip), (5, .int ziq), (6, .int zis), (7, .int zih)]) hx hb dX11_more_60 hl (by decide) rfl (fun ls hl => ?_)
      refine lv_iload hx hb dX11_more_62 (lv_at hl 0 rfl) ?_
      refine lv_if_eq (tgt := 88) hx hb dX11_more_64 (by decide) (fun c_23 => absurd c_23 (by decide)) (fun c_23 => ?_)
      refine lv_iload hx hb dX11_more_67 (lv_at hl 9 rfl) ?_
      refine lv_aload_n hx hb dX11_more_69 rfl (lv_at hl 2 rfl) ?_
      refine ht_getr (C := RX11) (T := TX11) (N := 28) hx hb hts (by decide +kernel) hown hK hP hs t_zy (by decide) rfl rfl 0 (by decide) (hts (.fieldLink RX11 7 "DripStoneModel" "z" "[I") (by decide +kernel)) (fun _ h9 => h9) rfl dX11_more_70 ?_
      refine lv_iload hx hb dX11_more_73 (lv_at hl 1 rfl) ?_
      refine lv_iconst (v := 5) hx hb dX11_more_75 (by decide) ?_
      refine lv_iadd hx hb dX11_more_76 ?_
      refine lv_topi (fun zi_24 ezi_24 => ?_)
      have tzi_24 : zi_24.toInt = zi_5.toInt + (5 : Int) := by rw [ezi_24]; exact tiadd (rfl) (show (5 : Int32).toInt = 5 by decide) (by omega) (by omega)
      refine ht_iald (n := 392) (q := 0) hx hb hK hP hs t_6 (by decide) rfl rfl ⟨by omega, by omega⟩ dX11_more_77 ?_
      refine lv_topi (fun zi_25 ezi_25 => ?_)
      have la_26 : zi_25.toInt = zA (zI (zR zy 0)) (333 + 14 * zia.toInt) := (congrArg Int32.toInt (show zI (zR zy 0) zi_24.toNatClampNeg = zi_25 from ezi_25.symm).symm).trans (congrArg (zA (zI (zR zy 0))) (show zi_24.toInt = 333 + 14 * zia.toInt from by omega))
      have cg_27 : CO (zI (zR zy 0)) zia.toInt := hz.2.2.2 zia.toInt (by omega) (by omega)
      unfold CO at cg_27
      have cb_28 : zi_25.toInt ≤ 12 := by omega
      refine lv_icmp_ge (tgt := 88) hx hb dX11_more_78 (by decide) (fun c_29 => ?_) (fun c_29 => ?_)
      · have f_30 : zih.toInt ≥ zi_25.toInt := ic_ge (rfl) (rfl) c_29
        refine lv_iload hx hb dX11_more_88 (lv_at hl 9 rfl) ?_
        subst hQ
        exact W.iret (v := zih) hx hb hr (fun t ht hW => ⟨⟨zih, (), rfl, (show 0 ≤ zih.toInt ∧ zih.toInt ≤ 12 from by omega), ⟨by rw [ht]; exact hP, va_K.moved hW.alike hK, hD⟩⟩, hS.F ht⟩) hS.2.2 dX11_more_90
      · have f_30 : ¬ (zih.toInt ≥ zi_25.toInt) := ic_nge (rfl) (rfl) c_29
        refine lv_iload hx hb dX11_more_81 (lv_at hl 9 rfl) ?_
        refine lv_iconst (v := 1) hx hb dX11_more_83 (by decide) ?_
        refine lv_iadd hx hb dX11_more_84 ?_
        refine lv_topi (fun zi_31 ezi_31 => ?_)
        have tzi_31 : zi_31.toInt = zih.toInt + (1 : Int) := by rw [ezi_31]; exact tiadd (rfl) (show (1 : Int32).toInt = 1 by decide) (by omega) (by omega)
        refine lv_goto (tgt := 90) hx hb dX11_more_85 (by decide) ?_
        subst hQ
        exact W.iret (v := zi_31) hx hb hr (fun t ht hW => ⟨⟨zi_31, (), rfl, (show 0 ≤ zi_31.toInt ∧ zi_31.toInt ≤ 12 from by omega), ⟨by rw [ht]; exact hP, va_K.moved hW.alike hK, hD⟩⟩, hS.F ht⟩) hS.2.2 dX11_more_90
set_option maxHeartbeats 8000000 in
set_option maxRecDepth 100000 in
theorem t_X11_more_1 (l : Launch) (dC : Nat → ClassId) (dI : Nat → Nat → Nat) (cy : Nat → ClassId) (sz : Nat) (zL : List Nat) (zT : Nat → Nat) (zR : Nat → Nat → Nat) (zI : Nat → Nat → Int32) (zJ : Nat → Nat → Int64) (zy : Nat) (zia : Int32) (zic : Int32) (zip : Int32) (ziq : Int32) (zis : Int32) (zih : Int32) (hs : SKP zL zT zR) (hw : WT zT zR zI) (t_zy : zT zy = 18) (b_zia : 0 ≤ zia.toInt ∧ zia.toInt ≤ 3) (b_zic : 0 ≤ zic.toInt ∧ zic.toInt ≤ 1) (b_zip : 0 ≤ zip.toInt ∧ zip.toInt ≤ 11) (b_zih : 0 ≤ zih.toInt ∧ zih.toInt ≤ 12) (hz : ZI (zI (zR zy 0))) (hx1 : zia.toInt < zA (zI (zR zy 0)) (12)) : Met l yX11_more wsX11_more ({ frames := 2, cells := 0, slots := 0, locals := 52 } : Room) (va_Pc [.ref zy, .int zia, .int 1, .int zic, .int zip, .int ziq, .int zis, .int zih] (PRE dC dI cy (WL cy zL zT zR zI zJ) sz)) (va_Qi (fun (r : Int32) (u : Unit) => (0 ≤ r.toInt ∧ r.toInt ≤ 12)) (fun u t => POST dC dI cy (va_A (WL cy zL zT zR zI zJ) sz) (WL cy zL zT zR zI zJ) t) (va_A (WL cy zL zT zR zI zJ) sz)) 0 0 (va_A (WL cy zL zT zR zI zJ) sz) := by
  refine Met.ofW (cc := cX11_more) (maxL := 10) (ret := (some .int)) (by decide) rfl ?_
  intro p e s m args below meth c s₁ B hml hv
  obtain ⟨rfl, hsz, hP, hK, hD0, hN⟩ := hv
  have hx := B.exec
  have hb := B.bytes
  have hr := B.returns
  have hts := atoms_spec (ws := wsX11_more) B.pre
  have hown : s.vm.findClass RX11 = some m.cls := findClass_of_methodNamed B.named
  have hlocks := B.notSynchronized
  subst hsz
  have hD := hD0.self (sz := s.heap.size)
  generalize hAe : va_A (WL cy zL zT zR zI zJ) s.heap.size = A at hD ⊢
  have hA : ∀ q : Nat, s.heap.size ≤ q → A q := fun q h => by rw [← hAe]; exact Or.inr h
  have hS : va_S A s.heap s.heap [] := va_S.rf
  have hP : va_P (dC, dI) vwCl (WL cy zL zT zR zI zJ) s.heap := hP
  have hl := lv_entry ([.ref zy, .int zia, .int 1, .int zic, .int zip, .int ziq, .int zis, .int zih] : List Value) (n := 10) (Nat.le_of_ble_eq_true rfl)
  rw [lg_entry_eq]
  generalize (lg_sl ([.ref zy, .int zia, .int 1, .int zic, .int zip, .int ziq, .int zis, .int zih] : List Value) ++ List.replicate (10 - (lg_sl ([.ref zy, .int zia, .int 1, .int zic, .int zip, .int ziq, .int zis, .int zih] : List Value)).length) Slot.unset).toArray = ls at hl ⊢
  have hl : lv_has ls 10 [(0, .ref zy), (1, .int zia), (2, .int 1), (3, .int zic), (4, .int zip), (5, .int ziq), (6, .int zis), (7, .int zih)] := hl
  refine w_q (fun Q hQ => ?_)
  have h_zI : WM [] AL zT zR zI zI := WM.rf hw
  refine lv_sipush (v := 326) hx hb dX11_more_0 (by decide) ?_
  refine lv_bipush (v := 14) hx hb dX11_more_3 (by decide) ?_
  refine lv_iload_n hx hb dX11_more_5 rfl (lv_at hl 1 rfl) ?_
  refine lv_imul hx hb dX11_more_6 ?_
  refine lv_topi (fun zi_1 ezi_1 => ?_)
  have tzi_1 : zi_1.toInt = (14 : Int) * zia.toInt := by rw [ezi_1]; exact timul (show (14 : Int32).toInt = 14 by decide) (rfl) (by omega) (by omega)
  refine lv_iadd hx hb dX11_more_7 ?_
  refine lv_topi (fun zi_2 ezi_2 => ?_)
  have tzi_2 : zi_2.toInt = (326 : Int) + zi_1.toInt := by rw [ezi_2]; exact tiadd (show (326 : Int32).toInt = 326 by decide) (rfl) (by omega) (by omega)
  refine lv_iconst (v := 2) hx hb dX11_more_8 (by decide) ?_
  refine lv_iadd hx hb dX11_more_9 ?_
  refine lv_topi (fun zi_3 ezi_3 => ?_)
  have tzi_3 : zi_3.toInt = zi_2.toInt + (2 : Int) := by rw [ezi_3]; exact tiadd (rfl) (show (2 : Int32).toInt = 2 by decide) (by omega) (by omega)
  refine lv_bipush (v := 6) hx hb dX11_more_10 (by decide) ?_
  refine lv_iload_n hx hb dX11_more_12 rfl (lv_at hl 2 rfl) ?_
  refine lv_imul hx hb dX11_more_13 ?_
  refine lv_topi (fun zi_4 ezi_4 => ?_)
  obtain rfl : zi_4 = (6 : Int32) := ezi_4.trans (by decide)
  refine lv_iadd hx hb dX11_more_14 ?_
  refine lv_topi (fun zi_5 ezi_5 => ?_)
  have tzi_5 : zi_5.toInt = zi_3.toInt + (6 : Int) := by rw [ezi_5]; exact tiadd (rfl) (show (6 : Int32).toInt = 6 by decide) (by omega) (by omega)
  refine lv_istore (lv' := [(8, .int zi_5), (0, .ref zy), (1, .int zia), (2, .int 1), (3, .int zic), (4, .int zip), (5, .int ziq), (6, .int zis), (7, .int zih)]) hx hb dX11_more_15 hl (by decide) rfl (fun ls hl => ?_)
  refine lv_iload_n hx hb dX11_more_17 rfl (lv_at hl 3 rfl) ?_
  refine lv_aload_n hx hb dX11_more_18 rfl (lv_at hl 1 rfl) ?_
  refine ht_getr (C := RX11) (T := TX11) (N := 28) hx hb hts (by decide +kernel) hown hK hP hs t_zy (by decide) rfl rfl 0 (by decide) (hts (.fieldLink RX11 7 "DripStoneModel" "z" "[I") (by decide +kernel)) (fun _ h9 => h9) rfl dX11_more_19 ?_
  have t_6 : zT (zR zy 0) = 100 := sk_f hs t_zy (by decide) rfl (by decide)
  refine lv_sipush (v := 326) hx hb dX11_more_22 (by decide) ?_
  refine lv_bipush (v := 14) hx hb dX11_more_25 (by decide) ?_
  refine lv_iload_n hx hb dX11_more_27 rfl (lv_at hl 2 rfl) ?_
  refine lv_imul hx hb dX11_more_28 ?_
  refine lv_topi (fun zi_7 ezi_7 => ?_)
  have tzi_7 : zi_7.toInt = (14 : Int) * zia.toInt := by rw [ezi_7]; exact timul (show (14 : Int32).toInt = 14 by decide) (rfl) (by omega) (by omega)
  refine lv_iadd hx hb dX11_more_29 ?_
  refine lv_topi (fun zi_8 ezi_8 => ?_)
  have tzi_8 : zi_8.toInt = (326 : Int) + zi_7.toInt := by rw [ezi_8]; exact tiadd (show (326 : Int32).toInt = 326 by decide) (rfl) (by omega) (by omega)
  refine ht_iald (n := 392) (q := 0) hx hb hK hP hs t_6 (by decide) rfl rfl ⟨by omega, by omega⟩ dX11_more_30 ?_
  refine lv_topi (fun zi_9 ezi_9 => ?_)
  have la_10 : zi_9.toInt = zA (zI (zR zy 0)) (326 + 14 * zia.toInt) := (congrArg Int32.toInt (show zI (zR zy 0) zi_8.toNatClampNeg = zi_9 from ezi_9.symm).symm).trans (congrArg (zA (zI (zR zy 0))) (show zi_8.toInt = 326 + 14 * zia.toInt from by omega))
  refine lv_icmp_ge (tgt := 59) hx hb dX11_more_31 (by decide) (fun c_11 => ?_) (fun c_11 => ?_)
  · have f_12 : (1 : Int) ≥ zi_9.toInt := ic_ge (show (1 : Int32).toInt = 1 by decide) (rfl) c_11
    refine lv_iconst (v := 0) hx hb dX11_more_59 (by decide) ?_
    refine lv_istore (lv' := [(9, .int 0), (8, .int zi_5), (0, .ref zy), (1, .int zia), (2, .int 1), (3, .int zic), (4, .int zip), (5, .int ziq), (6, .int zis), (7, .int zih)]) hx hb dX11_more_60 hl (by decide) rfl (fun ls hl => ?_)
    refine lv_iload hx hb dX11_more_62 (lv_at hl 0 rfl) ?_
    refine lv_if_eq (tgt := 88) hx hb dX11_more_64 (by decide) (fun c_13 => ?_) (fun c_13 => absurd (by decide) c_13)
    refine lv_iload hx hb dX11_more_88 (lv_at hl 9 rfl) ?_
    subst hQ
    exact W.iret (v := zih) hx hb hr (fun t ht hW => ⟨⟨zih, (), rfl, (show 0 ≤ zih.toInt ∧ zih.toInt ≤ 12 from by omega), ⟨by rw [ht]; exact hP, va_K.moved hW.alike hK, hD⟩⟩, hS.F ht⟩) hS.2.2 dX11_more_90
  · have f_12 : ¬ ((1 : Int) ≥ zi_9.toInt) := ic_nge (show (1 : Int32).toInt = 1 by decide) (rfl) c_11
    refine lv_aload_n hx hb dX11_more_34 rfl (lv_at hl 1 rfl) ?_
    refine lv_iload hx hb dX11_more_35 (lv_at hl 0 rfl) ?_
    refine lv_iload_n hx hb dX11_more_37 rfl (lv_at hl 4 rfl) ?_
    refine lv_aload_n hx hb dX11_more_38 rfl (lv_at hl 1 rfl) ?_
    refine ht_getr (C := RX11) (T := TX11) (N := 28) hx hb hts (by decide +kernel) hown hK hP hs t_zy (by decide) rfl rfl 8 (by decide) (hts (.fieldLink RX11 19 "DripStoneModel" "placeThing" "[I") (by decide +kernel)) (fun _ h9 => h9) rfl dX11_more_39 ?_
    have t_14 : zT (zR zy 8) = 103 := sk_f hs t_zy (by decide) rfl (by decide)
    refine lv_iload hx hb dX11_more_42 (lv_at hl 5 rfl) ?_
    refine ht_iald (n := 12) (q := 0) hx hb hK hP hs t_14 (by decide) rfl rfl ⟨by omega, by omega⟩ dX11_more_44 ?_
    refine lv_topi (fun zi_15 ezi_15 => ?_)
    have tzi_15 : 0 ≤ zi_15.toInt ∧ zi_15.toInt ≤ 11 := by rw [ezi_15]; exact h_zI.at t_14 _ rfl
    have la_16 : zi_15.toInt = zA (zI (zR zy 8)) (zip.toInt) := (congrArg Int32.toInt (show zI (zR zy 8) zip.toNatClampNeg = zi_15 from ezi_15.symm).symm).trans (congrArg (zA (zI (zR zy 8))) (show zip.toInt = zip.toInt from by omega))
    refine lv_iload hx hb dX11_more_45 (lv_at hl 6 rfl) ?_
    refine lv_iload hx hb dX11_more_47 (lv_at hl 7 rfl) ?_
    refine hj_i (ws := (WL cy zL zT zR zI zJ)) (w1 := fun (u : Unit) => (WL cy zL zT zR zI zJ)) (va_runV (As := [.int zi_5, .int zic, .int zi_15, .int ziq, .int zis]) (rest := []) ⟨hx, hb, hml, hown, hts⟩ (t_X11_countsThing l dC dI cy s.heap.size zL zT zR zI zJ zy zi_5 zic zi_15 ziq zis hs h_zI.1 t_zy (by omega) (by omega) (by omega) hz) (cwV 5 hts gX11_more_X11_countsThing rfl rfl rfl (by decide +kernel) ⟨(Nat.le_of_ble_eq_true rfl), (Nat.le_of_ble_eq_true rfl)⟩) (PRE.v hP hK hD hN (ht_recv hK hP hs t_zy (by decide) rfl rfl)) rfl rfl hl.1 rfl (lv_room (Nat.le_of_ble_eq_true rfl)) dX11_more_49 ⟨(Nat.le_of_ble_eq_true rfl), (Nat.le_of_ble_eq_true rfl)⟩) hP hD hS hA (fun zi_17 u_19 H locs hw_18 hP hD hS => ?_)
    have b_zi_17 : 0 ≤ zi_17.toInt ∧ zi_17.toInt ≤ 1 := hw_18
    refine lv_if_eq (tgt := 59) hx hb dX11_more_52 (by decide) (fun c_20 => ?_) (fun c_20 => ?_)
    · have f_21 : zi_17.toInt = 0 := ic_eq (rfl) (by decide) c_20
      refine lv_iconst (v := 0) hx hb dX11_more_59 (by decide) ?_
      refine lv_istore (lv' := [(9, .int 0), (8, .int zi_5), (0, .ref zy), (1, .int zia), (2, .int 1), (3, .int zic), (4, .int zip), (5, .int ziq), (6, .int zis), (7, .int zih)]) hx hb dX11_more_60 hl (by decide) rfl (fun ls hl => ?_)
      refine lv_iload hx hb dX11_more_62 (lv_at hl 0 rfl) ?_
      refine lv_if_eq (tgt := 88) hx hb dX11_more_64 (by decide) (fun c_22 => ?_) (fun c_22 => absurd (by decide) c_22)
      refine lv_iload hx hb dX11_more_88 (lv_at hl 9 rfl) ?_
      subst hQ
      exact W.iret (v := zih) hx hb hr (fun t ht hW => ⟨⟨zih, (), rfl, (show 0 ≤ zih.toInt ∧ zih.toInt ≤ 12 from by omega), ⟨by rw [ht]; exact hP, va_K.moved hW.alike hK, hD⟩⟩, hS.F ht⟩) hS.2.2 dX11_more_90
    · have f_21 : ¬ (zi_17.toInt = 0) := ic_neq (rfl) (by decide) c_20
      refine lv_iconst (v := 1) hx hb dX11_more_55 (by decide) ?_
      refine lv_goto (tgt := 60) hx hb dX11_more_56 (by decide) ?_
      refine lv_istore (lv' := [(9, .int 1), (8, .int zi_5), (0, .ref zy), (1, .int zia), (2, .int 1), (3, .int zic), (4, .int zip), (5, .int ziq), (6, .int zis), (7, .int zih)]) hx hb dX11_more_60 hl (by decide) rfl (fun ls hl => ?_)
      refine lv_iload hx hb dX11_more_62 (lv_at hl 0 rfl) ?_
      refine lv_if_eq (tgt := 88) hx hb dX11_more_64 (by decide) (fun c_23 => absurd c_23 (by decide)) (fun c_23 => ?_)
      refine lv_iload hx hb dX11_more_67 (lv_at hl 9 rfl) ?_
      refine lv_aload_n hx hb dX11_more_69 rfl (lv_at hl 2 rfl) ?_
      refine ht_getr (C := RX11) (T := TX11) (N := 28) hx hb hts (by decide +kernel) hown hK hP hs t_zy (by decide) rfl rfl 0 (by decide) (hts (.fieldLink RX11 7 "DripStoneModel" "z" "[I") (by decide +kernel)) (fun _ h9 => h9) rfl dX11_more_70 ?_
      refine lv_iload hx hb dX11_more_73 (lv_at hl 1 rfl) ?_
      refine lv_iconst (v := 5) hx hb dX11_more_75 (by decide) ?_
      refine lv_iadd hx hb dX11_more_76 ?_
      refine lv_topi (fun zi_24 ezi_24 => ?_)
      have tzi_24 : zi_24.toInt = zi_5.toInt + (5 : Int) := by rw [ezi_24]; exact tiadd (rfl) (show (5 : Int32).toInt = 5 by decide) (by omega) (by omega)
      refine ht_iald (n := 392) (q := 0) hx hb hK hP hs t_6 (by decide) rfl rfl ⟨by omega, by omega⟩ dX11_more_77 ?_
      refine lv_topi (fun zi_25 ezi_25 => ?_)
      have la_26 : zi_25.toInt = zA (zI (zR zy 0)) (339 + 14 * zia.toInt) := (congrArg Int32.toInt (show zI (zR zy 0) zi_24.toNatClampNeg = zi_25 from ezi_25.symm).symm).trans (congrArg (zA (zI (zR zy 0))) (show zi_24.toInt = 339 + 14 * zia.toInt from by omega))
      have cg_27 : CO (zI (zR zy 0)) zia.toInt := hz.2.2.2 zia.toInt (by omega) (by omega)
      unfold CO at cg_27
      have cb_28 : zi_25.toInt ≤ 12 := by omega
      refine lv_icmp_ge (tgt := 88) hx hb dX11_more_78 (by decide) (fun c_29 => ?_) (fun c_29 => ?_)
      · have f_30 : zih.toInt ≥ zi_25.toInt := ic_ge (rfl) (rfl) c_29
        refine lv_iload hx hb dX11_more_88 (lv_at hl 9 rfl) ?_
        subst hQ
        exact W.iret (v := zih) hx hb hr (fun t ht hW => ⟨⟨zih, (), rfl, (show 0 ≤ zih.toInt ∧ zih.toInt ≤ 12 from by omega), ⟨by rw [ht]; exact hP, va_K.moved hW.alike hK, hD⟩⟩, hS.F ht⟩) hS.2.2 dX11_more_90
      · have f_30 : ¬ (zih.toInt ≥ zi_25.toInt) := ic_nge (rfl) (rfl) c_29
        refine lv_iload hx hb dX11_more_81 (lv_at hl 9 rfl) ?_
        refine lv_iconst (v := 1) hx hb dX11_more_83 (by decide) ?_
        refine lv_iadd hx hb dX11_more_84 ?_
        refine lv_topi (fun zi_31 ezi_31 => ?_)
        have tzi_31 : zi_31.toInt = zih.toInt + (1 : Int) := by rw [ezi_31]; exact tiadd (rfl) (show (1 : Int32).toInt = 1 by decide) (by omega) (by omega)
        refine lv_goto (tgt := 90) hx hb dX11_more_85 (by decide) ?_
        subst hQ
        exact W.iret (v := zi_31) hx hb hr (fun t ht hW => ⟨⟨zi_31, (), rfl, (show 0 ≤ zi_31.toInt ∧ zi_31.toInt ≤ 12 from by omega), ⟨by rw [ht]; exact hP, va_K.moved hW.alike hK, hD⟩⟩, hS.F ht⟩) hS.2.2 dX11_more_90
set_option maxHeartbeats 8000000 in
set_option maxRecDepth 100000 in
theorem t_X11_clearThen_k (l : Launch) (dC : Nat → ClassId) (dI : Nat → Nat → Nat) (cy : Nat → ClassId) (sz : Nat) (zL : List Nat) (zT : Nat → Nat) (zR : Nat → Nat → Nat) (zI : Nat → Nat → Int32) (zJ : Nat → Nat → Int64) (zy : Nat) (hs : SKP zL zT zR) (hw : WT zT zR zI) (t_zy : zT zy = 18) : Met l yX11_clearThen wsX11_clearThen ({ frames := 0, cells := 0, slots := 0, locals := 0 } : Room) (va_Pc [.ref zy] (PRE dC dI cy (WL cy zL zT zR zI zJ) sz)) (va_Qv (fun (u : (Nat → Nat → Int64)) => (u zy 15 = zJ zy 15)) (fun u t => POST dC dI cy (va_A (WL cy zL zT zR zI zJ) sz) (WL cy zL zT zR zI u) t) (va_A (WL cy zL zT zR zI zJ) sz)) 0 0 (va_A (WL cy zL zT zR zI zJ) sz) := by
  refine Met.ofW (cc := cX11_clearThen) (maxL := 2) (ret := none) (by decide) rfl ?_
  intro p e s m args below meth c s₁ B hml hv
  obtain ⟨rfl, hsz, hP, hK, hD0, hN⟩ := hv
  have hx := B.exec
  have hb := B.bytes
  have hr := B.returns
  have hts := atoms_spec (ws := wsX11_clearThen) B.pre
  have hown : s.vm.findClass RX11 = some m.cls := findClass_of_methodNamed B.named
  have hlocks := B.notSynchronized
  subst hsz
  have hD := hD0.self (sz := s.heap.size)
  generalize hAe : va_A (WL cy zL zT zR zI zJ) s.heap.size = A at hD ⊢
  have hA : ∀ q : Nat, s.heap.size ≤ q → A q := fun q h => by rw [← hAe]; exact Or.inr h
  have hS : va_S A s.heap s.heap [] := va_S.rf
  have hP : va_P (dC, dI) vwCl (WL cy zL zT zR zI zJ) s.heap := hP
  have hl := lv_entry ([.ref zy] : List Value) (n := 2) (Nat.le_of_ble_eq_true rfl)
  rw [lg_entry_eq]
  generalize (lg_sl ([.ref zy] : List Value) ++ List.replicate (2 - (lg_sl ([.ref zy] : List Value)).length) Slot.unset).toArray = ls at hl ⊢
  have hl : lv_has ls 2 [(0, .ref zy)] := hl
  refine w_q (fun Q hQ => ?_)
  have h_zI : WM [] AL zT zR zI zI := WM.rf hw
  refine lv_iconst (v := 0) hx hb dX11_clearThen_0 (by decide) ?_
  refine lv_istore_n (lv' := [(1, .int 0), (0, .ref zy)]) hx hb dX11_clearThen_1 rfl hl (by decide) rfl (fun ls hl => ?_)
  have lp_30 : ∀ (n : Nat) (zi_23 : Int32) (zJ_24 : Nat → Nat → Int64) (H : Heap) (locs : List Loc) (ls : Array Slot), (20280 - zi_23.toInt).toNat = n → (0 ≤ zi_23.toInt ∧ zi_23.toInt ≤ 20280) → (zJ_24 zy 15 = zJ zy 15) → va_P (dC, dI) vwCl (WL cy zL zT zR zI zJ_24) H → va_D A (WL cy zL zT zR zI zJ_24) → va_S A s.heap H locs → lv_has ls 2 [(0, .ref zy), (1, .int zi_23)] → W p l e ({ frames := 0, cells := 0, slots := 0, locals := 0 } : Room) s m ([.ref zy] : List Value).toArray below meth c H locs 0 0 Q (F0 m 2 ls []) := by
    intro n
    induction n using Nat.strongRecOn with
    | _ n ih_30 =>
      intro zi_23 zJ_24 H locs ls hn b_zi_23 e_lp_30_0 hP hD hS hl
      refine lv_iload_n hx hb dX11_clearThen_2 rfl (lv_at hl 1 rfl) ?_
      refine lv_sipush (v := 20280) hx hb dX11_clearThen_3 (by decide) ?_
      refine lv_icmp_ge (tgt := 22) hx hb dX11_clearThen_6 (by decide) (fun c_31 => ?_) (fun c_31 => ?_)
      · have f_32 : zi_23.toInt ≥ (20280 : Int) := ic_ge (rfl) (show (20280 : Int32).toInt = 20280 by decide) c_31
        subst hQ
        exact W.vret hx hb hr (fun t ht hW => ⟨⟨zJ_24, rfl, (show zJ_24 zy 15 = zJ zy 15 from e_lp_30_0), ⟨by rw [ht]; exact hP, va_K.moved hW.alike hK, hD⟩⟩, hS.F ht⟩) hS.2.2 dX11_clearThen_22
      · have f_32 : ¬ (zi_23.toInt ≥ (20280 : Int)) := ic_nge (rfl) (show (20280 : Int32).toInt = 20280 by decide) c_31
        refine lv_aload_n hx hb dX11_clearThen_9 rfl (lv_at hl 0 rfl) ?_
        refine ht_getr (C := RX11) (T := TX11) (N := 28) hx hb hts (by decide +kernel) hown hK hP hs t_zy (by decide) rfl rfl 22 (by decide) (hts (.fieldLink RX11 53 "DripStoneModel" "then" "[J") (by decide +kernel)) (fun _ h9 => h9) rfl dX11_clearThen_10 ?_
        have t_33 : zT (zR zy 22) = 118 := sk_f hs t_zy (by decide) rfl (by decide)
        refine lv_iload_n hx hb dX11_clearThen_13 rfl (lv_at hl 1 rfl) ?_
        refine lv_lconst (v := 0) hx hb dX11_clearThen_14 (by decide) ?_
        refine ht_last (v := (0 : Int64)) (n := 20280) (q := 1) hx hb hK hP hD hS hs t_33 (by decide) rfl rfl ⟨by omega, by omega⟩ dX11_clearThen_15 (fun H locs hP hD hS => ?_)
        generalize uzJ_34 : u2 zJ_24 (zR zy 22) zi_23.toNatClampNeg (0 : Int64) = zJ_34 at hP hD
        obtain ⟨zi_35, ezi_35⟩ : ∃ y : Int32, y = zi_23 + 1 := ⟨_, rfl⟩
        have tzi_35 : zi_35.toInt = zi_23.toInt + 1 := by rw [ezi_35]; exact tadd rfl (show (1 : Int32).toInt = 1 by decide) (by omega) (by omega)
        refine lv_iinc (v := zi_35) (lv' := [(1, .int zi_35), (0, .ref zy)]) hx hb dX11_clearThen_16 hl (k := 1) rfl (by rw [ezi_35]; rfl) (by decide) rfl (fun ls hl => ?_)
        refine lv_goto (tgt := 2) hx hb dX11_clearThen_19 (by decide) ?_
        exact ih_30 (20280 - zi_35.toInt).toNat (by omega) zi_35 zJ_34 _ _ _ rfl (by omega) ((show zJ_34 zy 15 = zJ_24 zy 15 from by rw [← uzJ_34]; exact u2_n (tne t_zy t_33 (by decide))).trans e_lp_30_0) hP hD hS (lv_sub hl [1, 0] rfl)
  have qc_0 : (0 : Int32).toInt = 0 := by decide
  exact lp_30 _ (0 : Int32) zJ _ _ _ rfl (by decide) rfl hP hD hS (lv_sub hl [1, 0] rfl)
set_option maxHeartbeats 8000000 in
set_option maxRecDepth 100000 in
theorem t_X11_turn_k (l : Launch) (dC : Nat → ClassId) (dI : Nat → Nat → Nat) (cy : Nat → ClassId) (sz : Nat) (zL : List Nat) (zT : Nat → Nat) (zR : Nat → Nat → Nat) (zI : Nat → Nat → Int32) (zJ : Nat → Nat → Int64) (zy : Nat) (hs : SKP zL zT zR) (hw : WT zT zR zI) (t_zy : zT zy = 18) : Met l yX11_turn wsX11_turn ({ frames := 0, cells := 0, slots := 0, locals := 0 } : Room) (va_Pc [.ref zy] (PRE dC dI cy (WL cy zL zT zR zI zJ) sz)) (va_Qv (fun (u : (Nat → Nat → Int64)) => (u zy 15 = zJ zy 15)) (fun u t => POST dC dI cy (va_A (WL cy zL zT zR zI zJ) sz) (WL cy zL zT zR zI u) t) (va_A (WL cy zL zT zR zI zJ) sz)) 0 0 (va_A (WL cy zL zT zR zI zJ) sz) := by
  refine Met.ofW (cc := cX11_turn) (maxL := 2) (ret := none) (by decide) rfl ?_
  intro p e s m args below meth c s₁ B hml hv
  obtain ⟨rfl, hsz, hP, hK, hD0, hN⟩ := hv
  have hx := B.exec
  have hb := B.bytes
  have hr := B.returns
  have hts := atoms_spec (ws := wsX11_turn) B.pre
  have hown : s.vm.findClass RX11 = some m.cls := findClass_of_methodNamed B.named
  have hlocks := B.notSynchronized
  subst hsz
  have hD := hD0.self (sz := s.heap.size)
  generalize hAe : va_A (WL cy zL zT zR zI zJ) s.heap.size = A at hD ⊢
  have hA : ∀ q : Nat, s.heap.size ≤ q → A q := fun q h => by rw [← hAe]; exact Or.inr h
  have hS : va_S A s.heap s.heap [] := va_S.rf
  have hP : va_P (dC, dI) vwCl (WL cy zL zT zR zI zJ) s.heap := hP
  have hl := lv_entry ([.ref zy] : List Value) (n := 2) (Nat.le_of_ble_eq_true rfl)
  rw [lg_entry_eq]
  generalize (lg_sl ([.ref zy] : List Value) ++ List.replicate (2 - (lg_sl ([.ref zy] : List Value)).length) Slot.unset).toArray = ls at hl ⊢
  have hl : lv_has ls 2 [(0, .ref zy)] := hl
  refine w_q (fun Q hQ => ?_)
  have h_zI : WM [] AL zT zR zI zI := WM.rf hw
  refine lv_iconst (v := 0) hx hb dX11_turn_0 (by decide) ?_
  refine lv_istore_n (lv' := [(1, .int 0), (0, .ref zy)]) hx hb dX11_turn_1 rfl hl (by decide) rfl (fun ls hl => ?_)
  have lp_40 : ∀ (n : Nat) (zi_31 : Int32) (zJ_32 : Nat → Nat → Int64) (H : Heap) (locs : List Loc) (ls : Array Slot), (20280 - zi_31.toInt).toNat = n → (0 ≤ zi_31.toInt ∧ zi_31.toInt ≤ 20280) → (zJ_32 zy 15 = zJ zy 15) → va_P (dC, dI) vwCl (WL cy zL zT zR zI zJ_32) H → va_D A (WL cy zL zT zR zI zJ_32) → va_S A s.heap H locs → lv_has ls 2 [(0, .ref zy), (1, .int zi_31)] → W p l e ({ frames := 0, cells := 0, slots := 0, locals := 0 } : Room) s m ([.ref zy] : List Value).toArray below meth c H locs 0 0 Q (F0 m 2 ls []) := by
    intro n
    induction n using Nat.strongRecOn with
    | _ n ih_40 =>
      intro zi_31 zJ_32 H locs ls hn b_zi_31 e_lp_40_0 hP hD hS hl
      refine lv_iload_n hx hb dX11_turn_2 rfl (lv_at hl 1 rfl) ?_
      refine lv_sipush (v := 20280) hx hb dX11_turn_3 (by decide) ?_
      refine lv_icmp_ge (tgt := 27) hx hb dX11_turn_6 (by decide) (fun c_41 => ?_) (fun c_41 => ?_)
      · have f_42 : zi_31.toInt ≥ (20280 : Int) := ic_ge (rfl) (show (20280 : Int32).toInt = 20280 by decide) c_41
        subst hQ
        exact W.vret hx hb hr (fun t ht hW => ⟨⟨zJ_32, rfl, (show zJ_32 zy 15 = zJ zy 15 from e_lp_40_0), ⟨by rw [ht]; exact hP, va_K.moved hW.alike hK, hD⟩⟩, hS.F ht⟩) hS.2.2 dX11_turn_27
      · have f_42 : ¬ (zi_31.toInt ≥ (20280 : Int)) := ic_nge (rfl) (show (20280 : Int32).toInt = 20280 by decide) c_41
        refine lv_aload_n hx hb dX11_turn_9 rfl (lv_at hl 0 rfl) ?_
        refine ht_getr (C := RX11) (T := TX11) (N := 28) hx hb hts (by decide +kernel) hown hK hP hs t_zy (by decide) rfl rfl 21 (by decide) (hts (.fieldLink RX11 50 "DripStoneModel" "now" "[J") (by decide +kernel)) (fun _ h9 => h9) rfl dX11_turn_10 ?_
        have t_43 : zT (zR zy 21) = 117 := sk_f hs t_zy (by decide) rfl (by decide)
        refine lv_iload_n hx hb dX11_turn_13 rfl (lv_at hl 1 rfl) ?_
        refine lv_aload_n hx hb dX11_turn_14 rfl (lv_at hl 0 rfl) ?_
        refine ht_getr (C := RX11) (T := TX11) (N := 28) hx hb hts (by decide +kernel) hown hK hP hs t_zy (by decide) rfl rfl 22 (by decide) (hts (.fieldLink RX11 53 "DripStoneModel" "then" "[J") (by decide +kernel)) (fun _ h9 => h9) rfl dX11_turn_15 ?_
        have t_44 : zT (zR zy 22) = 118 := sk_f hs t_zy (by decide) rfl (by decide)
        refine lv_iload_n hx hb dX11_turn_18 rfl (lv_at hl 1 rfl) ?_
        refine ht_lald (n := 20280) (q := 1) hx hb hK hP hs t_44 (by decide) rfl rfl ⟨by omega, by omega⟩ dX11_turn_19 ?_
        refine lv_topl (fun zj_45 ezj_45 => ?_)
        refine ht_last (v := zj_45) (n := 20280) (q := 1) hx hb hK hP hD hS hs t_43 (by decide) rfl rfl ⟨by omega, by omega⟩ dX11_turn_20 (fun H locs hP hD hS => ?_)
        generalize uzJ_46 : u2 zJ_32 (zR zy 21) zi_31.toNatClampNeg zj_45 = zJ_46 at hP hD
        obtain ⟨zi_47, ezi_47⟩ : ∃ y : Int32, y = zi_31 + 1 := ⟨_, rfl⟩
        have tzi_47 : zi_47.toInt = zi_31.toInt + 1 := by rw [ezi_47]; exact tadd rfl (show (1 : Int32).toInt = 1 by decide) (by omega) (by omega)
        refine lv_iinc (v := zi_47) (lv' := [(1, .int zi_47), (0, .ref zy)]) hx hb dX11_turn_21 hl (k := 1) rfl (by rw [ezi_47]; rfl) (by decide) rfl (fun ls hl => ?_)
        refine lv_goto (tgt := 2) hx hb dX11_turn_24 (by decide) ?_
        exact ih_40 (20280 - zi_47.toInt).toNat (by omega) zi_47 zJ_46 _ _ _ rfl (by omega) ((show zJ_46 zy 15 = zJ_32 zy 15 from by rw [← uzJ_46]; exact u2_n (tne t_zy t_43 (by decide))).trans e_lp_40_0) hP hD hS (lv_sub hl [1, 0] rfl)
  have qc_0 : (0 : Int32).toInt = 0 := by decide
  exact lp_40 _ (0 : Int32) zJ _ _ _ rfl (by decide) rfl hP hD hS (lv_sub hl [1, 0] rfl)
set_option maxHeartbeats 8000000 in
set_option maxRecDepth 100000 in
theorem t_X11_goOn (l : Launch) (dC : Nat → ClassId) (dI : Nat → Nat → Nat) (cy : Nat → ClassId) (sz : Nat) (zL : List Nat) (zT : Nat → Nat) (zR : Nat → Nat → Nat) (zI : Nat → Nat → Int32) (zJ : Nat → Nat → Int64) (zy : Nat) (zia : Int32) (zic : Int32) (zis : Int32) (zip : Int32) (zit : Int32) (hs : SKP zL zT zR) (hw : WT zT zR zI) (t_zy : zT zy = 18) (b_zia : 0 ≤ zia.toInt ∧ zia.toInt ≤ 3) (b_zic : 0 ≤ zic.toInt ∧ zic.toInt ≤ 1) (b_zip : 1 ≤ zip.toInt ∧ zip.toInt ≤ 11) (b_zit : 0 ≤ zit.toInt ∧ zit.toInt ≤ 20279) (hz : ZI (zI (zR zy 0))) (hx1 : zia.toInt < zA (zI (zR zy 0)) (12)) : Met l yX11_goOn wsX11_goOn ({ frames := 3, cells := 0, slots := 0, locals := 81 } : Room) (va_Pc [.ref zy, .int zia, .int zic, .int zis, .int zip, .int zit] (PRE dC dI cy (WL cy zL zT zR zI zJ) sz)) (va_Qv (fun (u : (Nat → Nat → Int64)) => (u zy 15 = zJ zy 15)) (fun u t => POST dC dI cy (va_A (WL cy zL zT zR zI zJ) sz) (WL cy zL zT zR zI u) t) (va_A (WL cy zL zT zR zI zJ) sz)) 0 0 (va_A (WL cy zL zT zR zI zJ) sz) := by
  refine Met.ofW (cc := cX11_goOn) (maxL := 12) (ret := none) (by decide) rfl ?_
  intro p e s m args below meth c s₁ B hml hv
  obtain ⟨rfl, hsz, hP, hK, hD0, hN⟩ := hv
  have hx := B.exec
  have hb := B.bytes
  have hr := B.returns
  have hts := atoms_spec (ws := wsX11_goOn) B.pre
  have hown : s.vm.findClass RX11 = some m.cls := findClass_of_methodNamed B.named
  have hlocks := B.notSynchronized
  subst hsz
  have hD := hD0.self (sz := s.heap.size)
  generalize hAe : va_A (WL cy zL zT zR zI zJ) s.heap.size = A at hD ⊢
  have hA : ∀ q : Nat, s.heap.size ≤ q → A q := fun q h => by rw [← hAe]; exact Or.inr h
  have hS : va_S A s.heap s.heap [] := va_S.rf
  have hP : va_P (dC, dI) vwCl (WL cy zL zT zR zI zJ) s.heap := hP
  have hl := lv_entry ([.ref zy, .int zia, .int zic, .int zis, .int zip, .int zit] : List Value) (n := 12) (Nat.le_of_ble_eq_true rfl)
  rw [lg_entry_eq]
  generalize (lg_sl ([.ref zy, .int zia, .int zic, .int zis, .int zip, .int zit] : List Value) ++ List.replicate (12 - (lg_sl ([.ref zy, .int zia, .int zic, .int zis, .int zip, .int zit] : List Value)).length) Slot.unset).toArray = ls at hl ⊢
  have hl : lv_has ls 12 [(0, .ref zy), (1, .int zia), (2, .int zic), (3, .int zis), (4, .int zip), (5, .int zit)] := hl
  refine w_q (fun Q hQ => ?_)
  have h_zI : WM [] AL zT zR zI zI := WM.rf hw
  refine lv_iload hx hb dX11_goOn_0 (lv_at hl 5 rfl) ?_
  refine lv_bipush (v := 13) hx hb dX11_goOn_2 (by decide) ?_
  refine lv_irem hx hb dX11_goOn_4 (by decide) ?_
  refine lv_topi (fun zi_1 ezi_1 => ?_)
  have tzi_1 : zi_1.toInt = zit.toInt % 13 := by rw [ezi_1]; exact tirem rfl (show (13 : Int32).toInt = 13 by decide) (by omega) (by decide)
  refine lv_istore (lv' := [(6, .int zi_1), (0, .ref zy), (1, .int zia), (2, .int zic), (3, .int zis), (4, .int zip), (5, .int zit)]) hx hb dX11_goOn_5 hl (by decide) rfl (fun ls hl => ?_)
  refine lv_iload hx hb dX11_goOn_7 (lv_at hl 6 rfl) ?_
  refine lv_bipush (v := 13) hx hb dX11_goOn_9 (by decide) ?_
  refine lv_idiv hx hb dX11_goOn_11 (by decide) ?_
  refine lv_topi (fun zi_2 ezi_2 => ?_)
  have tzi_2 : zi_2.toInt = zit.toInt / 13 := by rw [ezi_2]; exact tidiv rfl (show (13 : Int32).toInt = 13 by decide) (by omega) (by decide)
  refine lv_bipush (v := 13) hx hb dX11_goOn_12 (by decide) ?_
  refine lv_irem hx hb dX11_goOn_14 (by decide) ?_
  refine lv_topi (fun zi_3 ezi_3 => ?_)
  have tzi_3 : zi_3.toInt = zi_2.toInt % 13 := by rw [ezi_3]; exact tirem rfl (show (13 : Int32).toInt = 13 by decide) (by omega) (by decide)
  refine lv_istore (lv' := [(7, .int zi_3), (6, .int zi_1), (0, .ref zy), (1, .int zia), (2, .int zic), (3, .int zis), (4, .int zip), (5, .int zit)]) hx hb dX11_goOn_15 hl (by decide) rfl (fun ls hl => ?_)
  refine lv_iload hx hb dX11_goOn_17 (lv_at hl 7 rfl) ?_
  refine lv_sipush (v := 169) hx hb dX11_goOn_19 (by decide) ?_
  refine lv_idiv hx hb dX11_goOn_22 (by decide) ?_
  refine lv_topi (fun zi_4 ezi_4 => ?_)
  have tzi_4 : zi_4.toInt = zit.toInt / 169 := by rw [ezi_4]; exact tidiv rfl (show (169 : Int32).toInt = 169 by decide) (by omega) (by decide)
  refine lv_iconst (v := 5) hx hb dX11_goOn_23 (by decide) ?_
  refine lv_irem hx hb dX11_goOn_24 (by decide) ?_
  refine lv_topi (fun zi_5 ezi_5 => ?_)
  have tzi_5 : zi_5.toInt = zi_4.toInt % 5 := by rw [ezi_5]; exact tirem rfl (show (5 : Int32).toInt = 5 by decide) (by omega) (by decide)
  refine lv_istore (lv' := [(8, .int zi_5), (7, .int zi_3), (6, .int zi_1), (0, .ref zy), (1, .int zia), (2, .int zic), (3, .int zis), (4, .int zip), (5, .int zit)]) hx hb dX11_goOn_25 hl (by decide) rfl (fun ls hl => ?_)
  refine lv_iload hx hb dX11_goOn_27 (lv_at hl 8 rfl) ?_
  refine lv_sipush (v := 845) hx hb dX11_goOn_29 (by decide) ?_
  refine lv_idiv hx hb dX11_goOn_32 (by decide) ?_
  refine lv_topi (fun zi_6 ezi_6 => ?_)
  have tzi_6 : zi_6.toInt = zit.toInt / 845 := by rw [ezi_6]; exact tidiv rfl (show (845 : Int32).toInt = 845 by decide) (by omega) (by decide)
  refine lv_istore (lv' := [(9, .int zi_6), (8, .int zi_5), (7, .int zi_3), (6, .int zi_1), (0, .ref zy), (1, .int zia), (2, .int zic), (3, .int zis), (4, .int zip), (5, .int zit)]) hx hb dX11_goOn_33 hl (by decide) rfl (fun ls hl => ?_)
  refine lv_iload hx hb dX11_goOn_35 (lv_at hl 0 rfl) ?_
  refine lv_istore (lv' := [(10, .int zi_6), (9, .int zi_6), (8, .int zi_5), (7, .int zi_3), (6, .int zi_1), (0, .ref zy), (1, .int zia), (2, .int zic), (3, .int zis), (4, .int zip), (5, .int zit)]) hx hb dX11_goOn_37 hl (by decide) rfl (fun ls hl => ?_)
  have lp_132 : ∀ (n : Nat) (zi_48 : Int32) (zJ_49 : Nat → Nat → Int64) (H : Heap) (locs : List Loc) (ls : Array Slot), (24 - zi_48.toInt).toNat = n → (0 ≤ zi_48.toInt ∧ zi_48.toInt ≤ 24) → (zJ_49 zy 15 = zJ zy 15) → (ZI (zI (zR zy 0))) → va_P (dC, dI) vwCl (WL cy zL zT zR zI zJ_49) H → va_D A (WL cy zL zT zR zI zJ_49) → va_S A s.heap H locs → lv_has ls 12 [(0, .ref zy), (1, .int zia), (2, .int zic), (3, .int zis), (4, .int zip), (5, .int zit), (6, .int zi_1), (7, .int zi_3), (8, .int zi_5), (9, .int zi_6), (10, .int zi_48)] → W p l e ({ frames := 3, cells := 0, slots := 0, locals := 81 } : Room) s m ([.ref zy, .int zia, .int zic, .int zis, .int zip, .int zit] : List Value).toArray below meth c H locs 0 0 Q (F0 m 39 ls []) := by
    intro n
    induction n using Nat.strongRecOn with
    | _ n ih_132 =>
      intro zi_48 zJ_49 H locs ls hn b_zi_48 e_lp_132_0 e_lp_132_1 hP hD hS hl
      refine lv_iload hx hb dX11_goOn_39 (lv_at hl 10 rfl) ?_
      refine lv_bipush (v := 24) hx hb dX11_goOn_41 (by decide) ?_
      refine lv_icmp_ge (tgt := 121) hx hb dX11_goOn_43 (by decide) (fun c_133 => ?_) (fun c_133 => ?_)
      · have f_134 : zi_48.toInt ≥ (24 : Int) := ic_ge (rfl) (show (24 : Int32).toInt = 24 by decide) c_133
        subst hQ
        exact W.vret hx hb hr (fun t ht hW => ⟨⟨zJ_49, rfl, (show zJ_49 zy 15 = zJ zy 15 from e_lp_132_0), ⟨by rw [ht]; exact hP, va_K.moved hW.alike hK, hD⟩⟩, hS.F ht⟩) hS.2.2 dX11_goOn_121
      · have f_134 : ¬ (zi_48.toInt ≥ (24 : Int)) := ic_nge (rfl) (show (24 : Int32).toInt = 24 by decide) c_133
        refine lv_aload_n hx hb dX11_goOn_46 rfl (lv_at hl 0 rfl) ?_
        refine lv_iload hx hb dX11_goOn_47 (lv_at hl 4 rfl) ?_
        refine lv_iload hx hb dX11_goOn_49 (lv_at hl 9 rfl) ?_
        refine lv_iload hx hb dX11_goOn_51 (lv_at hl 8 rfl) ?_
        refine lv_iload hx hb dX11_goOn_53 (lv_at hl 10 rfl) ?_
        refine hj_i (ws := (WL cy zL zT zR zI zJ_49)) (w1 := fun (u : Unit) => (WL cy zL zT zR zI zJ_49)) (va_runV (As := [.int zip, .int zi_6, .int zi_5, .int zi_48]) (rest := []) ⟨hx, hb, hml, hown, hts⟩ (t_X11_runBehind l dC dI cy H.size zL zT zR zI zJ_49 zy zip zi_6 zi_5 zi_48 hs h_zI.1 t_zy (by omega) (by omega)) (cwV 4 hts gX11_goOn_X11_runBehind rfl rfl rfl (by decide +kernel) ⟨(Nat.le_of_ble_eq_true rfl), (Nat.le_of_ble_eq_true rfl)⟩) (PRE.v hP hK hD hN (ht_recv hK hP hs t_zy (by decide) rfl rfl)) rfl rfl hl.1 rfl (lv_room (Nat.le_of_ble_eq_true rfl)) dX11_goOn_55 ⟨(Nat.le_of_ble_eq_true rfl), (Nat.le_of_ble_eq_true rfl)⟩) hP hD hS hA (fun zi_135 u_137 H locs hw_136 hP hD hS => ?_)
        have b_zi_135 : 0 ≤ zi_135.toInt ∧ zi_135.toInt ≤ 4 := hw_136
        refine lv_istore (lv' := [(11, .int zi_135), (0, .ref zy), (1, .int zia), (2, .int zic), (3, .int zis), (4, .int zip), (5, .int zit), (6, .int zi_1), (7, .int zi_3), (8, .int zi_5), (9, .int zi_6), (10, .int zi_48)]) hx hb dX11_goOn_58 hl (by decide) rfl (fun ls hl => ?_)
        refine lv_iload hx hb dX11_goOn_60 (lv_at hl 0 rfl) ?_
        have jn_156 : ∀ (zJ_155 : Nat → Nat → Int64) (H : Heap) (locs : List Loc) (ls : Array Slot), (zJ_155 zy 15 = zJ zy 15) → (ZI (zI (zR zy 0))) → va_P (dC, dI) vwCl (WL cy zL zT zR zI zJ_155) H → va_D A (WL cy zL zT zR zI zJ_155) → va_S A s.heap H locs → lv_has ls 12 [(0, .ref zy), (1, .int zia), (2, .int zic), (3, .int zis), (4, .int zip), (5, .int zit), (6, .int zi_1), (7, .int zi_3), (8, .int zi_5), (9, .int zi_6), (10, .int zi_48), (11, .int zi_135)] → W p l e ({ frames := 3, cells := 0, slots := 0, locals := 81 } : Room) s m ([.ref zy, .int zia, .int zic, .int zis, .int zip, .int zit] : List Value).toArray below meth c H locs 0 0 Q (F0 m 115 ls []) := by
          intro zJ_155 H locs ls e_jn_156_0 e_jn_156_1 hP hD hS hl
          obtain ⟨zi_157, ezi_157⟩ : ∃ y : Int32, y = zi_48 + 1 := ⟨_, rfl⟩
          have tzi_157 : zi_157.toInt = zi_48.toInt + 1 := by rw [ezi_157]; exact tadd rfl (show (1 : Int32).toInt = 1 by decide) (by omega) (by omega)
          refine lv_iinc (v := zi_157) (lv' := [(10, .int zi_157), (0, .ref zy), (1, .int zia), (2, .int zic), (3, .int zis), (4, .int zip), (5, .int zit), (6, .int zi_1), (7, .int zi_3), (8, .int zi_5), (9, .int zi_6), (11, .int zi_135)]) hx hb dX11_goOn_115 hl (k := 10) rfl (by rw [ezi_157]; rfl) (by decide) rfl (fun ls hl => ?_)
          refine lv_goto (tgt := 39) hx hb dX11_goOn_118 (by decide) ?_
          exact ih_132 (24 - zi_157.toInt).toNat (by omega) zi_157 zJ_155 _ _ _ rfl (by omega) e_jn_156_0 e_jn_156_1 hP hD hS (lv_sub hl [1, 2, 3, 4, 5, 6, 7, 8, 9, 10, 0] rfl)
        refine lv_if_le (tgt := 115) hx hb dX11_goOn_62 (by decide) (fun c_158 => ?_) (fun c_158 => ?_)
        · have f_159 : zi_135.toInt ≤ 0 := ic_le (rfl) (by decide) c_158
          exact jn_156 zJ_49 _ _ _ e_lp_132_0 e_lp_132_1 hP hD hS (lv_sub hl [1, 2, 3, 4, 5, 6, 7, 8, 9, 10, 11, 0] rfl)
        · have f_159 : ¬ (zi_135.toInt ≤ 0) := ic_nle (rfl) (by decide) c_158
          refine lv_aload_n hx hb dX11_goOn_65 rfl (lv_at hl 1 rfl) ?_
          refine ht_getr (C := RX11) (T := TX11) (N := 28) hx hb hts (by decide +kernel) hown hK hP hs t_zy (by decide) rfl rfl 22 (by decide) (hts (.fieldLink RX11 53 "DripStoneModel" "then" "[J") (by decide +kernel)) (fun _ h9 => h9) rfl dX11_goOn_66 ?_
          have t_160 : zT (zR zy 22) = 118 := sk_f hs t_zy (by decide) rfl (by decide)
          refine lv_iload hx hb dX11_goOn_69 (lv_at hl 11 rfl) ?_
          refine lv_iload hx hb dX11_goOn_71 (lv_at hl 0 rfl) ?_
          refine lv_aload_n hx hb dX11_goOn_73 rfl (lv_at hl 1 rfl) ?_
          refine lv_iload_n hx hb dX11_goOn_74 rfl (lv_at hl 2 rfl) ?_
          refine lv_iconst (v := 0) hx hb dX11_goOn_75 (by decide) ?_
          refine lv_iload_n hx hb dX11_goOn_76 rfl (lv_at hl 3 rfl) ?_
          refine lv_iload hx hb dX11_goOn_77 (lv_at hl 5 rfl) ?_
          refine lv_iload hx hb dX11_goOn_79 (lv_at hl 11 rfl) ?_
          refine lv_iload_n hx hb dX11_goOn_81 rfl (lv_at hl 4 rfl) ?_
          refine lv_iload hx hb dX11_goOn_82 (lv_at hl 8 rfl) ?_
          refine hj_i (ws := (WL cy zL zT zR zI zJ_49)) (w1 := fun (u : Unit) => (WL cy zL zT zR zI zJ_49)) (va_runV (As := [.int zia, .int 0, .int zic, .int zip, .int zi_48, .int zis, .int zi_3]) (rest := [.int zi_135, .int zi_48, .ref (zR zy 22)]) ⟨hx, hb, hml, hown, hts⟩ (t_X11_more_0 l dC dI cy H.size zL zT zR zI zJ_49 zy zia zic zip zi_48 zis zi_3 hs h_zI.1 t_zy (by omega) (by omega) (by omega) (by omega) e_lp_132_1 (by omega)) (cwV 7 hts gX11_goOn_X11_more rfl rfl rfl (by decide +kernel) ⟨(Nat.le_of_ble_eq_true rfl), (Nat.le_of_ble_eq_true rfl)⟩) (PRE.v hP hK hD hN (ht_recv hK hP hs t_zy (by decide) rfl rfl)) rfl rfl hl.1 rfl (lv_room (Nat.le_of_ble_eq_true rfl)) dX11_goOn_84 ⟨(Nat.le_of_ble_eq_true rfl), (Nat.le_of_ble_eq_true rfl)⟩) hP hD hS hA (fun zi_161 u_163 H locs hw_162 hP hD hS => ?_)
          have b_zi_161 : 0 ≤ zi_161.toInt ∧ zi_161.toInt ≤ 12 := hw_162
          refine lv_aload_n hx hb dX11_goOn_87 rfl (lv_at hl 1 rfl) ?_
          refine lv_iload_n hx hb dX11_goOn_88 rfl (lv_at hl 2 rfl) ?_
          refine lv_iconst (v := 1) hx hb dX11_goOn_89 (by decide) ?_
          refine lv_iload_n hx hb dX11_goOn_90 rfl (lv_at hl 3 rfl) ?_
          refine lv_iload hx hb dX11_goOn_91 (lv_at hl 5 rfl) ?_
          refine lv_iload hx hb dX11_goOn_93 (lv_at hl 11 rfl) ?_
          refine lv_iload_n hx hb dX11_goOn_95 rfl (lv_at hl 4 rfl) ?_
          refine lv_iload hx hb dX11_goOn_96 (lv_at hl 7 rfl) ?_
          refine hj_i (ws := (WL cy zL zT zR zI zJ_49)) (w1 := fun (u : Unit) => (WL cy zL zT zR zI zJ_49)) (va_runV (As := [.int zia, .int 1, .int zic, .int zip, .int zi_48, .int zis, .int zi_1]) (rest := [.int zi_161, .int zi_135, .int zi_48, .ref (zR zy 22)]) ⟨hx, hb, hml, hown, hts⟩ (t_X11_more_1 l dC dI cy H.size zL zT zR zI zJ_49 zy zia zic zip zi_48 zis zi_1 hs h_zI.1 t_zy (by omega) (by omega) (by omega) (by omega) e_lp_132_1 (by omega)) (cwV 7 hts gX11_goOn_X11_more rfl rfl rfl (by decide +kernel) ⟨(Nat.le_of_ble_eq_true rfl), (Nat.le_of_ble_eq_true rfl)⟩) (PRE.v hP hK hD hN (ht_recv hK hP hs t_zy (by decide) rfl rfl)) rfl rfl hl.1 rfl (lv_room (Nat.le_of_ble_eq_true rfl)) dX11_goOn_98 ⟨(Nat.le_of_ble_eq_true rfl), (Nat.le_of_ble_eq_true rfl)⟩) hP hD hS hA (fun zi_164 u_166 H locs hw_165 hP hD hS => ?_)
          have b_zi_164 : 0 ≤ zi_164.toInt ∧ zi_164.toInt ≤ 12 := hw_165
          refine hj0_i (ws := (WL cy zL zT zR zI zJ_49)) (va_runS (As := [.int zi_48, .int zi_135, .int zi_161, .int zi_164]) (rest := [.ref (zR zy 22)]) ⟨hx, hb, hml, hown, hts⟩ (c_X11_stateOf l dC dI cy H.size zi_48 zi_135 zi_161 zi_164 (by omega) (by omega) (by omega) (by omega)) (va_cwS 4 hts gX11_goOn_X11_stateOf rfl rfl rfl (by decide +kernel) ⟨(Nat.le_of_ble_eq_true rfl), (Nat.le_of_ble_eq_true rfl)⟩) (PRE.s (hP.sub [] rfl) hK (hD.sub [] (by decide) rfl) hN) rfl rfl hl.1 rfl (lv_room (Nat.le_of_ble_eq_true rfl)) dX11_goOn_101 ⟨(Nat.le_of_ble_eq_true rfl), (Nat.le_of_ble_eq_true rfl)⟩) hP hD hS hA (fun zi_167 u_169 H locs hw_168 hP hD hS => ?_)
          have b_zi_167 : 0 ≤ zi_167.toInt ∧ zi_167.toInt ≤ 20279 := hw_168
          refine lv_dup2_11 hx hb dX11_goOn_104 rfl rfl ?_
          refine ht_lald (n := 20280) (q := 1) hx hb hK hP hs t_160 (by decide) rfl rfl ⟨by omega, by omega⟩ dX11_goOn_105 ?_
          refine lv_topl (fun zj_170 ezj_170 => ?_)
          refine lv_aload_n hx hb dX11_goOn_106 rfl (lv_at hl 1 rfl) ?_
          refine ht_getr (C := RX11) (T := TX11) (N := 28) hx hb hts (by decide +kernel) hown hK hP hs t_zy (by decide) rfl rfl 21 (by decide) (hts (.fieldLink RX11 50 "DripStoneModel" "now" "[J") (by decide +kernel)) (fun _ h9 => h9) rfl dX11_goOn_107 ?_
          have t_171 : zT (zR zy 21) = 117 := sk_f hs t_zy (by decide) rfl (by decide)
          refine lv_iload hx hb dX11_goOn_110 (lv_at hl 6 rfl) ?_
          refine ht_lald (n := 20280) (q := 1) hx hb hK hP hs t_171 (by decide) rfl rfl ⟨by omega, by omega⟩ dX11_goOn_112 ?_
          refine lv_topl (fun zj_172 ezj_172 => ?_)
          refine lv_ladd hx hb dX11_goOn_113 ?_
          refine lv_topl (fun zj_173 ezj_173 => ?_)
          refine ht_last (v := zj_173) (n := 20280) (q := 1) hx hb hK hP hD hS hs t_160 (by decide) rfl rfl ⟨by omega, by omega⟩ dX11_goOn_114 (fun H locs hP hD hS => ?_)
          generalize uzJ_174 : u2 zJ_49 (zR zy 22) zi_167.toNatClampNeg zj_173 = zJ_174 at hP hD
          exact jn_156 zJ_174 _ _ _ ((show zJ_174 zy 15 = zJ_49 zy 15 from by rw [← uzJ_174]; exact u2_n (tne t_zy t_160 (by decide))).trans e_lp_132_0) e_lp_132_1 hP hD hS (lv_sub hl [1, 2, 3, 4, 5, 6, 7, 8, 9, 10, 11, 0] rfl)
  exact lp_132 _ zi_6 zJ _ _ _ rfl (by omega) rfl hz hP hD hS (lv_sub hl [5, 6, 7, 8, 9, 10, 4, 3, 2, 1, 0] rfl)
set_option maxHeartbeats 8000000 in
set_option maxRecDepth 100000 in
theorem t_X11_waysSo (l : Launch) (dC : Nat → ClassId) (dI : Nat → Nat → Nat) (cy : Nat → ClassId) (sz : Nat) (zL : List Nat) (zT : Nat → Nat) (zR : Nat → Nat → Nat) (zI : Nat → Nat → Int32) (zJ : Nat → Nat → Int64) (zy : Nat) (zia : Int32) (zic : Int32) (zis : Int32) (hs : SKP zL zT zR) (hw : WT zT zR zI) (t_zy : zT zy = 18) (b_zia : 0 ≤ zia.toInt ∧ zia.toInt ≤ 3) (b_zic : 0 ≤ zic.toInt ∧ zic.toInt ≤ 1) (hz : ZI (zI (zR zy 0))) (hx1 : zia.toInt < zA (zI (zR zy 0)) (12)) : Met l yX11_waysSo wsX11_waysSo ({ frames := 4, cells := 0, slots := 0, locals := 112 } : Room) (va_Pc [.ref zy, .int zia, .int zic, .int zis] (PRE dC dI cy (WL cy zL zT zR zI zJ) sz)) (va_Ql (fun (r : Int64) (u : (Nat → Nat → Int64)) => (u zy 15 = zJ zy 15)) (fun u t => POST dC dI cy (va_A (WL cy zL zT zR zI zJ) sz) (WL cy zL zT zR zI u) t) (va_A (WL cy zL zT zR zI zJ) sz)) 0 0 (va_A (WL cy zL zT zR zI zJ) sz) := by
  refine Met.ofW (cc := cX11_waysSo) (maxL := 7) (ret := (some .long)) (by decide) rfl ?_
  intro p e s m args below meth c s₁ B hml hv
  obtain ⟨rfl, hsz, hP, hK, hD0, hN⟩ := hv
  have hx := B.exec
  have hb := B.bytes
  have hr := B.returns
  have hts := atoms_spec (ws := wsX11_waysSo) B.pre
  have hown : s.vm.findClass RX11 = some m.cls := findClass_of_methodNamed B.named
  have hlocks := B.notSynchronized
  subst hsz
  have hD := hD0.self (sz := s.heap.size)
  generalize hAe : va_A (WL cy zL zT zR zI zJ) s.heap.size = A at hD ⊢
  have hA : ∀ q : Nat, s.heap.size ≤ q → A q := fun q h => by rw [← hAe]; exact Or.inr h
  have hS : va_S A s.heap s.heap [] := va_S.rf
  have hP : va_P (dC, dI) vwCl (WL cy zL zT zR zI zJ) s.heap := hP
  have hl := lv_entry ([.ref zy, .int zia, .int zic, .int zis] : List Value) (n := 7) (Nat.le_of_ble_eq_true rfl)
  rw [lg_entry_eq]
  generalize (lg_sl ([.ref zy, .int zia, .int zic, .int zis] : List Value) ++ List.replicate (7 - (lg_sl ([.ref zy, .int zia, .int zic, .int zis] : List Value)).length) Slot.unset).toArray = ls at hl ⊢
  have hl : lv_has ls 7 [(0, .ref zy), (1, .int zia), (2, .int zic), (3, .int zis)] := hl
  refine w_q (fun Q hQ => ?_)
  have h_zI : WM [] AL zT zR zI zI := WM.rf hw
  refine lv_aload_n hx hb dX11_waysSo_0 rfl (lv_at hl 0 rfl) ?_
  refine hj_v (ws := (WL cy zL zT zR zI zJ)) (w1 := fun (u : (Nat → Nat → Int64)) => (WL cy zL zT zR zI u)) (va_runV (As := []) (rest := []) ⟨hx, hb, hml, hown, hts⟩ (t_X11_clearThen_k l dC dI cy s.heap.size zL zT zR zI zJ zy hs h_zI.1 t_zy) (cwV 0 hts gX11_waysSo_X11_clearThen rfl rfl rfl (by decide +kernel) ⟨(Nat.le_of_ble_eq_true rfl), (Nat.le_of_ble_eq_true rfl)⟩) (PRE.v hP hK hD hN (ht_recv hK hP hs t_zy (by decide) rfl rfl)) rfl rfl hl.1 rfl (lv_room (Nat.le_of_ble_eq_true rfl)) dX11_waysSo_1 ⟨(Nat.le_of_ble_eq_true rfl), (Nat.le_of_ble_eq_true rfl)⟩) hP hD hS hA (fun zJ_4 H locs hw_2 hP hD hS => ?_)
  have ps_5 : zJ_4 zy 15 = zJ zy 15 := hw_2
  refine lv_iconst (v := 0) hx hb dX11_waysSo_4 (by decide) ?_
  refine lv_istore (lv' := [(4, .int 0), (0, .ref zy), (1, .int zia), (2, .int zic), (3, .int zis)]) hx hb dX11_waysSo_5 hl (by decide) rfl (fun ls hl => ?_)
  have lp_200 : ∀ (n : Nat) (zi_160 : Int32) (zJ_161 : Nat → Nat → Int64) (H : Heap) (locs : List Loc) (ls : Array Slot), (24 - zi_160.toInt).toNat = n → (0 ≤ zi_160.toInt ∧ zi_160.toInt ≤ 24) → (zJ_161 zy 15 = zJ zy 15) → (ZI (zI (zR zy 0))) → va_P (dC, dI) vwCl (WL cy zL zT zR zI zJ_161) H → va_D A (WL cy zL zT zR zI zJ_161) → va_S A s.heap H locs → lv_has ls 7 [(0, .ref zy), (1, .int zia), (2, .int zic), (3, .int zis), (4, .int zi_160)] → W p l e ({ frames := 4, cells := 0, slots := 0, locals := 112 } : Room) s m ([.ref zy, .int zia, .int zic, .int zis] : List Value).toArray below meth c H locs 0 0 Q (F0 m 7 ls []) := by
    intro n
    induction n using Nat.strongRecOn with
    | _ n ih_200 =>
      intro zi_160 zJ_161 H locs ls hn b_zi_160 e_lp_200_0 e_lp_200_1 hP hD hS hl
      refine lv_iload hx hb dX11_waysSo_7 (lv_at hl 4 rfl) ?_
      refine lv_bipush (v := 24) hx hb dX11_waysSo_9 (by decide) ?_
      refine lv_icmp_ge (tgt := 74) hx hb dX11_waysSo_11 (by decide) (fun c_201 => ?_) (fun c_201 => ?_)
      · have f_202 : zi_160.toInt ≥ (24 : Int) := ic_ge (rfl) (show (24 : Int32).toInt = 24 by decide) c_201
        refine lv_iconst (v := 1) hx hb dX11_waysSo_74 (by decide) ?_
        refine lv_istore (lv' := [(4, .int 1), (0, .ref zy), (1, .int zia), (2, .int zic), (3, .int zis)]) hx hb dX11_waysSo_75 hl (by decide) rfl (fun ls hl => ?_)
        have lp_584 : ∀ (n : Nat) (zi_524 : Int32) (zJ_525 : Nat → Nat → Int64) (H : Heap) (locs : List Loc) (ls : Array Slot), (12 - zi_524.toInt).toNat = n → (1 ≤ zi_524.toInt ∧ zi_524.toInt ≤ 12) → (zJ_525 zy 15 = zJ zy 15) → (ZI (zI (zR zy 0))) → va_P (dC, dI) vwCl (WL cy zL zT zR zI zJ_525) H → va_D A (WL cy zL zT zR zI zJ_525) → va_S A s.heap H locs → lv_has ls 7 [(0, .ref zy), (1, .int zia), (2, .int zic), (3, .int zis), (4, .int zi_524)] → W p l e ({ frames := 4, cells := 0, slots := 0, locals := 112 } : Room) s m ([.ref zy, .int zia, .int zic, .int zis] : List Value).toArray below meth c H locs 0 0 Q (F0 m 77 ls []) := by
          intro n
          induction n using Nat.strongRecOn with
          | _ n ih_584 =>
            intro zi_524 zJ_525 H locs ls hn b_zi_524 e_lp_584_0 e_lp_584_1 hP hD hS hl
            refine lv_iload hx hb dX11_waysSo_77 (lv_at hl 4 rfl) ?_
            refine lv_aload_n hx hb dX11_waysSo_79 rfl (lv_at hl 0 rfl) ?_
            refine ht_geti (C := RX11) (T := TX11) (N := 28) hx hb hts (by decide +kernel) hown hK hP hs t_zy (by decide) rfl rfl 6 (by decide) (hts (.fieldLink RX11 192 "DripStoneModel" "places" "I") (by decide +kernel)) (fun _ h9 => h9) rfl dX11_waysSo_80 ?_
            refine lv_topi (fun zi_585 ezi_585 => ?_)
            have tzi_585 : 0 ≤ zi_585.toInt ∧ zi_585.toInt ≤ 12 := by rw [ezi_585]; exact h_zI.at t_zy _ rfl
            refine lv_icmp_ge (tgt := 140) hx hb dX11_waysSo_83 (by decide) (fun c_586 => ?_) (fun c_586 => ?_)
            · have f_587 : zi_524.toInt ≥ zi_585.toInt := ic_ge (rfl) (rfl) c_586
              refine lv_lconst (v := 0) hx hb dX11_waysSo_140 (by decide) ?_
              refine lv_lstore (lv' := [(4, .long 0), (0, .ref zy), (1, .int zia), (2, .int zic), (3, .int zis)]) hx hb dX11_waysSo_141 hl (by decide) rfl (fun ls hl => ?_)
              refine lv_iconst (v := 0) hx hb dX11_waysSo_143 (by decide) ?_
              refine lv_istore (lv' := [(6, .int 0), (4, .long 0), (0, .ref zy), (1, .int zia), (2, .int zic), (3, .int zis)]) hx hb dX11_waysSo_144 hl (by decide) rfl (fun ls hl => ?_)
              have lp_785 : ∀ (n : Nat) (zj_744 : Int64) (zi_745 : Int32) (H : Heap) (locs : List Loc) (ls : Array Slot), (20280 - zi_745.toInt).toNat = n → (0 ≤ zi_745.toInt ∧ zi_745.toInt ≤ 20280) → (zJ_525 zy 15 = zJ zy 15) → (ZI (zI (zR zy 0))) → va_P (dC, dI) vwCl (WL cy zL zT zR zI zJ_525) H → va_D A (WL cy zL zT zR zI zJ_525) → va_S A s.heap H locs → lv_has ls 7 [(0, .ref zy), (1, .int zia), (2, .int zic), (3, .int zis), (4, .long zj_744), (6, .int zi_745)] → W p l e ({ frames := 4, cells := 0, slots := 0, locals := 112 } : Room) s m ([.ref zy, .int zia, .int zic, .int zis] : List Value).toArray below meth c H locs 0 0 Q (F0 m 146 ls []) := by
                intro n
                induction n using Nat.strongRecOn with
                | _ n ih_785 =>
                  intro zj_744 zi_745 H locs ls hn b_zi_745 e_lp_785_0 e_lp_785_1 hP hD hS hl
                  refine lv_iload hx hb dX11_waysSo_146 (lv_at hl 5 rfl) ?_
                  refine lv_sipush (v := 20280) hx hb dX11_waysSo_148 (by decide) ?_
                  refine lv_icmp_ge (tgt := 209) hx hb dX11_waysSo_151 (by decide) (fun c_786 => ?_) (fun c_786 => ?_)
                  · have f_787 : zi_745.toInt ≥ (20280 : Int) := ic_ge (rfl) (show (20280 : Int32).toInt = 20280 by decide) c_786
                    refine lv_lload hx hb dX11_waysSo_209 (lv_at hl 4 rfl) ?_
                    subst hQ
                    exact W.lret (v := zj_744) hx hb hr (fun t ht hW => ⟨⟨zj_744, zJ_525, rfl, (show zJ_525 zy 15 = zJ zy 15 from e_lp_785_0), ⟨by rw [ht]; exact hP, va_K.moved hW.alike hK, hD⟩⟩, hS.F ht⟩) hS.2.2 dX11_waysSo_211
                  · have f_787 : ¬ (zi_745.toInt ≥ (20280 : Int)) := ic_nge (rfl) (show (20280 : Int32).toInt = 20280 by decide) c_786
                    refine lv_lload hx hb dX11_waysSo_154 (lv_at hl 4 rfl) ?_
                    refine lv_aload_n hx hb dX11_waysSo_156 rfl (lv_at hl 0 rfl) ?_
                    refine ht_getr (C := RX11) (T := TX11) (N := 28) hx hb hts (by decide +kernel) hown hK hP hs t_zy (by decide) rfl rfl 22 (by decide) (hts (.fieldLink RX11 53 "DripStoneModel" "then" "[J") (by decide +kernel)) (fun _ h9 => h9) rfl dX11_waysSo_157 ?_
                    have t_788 : zT (zR zy 22) = 118 := sk_f hs t_zy (by decide) rfl (by decide)
                    refine lv_iload hx hb dX11_waysSo_160 (lv_at hl 5 rfl) ?_
                    refine ht_lald (n := 20280) (q := 1) hx hb hK hP hs t_788 (by decide) rfl rfl ⟨by omega, by omega⟩ dX11_waysSo_162 ?_
                    refine lv_topl (fun zj_789 ezj_789 => ?_)
                    refine lv_lconst (v := 0) hx hb dX11_waysSo_163 (by decide) ?_
                    refine W.lcmp hx hb dX11_waysSo_164 ?_
                    refine lv_topi (fun zi_790 ezi_790 => ?_)
                    have jn_807 : ∀  (H : Heap) (locs : List Loc) (ls : Array Slot), (zJ_525 zy 15 = zJ zy 15) → (ZI (zI (zR zy 0))) → va_P (dC, dI) vwCl (WL cy zL zT zR zI zJ_525) H → va_D A (WL cy zL zT zR zI zJ_525) → va_S A s.heap H locs → lv_has ls 7 [(0, .ref zy), (1, .int zia), (2, .int zic), (3, .int zis), (4, .long zj_744), (6, .int zi_745)] → W p l e ({ frames := 4, cells := 0, slots := 0, locals := 112 } : Room) s m ([.ref zy, .int zia, .int zic, .int zis] : List Value).toArray below meth c H locs 0 0 Q (F0 m 199 ls [.long zj_744]) := by
                      intro  H locs ls e_jn_807_0 e_jn_807_1 hP hD hS hl
                      refine lv_lconst (v := 0) hx hb dX11_waysSo_199 (by decide) ?_
                      refine lv_ladd hx hb dX11_waysSo_200 ?_
                      refine lv_topl (fun zj_808 ezj_808 => ?_)
                      refine lv_lstore (lv' := [(4, .long zj_808), (0, .ref zy), (1, .int zia), (2, .int zic), (3, .int zis), (6, .int zi_745)]) hx hb dX11_waysSo_201 hl (by decide) rfl (fun ls hl => ?_)
                      obtain ⟨zi_809, ezi_809⟩ : ∃ y : Int32, y = zi_745 + 1 := ⟨_, rfl⟩
                      have tzi_809 : zi_809.toInt = zi_745.toInt + 1 := by rw [ezi_809]; exact tadd rfl (show (1 : Int32).toInt = 1 by decide) (by omega) (by omega)
                      refine lv_iinc (v := zi_809) (lv' := [(6, .int zi_809), (4, .long zj_808), (0, .ref zy), (1, .int zia), (2, .int zic), (3, .int zis)]) hx hb dX11_waysSo_203 hl (k := 5) rfl (by rw [ezi_809]; rfl) (by decide) rfl (fun ls hl => ?_)
                      refine lv_goto (tgt := 146) hx hb dX11_waysSo_206 (by decide) ?_
                      exact ih_785 (20280 - zi_809.toInt).toNat (by omega) zj_808 zi_809 _ _ _ rfl (by omega) e_jn_807_0 e_jn_807_1 hP hD hS (lv_sub hl [2, 3, 4, 5, 1, 0] rfl)
                    refine lv_if_le (tgt := 199) hx hb dX11_waysSo_165 (by decide) (fun c_810 => ?_) (fun c_810 => ?_)
                    · have f_811 : ¬ (zj_789.toInt > (0 : Int)) := lk_le ezi_790 (rfl) (show (0 : Int64).toInt = 0 by decide) c_810
                      exact jn_807  _ _ _ e_lp_785_0 e_lp_785_1 hP hD hS (lv_sub hl [0, 1, 2, 3, 4, 5] rfl)
                    · have f_811 : zj_789.toInt > (0 : Int) := lk_nle ezi_790 (rfl) (show (0 : Int64).toInt = 0 by decide) c_810
                      refine lv_aload_n hx hb dX11_waysSo_168 rfl (lv_at hl 0 rfl) ?_
                      refine lv_iload_n hx hb dX11_waysSo_169 rfl (lv_at hl 1 rfl) ?_
                      refine lv_iload hx hb dX11_waysSo_170 (lv_at hl 5 rfl) ?_
                      refine lv_bipush (v := 13) hx hb dX11_waysSo_172 (by decide) ?_
                      refine lv_idiv hx hb dX11_waysSo_174 (by decide) ?_
                      refine lv_topi (fun zi_812 ezi_812 => ?_)
                      have tzi_812 : zi_812.toInt = zi_745.toInt / 13 := by rw [ezi_812]; exact tidiv rfl (show (13 : Int32).toInt = 13 by decide) (by omega) (by decide)
                      refine lv_bipush (v := 13) hx hb dX11_waysSo_175 (by decide) ?_
                      refine lv_irem hx hb dX11_waysSo_177 (by decide) ?_
                      refine lv_topi (fun zi_813 ezi_813 => ?_)
                      have tzi_813 : zi_813.toInt = zi_812.toInt % 13 := by rw [ezi_813]; exact tirem rfl (show (13 : Int32).toInt = 13 by decide) (by omega) (by decide)
                      refine lv_iload hx hb dX11_waysSo_178 (lv_at hl 5 rfl) ?_
                      refine lv_bipush (v := 13) hx hb dX11_waysSo_180 (by decide) ?_
                      refine lv_irem hx hb dX11_waysSo_182 (by decide) ?_
                      refine lv_topi (fun zi_814 ezi_814 => ?_)
                      have tzi_814 : zi_814.toInt = zi_745.toInt % 13 := by rw [ezi_814]; exact tirem rfl (show (13 : Int32).toInt = 13 by decide) (by omega) (by decide)
                      refine hj_i (ws := (WL cy zL zT zR zI zJ_525)) (w1 := fun (u : Unit) => (WL cy zL zT zR zI zJ_525)) (va_runV (As := [.int zia, .int zi_813, .int zi_814]) (rest := [.long zj_744]) ⟨hx, hb, hml, hown, hts⟩ (t_X11_claimHolds l dC dI cy H.size zL zT zR zI zJ_525 zy zia zi_813 zi_814 hs h_zI.1 t_zy (by omega) e_lp_785_1) (cwV 3 hts gX11_waysSo_X11_claimHolds rfl rfl rfl (by decide +kernel) ⟨(Nat.le_of_ble_eq_true rfl), (Nat.le_of_ble_eq_true rfl)⟩) (PRE.v hP hK hD hN (ht_recv hK hP hs t_zy (by decide) rfl rfl)) rfl rfl hl.1 rfl (lv_room (Nat.le_of_ble_eq_true rfl)) dX11_waysSo_183 ⟨(Nat.le_of_ble_eq_true rfl), (Nat.le_of_ble_eq_true rfl)⟩) hP hD hS hA (fun zi_815 u_817 H locs hw_816 hP hD hS => ?_)
                      have b_zi_815 : 0 ≤ zi_815.toInt ∧ zi_815.toInt ≤ 1 := hw_816
                      refine lv_if_eq (tgt := 199) hx hb dX11_waysSo_186 (by decide) (fun c_821 => ?_) (fun c_821 => ?_)
                      · have f_822 : zi_815.toInt = 0 := ic_eq (rfl) (by decide) c_821
                        exact jn_807  _ _ _ e_lp_785_0 e_lp_785_1 hP hD hS (lv_sub hl [0, 1, 2, 3, 4, 5] rfl)
                      · have f_822 : ¬ (zi_815.toInt = 0) := ic_neq (rfl) (by decide) c_821
                        refine lv_aload_n hx hb dX11_waysSo_189 rfl (lv_at hl 0 rfl) ?_
                        refine ht_getr (C := RX11) (T := TX11) (N := 28) hx hb hts (by decide +kernel) hown hK hP hs t_zy (by decide) rfl rfl 22 (by decide) (hts (.fieldLink RX11 53 "DripStoneModel" "then" "[J") (by decide +kernel)) (fun _ h9 => h9) rfl dX11_waysSo_190 ?_
                        refine lv_iload hx hb dX11_waysSo_193 (lv_at hl 5 rfl) ?_
                        refine ht_lald (n := 20280) (q := 1) hx hb hK hP hs t_788 (by decide) rfl rfl ⟨by omega, by omega⟩ dX11_waysSo_195 ?_
                        refine lv_topl (fun zj_823 ezj_823 => ?_)
                        refine lv_goto (tgt := 200) hx hb dX11_waysSo_196 (by decide) ?_
                        refine lv_ladd hx hb dX11_waysSo_200 ?_
                        refine lv_topl (fun zj_824 ezj_824 => ?_)
                        refine lv_lstore (lv' := [(4, .long zj_824), (0, .ref zy), (1, .int zia), (2, .int zic), (3, .int zis), (6, .int zi_745)]) hx hb dX11_waysSo_201 hl (by decide) rfl (fun ls hl => ?_)
                        obtain ⟨zi_825, ezi_825⟩ : ∃ y : Int32, y = zi_745 + 1 := ⟨_, rfl⟩
                        have tzi_825 : zi_825.toInt = zi_745.toInt + 1 := by rw [ezi_825]; exact tadd rfl (show (1 : Int32).toInt = 1 by decide) (by omega) (by omega)
                        refine lv_iinc (v := zi_825) (lv' := [(6, .int zi_825), (4, .long zj_824), (0, .ref zy), (1, .int zia), (2, .int zic), (3, .int zis)]) hx hb dX11_waysSo_203 hl (k := 5) rfl (by rw [ezi_825]; rfl) (by decide) rfl (fun ls hl => ?_)
                        refine lv_goto (tgt := 146) hx hb dX11_waysSo_206 (by decide) ?_
                        exact ih_785 (20280 - zi_825.toInt).toNat (by omega) zj_824 zi_825 _ _ _ rfl (by omega) e_lp_785_0 e_lp_785_1 hP hD hS (lv_sub hl [2, 3, 4, 5, 1, 0] rfl)
              have qc_0 : (0 : Int32).toInt = 0 := by decide
              exact lp_785 _ (0 : Int64) (0 : Int32) _ _ _ rfl (by decide) e_lp_584_0 e_lp_584_1 hP hD hS (lv_sub hl [2, 3, 4, 5, 1, 0] rfl)
            · have f_587 : ¬ (zi_524.toInt ≥ zi_585.toInt) := ic_nge (rfl) (rfl) c_586
              refine lv_aload_n hx hb dX11_waysSo_86 rfl (lv_at hl 0 rfl) ?_
              refine hj_v (ws := (WL cy zL zT zR zI zJ_525)) (w1 := fun (u : (Nat → Nat → Int64)) => (WL cy zL zT zR zI u)) (va_runV (As := []) (rest := []) ⟨hx, hb, hml, hown, hts⟩ (t_X11_turn_k l dC dI cy H.size zL zT zR zI zJ_525 zy hs h_zI.1 t_zy) (cwV 0 hts gX11_waysSo_X11_turn rfl rfl rfl (by decide +kernel) ⟨(Nat.le_of_ble_eq_true rfl), (Nat.le_of_ble_eq_true rfl)⟩) (PRE.v hP hK hD hN (ht_recv hK hP hs t_zy (by decide) rfl rfl)) rfl rfl hl.1 rfl (lv_room (Nat.le_of_ble_eq_true rfl)) dX11_waysSo_87 ⟨(Nat.le_of_ble_eq_true rfl), (Nat.le_of_ble_eq_true rfl)⟩) hP hD hS hA (fun zJ_829 H locs hw_827 hP hD hS => ?_)
              have ps_830 : zJ_829 zy 15 = zJ_525 zy 15 := hw_827
              refine lv_aload_n hx hb dX11_waysSo_90 rfl (lv_at hl 0 rfl) ?_
              refine hj_v (ws := (WL cy zL zT zR zI zJ_829)) (w1 := fun (u : (Nat → Nat → Int64)) => (WL cy zL zT zR zI u)) (va_runV (As := []) (rest := []) ⟨hx, hb, hml, hown, hts⟩ (t_X11_clearThen_k l dC dI cy H.size zL zT zR zI zJ_829 zy hs h_zI.1 t_zy) (cwV 0 hts gX11_waysSo_X11_clearThen rfl rfl rfl (by decide +kernel) ⟨(Nat.le_of_ble_eq_true rfl), (Nat.le_of_ble_eq_true rfl)⟩) (PRE.v hP hK hD hN (ht_recv hK hP hs t_zy (by decide) rfl rfl)) rfl rfl hl.1 rfl (lv_room (Nat.le_of_ble_eq_true rfl)) dX11_waysSo_91 ⟨(Nat.le_of_ble_eq_true rfl), (Nat.le_of_ble_eq_true rfl)⟩) hP hD hS hA (fun zJ_834 H locs hw_832 hP hD hS => ?_)
              have ps_835 : zJ_834 zy 15 = zJ_829 zy 15 := hw_832
              refine lv_iconst (v := 0) hx hb dX11_waysSo_94 (by decide) ?_
              refine lv_istore (lv' := [(5, .int 0), (0, .ref zy), (1, .int zia), (2, .int zic), (3, .int zis), (4, .int zi_524)]) hx hb dX11_waysSo_95 hl (by decide) rfl (fun ls hl => ?_)
              have lp_859 : ∀ (n : Nat) (zi_836 : Int32) (zJ_837 : Nat → Nat → Int64) (H : Heap) (locs : List Loc) (ls : Array Slot), (20280 - zi_836.toInt).toNat = n → (0 ≤ zi_836.toInt ∧ zi_836.toInt ≤ 20280) → (zJ_837 zy 15 = zJ zy 15) → (ZI (zI (zR zy 0))) → va_P (dC, dI) vwCl (WL cy zL zT zR zI zJ_837) H → va_D A (WL cy zL zT zR zI zJ_837) → va_S A s.heap H locs → lv_has ls 7 [(0, .ref zy), (1, .int zia), (2, .int zic), (3, .int zis), (4, .int zi_524), (5, .int zi_836)] → W p l e ({ frames := 4, cells := 0, slots := 0, locals := 112 } : Room) s m ([.ref zy, .int zia, .int zic, .int zis] : List Value).toArray below meth c H locs 0 0 Q (F0 m 97 ls []) := by
                intro n
                induction n using Nat.strongRecOn with
                | _ n ih_859 =>
                  intro zi_836 zJ_837 H locs ls hn b_zi_836 e_lp_859_0 e_lp_859_1 hP hD hS hl
                  refine lv_iload hx hb dX11_waysSo_97 (lv_at hl 5 rfl) ?_
                  refine lv_sipush (v := 20280) hx hb dX11_waysSo_99 (by decide) ?_
                  refine lv_icmp_ge (tgt := 134) hx hb dX11_waysSo_102 (by decide) (fun c_860 => ?_) (fun c_860 => ?_)
                  · have f_861 : zi_836.toInt ≥ (20280 : Int) := ic_ge (rfl) (show (20280 : Int32).toInt = 20280 by decide) c_860
                    obtain ⟨zi_862, ezi_862⟩ : ∃ y : Int32, y = zi_524 + 1 := ⟨_, rfl⟩
                    have tzi_862 : zi_862.toInt = zi_524.toInt + 1 := by rw [ezi_862]; exact tadd rfl (show (1 : Int32).toInt = 1 by decide) (by omega) (by omega)
                    refine lv_iinc (v := zi_862) (lv' := [(4, .int zi_862), (0, .ref zy), (1, .int zia), (2, .int zic), (3, .int zis), (5, .int zi_836)]) hx hb dX11_waysSo_134 hl (k := 4) rfl (by rw [ezi_862]; rfl) (by decide) rfl (fun ls hl => ?_)
                    refine lv_goto (tgt := 77) hx hb dX11_waysSo_137 (by decide) ?_
                    exact ih_584 (12 - zi_862.toInt).toNat (by omega) zi_862 zJ_837 _ _ _ rfl (by omega) e_lp_859_0 e_lp_859_1 hP hD hS (lv_sub hl [1, 2, 3, 4, 0] rfl)
                  · have f_861 : ¬ (zi_836.toInt ≥ (20280 : Int)) := ic_nge (rfl) (show (20280 : Int32).toInt = 20280 by decide) c_860
                    refine lv_aload_n hx hb dX11_waysSo_105 rfl (lv_at hl 0 rfl) ?_
                    refine ht_getr (C := RX11) (T := TX11) (N := 28) hx hb hts (by decide +kernel) hown hK hP hs t_zy (by decide) rfl rfl 21 (by decide) (hts (.fieldLink RX11 50 "DripStoneModel" "now" "[J") (by decide +kernel)) (fun _ h9 => h9) rfl dX11_waysSo_106 ?_
                    have t_863 : zT (zR zy 21) = 117 := sk_f hs t_zy (by decide) rfl (by decide)
                    refine lv_iload hx hb dX11_waysSo_109 (lv_at hl 5 rfl) ?_
                    refine ht_lald (n := 20280) (q := 1) hx hb hK hP hs t_863 (by decide) rfl rfl ⟨by omega, by omega⟩ dX11_waysSo_111 ?_
                    refine lv_topl (fun zj_864 ezj_864 => ?_)
                    refine lv_lconst (v := 0) hx hb dX11_waysSo_112 (by decide) ?_
                    refine W.lcmp hx hb dX11_waysSo_113 ?_
                    refine lv_topi (fun zi_865 ezi_865 => ?_)
                    have jn_874 : ∀ (zJ_873 : Nat → Nat → Int64) (H : Heap) (locs : List Loc) (ls : Array Slot), (zJ_873 zy 15 = zJ zy 15) → (ZI (zI (zR zy 0))) → va_P (dC, dI) vwCl (WL cy zL zT zR zI zJ_873) H → va_D A (WL cy zL zT zR zI zJ_873) → va_S A s.heap H locs → lv_has ls 7 [(0, .ref zy), (1, .int zia), (2, .int zic), (3, .int zis), (4, .int zi_524), (5, .int zi_836)] → W p l e ({ frames := 4, cells := 0, slots := 0, locals := 112 } : Room) s m ([.ref zy, .int zia, .int zic, .int zis] : List Value).toArray below meth c H locs 0 0 Q (F0 m 128 ls []) := by
                      intro zJ_873 H locs ls e_jn_874_0 e_jn_874_1 hP hD hS hl
                      obtain ⟨zi_875, ezi_875⟩ : ∃ y : Int32, y = zi_836 + 1 := ⟨_, rfl⟩
                      have tzi_875 : zi_875.toInt = zi_836.toInt + 1 := by rw [ezi_875]; exact tadd rfl (show (1 : Int32).toInt = 1 by decide) (by omega) (by omega)
                      refine lv_iinc (v := zi_875) (lv' := [(5, .int zi_875), (0, .ref zy), (1, .int zia), (2, .int zic), (3, .int zis), (4, .int zi_524)]) hx hb dX11_waysSo_128 hl (k := 5) rfl (by rw [ezi_875]; rfl) (by decide) rfl (fun ls hl => ?_)
                      refine lv_goto (tgt := 97) hx hb dX11_waysSo_131 (by decide) ?_
                      exact ih_859 (20280 - zi_875.toInt).toNat (by omega) zi_875 zJ_873 _ _ _ rfl (by omega) e_jn_874_0 e_jn_874_1 hP hD hS (lv_sub hl [1, 2, 3, 4, 5, 0] rfl)
                    refine lv_if_le (tgt := 128) hx hb dX11_waysSo_114 (by decide) (fun c_876 => ?_) (fun c_876 => ?_)
                    · have f_877 : ¬ (zj_864.toInt > (0 : Int)) := lk_le ezi_865 (rfl) (show (0 : Int64).toInt = 0 by decide) c_876
                      exact jn_874 zJ_837 _ _ _ e_lp_859_0 e_lp_859_1 hP hD hS (lv_sub hl [0, 1, 2, 3, 4, 5] rfl)
                    · have f_877 : zj_864.toInt > (0 : Int) := lk_nle ezi_865 (rfl) (show (0 : Int64).toInt = 0 by decide) c_876
                      refine lv_aload_n hx hb dX11_waysSo_117 rfl (lv_at hl 0 rfl) ?_
                      refine lv_iload_n hx hb dX11_waysSo_118 rfl (lv_at hl 1 rfl) ?_
                      refine lv_iload_n hx hb dX11_waysSo_119 rfl (lv_at hl 2 rfl) ?_
                      refine lv_iload_n hx hb dX11_waysSo_120 rfl (lv_at hl 3 rfl) ?_
                      refine lv_iload hx hb dX11_waysSo_121 (lv_at hl 4 rfl) ?_
                      refine lv_iload hx hb dX11_waysSo_123 (lv_at hl 5 rfl) ?_
                      refine hj_v (ws := (WL cy zL zT zR zI zJ_837)) (w1 := fun (u : (Nat → Nat → Int64)) => (WL cy zL zT zR zI u)) (va_runV (As := [.int zia, .int zic, .int zis, .int zi_524, .int zi_836]) (rest := []) ⟨hx, hb, hml, hown, hts⟩ (t_X11_goOn l dC dI cy H.size zL zT zR zI zJ_837 zy zia zic zis zi_524 zi_836 hs h_zI.1 t_zy (by omega) (by omega) (by omega) (by omega) e_lp_859_1 (by omega)) (cwV 5 hts gX11_waysSo_X11_goOn rfl rfl rfl (by decide +kernel) ⟨(Nat.le_of_ble_eq_true rfl), (Nat.le_of_ble_eq_true rfl)⟩) (PRE.v hP hK hD hN (ht_recv hK hP hs t_zy (by decide) rfl rfl)) rfl rfl hl.1 rfl (lv_room (Nat.le_of_ble_eq_true rfl)) dX11_waysSo_125 ⟨(Nat.le_of_ble_eq_true rfl), (Nat.le_of_ble_eq_true rfl)⟩) hP hD hS hA (fun zJ_881 H locs hw_879 hP hD hS => ?_)
                      have ps_882 : zJ_881 zy 15 = zJ_837 zy 15 := hw_879
                      exact jn_874 zJ_881 _ _ _ (ps_882.trans e_lp_859_0) e_lp_859_1 hP hD hS (lv_sub hl [0, 1, 2, 3, 4, 5] rfl)
              have qc_0 : (0 : Int32).toInt = 0 := by decide
              exact lp_859 _ (0 : Int32) zJ_834 _ _ _ rfl (by decide) (ps_835.trans (ps_830.trans e_lp_584_0)) e_lp_584_1 hP hD hS (lv_sub hl [1, 2, 3, 4, 5, 0] rfl)
        have qc_1 : (1 : Int32).toInt = 1 := by decide
        exact lp_584 _ (1 : Int32) zJ_161 _ _ _ rfl (by decide) e_lp_200_0 e_lp_200_1 hP hD hS (lv_sub hl [1, 2, 3, 4, 0] rfl)
      · have f_202 : ¬ (zi_160.toInt ≥ (24 : Int)) := ic_nge (rfl) (show (24 : Int32).toInt = 24 by decide) c_201
        refine lv_aload_n hx hb dX11_waysSo_14 rfl (lv_at hl 0 rfl) ?_
        refine ht_getr (C := RX11) (T := TX11) (N := 28) hx hb hts (by decide +kernel) hown hK hP hs t_zy (by decide) rfl rfl 9 (by decide) (hts (.fieldLink RX11 22 "DripStoneModel" "mayYears" "[I") (by decide +kernel)) (fun _ h9 => h9) rfl dX11_waysSo_15 ?_
        have t_883 : zT (zR zy 9) = 104 := sk_f hs t_zy (by decide) rfl (by decide)
        refine lv_iconst (v := 0) hx hb dX11_waysSo_18 (by decide) ?_
        refine ht_iald (n := 12) (q := 0) hx hb hK hP hs t_883 (by decide) rfl rfl ⟨by decide, by decide⟩ dX11_waysSo_19 ?_
        refine lv_topi (fun zi_884 ezi_884 => ?_)
        refine lv_iload hx hb dX11_waysSo_20 (lv_at hl 4 rfl) ?_
        refine lv_ishr hx hb dX11_waysSo_22 ?_
        refine lv_topi (fun zi_885 ezi_885 => ?_)
        have rzi_885 := rng zi_885
        refine lv_iconst (v := 1) hx hb dX11_waysSo_23 (by decide) ?_
        refine lv_iand hx hb dX11_waysSo_24 ?_
        refine lv_topi (fun zi_886 ezi_886 => ?_)
        have tzi_886 : 0 ≤ zi_886.toInt ∧ zi_886.toInt ≤ 1 := by rw [ezi_886]; exact andb (k := 1) (by decide) (by decide) (by decide)
        refine lv_iconst (v := 1) hx hb dX11_waysSo_25 (by decide) ?_
        have jn_903 : ∀ (zJ_902 : Nat → Nat → Int64) (H : Heap) (locs : List Loc) (ls : Array Slot), (zJ_902 zy 15 = zJ zy 15) → (ZI (zI (zR zy 0))) → va_P (dC, dI) vwCl (WL cy zL zT zR zI zJ_902) H → va_D A (WL cy zL zT zR zI zJ_902) → va_S A s.heap H locs → lv_has ls 7 [(0, .ref zy), (1, .int zia), (2, .int zic), (3, .int zis), (4, .int zi_160)] → W p l e ({ frames := 4, cells := 0, slots := 0, locals := 112 } : Room) s m ([.ref zy, .int zia, .int zic, .int zis] : List Value).toArray below meth c H locs 0 0 Q (F0 m 68 ls []) := by
          intro zJ_902 H locs ls e_jn_903_0 e_jn_903_1 hP hD hS hl
          obtain ⟨zi_904, ezi_904⟩ : ∃ y : Int32, y = zi_160 + 1 := ⟨_, rfl⟩
          have tzi_904 : zi_904.toInt = zi_160.toInt + 1 := by rw [ezi_904]; exact tadd rfl (show (1 : Int32).toInt = 1 by decide) (by omega) (by omega)
          refine lv_iinc (v := zi_904) (lv' := [(4, .int zi_904), (0, .ref zy), (1, .int zia), (2, .int zic), (3, .int zis)]) hx hb dX11_waysSo_68 hl (k := 4) rfl (by rw [ezi_904]; rfl) (by decide) rfl (fun ls hl => ?_)
          refine lv_goto (tgt := 7) hx hb dX11_waysSo_71 (by decide) ?_
          exact ih_200 (24 - zi_904.toInt).toNat (by omega) zi_904 zJ_902 _ _ _ rfl (by omega) e_jn_903_0 e_jn_903_1 hP hD hS (lv_sub hl [1, 2, 3, 4, 0] rfl)
        refine lv_icmp_ne (tgt := 68) hx hb dX11_waysSo_26 (by decide) (fun c_905 => ?_) (fun c_905 => ?_)
        · have f_906 : zi_886.toInt ≠ (1 : Int) := ic_ne (rfl) (show (1 : Int32).toInt = 1 by decide) c_905
          exact jn_903 zJ_161 _ _ _ e_lp_200_0 e_lp_200_1 hP hD hS (lv_sub hl [0, 1, 2, 3, 4] rfl)
        · have f_906 : ¬ (zi_886.toInt ≠ (1 : Int)) := ic_nne (rfl) (show (1 : Int32).toInt = 1 by decide) c_905
          refine lv_aload_n hx hb dX11_waysSo_29 rfl (lv_at hl 0 rfl) ?_
          refine ht_getr (C := RX11) (T := TX11) (N := 28) hx hb hts (by decide +kernel) hown hK hP hs t_zy (by decide) rfl rfl 22 (by decide) (hts (.fieldLink RX11 53 "DripStoneModel" "then" "[J") (by decide +kernel)) (fun _ h9 => h9) rfl dX11_waysSo_30 ?_
          have t_907 : zT (zR zy 22) = 118 := sk_f hs t_zy (by decide) rfl (by decide)
          refine lv_iload hx hb dX11_waysSo_33 (lv_at hl 4 rfl) ?_
          refine lv_iconst (v := 1) hx hb dX11_waysSo_35 (by decide) ?_
          refine lv_aload_n hx hb dX11_waysSo_36 rfl (lv_at hl 0 rfl) ?_
          refine lv_iload_n hx hb dX11_waysSo_37 rfl (lv_at hl 1 rfl) ?_
          refine lv_iconst (v := 0) hx hb dX11_waysSo_38 (by decide) ?_
          refine lv_iload_n hx hb dX11_waysSo_39 rfl (lv_at hl 2 rfl) ?_
          refine lv_iconst (v := 0) hx hb dX11_waysSo_40 (by decide) ?_
          refine lv_iload hx hb dX11_waysSo_41 (lv_at hl 4 rfl) ?_
          refine lv_iload_n hx hb dX11_waysSo_43 rfl (lv_at hl 3 rfl) ?_
          refine lv_iconst (v := 0) hx hb dX11_waysSo_44 (by decide) ?_
          have qc_0 : (0 : Int32).toInt = 0 := by decide
          refine hj_i (ws := (WL cy zL zT zR zI zJ_161)) (w1 := fun (u : Unit) => (WL cy zL zT zR zI zJ_161)) (va_runV (As := [.int zia, .int 0, .int zic, .int 0, .int zi_160, .int zis, .int 0]) (rest := [.int 1, .int zi_160, .ref (zR zy 22)]) ⟨hx, hb, hml, hown, hts⟩ (t_X11_more_0 l dC dI cy H.size zL zT zR zI zJ_161 zy zia zic (0 : Int32) zi_160 zis (0 : Int32) hs h_zI.1 t_zy (by omega) (by omega) (by decide) (by decide) e_lp_200_1 (by omega)) (cwV 7 hts gX11_waysSo_X11_more rfl rfl rfl (by decide +kernel) ⟨(Nat.le_of_ble_eq_true rfl), (Nat.le_of_ble_eq_true rfl)⟩) (PRE.v hP hK hD hN (ht_recv hK hP hs t_zy (by decide) rfl rfl)) rfl rfl hl.1 rfl (lv_room (Nat.le_of_ble_eq_true rfl)) dX11_waysSo_45 ⟨(Nat.le_of_ble_eq_true rfl), (Nat.le_of_ble_eq_true rfl)⟩) hP hD hS hA (fun zi_908 u_910 H locs hw_909 hP hD hS => ?_)
          have b_zi_908 : 0 ≤ zi_908.toInt ∧ zi_908.toInt ≤ 12 := hw_909
          refine lv_aload_n hx hb dX11_waysSo_48 rfl (lv_at hl 0 rfl) ?_
          refine lv_iload_n hx hb dX11_waysSo_49 rfl (lv_at hl 1 rfl) ?_
          refine lv_iconst (v := 1) hx hb dX11_waysSo_50 (by decide) ?_
          refine lv_iload_n hx hb dX11_waysSo_51 rfl (lv_at hl 2 rfl) ?_
          refine lv_iconst (v := 0) hx hb dX11_waysSo_52 (by decide) ?_
          refine lv_iload hx hb dX11_waysSo_53 (lv_at hl 4 rfl) ?_
          refine lv_iload_n hx hb dX11_waysSo_55 rfl (lv_at hl 3 rfl) ?_
          refine lv_iconst (v := 0) hx hb dX11_waysSo_56 (by decide) ?_
          refine hj_i (ws := (WL cy zL zT zR zI zJ_161)) (w1 := fun (u : Unit) => (WL cy zL zT zR zI zJ_161)) (va_runV (As := [.int zia, .int 1, .int zic, .int 0, .int zi_160, .int zis, .int 0]) (rest := [.int zi_908, .int 1, .int zi_160, .ref (zR zy 22)]) ⟨hx, hb, hml, hown, hts⟩ (t_X11_more_1 l dC dI cy H.size zL zT zR zI zJ_161 zy zia zic (0 : Int32) zi_160 zis (0 : Int32) hs h_zI.1 t_zy (by omega) (by omega) (by decide) (by decide) e_lp_200_1 (by omega)) (cwV 7 hts gX11_waysSo_X11_more rfl rfl rfl (by decide +kernel) ⟨(Nat.le_of_ble_eq_true rfl), (Nat.le_of_ble_eq_true rfl)⟩) (PRE.v hP hK hD hN (ht_recv hK hP hs t_zy (by decide) rfl rfl)) rfl rfl hl.1 rfl (lv_room (Nat.le_of_ble_eq_true rfl)) dX11_waysSo_57 ⟨(Nat.le_of_ble_eq_true rfl), (Nat.le_of_ble_eq_true rfl)⟩) hP hD hS hA (fun zi_911 u_913 H locs hw_912 hP hD hS => ?_)
          have b_zi_911 : 0 ≤ zi_911.toInt ∧ zi_911.toInt ≤ 12 := hw_912
          have qc_1 : (1 : Int32).toInt = 1 := by decide
          refine hj0_i (ws := (WL cy zL zT zR zI zJ_161)) (va_runS (As := [.int zi_160, .int 1, .int zi_908, .int zi_911]) (rest := [.ref (zR zy 22)]) ⟨hx, hb, hml, hown, hts⟩ (c_X11_stateOf l dC dI cy H.size zi_160 (1 : Int32) zi_908 zi_911 (by omega) (by decide) (by omega) (by omega)) (va_cwS 4 hts gX11_waysSo_X11_stateOf rfl rfl rfl (by decide +kernel) ⟨(Nat.le_of_ble_eq_true rfl), (Nat.le_of_ble_eq_true rfl)⟩) (PRE.s (hP.sub [] rfl) hK (hD.sub [] (by decide) rfl) hN) rfl rfl hl.1 rfl (lv_room (Nat.le_of_ble_eq_true rfl)) dX11_waysSo_60 ⟨(Nat.le_of_ble_eq_true rfl), (Nat.le_of_ble_eq_true rfl)⟩) hP hD hS hA (fun zi_914 u_916 H locs hw_915 hP hD hS => ?_)
          have b_zi_914 : 0 ≤ zi_914.toInt ∧ zi_914.toInt ≤ 20279 := hw_915
          refine lv_dup2_11 hx hb dX11_waysSo_63 rfl rfl ?_
          refine ht_lald (n := 20280) (q := 1) hx hb hK hP hs t_907 (by decide) rfl rfl ⟨by omega, by omega⟩ dX11_waysSo_64 ?_
          refine lv_topl (fun zj_917 ezj_917 => ?_)
          refine lv_lconst (v := 1) hx hb dX11_waysSo_65 (by decide) ?_
          refine lv_ladd hx hb dX11_waysSo_66 ?_
          refine lv_topl (fun zj_918 ezj_918 => ?_)
          refine ht_last (v := zj_918) (n := 20280) (q := 1) hx hb hK hP hD hS hs t_907 (by decide) rfl rfl ⟨by omega, by omega⟩ dX11_waysSo_67 (fun H locs hP hD hS => ?_)
          generalize uzJ_919 : u2 zJ_161 (zR zy 22) zi_914.toNatClampNeg zj_918 = zJ_919 at hP hD
          exact jn_903 zJ_919 _ _ _ ((show zJ_919 zy 15 = zJ_161 zy 15 from by rw [← uzJ_919]; exact u2_n (tne t_zy t_907 (by decide))).trans e_lp_200_0) e_lp_200_1 hP hD hS (lv_sub hl [0, 1, 2, 3, 4] rfl)
  have qc_0 : (0 : Int32).toInt = 0 := by decide
  exact lp_200 _ (0 : Int32) zJ_4 _ _ _ rfl (by decide) (ps_5.trans rfl) hz hP hD hS (lv_sub hl [1, 2, 3, 4, 0] rfl)
