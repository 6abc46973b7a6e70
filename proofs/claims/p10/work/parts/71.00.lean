set_option maxHeartbeats 8000000 in
set_option maxRecDepth 100000 in
theorem t_X11_runBehind_f (l : Launch) (dC : Nat → ClassId) (dI : Nat → Nat → Nat) (cy : Nat → ClassId) (sz : Nat) (zL : List Nat) (zT : Nat → Nat) (zR : Nat → Nat → Nat) (zI : Nat → Nat → Int32) (zJ : Nat → Nat → Int64) (zy : Nat) (zip : Int32) (zia : Int32) (zib : Int32) (zic : Int32) (hs : SKP zL zT zR) (hw : WT zT zR zI) (t_zy : zT zy = 18) (b_zip : 0 ≤ zip.toInt ∧ zip.toInt ≤ 11) (b_zia : 0 ≤ zia.toInt ∧ zia.toInt ≤ 23) (b_zib : 0 ≤ zib.toInt ∧ zib.toInt ≤ 4) (b_zic : 0 ≤ zic.toInt ∧ zic.toInt ≤ 23) : Met l yX11_runBehind wsX11_runBehind ({ frames := 0, cells := 0, slots := 0, locals := 0 } : Room) (va_Pc [.ref zy, .int zip, .int zia, .int zib, .int zic] (PRE dC dI cy (WL cy zL zT zR zI zJ) sz)) (va_Qi (fun (r : Int32) (u : Unit) => (0 ≤ r.toInt ∧ r.toInt ≤ 4) ∧ (r.toInt = (RB (zI zy 7).toInt (zI (zR zy 9)) (zI (zR zy 10)) (zI (zR zy 11)) (zI (zR zy 12))) zip.toInt zia.toInt zib.toInt zic.toInt)) (fun u t => POST dC dI cy (va_A (WL cy zL zT zR zI zJ) sz) (WL cy zL zT zR zI zJ) t) (va_A (WL cy zL zT zR zI zJ) sz)) 0 0 (va_A (WL cy zL zT zR zI zJ) sz) := by
  refine Met.ofW (cc := cX11_runBehind) (maxL := 6) (ret := (some .int)) (by decide) rfl ?_
  intro p e s m args below meth c s₁ B hml hv
  obtain ⟨rfl, hsz, hP, hK, hD0, hN⟩ := hv
  have hx := B.exec
  have hb := B.bytes
  have hr := B.returns
  have hts := atoms_spec (ws := wsX11_runBehind) B.pre
  have hown : s.vm.findClass RX11 = some m.cls := findClass_of_methodNamed B.named
  have hlocks := B.notSynchronized
  subst hsz
  have hD := hD0.self (sz := s.heap.size)
  generalize hAe : va_A (WL cy zL zT zR zI zJ) s.heap.size = A at hD ⊢
  have hA : ∀ q : Nat, s.heap.size ≤ q → A q := fun q h => by rw [← hAe]; exact Or.inr h
  have hS : va_S A s.heap s.heap [] := va_S.rf
  have hP : va_P (dC, dI) vwCl (WL cy zL zT zR zI zJ) s.heap := hP
  have hl := lv_entry ([.ref zy, .int zip, .int zia, .int zib, .int zic] : List Value) (n := 6) (Nat.le_of_ble_eq_true rfl)
  rw [lg_entry_eq]
  generalize (lg_sl ([.ref zy, .int zip, .int zia, .int zib, .int zic] : List Value) ++ List.replicate (6 - (lg_sl ([.ref zy, .int zip, .int zia, .int zib, .int zic] : List Value)).length) Slot.unset).toArray = ls at hl ⊢
  have hl : lv_has ls 6 [(0, .ref zy), (1, .int zip), (2, .int zia), (3, .int zib), (4, .int zic)] := hl
  refine w_q (fun Q hQ => ?_)
  have h_zI : WM [] AL zT zR zI zI := WM.rf hw
  refine lv_iload hx hb dX11_runBehind_0 (lv_at hl 4 rfl) ?_
  refine lv_iload_n hx hb dX11_runBehind_2 rfl (lv_at hl 2 rfl) ?_
  refine lv_isub hx hb dX11_runBehind_3 ?_
  refine lv_topi (fun zi_1 ezi_1 => ?_)
  have tzi_1 : zi_1.toInt = zic.toInt - zia.toInt := by rw [ezi_1]; exact tisub (rfl) (rfl) (by omega) (by omega)
  refine lv_istore (lv' := [(5, .int zi_1), (0, .ref zy), (1, .int zip), (2, .int zia), (3, .int zib), (4, .int zic)]) hx hb dX11_runBehind_4 hl (by decide) rfl (fun ls hl => ?_)
  refine lv_iload hx hb dX11_runBehind_6 (lv_at hl 0 rfl) ?_
  refine lv_aload_n hx hb dX11_runBehind_8 rfl (lv_at hl 1 rfl) ?_
  refine ht_getr (C := RX11) (T := TX11) (N := 28) hx hb hts (by decide +kernel) hown hK hP hs t_zy (by decide) rfl rfl 10 (by decide) (hts (.fieldLink RX11 25 "DripStoneModel" "lowStep" "[I") (by decide +kernel)) (fun _ h9 => h9) rfl dX11_runBehind_9 ?_
  have t_2 : zT (zR zy 10) = 105 := sk_f hs t_zy (by decide) rfl (by decide)
  refine lv_iload_n hx hb dX11_runBehind_12 rfl (lv_at hl 2 rfl) ?_
  refine ht_iald (n := 12) (q := 0) hx hb hK hP hs t_2 (by decide) rfl rfl ⟨by omega, by omega⟩ dX11_runBehind_13 ?_
  refine lv_topi (fun zi_3 ezi_3 => ?_)
  have lr_4 : zi_3.toInt = zA (zI (zR zy 10)) zip.toInt := congrArg Int32.toInt ezi_3
  refine lv_icmp_lt (tgt := 42) hx hb dX11_runBehind_14 (by decide) (fun c_5 => ?_) (fun c_5 => ?_)
  · have f_6 : zi_1.toInt < zi_3.toInt := ic_lt (rfl) (rfl) c_5
    refine lv_iconst (v := 0) hx hb dX11_runBehind_42 (by decide) ?_
    have qv9 : (0 : Int32).toInt = 0 := by decide
    have rb9 : (0 : Int32).toInt = (RB (zI zy 7).toInt (zI (zR zy 9)) (zI (zR zy 10)) (zI (zR zy 11)) (zI (zR zy 12))) zip.toInt zia.toInt zib.toInt zic.toInt := by
      unfold RB
      repeat' split
      all_goals omega
    subst hQ
    have qc_0 : (0 : Int32).toInt = 0 := by decide
    exact W.iret (v := (0 : Int32)) hx hb hr (fun t ht hW => ⟨⟨(0 : Int32), (), rfl, ⟨(show 0 ≤ (0 : Int32).toInt ∧ (0 : Int32).toInt ≤ 4 from by omega), (show (0 : Int32).toInt = (RB (zI zy 7).toInt (zI (zR zy 9)) (zI (zR zy 10)) (zI (zR zy 11)) (zI (zR zy 12))) zip.toInt zia.toInt zib.toInt zic.toInt from rb9)⟩, ⟨by rw [ht]; exact hP, va_K.moved hW.alike hK, hD⟩⟩, hS.F ht⟩) hS.2.2 dX11_runBehind_43
  · have f_6 : ¬ (zi_1.toInt < zi_3.toInt) := ic_nlt (rfl) (rfl) c_5
    refine lv_iload hx hb dX11_runBehind_17 (lv_at hl 0 rfl) ?_
    refine lv_aload_n hx hb dX11_runBehind_19 rfl (lv_at hl 1 rfl) ?_
    refine ht_getr (C := RX11) (T := TX11) (N := 28) hx hb hts (by decide +kernel) hown hK hP hs t_zy (by decide) rfl rfl 11 (by decide) (hts (.fieldLink RX11 28 "DripStoneModel" "highStep" "[I") (by decide +kernel)) (fun _ h9 => h9) rfl dX11_runBehind_20 ?_
    have t_7 : zT (zR zy 11) = 106 := sk_f hs t_zy (by decide) rfl (by decide)
    refine lv_iload_n hx hb dX11_runBehind_23 rfl (lv_at hl 2 rfl) ?_
    refine ht_iald (n := 12) (q := 0) hx hb hK hP hs t_7 (by decide) rfl rfl ⟨by omega, by omega⟩ dX11_runBehind_24 ?_
    refine lv_topi (fun zi_8 ezi_8 => ?_)
    have lr_9 : zi_8.toInt = zA (zI (zR zy 11)) zip.toInt := congrArg Int32.toInt ezi_8
    refine lv_icmp_gt (tgt := 42) hx hb dX11_runBehind_25 (by decide) (fun c_10 => ?_) (fun c_10 => ?_)
    · have f_11 : zi_1.toInt > zi_8.toInt := ic_gt (rfl) (rfl) c_10
      refine lv_iconst (v := 0) hx hb dX11_runBehind_42 (by decide) ?_
      have qv9 : (0 : Int32).toInt = 0 := by decide
      have rb9 : (0 : Int32).toInt = (RB (zI zy 7).toInt (zI (zR zy 9)) (zI (zR zy 10)) (zI (zR zy 11)) (zI (zR zy 12))) zip.toInt zia.toInt zib.toInt zic.toInt := by
        unfold RB
        repeat' split
        all_goals omega
      subst hQ
      have qc_0 : (0 : Int32).toInt = 0 := by decide
      exact W.iret (v := (0 : Int32)) hx hb hr (fun t ht hW => ⟨⟨(0 : Int32), (), rfl, ⟨(show 0 ≤ (0 : Int32).toInt ∧ (0 : Int32).toInt ≤ 4 from by omega), (show (0 : Int32).toInt = (RB (zI zy 7).toInt (zI (zR zy 9)) (zI (zR zy 10)) (zI (zR zy 11)) (zI (zR zy 12))) zip.toInt zia.toInt zib.toInt zic.toInt from rb9)⟩, ⟨by rw [ht]; exact hP, va_K.moved hW.alike hK, hD⟩⟩, hS.F ht⟩) hS.2.2 dX11_runBehind_43
    · have f_11 : ¬ (zi_1.toInt > zi_8.toInt) := ic_ngt (rfl) (rfl) c_10
      refine lv_aload_n hx hb dX11_runBehind_28 rfl (lv_at hl 1 rfl) ?_
      refine ht_getr (C := RX11) (T := TX11) (N := 28) hx hb hts (by decide +kernel) hown hK hP hs t_zy (by decide) rfl rfl 9 (by decide) (hts (.fieldLink RX11 22 "DripStoneModel" "mayYears" "[I") (by decide +kernel)) (fun _ h9 => h9) rfl dX11_runBehind_29 ?_
      have t_12 : zT (zR zy 9) = 104 := sk_f hs t_zy (by decide) rfl (by decide)
      refine lv_iload_n hx hb dX11_runBehind_32 rfl (lv_at hl 2 rfl) ?_
      refine ht_iald (n := 12) (q := 0) hx hb hK hP hs t_12 (by decide) rfl rfl ⟨by omega, by omega⟩ dX11_runBehind_33 ?_
      refine lv_topi (fun zi_13 ezi_13 => ?_)
      have lr_14 : zi_13.toInt = zA (zI (zR zy 9)) zip.toInt := congrArg Int32.toInt ezi_13
      refine lv_iload hx hb dX11_runBehind_34 (lv_at hl 5 rfl) ?_
      refine lv_ishr hx hb dX11_runBehind_36 ?_
      refine lv_topi (fun zi_15 ezi_15 => ?_)
      have rzi_15 := rng zi_15
      refine lv_iconst (v := 1) hx hb dX11_runBehind_37 (by decide) ?_
      refine lv_iand hx hb dX11_runBehind_38 ?_
      refine lv_topi (fun zi_16 ezi_16 => ?_)
      have tzi_16 : 0 ≤ zi_16.toInt ∧ zi_16.toInt ≤ 1 := by rw [ezi_16]; exact andb (k := 1) (by decide) (by decide) (by decide)
      have bb_17 : zi_16.toInt = ((zI (zR zy 9) zip.toInt.toNat >>> (Int32.ofInt zic.toInt &&& 31)) &&& 1).toInt := by rw [Int32.ofInt_toInt, show zI (zR zy 9) zip.toInt.toNat = zi_13 from ezi_13.symm, ← ezi_15, ← ezi_16]
      refine lv_if_ne (tgt := 44) hx hb dX11_runBehind_39 (by decide) (fun c_18 => ?_) (fun c_18 => ?_)
      · have f_19 : zi_16.toInt ≠ 0 := ic_ne (rfl) (by decide) c_18
        refine lv_iload hx hb dX11_runBehind_44 (lv_at hl 0 rfl) ?_
        refine lv_if_ne (tgt := 65) hx hb dX11_runBehind_46 (by decide) (fun c_20 => ?_) (fun c_20 => ?_)
        · have f_21 : zi_1.toInt ≠ 0 := ic_ne (rfl) (by decide) c_20
          refine lv_iload_n hx hb dX11_runBehind_65 rfl (lv_at hl 4 rfl) ?_
          refine lv_aload_n hx hb dX11_runBehind_66 rfl (lv_at hl 1 rfl) ?_
          refine ht_getr (C := RX11) (T := TX11) (N := 28) hx hb hts (by decide +kernel) hown hK hP hs t_zy (by decide) rfl rfl 12 (by decide) (hts (.fieldLink RX11 31 "DripStoneModel" "needRun" "[I") (by decide +kernel)) (fun _ h9 => h9) rfl dX11_runBehind_67 ?_
          have t_22 : zT (zR zy 12) = 107 := sk_f hs t_zy (by decide) rfl (by decide)
          refine lv_iload_n hx hb dX11_runBehind_70 rfl (lv_at hl 2 rfl) ?_
          refine ht_iald (n := 12) (q := 0) hx hb hK hP hs t_22 (by decide) rfl rfl ⟨by omega, by omega⟩ dX11_runBehind_71 ?_
          refine lv_topi (fun zi_23 ezi_23 => ?_)
          have lr_24 : zi_23.toInt = zA (zI (zR zy 12)) zip.toInt := congrArg Int32.toInt ezi_23
          refine lv_icmp_lt (tgt := 79) hx hb dX11_runBehind_72 (by decide) (fun c_25 => ?_) (fun c_25 => ?_)
          · have f_26 : zib.toInt < zi_23.toInt := ic_lt (rfl) (rfl) c_25
            refine lv_iconst (v := 0) hx hb dX11_runBehind_79 (by decide) ?_
            have qv9 : (0 : Int32).toInt = 0 := by decide
            have rb9 : (0 : Int32).toInt = (RB (zI zy 7).toInt (zI (zR zy 9)) (zI (zR zy 10)) (zI (zR zy 11)) (zI (zR zy 12))) zip.toInt zia.toInt zib.toInt zic.toInt := by
              unfold RB
              repeat' split
              all_goals omega
            subst hQ
            have qc_0 : (0 : Int32).toInt = 0 := by decide
            exact W.iret (v := (0 : Int32)) hx hb hr (fun t ht hW => ⟨⟨(0 : Int32), (), rfl, ⟨(show 0 ≤ (0 : Int32).toInt ∧ (0 : Int32).toInt ≤ 4 from by omega), (show (0 : Int32).toInt = (RB (zI zy 7).toInt (zI (zR zy 9)) (zI (zR zy 10)) (zI (zR zy 11)) (zI (zR zy 12))) zip.toInt zia.toInt zib.toInt zic.toInt from rb9)⟩, ⟨by rw [ht]; exact hP, va_K.moved hW.alike hK, hD⟩⟩, hS.F ht⟩) hS.2.2 dX11_runBehind_80
          · have f_26 : ¬ (zib.toInt < zi_23.toInt) := ic_nlt (rfl) (rfl) c_25
            refine lv_iconst (v := 1) hx hb dX11_runBehind_75 (by decide) ?_
            refine lv_goto (tgt := 80) hx hb dX11_runBehind_76 (by decide) ?_
            have qv9 : (1 : Int32).toInt = 1 := by decide
            have rb9 : (1 : Int32).toInt = (RB (zI zy 7).toInt (zI (zR zy 9)) (zI (zR zy 10)) (zI (zR zy 11)) (zI (zR zy 12))) zip.toInt zia.toInt zib.toInt zic.toInt := by
              unfold RB
              repeat' split
              all_goals omega
            subst hQ
            have qc_1 : (1 : Int32).toInt = 1 := by decide
            exact W.iret (v := (1 : Int32)) hx hb hr (fun t ht hW => ⟨⟨(1 : Int32), (), rfl, ⟨(show 0 ≤ (1 : Int32).toInt ∧ (1 : Int32).toInt ≤ 4 from by omega), (show (1 : Int32).toInt = (RB (zI zy 7).toInt (zI (zR zy 9)) (zI (zR zy 10)) (zI (zR zy 11)) (zI (zR zy 12))) zip.toInt zia.toInt zib.toInt zic.toInt from rb9)⟩, ⟨by rw [ht]; exact hP, va_K.moved hW.alike hK, hD⟩⟩, hS.F ht⟩) hS.2.2 dX11_runBehind_80
        · have f_21 : ¬ (zi_1.toInt ≠ 0) := ic_nne (rfl) (by decide) c_20
          refine lv_iload_n hx hb dX11_runBehind_49 rfl (lv_at hl 4 rfl) ?_
          refine lv_aload_n hx hb dX11_runBehind_50 rfl (lv_at hl 1 rfl) ?_
          refine ht_geti (C := RX11) (T := TX11) (N := 28) hx hb hts (by decide +kernel) hown hK hP hs t_zy (by decide) rfl rfl 7 (by decide) (hts (.fieldLink RX11 195 "DripStoneModel" "mostNow" "I") (by decide +kernel)) (fun _ h9 => h9) rfl dX11_runBehind_51 ?_
          refine lv_topi (fun zi_27 ezi_27 => ?_)
          have tzi_27 : 0 ≤ zi_27.toInt ∧ zi_27.toInt ≤ 4 := by rw [ezi_27]; exact h_zI.at t_zy _ rfl
          have lzi_27 : (zI zy 7).toInt = zi_27.toInt := by rw [ezi_27]
          refine lv_icmp_ge (tgt := 63) hx hb dX11_runBehind_54 (by decide) (fun c_28 => ?_) (fun c_28 => ?_)
          · have f_29 : zib.toInt ≥ zi_27.toInt := ic_ge (rfl) (rfl) c_28
            refine lv_iconst (v := 0) hx hb dX11_runBehind_63 (by decide) ?_
            have qv9 : (0 : Int32).toInt = 0 := by decide
            have rb9 : (0 : Int32).toInt = (RB (zI zy 7).toInt (zI (zR zy 9)) (zI (zR zy 10)) (zI (zR zy 11)) (zI (zR zy 12))) zip.toInt zia.toInt zib.toInt zic.toInt := by
              unfold RB
              repeat' split
              all_goals omega
            subst hQ
            have qc_0 : (0 : Int32).toInt = 0 := by decide
            exact W.iret (v := (0 : Int32)) hx hb hr (fun t ht hW => ⟨⟨(0 : Int32), (), rfl, ⟨(show 0 ≤ (0 : Int32).toInt ∧ (0 : Int32).toInt ≤ 4 from by omega), (show (0 : Int32).toInt = (RB (zI zy 7).toInt (zI (zR zy 9)) (zI (zR zy 10)) (zI (zR zy 11)) (zI (zR zy 12))) zip.toInt zia.toInt zib.toInt zic.toInt from rb9)⟩, ⟨by rw [ht]; exact hP, va_K.moved hW.alike hK, hD⟩⟩, hS.F ht⟩) hS.2.2 dX11_runBehind_64
          · have f_29 : ¬ (zib.toInt ≥ zi_27.toInt) := ic_nge (rfl) (rfl) c_28
            refine lv_iload_n hx hb dX11_runBehind_57 rfl (lv_at hl 4 rfl) ?_
            refine lv_iconst (v := 1) hx hb dX11_runBehind_58 (by decide) ?_
            refine lv_iadd hx hb dX11_runBehind_59 ?_
            refine lv_topi (fun zi_30 ezi_30 => ?_)
            have tzi_30 : zi_30.toInt = zib.toInt + (1 : Int) := by rw [ezi_30]; exact tiadd (rfl) (show (1 : Int32).toInt = 1 by decide) (by omega) (by omega)
            refine lv_goto (tgt := 64) hx hb dX11_runBehind_60 (by decide) ?_
            have rb9 : zi_30.toInt = (RB (zI zy 7).toInt (zI (zR zy 9)) (zI (zR zy 10)) (zI (zR zy 11)) (zI (zR zy 12))) zip.toInt zia.toInt zib.toInt zic.toInt := by
              unfold RB
              repeat' split
              all_goals omega
            subst hQ
            exact W.iret (v := zi_30) hx hb hr (fun t ht hW => ⟨⟨zi_30, (), rfl, ⟨(show 0 ≤ zi_30.toInt ∧ zi_30.toInt ≤ 4 from by omega), (show zi_30.toInt = (RB (zI zy 7).toInt (zI (zR zy 9)) (zI (zR zy 10)) (zI (zR zy 11)) (zI (zR zy 12))) zip.toInt zia.toInt zib.toInt zic.toInt from rb9)⟩, ⟨by rw [ht]; exact hP, va_K.moved hW.alike hK, hD⟩⟩, hS.F ht⟩) hS.2.2 dX11_runBehind_64
      · have f_19 : ¬ (zi_16.toInt ≠ 0) := ic_nne (rfl) (by decide) c_18
        refine lv_iconst (v := 0) hx hb dX11_runBehind_42 (by decide) ?_
        have qv9 : (0 : Int32).toInt = 0 := by decide
        have rb9 : (0 : Int32).toInt = (RB (zI zy 7).toInt (zI (zR zy 9)) (zI (zR zy 10)) (zI (zR zy 11)) (zI (zR zy 12))) zip.toInt zia.toInt zib.toInt zic.toInt := by
          unfold RB
          repeat' split
          all_goals omega
        subst hQ
        have qc_0 : (0 : Int32).toInt = 0 := by decide
        exact W.iret (v := (0 : Int32)) hx hb hr (fun t ht hW => ⟨⟨(0 : Int32), (), rfl, ⟨(show 0 ≤ (0 : Int32).toInt ∧ (0 : Int32).toInt ≤ 4 from by omega), (show (0 : Int32).toInt = (RB (zI zy 7).toInt (zI (zR zy 9)) (zI (zR zy 10)) (zI (zR zy 11)) (zI (zR zy 12))) zip.toInt zia.toInt zib.toInt zic.toInt from rb9)⟩, ⟨by rw [ht]; exact hP, va_K.moved hW.alike hK, hD⟩⟩, hS.F ht⟩) hS.2.2 dX11_runBehind_43
set_option maxHeartbeats 8000000 in
set_option maxRecDepth 100000 in
theorem t_X11_countFront (l : Launch) (dC : Nat → ClassId) (dI : Nat → Nat → Nat) (cy : Nat → ClassId) (sz : Nat) (zL : List Nat) (zT : Nat → Nat) (zR : Nat → Nat → Nat) (zI : Nat → Nat → Int32) (zJ : Nat → Nat → Int64) (zy : Nat) (hs : SKP zL zT zR) (hw : WT zT zR zI) (t_zy : zT zy = 18) : Met l yX11_countFront wsX11_countFront ({ frames := 1, cells := 0, slots := 0, locals := 25 } : Room) (va_Pc [.ref zy] (PRE dC dI cy (WL cy zL zT zR zI zJ) sz)) (va_Qv (fun (u : (Nat → Nat → Int64)) => (u zy 15 = CT zR zI zy) ∧ (0 ≤ (u zy 15).toInt ∧ (u zy 15).toInt ≤ 1000000000) ∧ (u zy 20 = zJ zy 20)) (fun u t => POST dC dI cy (va_A (WL cy zL zT zR zI zJ) sz) (WL cy zL zT zR zI u) t) (va_A (WL cy zL zT zR zI zJ) sz)) 0 0 (va_A (WL cy zL zT zR zI zJ) sz) := by
  refine Met.ofW (cc := cX11_countFront) (maxL := 8) (ret := none) (by decide) rfl ?_
  intro p e s m args below meth c s₁ B hml hv
  obtain ⟨rfl, hsz, hP, hK, hD0, hN⟩ := hv
  have hx := B.exec
  have hb := B.bytes
  have hr := B.returns
  have hts := atoms_spec (ws := wsX11_countFront) B.pre
  have hown : s.vm.findClass RX11 = some m.cls := findClass_of_methodNamed B.named
  have hlocks := B.notSynchronized
  subst hsz
  have hD := hD0.self (sz := s.heap.size)
  generalize hAe : va_A (WL cy zL zT zR zI zJ) s.heap.size = A at hD ⊢
  have hA : ∀ q : Nat, s.heap.size ≤ q → A q := fun q h => by rw [← hAe]; exact Or.inr h
  have hS : va_S A s.heap s.heap [] := va_S.rf
  have hP : va_P (dC, dI) vwCl (WL cy zL zT zR zI zJ) s.heap := hP
  have hl := lv_entry ([.ref zy] : List Value) (n := 8) (Nat.le_of_ble_eq_true rfl)
  rw [lg_entry_eq]
  generalize (lg_sl ([.ref zy] : List Value) ++ List.replicate (8 - (lg_sl ([.ref zy] : List Value)).length) Slot.unset).toArray = ls at hl ⊢
  have hl : lv_has ls 8 [(0, .ref zy)] := hl
  refine w_q (fun Q hQ => ?_)
  have h_zI : WM [] AL zT zR zI zI := WM.rf hw
  refine lv_iconst (v := 0) hx hb dX11_countFront_0 (by decide) ?_
  refine lv_istore_n (lv' := [(1, .int 0), (0, .ref zy)]) hx hb dX11_countFront_1 rfl hl (by decide) rfl (fun ls hl => ?_)
  have lp_30 : ∀ (n : Nat) (zi_23 : Int32) (zJ_24 : Nat → Nat → Int64) (H : Heap) (locs : List Loc) (ls : Array Slot), (1440 - zi_23.toInt).toNat = n → (0 ≤ zi_23.toInt ∧ zi_23.toInt ≤ 1440) → (zJ_24 (zR zy 13) = clr (zJ (zR zy 13)) zi_23.toInt) → (zJ_24 zy 20 = zJ zy 20) → va_P (dC, dI) vwCl (WL cy zL zT zR zI zJ_24) H → va_D A (WL cy zL zT zR zI zJ_24) → va_S A s.heap H locs → lv_has ls 8 [(0, .ref zy), (1, .int zi_23)] → W p l e ({ frames := 1, cells := 0, slots := 0, locals := 25 } : Room) s m ([.ref zy] : List Value).toArray below meth c H locs 0 0 Q (F0 m 2 ls []) := by
    intro n
    induction n using Nat.strongRecOn with
    | _ n ih_30 =>
      intro zi_23 zJ_24 H locs ls hn b_zi_23 e_lp_30_0 e_lp_30_1 hP hD hS hl
      refine lv_iload_n hx hb dX11_countFront_2 rfl (lv_at hl 1 rfl) ?_
      refine lv_sipush (v := 1440) hx hb dX11_countFront_3 (by decide) ?_
      refine lv_icmp_ge (tgt := 22) hx hb dX11_countFront_6 (by decide) (fun c_31 => ?_) (fun c_31 => ?_)
      · have f_32 : zi_23.toInt ≥ (1440 : Int) := ic_ge (rfl) (show (1440 : Int32).toInt = 1440 by decide) c_31
        refine lv_iconst (v := 0) hx hb dX11_countFront_22 (by decide) ?_
        refine lv_istore_n (lv' := [(1, .int 0), (0, .ref zy)]) hx hb dX11_countFront_23 rfl hl (by decide) rfl (fun ls hl => ?_)
        have lp_190 : ∀ (n : Nat) (zi_154 : Int32) (zJ_155 : Nat → Nat → Int64) (H : Heap) (locs : List Loc) (ls : Array Slot), (24 - zi_154.toInt).toNat = n → (0 ≤ zi_154.toInt ∧ zi_154.toInt ≤ 24) → (CFv (RB (zI zy 7).toInt (zI (zR zy 9)) (zI (zR zy 10)) (zI (zR zy 11)) (zI (zR zy 12))) (zI zy 6).toInt (zI (zR zy 9) 0) (clr (zJ (zR zy 13)) 1440) = V0 (RB (zI zy 7).toInt (zI (zR zy 9)) (zI (zR zy 10)) (zI (zR zy 11)) (zI (zR zy 12))) (zI zy 6).toInt (zI (zR zy 9) 0) zi_154.toInt (zJ_155 (zR zy 13))) → (zJ_155 zy 20 = zJ zy 20) → va_P (dC, dI) vwCl (WL cy zL zT zR zI zJ_155) H → va_D A (WL cy zL zT zR zI zJ_155) → va_S A s.heap H locs → lv_has ls 8 [(0, .ref zy), (1, .int zi_154)] → W p l e ({ frames := 1, cells := 0, slots := 0, locals := 25 } : Room) s m ([.ref zy] : List Value).toArray below meth c H locs 0 0 Q (F0 m 24 ls []) := by
          intro n
          induction n using Nat.strongRecOn with
          | _ n ih_190 =>
            intro zi_154 zJ_155 H locs ls hn b_zi_154 e_lp_190_0 e_lp_190_1 hP hD hS hl
            refine lv_iload_n hx hb dX11_countFront_24 rfl (lv_at hl 1 rfl) ?_
            refine lv_bipush (v := 24) hx hb dX11_countFront_25 (by decide) ?_
            have jn_208 : ∀  (H : Heap) (locs : List Loc) (ls : Array Slot), (CFv (RB (zI zy 7).toInt (zI (zR zy 9)) (zI (zR zy 10)) (zI (zR zy 11)) (zI (zR zy 12))) (zI zy 6).toInt (zI (zR zy 9) 0) (clr (zJ (zR zy 13)) 1440) = V1 (RB (zI zy 7).toInt (zI (zR zy 9)) (zI (zR zy 10)) (zI (zR zy 11)) (zI (zR zy 12))) (zI zy 6).toInt ((1 : Int32).toInt) (zJ_155 (zR zy 13))) → (zJ_155 zy 20 = zJ zy 20) → va_P (dC, dI) vwCl (WL cy zL zT zR zI zJ_155) H → va_D A (WL cy zL zT zR zI zJ_155) → va_S A s.heap H locs → lv_has ls 8 [(0, .ref zy), (1, .int zi_154)] → W p l e ({ frames := 1, cells := 0, slots := 0, locals := 25 } : Room) s m ([.ref zy] : List Value).toArray below meth c H locs 0 0 Q (F0 m 65 ls []) := by
              intro  H locs ls e_jn_208_0 e_jn_208_1 hP hD hS hl
              refine lv_iconst (v := 1) hx hb dX11_countFront_65 (by decide) ?_
              refine lv_istore_n (lv' := [(1, .int 1), (0, .ref zy)]) hx hb dX11_countFront_66 rfl hl (by decide) rfl (fun ls hl => ?_)
              have lp_3673 : ∀ (n : Nat) (zi_3255 : Int32) (zJ_3256 : Nat → Nat → Int64) (H : Heap) (locs : List Loc) (ls : Array Slot), (12 - zi_3255.toInt).toNat = n → (1 ≤ zi_3255.toInt ∧ zi_3255.toInt ≤ 12) → (CFv (RB (zI zy 7).toInt (zI (zR zy 9)) (zI (zR zy 10)) (zI (zR zy 11)) (zI (zR zy 12))) (zI zy 6).toInt (zI (zR zy 9) 0) (clr (zJ (zR zy 13)) 1440) = V1 (RB (zI zy 7).toInt (zI (zR zy 9)) (zI (zR zy 10)) (zI (zR zy 11)) (zI (zR zy 12))) (zI zy 6).toInt zi_3255.toInt (zJ_3256 (zR zy 13))) → (zJ_3256 zy 20 = zJ zy 20) → va_P (dC, dI) vwCl (WL cy zL zT zR zI zJ_3256) H → va_D A (WL cy zL zT zR zI zJ_3256) → va_S A s.heap H locs → lv_has ls 8 [(0, .ref zy), (1, .int zi_3255)] → W p l e ({ frames := 1, cells := 0, slots := 0, locals := 25 } : Room) s m ([.ref zy] : List Value).toArray below meth c H locs 0 0 Q (F0 m 67 ls []) := by
                intro n
                induction n using Nat.strongRecOn with
                | _ n ih_3673 =>
                  intro zi_3255 zJ_3256 H locs ls hn b_zi_3255 e_lp_3673_0 e_lp_3673_1 hP hD hS hl
                  refine lv_iload_n hx hb dX11_countFront_67 rfl (lv_at hl 1 rfl) ?_
                  refine lv_aload_n hx hb dX11_countFront_68 rfl (lv_at hl 0 rfl) ?_
                  refine ht_geti (C := RX11) (T := TX11) (N := 28) hx hb hts (by decide +kernel) hown hK hP hs t_zy (by decide) rfl rfl 6 (by decide) (hts (.fieldLink RX11 192 "DripStoneModel" "places" "I") (by decide +kernel)) (fun _ h9 => h9) rfl dX11_countFront_69 ?_
                  refine lv_topi (fun zi_3674 ezi_3674 => ?_)
                  have tzi_3674 : 0 ≤ zi_3674.toInt ∧ zi_3674.toInt ≤ 12 := by rw [ezi_3674]; exact h_zI.at t_zy _ rfl
                  have lzi_3674 : (zI zy 6).toInt = zi_3674.toInt := by rw [ezi_3674]
                  refine lv_icmp_ge (tgt := 180) hx hb dX11_countFront_72 (by decide) (fun c_3675 => ?_) (fun c_3675 => ?_)
                  · have f_3676 : zi_3255.toInt ≥ zi_3674.toInt := ic_ge (rfl) (rfl) c_3675
                    refine lv_aload_n hx hb dX11_countFront_180 rfl (lv_at hl 0 rfl) ?_
                    refine lv_lconst (v := 0) hx hb dX11_countFront_181 (by decide) ?_
                    refine ht_putl (v := (0 : Int64)) (ty := .long) (C := RX11) (T := TX11) (N := 28) hx hb hts (by decide +kernel) tyX11 tyX11_ok nmX11 hown hK hP hD hS hs t_zy (by decide) rfl rfl 15 (by decide) (hts (.fieldLink RX11 217 "DripStoneModel" "total" "J") (by decide +kernel)) (fun _ h9 => h9) rfl (by decide +kernel) rfl rfl rfl dX11_countFront_182 (fun H locs hP hD hS => ?_)
                    generalize uzJ_3677 : u2 zJ_3256 zy 15 (0 : Int64) = zJ_3677 at hP hD
                    refine lv_iconst (v := 0) hx hb dX11_countFront_185 (by decide) ?_
                    refine lv_istore_n (lv' := [(1, .int 0), (0, .ref zy)]) hx hb dX11_countFront_186 rfl hl (by decide) rfl (fun ls hl => ?_)
                    have lp_3920 : ∀ (n : Nat) (zi_3882 : Int32) (zJ_3883 : Nat → Nat → Int64) (H : Heap) (locs : List Loc) (ls : Array Slot), (24 - zi_3882.toInt).toNat = n → (0 ≤ zi_3882.toInt ∧ zi_3882.toInt ≤ 24) → (CFv (RB (zI zy 7).toInt (zI (zR zy 9)) (zI (zR zy 10)) (zI (zR zy 11)) (zI (zR zy 12))) (zI zy 6).toInt (zI (zR zy 9) 0) (clr (zJ (zR zy 13)) 1440) = W1 (zI zy 6).toInt zi_3882.toInt (zJ_3883 (zR zy 13)) (zJ_3883 zy 15)) → (zJ_3883 zy 20 = zJ zy 20) → va_P (dC, dI) vwCl (WL cy zL zT zR zI zJ_3883) H → va_D A (WL cy zL zT zR zI zJ_3883) → va_S A s.heap H locs → lv_has ls 8 [(0, .ref zy), (1, .int zi_3882)] → W p l e ({ frames := 1, cells := 0, slots := 0, locals := 25 } : Room) s m ([.ref zy] : List Value).toArray below meth c H locs 0 0 Q (F0 m 187 ls []) := by
                      intro n
                      induction n using Nat.strongRecOn with
                      | _ n ih_3920 =>
                        intro zi_3882 zJ_3883 H locs ls hn b_zi_3882 e_lp_3920_0 e_lp_3920_1 hP hD hS hl
                        refine lv_iload_n hx hb dX11_countFront_187 rfl (lv_at hl 1 rfl) ?_
                        refine lv_bipush (v := 24) hx hb dX11_countFront_188 (by decide) ?_
                        refine lv_icmp_ge (tgt := 244) hx hb dX11_countFront_190 (by decide) (fun c_3921 => ?_) (fun c_3921 => ?_)
                        · have f_3922 : zi_3882.toInt ≥ (24 : Int) := ic_ge (rfl) (show (24 : Int32).toInt = 24 by decide) c_3921
                          subst hQ
                          exact W.vret hx hb hr (fun t ht hW => ⟨⟨zJ_3883, rfl, ⟨(show zJ_3883 zy 15 = CT zR zI zy from (CT.mk9 (h_zI.at t_zy 7 (lo := 0) (hi := 4) rfl).2 (h_zI.at t_zy 6 (lo := 0) (hi := 12) rfl).2 (W1.e e_lp_3920_0 (by omega)))), (show 0 ≤ (zJ_3883 zy 15).toInt ∧ (zJ_3883 zy 15).toInt ≤ 1000000000 from (by rw [(CT.mk9 (h_zI.at t_zy 7 (lo := 0) (hi := 4) rfl).2 (h_zI.at t_zy 6 (lo := 0) (hi := 12) rfl).2 (W1.e e_lp_3920_0 (by omega)))]; exact CT.bd (h_zI.at t_zy 7 (lo := 0) (hi := 4) rfl).2 (h_zI.at t_zy 6 (lo := 0) (hi := 12) rfl).2)), (show zJ_3883 zy 20 = zJ zy 20 from e_lp_3920_1)⟩, ⟨by rw [ht]; exact hP, va_K.moved hW.alike hK, hD⟩⟩, hS.F ht⟩) hS.2.2 dX11_countFront_244
                        · have f_3922 : ¬ (zi_3882.toInt ≥ (24 : Int)) := ic_nge (rfl) (show (24 : Int32).toInt = 24 by decide) c_3921
                          refine lv_aload_n hx hb dX11_countFront_193 rfl (lv_at hl 0 rfl) ?_
                          refine ht_geti (C := RX11) (T := TX11) (N := 28) hx hb hts (by decide +kernel) hown hK hP hs t_zy (by decide) rfl rfl 6 (by decide) (hts (.fieldLink RX11 192 "DripStoneModel" "places" "I") (by decide +kernel)) (fun _ h9 => h9) rfl dX11_countFront_194 ?_
                          refine lv_topi (fun zi_3923 ezi_3923 => ?_)
                          obtain rfl : zi_3674 = zi_3923 := (ezi_3923.trans ezi_3674.symm).symm
                          refine lv_if_le (tgt := 244) hx hb dX11_countFront_197 (by decide) (fun c_3924 => ?_) (fun c_3924 => ?_)
                          · have f_3925 : zi_3674.toInt ≤ 0 := ic_le (rfl) (by decide) c_3924
                            subst hQ
                            exact W.vret hx hb hr (fun t ht hW => ⟨⟨zJ_3883, rfl, ⟨(show zJ_3883 zy 15 = CT zR zI zy from (CT.mk9 (h_zI.at t_zy 7 (lo := 0) (hi := 4) rfl).2 (h_zI.at t_zy 6 (lo := 0) (hi := 12) rfl).2 (W1.e e_lp_3920_0 (by omega)))), (show 0 ≤ (zJ_3883 zy 15).toInt ∧ (zJ_3883 zy 15).toInt ≤ 1000000000 from (by rw [(CT.mk9 (h_zI.at t_zy 7 (lo := 0) (hi := 4) rfl).2 (h_zI.at t_zy 6 (lo := 0) (hi := 12) rfl).2 (W1.e e_lp_3920_0 (by omega)))]; exact CT.bd (h_zI.at t_zy 7 (lo := 0) (hi := 4) rfl).2 (h_zI.at t_zy 6 (lo := 0) (hi := 12) rfl).2)), (show zJ_3883 zy 20 = zJ zy 20 from e_lp_3920_1)⟩, ⟨by rw [ht]; exact hP, va_K.moved hW.alike hK, hD⟩⟩, hS.F ht⟩) hS.2.2 dX11_countFront_244
                          · have f_3925 : ¬ (zi_3674.toInt ≤ 0) := ic_nle (rfl) (by decide) c_3924
                            refine lv_iconst (v := 1) hx hb dX11_countFront_200 (by decide) ?_
                            refine lv_istore_n (lv' := [(2, .int 1), (0, .ref zy), (1, .int zi_3882)]) hx hb dX11_countFront_201 rfl hl (by decide) rfl (fun ls hl => ?_)
                            have lp_3942 : ∀ (n : Nat) (zi_3926 : Int32) (zJ_3927 : Nat → Nat → Int64) (H : Heap) (locs : List Loc) (ls : Array Slot), (5 - zi_3926.toInt).toNat = n → (1 ≤ zi_3926.toInt ∧ zi_3926.toInt ≤ 5) → (CFv (RB (zI zy 7).toInt (zI (zR zy 9)) (zI (zR zy 10)) (zI (zR zy 11)) (zI (zR zy 12))) (zI zy 6).toInt (zI (zR zy 9) 0) (clr (zJ (zR zy 13)) 1440) = W2 (zI zy 6).toInt zi_3882.toInt zi_3926.toInt (zJ_3927 (zR zy 13)) (zJ_3927 zy 15)) → (zJ_3927 zy 20 = zJ zy 20) → va_P (dC, dI) vwCl (WL cy zL zT zR zI zJ_3927) H → va_D A (WL cy zL zT zR zI zJ_3927) → va_S A s.heap H locs → lv_has ls 8 [(0, .ref zy), (1, .int zi_3882), (2, .int zi_3926)] → W p l e ({ frames := 1, cells := 0, slots := 0, locals := 25 } : Room) s m ([.ref zy] : List Value).toArray below meth c H locs 0 0 Q (F0 m 202 ls []) := by
                              intro n
                              induction n using Nat.strongRecOn with
                              | _ n ih_3942 =>
                                intro zi_3926 zJ_3927 H locs ls hn b_zi_3926 e_lp_3942_0 e_lp_3942_1 hP hD hS hl
                                refine lv_iload_n hx hb dX11_countFront_202 rfl (lv_at hl 2 rfl) ?_
                                refine lv_iconst (v := 5) hx hb dX11_countFront_203 (by decide) ?_
                                refine lv_icmp_ge (tgt := 238) hx hb dX11_countFront_204 (by decide) (fun c_3943 => ?_) (fun c_3943 => ?_)
                                · have f_3944 : zi_3926.toInt ≥ (5 : Int) := ic_ge (rfl) (show (5 : Int32).toInt = 5 by decide) c_3943
                                  obtain ⟨zi_3945, ezi_3945⟩ : ∃ y : Int32, y = zi_3882 + 1 := ⟨_, rfl⟩
                                  have tzi_3945 : zi_3945.toInt = zi_3882.toInt + 1 := by rw [ezi_3945]; exact tadd rfl (show (1 : Int32).toInt = 1 by decide) (by omega) (by omega)
                                  refine lv_iinc (v := zi_3945) (lv' := [(1, .int zi_3945), (0, .ref zy), (2, .int zi_3926)]) hx hb dX11_countFront_238 hl (k := 1) rfl (by rw [ezi_3945]; rfl) (by decide) rfl (fun ls hl => ?_)
                                  refine lv_goto (tgt := 187) hx hb dX11_countFront_241 (by decide) ?_
                                  exact ih_3920 (24 - zi_3945.toInt).toNat (by omega) zi_3945 zJ_3927 _ _ _ rfl (by omega) (W2.e e_lp_3942_0 (by omega) (by omega)) e_lp_3942_1 hP hD hS (lv_sub hl [1, 0] rfl)
                                · have f_3944 : ¬ (zi_3926.toInt ≥ (5 : Int)) := ic_nge (rfl) (show (5 : Int32).toInt = 5 by decide) c_3943
                                  refine lv_aload_n hx hb dX11_countFront_207 rfl (lv_at hl 0 rfl) ?_
                                  refine lv_dup hx hb dX11_countFront_208 rfl ?_
                                  refine ht_getl (C := RX11) (T := TX11) (N := 28) hx hb hts (by decide +kernel) hown hK hP hs t_zy (by decide) rfl rfl 15 (by decide) (hts (.fieldLink RX11 217 "DripStoneModel" "total" "J") (by decide +kernel)) (fun _ h9 => h9) rfl dX11_countFront_209 ?_
                                  refine lv_topl (fun zj_3946 ezj_3946 => ?_)
                                  refine lv_aload_n hx hb dX11_countFront_212 rfl (lv_at hl 0 rfl) ?_
                                  refine ht_getr (C := RX11) (T := TX11) (N := 28) hx hb hts (by decide +kernel) hown hK hP hs t_zy (by decide) rfl rfl 13 (by decide) (hts (.fieldLink RX11 34 "DripStoneModel" "front" "[J") (by decide +kernel)) (fun _ h9 => h9) rfl dX11_countFront_213 ?_
                                  have t_3947 : zT (zR zy 13) = 113 := sk_f hs t_zy (by decide) rfl (by decide)
                                  refine lv_aload_n hx hb dX11_countFront_216 rfl (lv_at hl 0 rfl) ?_
                                  refine ht_geti (C := RX11) (T := TX11) (N := 28) hx hb hts (by decide +kernel) hown hK hP hs t_zy (by decide) rfl rfl 6 (by decide) (hts (.fieldLink RX11 192 "DripStoneModel" "places" "I") (by decide +kernel)) (fun _ h9 => h9) rfl dX11_countFront_217 ?_
                                  refine lv_topi (fun zi_3948 ezi_3948 => ?_)
                                  obtain rfl : zi_3674 = zi_3948 := (ezi_3948.trans ezi_3674.symm).symm
                                  refine lv_iconst (v := 1) hx hb dX11_countFront_220 (by decide) ?_
                                  refine lv_isub hx hb dX11_countFront_221 ?_
                                  refine lv_topi (fun zi_3949 ezi_3949 => ?_)
                                  have tzi_3949 : zi_3949.toInt = zi_3674.toInt - (1 : Int) := by rw [ezi_3949]; exact tisub (rfl) (show (1 : Int32).toInt = 1 by decide) (by omega) (by omega)
                                  refine lv_iload_n hx hb dX11_countFront_222 rfl (lv_at hl 1 rfl) ?_
                                  refine lv_iload_n hx hb dX11_countFront_223 rfl (lv_at hl 2 rfl) ?_
                                  refine hj0_i (ws := (WL cy zL zT zR zI zJ_3927)) (va_runS (As := [.int zi_3949, .int zi_3882, .int zi_3926]) (rest := [.ref (zR zy 13), .long zj_3946, .ref zy]) ⟨hx, hb, hml, hown, hts⟩ (c_X11_cellOf l dC dI cy H.size zi_3949 zi_3882 zi_3926 (by omega) (by omega) (by omega)) (va_cwS 3 hts gX11_countFront_X11_cellOf rfl rfl rfl (by decide +kernel) ⟨(Nat.le_of_ble_eq_true rfl), (Nat.le_of_ble_eq_true rfl)⟩) (PRE.s (hP.sub [] rfl) hK (hD.sub [] (by decide) rfl) hN) rfl rfl hl.1 rfl (lv_room (Nat.le_of_ble_eq_true rfl)) dX11_countFront_224 ⟨(Nat.le_of_ble_eq_true rfl), (Nat.le_of_ble_eq_true rfl)⟩) hP hD hS hA (fun zi_3950 u_3952 H locs hw_3951 hP hD hS => ?_)
                                  obtain ⟨b_zi_3950, ps_3953⟩ : (0 ≤ zi_3950.toInt ∧ zi_3950.toInt ≤ 1439) ∧ (zi_3950.toInt = 120 * zi_3949.toInt + 5 * zi_3882.toInt + zi_3926.toInt) := hw_3951
                                  refine ht_lald (n := 1440) (q := 1) hx hb hK hP hs t_3947 (by decide) rfl rfl ⟨by omega, by omega⟩ dX11_countFront_227 ?_
                                  refine lv_topl (fun zj_3954 ezj_3954 => ?_)
                                  refine lv_ladd hx hb dX11_countFront_228 ?_
                                  refine lv_topl (fun zj_3955 ezj_3955 => ?_)
                                  refine ht_putl (v := zj_3955) (ty := .long) (C := RX11) (T := TX11) (N := 28) hx hb hts (by decide +kernel) tyX11 tyX11_ok nmX11 hown hK hP hD hS hs t_zy (by decide) rfl rfl 15 (by decide) (hts (.fieldLink RX11 217 "DripStoneModel" "total" "J") (by decide +kernel)) (fun _ h9 => h9) rfl (by decide +kernel) rfl rfl rfl dX11_countFront_229 (fun H locs hP hD hS => ?_)
                                  generalize uzJ_3956 : u2 zJ_3927 zy 15 zj_3955 = zJ_3956 at hP hD
                                  obtain ⟨zi_3957, ezi_3957⟩ : ∃ y : Int32, y = zi_3926 + 1 := ⟨_, rfl⟩
                                  have tzi_3957 : zi_3957.toInt = zi_3926.toInt + 1 := by rw [ezi_3957]; exact tadd rfl (show (1 : Int32).toInt = 1 by decide) (by omega) (by omega)
                                  refine lv_iinc (v := zi_3957) (lv' := [(2, .int zi_3957), (0, .ref zy), (1, .int zi_3882)]) hx hb dX11_countFront_232 hl (k := 2) rfl (by rw [ezi_3957]; rfl) (by decide) rfl (fun ls hl => ?_)
                                  refine lv_goto (tgt := 202) hx hb dX11_countFront_235 (by decide) ?_
                                  exact ih_3942 (5 - zi_3957.toInt).toNat (by omega) zi_3957 zJ_3956 _ _ _ rfl (by omega) (by rw [← uzJ_3956, u2_a (tne t_3947 t_zy (by decide)), u2_s]; exact W2.s e_lp_3942_0 (by omega) (by omega) (by omega) ezj_3954 (by rw [← ezj_3946]; exact ezj_3955)) ((show zJ_3956 zy 20 = zJ_3927 zy 20 from by rw [← uzJ_3956]; exact u2_k (by decide)).trans e_lp_3942_1) hP hD hS (lv_sub hl [1, 2, 0] rfl)
                            have qc_1 : (1 : Int32).toInt = 1 := by decide
                            exact lp_3942 _ (1 : Int32) zJ_3883 _ _ _ rfl (by decide) (W1.s e_lp_3920_0 (by omega) (by omega)) e_lp_3920_1 hP hD hS (lv_sub hl [1, 2, 0] rfl)
                    have qc_0 : (0 : Int32).toInt = 0 := by decide
                    have t_3958 : zT (zR zy 13) = 113 := sk_f hs t_zy (by decide) rfl (by decide)
                    exact lp_3920 _ (0 : Int32) zJ_3677 _ _ _ rfl (by decide) (by rw [← uzJ_3677, u2_a (tne t_3958 t_zy (by decide)), u2_s]; exact V1.e e_lp_3673_0 (by omega) rfl) ((show zJ_3677 zy 20 = zJ_3256 zy 20 from by rw [← uzJ_3677]; exact u2_k (by decide)).trans e_lp_3673_1) hP hD hS (lv_sub hl [1, 0] rfl)
                  · have f_3676 : ¬ (zi_3255.toInt ≥ zi_3674.toInt) := ic_nge (rfl) (rfl) c_3675
                    refine lv_iconst (v := 0) hx hb dX11_countFront_75 (by decide) ?_
                    refine lv_istore_n (lv' := [(2, .int 0), (0, .ref zy), (1, .int zi_3255)]) hx hb dX11_countFront_76 rfl hl (by decide) rfl (fun ls hl => ?_)
                    have lp_4166 : ∀ (n : Nat) (zi_3959 : Int32) (zJ_3960 : Nat → Nat → Int64) (H : Heap) (locs : List Loc) (ls : Array Slot), (24 - zi_3959.toInt).toNat = n → (0 ≤ zi_3959.toInt ∧ zi_3959.toInt ≤ 24) → (CFv (RB (zI zy 7).toInt (zI (zR zy 9)) (zI (zR zy 10)) (zI (zR zy 11)) (zI (zR zy 12))) (zI zy 6).toInt (zI (zR zy 9) 0) (clr (zJ (zR zy 13)) 1440) = V2 (RB (zI zy 7).toInt (zI (zR zy 9)) (zI (zR zy 10)) (zI (zR zy 11)) (zI (zR zy 12))) (zI zy 6).toInt zi_3255.toInt zi_3959.toInt (zJ_3960 (zR zy 13))) → (zJ_3960 zy 20 = zJ zy 20) → va_P (dC, dI) vwCl (WL cy zL zT zR zI zJ_3960) H → va_D A (WL cy zL zT zR zI zJ_3960) → va_S A s.heap H locs → lv_has ls 8 [(0, .ref zy), (1, .int zi_3255), (2, .int zi_3959)] → W p l e ({ frames := 1, cells := 0, slots := 0, locals := 25 } : Room) s m ([.ref zy] : List Value).toArray below meth c H locs 0 0 Q (F0 m 77 ls []) := by
                      intro n
                      induction n using Nat.strongRecOn with
                      | _ n ih_4166 =>
                        intro zi_3959 zJ_3960 H locs ls hn b_zi_3959 e_lp_4166_0 e_lp_4166_1 hP hD hS hl
                        refine lv_iload_n hx hb dX11_countFront_77 rfl (lv_at hl 2 rfl) ?_
                        refine lv_bipush (v := 24) hx hb dX11_countFront_78 (by decide) ?_
                        refine lv_icmp_ge (tgt := 174) hx hb dX11_countFront_80 (by decide) (fun c_4167 => ?_) (fun c_4167 => ?_)
                        · have f_4168 : zi_3959.toInt ≥ (24 : Int) := ic_ge (rfl) (show (24 : Int32).toInt = 24 by decide) c_4167
                          obtain ⟨zi_4169, ezi_4169⟩ : ∃ y : Int32, y = zi_3255 + 1 := ⟨_, rfl⟩
                          have tzi_4169 : zi_4169.toInt = zi_3255.toInt + 1 := by rw [ezi_4169]; exact tadd rfl (show (1 : Int32).toInt = 1 by decide) (by omega) (by omega)
                          refine lv_iinc (v := zi_4169) (lv' := [(1, .int zi_4169), (0, .ref zy), (2, .int zi_3959)]) hx hb dX11_countFront_174 hl (k := 1) rfl (by rw [ezi_4169]; rfl) (by decide) rfl (fun ls hl => ?_)
                          refine lv_goto (tgt := 67) hx hb dX11_countFront_177 (by decide) ?_
                          exact ih_3673 (12 - zi_4169.toInt).toNat (by omega) zi_4169 zJ_3960 _ _ _ rfl (by omega) (V2.e e_lp_4166_0 (by omega) (by omega)) e_lp_4166_1 hP hD hS (lv_sub hl [1, 0] rfl)
                        · have f_4168 : ¬ (zi_3959.toInt ≥ (24 : Int)) := ic_nge (rfl) (show (24 : Int32).toInt = 24 by decide) c_4167
                          refine lv_iconst (v := 1) hx hb dX11_countFront_83 (by decide) ?_
                          refine lv_istore_n (lv' := [(3, .int 1), (0, .ref zy), (1, .int zi_3255), (2, .int zi_3959)]) hx hb dX11_countFront_84 rfl hl (by decide) rfl (fun ls hl => ?_)
                          have lp_4272 : ∀ (n : Nat) (zi_4170 : Int32) (zJ_4171 : Nat → Nat → Int64) (H : Heap) (locs : List Loc) (ls : Array Slot), (5 - zi_4170.toInt).toNat = n → (1 ≤ zi_4170.toInt ∧ zi_4170.toInt ≤ 5) → (CFv (RB (zI zy 7).toInt (zI (zR zy 9)) (zI (zR zy 10)) (zI (zR zy 11)) (zI (zR zy 12))) (zI zy 6).toInt (zI (zR zy 9) 0) (clr (zJ (zR zy 13)) 1440) = V3 (RB (zI zy 7).toInt (zI (zR zy 9)) (zI (zR zy 10)) (zI (zR zy 11)) (zI (zR zy 12))) (zI zy 6).toInt zi_3255.toInt zi_3959.toInt zi_4170.toInt (zJ_4171 (zR zy 13))) → (zJ_4171 zy 20 = zJ zy 20) → va_P (dC, dI) vwCl (WL cy zL zT zR zI zJ_4171) H → va_D A (WL cy zL zT zR zI zJ_4171) → va_S A s.heap H locs → lv_has ls 8 [(0, .ref zy), (1, .int zi_3255), (2, .int zi_3959), (3, .int zi_4170)] → W p l e ({ frames := 1, cells := 0, slots := 0, locals := 25 } : Room) s m ([.ref zy] : List Value).toArray below meth c H locs 0 0 Q (F0 m 85 ls []) := by
                            intro n
                            induction n using Nat.strongRecOn with
                            | _ n ih_4272 =>
                              intro zi_4170 zJ_4171 H locs ls hn b_zi_4170 e_lp_4272_0 e_lp_4272_1 hP hD hS hl
                              refine lv_iload_n hx hb dX11_countFront_85 rfl (lv_at hl 3 rfl) ?_
                              refine lv_iconst (v := 5) hx hb dX11_countFront_86 (by decide) ?_
                              refine lv_icmp_ge (tgt := 168) hx hb dX11_countFront_87 (by decide) (fun c_4273 => ?_) (fun c_4273 => ?_)
                              · have f_4274 : zi_4170.toInt ≥ (5 : Int) := ic_ge (rfl) (show (5 : Int32).toInt = 5 by decide) c_4273
                                obtain ⟨zi_4275, ezi_4275⟩ : ∃ y : Int32, y = zi_3959 + 1 := ⟨_, rfl⟩
                                have tzi_4275 : zi_4275.toInt = zi_3959.toInt + 1 := by rw [ezi_4275]; exact tadd rfl (show (1 : Int32).toInt = 1 by decide) (by omega) (by omega)
                                refine lv_iinc (v := zi_4275) (lv' := [(2, .int zi_4275), (0, .ref zy), (1, .int zi_3255), (3, .int zi_4170)]) hx hb dX11_countFront_168 hl (k := 2) rfl (by rw [ezi_4275]; rfl) (by decide) rfl (fun ls hl => ?_)
                                refine lv_goto (tgt := 77) hx hb dX11_countFront_171 (by decide) ?_
                                exact ih_4166 (24 - zi_4275.toInt).toNat (by omega) zi_4275 zJ_4171 _ _ _ rfl (by omega) (V3.e e_lp_4272_0 (by omega) (by omega)) e_lp_4272_1 hP hD hS (lv_sub hl [1, 2, 0] rfl)
                              · have f_4274 : ¬ (zi_4170.toInt ≥ (5 : Int)) := ic_nge (rfl) (show (5 : Int32).toInt = 5 by decide) c_4273
                                refine lv_aload_n hx hb dX11_countFront_90 rfl (lv_at hl 0 rfl) ?_
                                refine ht_getr (C := RX11) (T := TX11) (N := 28) hx hb hts (by decide +kernel) hown hK hP hs t_zy (by decide) rfl rfl 13 (by decide) (hts (.fieldLink RX11 34 "DripStoneModel" "front" "[J") (by decide +kernel)) (fun _ h9 => h9) rfl dX11_countFront_91 ?_
                                have t_4276 : zT (zR zy 13) = 113 := sk_f hs t_zy (by decide) rfl (by decide)
                                refine lv_iload_n hx hb dX11_countFront_94 rfl (lv_at hl 1 rfl) ?_
                                refine lv_iconst (v := 1) hx hb dX11_countFront_95 (by decide) ?_
                                refine lv_isub hx hb dX11_countFront_96 ?_
                                refine lv_topi (fun zi_4277 ezi_4277 => ?_)
                                have tzi_4277 : zi_4277.toInt = zi_3255.toInt - (1 : Int) := by rw [ezi_4277]; exact tisub (rfl) (show (1 : Int32).toInt = 1 by decide) (by omega) (by omega)
                                refine lv_iload_n hx hb dX11_countFront_97 rfl (lv_at hl 2 rfl) ?_
                                refine lv_iload_n hx hb dX11_countFront_98 rfl (lv_at hl 3 rfl) ?_
                                refine hj0_i (ws := (WL cy zL zT zR zI zJ_4171)) (va_runS (As := [.int zi_4277, .int zi_3959, .int zi_4170]) (rest := [.ref (zR zy 13)]) ⟨hx, hb, hml, hown, hts⟩ (c_X11_cellOf l dC dI cy H.size zi_4277 zi_3959 zi_4170 (by omega) (by omega) (by omega)) (va_cwS 3 hts gX11_countFront_X11_cellOf rfl rfl rfl (by decide +kernel) ⟨(Nat.le_of_ble_eq_true rfl), (Nat.le_of_ble_eq_true rfl)⟩) (PRE.s (hP.sub [] rfl) hK (hD.sub [] (by decide) rfl) hN) rfl rfl hl.1 rfl (lv_room (Nat.le_of_ble_eq_true rfl)) dX11_countFront_99 ⟨(Nat.le_of_ble_eq_true rfl), (Nat.le_of_ble_eq_true rfl)⟩) hP hD hS hA (fun zi_4278 u_4280 H locs hw_4279 hP hD hS => ?_)
                                obtain ⟨b_zi_4278, ps_4281⟩ : (0 ≤ zi_4278.toInt ∧ zi_4278.toInt ≤ 1439) ∧ (zi_4278.toInt = 120 * zi_4277.toInt + 5 * zi_3959.toInt + zi_4170.toInt) := hw_4279
                                refine ht_lald (n := 1440) (q := 1) hx hb hK hP hs t_4276 (by decide) rfl rfl ⟨by omega, by omega⟩ dX11_countFront_102 ?_
                                refine lv_topl (fun zj_4282 ezj_4282 => ?_)
                                refine lv_lstore (lv' := [(4, .long zj_4282), (0, .ref zy), (1, .int zi_3255), (2, .int zi_3959), (3, .int zi_4170)]) hx hb dX11_countFront_103 hl (by decide) rfl (fun ls hl => ?_)
                                refine lv_iload_n hx hb dX11_countFront_105 rfl (lv_at hl 3 rfl) ?_
                                refine lv_istore (lv' := [(6, .int zi_3959), (4, .long zj_4282), (0, .ref zy), (1, .int zi_3255), (2, .int zi_3959), (3, .int zi_4170)]) hx hb dX11_countFront_106 hl (by decide) rfl (fun ls hl => ?_)
                                have lp_4329 : ∀ (n : Nat) (zi_4283 : Int32) (zJ_4284 : Nat → Nat → Int64) (H : Heap) (locs : List Loc) (ls : Array Slot), (24 - zi_4283.toInt).toNat = n → (0 ≤ zi_4283.toInt ∧ zi_4283.toInt ≤ 24) → (CFv (RB (zI zy 7).toInt (zI (zR zy 9)) (zI (zR zy 10)) (zI (zR zy 11)) (zI (zR zy 12))) (zI zy 6).toInt (zI (zR zy 9) 0) (clr (zJ (zR zy 13)) 1440) = V4 (RB (zI zy 7).toInt (zI (zR zy 9)) (zI (zR zy 10)) (zI (zR zy 11)) (zI (zR zy 12))) (zI zy 6).toInt zi_3255.toInt zi_3959.toInt zi_4170.toInt zj_4282 zi_4283.toInt (zJ_4284 (zR zy 13))) → (zJ_4284 zy 20 = zJ zy 20) → va_P (dC, dI) vwCl (WL cy zL zT zR zI zJ_4284) H → va_D A (WL cy zL zT zR zI zJ_4284) → va_S A s.heap H locs → lv_has ls 8 [(0, .ref zy), (1, .int zi_3255), (2, .int zi_3959), (3, .int zi_4170), (4, .long zj_4282), (6, .int zi_4283)] → W p l e ({ frames := 1, cells := 0, slots := 0, locals := 25 } : Room) s m ([.ref zy] : List Value).toArray below meth c H locs 0 0 Q (F0 m 108 ls []) := by
                                  intro n
                                  induction n using Nat.strongRecOn with
                                  | _ n ih_4329 =>
                                    intro zi_4283 zJ_4284 H locs ls hn b_zi_4283 e_lp_4329_0 e_lp_4329_1 hP hD hS hl
                                    refine lv_iload hx hb dX11_countFront_108 (lv_at hl 5 rfl) ?_
                                    refine lv_bipush (v := 24) hx hb dX11_countFront_110 (by decide) ?_
                                    have jn_4352 : ∀  (H : Heap) (locs : List Loc) (ls : Array Slot), (CFv (RB (zI zy 7).toInt (zI (zR zy 9)) (zI (zR zy 10)) (zI (zR zy 11)) (zI (zR zy 12))) (zI zy 6).toInt (zI (zR zy 9) 0) (clr (zJ (zR zy 13)) 1440) = V3 (RB (zI zy 7).toInt (zI (zR zy 9)) (zI (zR zy 10)) (zI (zR zy 11)) (zI (zR zy 12))) (zI zy 6).toInt zi_3255.toInt zi_3959.toInt (zi_4170.toInt + 1) (zJ_4284 (zR zy 13))) → (zJ_4284 zy 20 = zJ zy 20) → va_P (dC, dI) vwCl (WL cy zL zT zR zI zJ_4284) H → va_D A (WL cy zL zT zR zI zJ_4284) → va_S A s.heap H locs → lv_has ls 8 [(0, .ref zy), (1, .int zi_3255), (2, .int zi_3959), (3, .int zi_4170), (4, .long zj_4282), (6, .int zi_4283)] → W p l e ({ frames := 1, cells := 0, slots := 0, locals := 25 } : Room) s m ([.ref zy] : List Value).toArray below meth c H locs 0 0 Q (F0 m 162 ls []) := by
                                      intro  H locs ls e_jn_4352_0 e_jn_4352_1 hP hD hS hl
                                      obtain ⟨zi_4353, ezi_4353⟩ : ∃ y : Int32, y = zi_4170 + 1 := ⟨_, rfl⟩
                                      have tzi_4353 : zi_4353.toInt = zi_4170.toInt + 1 := by rw [ezi_4353]; exact tadd rfl (show (1 : Int32).toInt = 1 by decide) (by omega) (by omega)
                                      refine lv_iinc (v := zi_4353) (lv' := [(3, .int zi_4353), (0, .ref zy), (1, .int zi_3255), (2, .int zi_3959), (4, .long zj_4282), (6, .int zi_4283)]) hx hb dX11_countFront_162 hl (k := 3) rfl (by rw [ezi_4353]; rfl) (by decide) rfl (fun ls hl => ?_)
                                      refine lv_goto (tgt := 85) hx hb dX11_countFront_165 (by decide) ?_
                                      exact ih_4272 (5 - zi_4353.toInt).toNat (by omega) zi_4353 zJ_4284 _ _ _ rfl (by omega) (by rw [show zi_4353.toInt = zi_4170.toInt + 1 from by omega]; exact e_jn_4352_0) e_jn_4352_1 hP hD hS (lv_sub hl [1, 2, 3, 0] rfl)
                                    refine lv_icmp_ge (tgt := 162) hx hb dX11_countFront_112 (by decide) (fun c_4354 => ?_) (fun c_4354 => ?_)
                                    · have f_4355 : zi_4283.toInt ≥ (24 : Int) := ic_ge (rfl) (show (24 : Int32).toInt = 24 by decide) c_4354
                                      exact jn_4352  _ _ _ (V4.e e_lp_4329_0 (by omega) rfl) e_lp_4329_1 hP hD hS (lv_sub hl [0, 1, 2, 3, 4, 5] rfl)
                                    · have f_4355 : ¬ (zi_4283.toInt ≥ (24 : Int)) := ic_nge (rfl) (show (24 : Int32).toInt = 24 by decide) c_4354
                                      refine lv_lload hx hb dX11_countFront_115 (lv_at hl 4 rfl) ?_
                                      refine lv_lconst (v := 0) hx hb dX11_countFront_117 (by decide) ?_
                                      refine W.lcmp hx hb dX11_countFront_118 ?_
                                      refine lv_topi (fun zi_4356 ezi_4356 => ?_)
                                      refine lv_if_le (tgt := 162) hx hb dX11_countFront_119 (by decide) (fun c_4357 => ?_) (fun c_4357 => ?_)
                                      · have f_4358 : ¬ (zj_4282.toInt > (0 : Int)) := lk_le ezi_4356 (rfl) (show (0 : Int64).toInt = 0 by decide) c_4357
                                        exact jn_4352  _ _ _ (V4.e e_lp_4329_0 (by omega) rfl) e_lp_4329_1 hP hD hS (lv_sub hl [0, 1, 2, 3, 4, 5] rfl)
                                      · have f_4358 : zj_4282.toInt > (0 : Int) := lk_nle ezi_4356 (rfl) (show (0 : Int64).toInt = 0 by decide) c_4357
                                        refine lv_aload_n hx hb dX11_countFront_122 rfl (lv_at hl 0 rfl) ?_
                                        refine lv_iload_n hx hb dX11_countFront_123 rfl (lv_at hl 1 rfl) ?_
                                        refine lv_iload_n hx hb dX11_countFront_124 rfl (lv_at hl 2 rfl) ?_
                                        refine lv_iload_n hx hb dX11_countFront_125 rfl (lv_at hl 3 rfl) ?_
                                        refine lv_iload hx hb dX11_countFront_126 (lv_at hl 5 rfl) ?_
                                        refine hj_i (ws := (WL cy zL zT zR zI zJ_4284)) (w1 := fun (u : Unit) => (WL cy zL zT zR zI zJ_4284)) (va_runV (As := [.int zi_3255, .int zi_3959, .int zi_4170, .int zi_4283]) (rest := []) ⟨hx, hb, hml, hown, hts⟩ (t_X11_runBehind_f l dC dI cy H.size zL zT zR zI zJ_4284 zy zi_3255 zi_3959 zi_4170 zi_4283 hs h_zI.1 t_zy (by omega) (by omega) (by omega) (by omega)) (cwV 4 hts gX11_countFront_X11_runBehind rfl rfl rfl (by decide +kernel) ⟨(Nat.le_of_ble_eq_true rfl), (Nat.le_of_ble_eq_true rfl)⟩) (PRE.v hP hK hD hN (ht_recv hK hP hs t_zy (by decide) rfl rfl)) rfl rfl hl.1 rfl (lv_room (Nat.le_of_ble_eq_true rfl)) dX11_countFront_128 ⟨(Nat.le_of_ble_eq_true rfl), (Nat.le_of_ble_eq_true rfl)⟩) hP hD hS hA (fun zi_4359 u_4361 H locs hw_4360 hP hD hS => ?_)
                                        obtain ⟨b_zi_4359, ps_4362⟩ : (0 ≤ zi_4359.toInt ∧ zi_4359.toInt ≤ 4) ∧ (zi_4359.toInt = (RB (zI zy 7).toInt (zI (zR zy 9)) (zI (zR zy 10)) (zI (zR zy 11)) (zI (zR zy 12))) zi_3255.toInt zi_3959.toInt zi_4170.toInt zi_4283.toInt) := hw_4360
                                        obtain ⟨zi_4363, ezi_4363⟩ : ∃ y : Int32, y = zI zy 7 := ⟨_, rfl⟩
                                        have tzi_4363 : 0 ≤ zi_4363.toInt ∧ zi_4363.toInt ≤ 4 := by rw [ezi_4363]; exact h_zI.at t_zy _ rfl
                                        have lk_4364 : (zI zy 7).toInt = zi_4363.toInt := congrArg Int32.toInt ezi_4363.symm
                                        refine lv_istore (lv' := [(7, .int zi_4359), (0, .ref zy), (1, .int zi_3255), (2, .int zi_3959), (3, .int zi_4170), (4, .long zj_4282), (6, .int zi_4283)]) hx hb dX11_countFront_131 hl (by decide) rfl (fun ls hl => ?_)
                                        refine lv_iload hx hb dX11_countFront_133 (lv_at hl 0 rfl) ?_
                                        refine lv_if_le (tgt := 156) hx hb dX11_countFront_135 (by decide) (fun c_4365 => ?_) (fun c_4365 => ?_)
                                        · have f_4366 : zi_4359.toInt ≤ 0 := ic_le (rfl) (by decide) c_4365
                                          obtain ⟨zi_4367, ezi_4367⟩ : ∃ y : Int32, y = zi_4283 + 1 := ⟨_, rfl⟩
                                          have tzi_4367 : zi_4367.toInt = zi_4283.toInt + 1 := by rw [ezi_4367]; exact tadd rfl (show (1 : Int32).toInt = 1 by decide) (by omega) (by omega)
                                          refine lv_iinc (v := zi_4367) (lv' := [(6, .int zi_4367), (7, .int zi_4359), (0, .ref zy), (1, .int zi_3255), (2, .int zi_3959), (3, .int zi_4170), (4, .long zj_4282)]) hx hb dX11_countFront_156 hl (k := 6) rfl (by rw [ezi_4367]; rfl) (by decide) rfl (fun ls hl => ?_)
                                          refine lv_goto (tgt := 108) hx hb dX11_countFront_159 (by decide) ?_
                                          exact ih_4329 (24 - zi_4367.toInt).toNat (by omega) zi_4367 zJ_4284 _ _ _ rfl (by omega) (V4.n (q := zi_4359.toInt) e_lp_4329_0 (by omega) (by omega) ps_4362 (by omega) (by omega)) e_lp_4329_1 hP hD hS (lv_sub hl [2, 3, 4, 5, 6, 0] rfl)
                                        · have f_4366 : ¬ (zi_4359.toInt ≤ 0) := ic_nle (rfl) (by decide) c_4365
                                          refine lv_aload_n hx hb dX11_countFront_138 rfl (lv_at hl 1 rfl) ?_
                                          refine ht_getr (C := RX11) (T := TX11) (N := 28) hx hb hts (by decide +kernel) hown hK hP hs t_zy (by decide) rfl rfl 13 (by decide) (hts (.fieldLink RX11 34 "DripStoneModel" "front" "[J") (by decide +kernel)) (fun _ h9 => h9) rfl dX11_countFront_139 ?_
                                          refine lv_iload_n hx hb dX11_countFront_142 rfl (lv_at hl 2 rfl) ?_
                                          refine lv_iload hx hb dX11_countFront_143 (lv_at hl 6 rfl) ?_
                                          refine lv_iload hx hb dX11_countFront_145 (lv_at hl 0 rfl) ?_
                                          refine hj0_i (ws := (WL cy zL zT zR zI zJ_4284)) (va_runS (As := [.int zi_3255, .int zi_4283, .int zi_4359]) (rest := [.ref (zR zy 13)]) ⟨hx, hb, hml, hown, hts⟩ (c_X11_cellOf l dC dI cy H.size zi_3255 zi_4283 zi_4359 (by omega) (by omega) (by omega)) (va_cwS 3 hts gX11_countFront_X11_cellOf rfl rfl rfl (by decide +kernel) ⟨(Nat.le_of_ble_eq_true rfl), (Nat.le_of_ble_eq_true rfl)⟩) (PRE.s (hP.sub [] rfl) hK (hD.sub [] (by decide) rfl) hN) rfl rfl hl.1 rfl (lv_room (Nat.le_of_ble_eq_true rfl)) dX11_countFront_147 ⟨(Nat.le_of_ble_eq_true rfl), (Nat.le_of_ble_eq_true rfl)⟩) hP hD hS hA (fun zi_4368 u_4370 H locs hw_4369 hP hD hS => ?_)
                                          obtain ⟨b_zi_4368, ps_4371⟩ : (0 ≤ zi_4368.toInt ∧ zi_4368.toInt ≤ 1439) ∧ (zi_4368.toInt = 120 * zi_3255.toInt + 5 * zi_4283.toInt + zi_4359.toInt) := hw_4369
                                          refine lv_dup2_11 hx hb dX11_countFront_150 rfl rfl ?_
                                          refine ht_lald (n := 1440) (q := 1) hx hb hK hP hs t_4276 (by decide) rfl rfl ⟨by omega, by omega⟩ dX11_countFront_151 ?_
                                          refine lv_topl (fun zj_4372 ezj_4372 => ?_)
                                          refine lv_lload hx hb dX11_countFront_152 (lv_at hl 5 rfl) ?_
                                          refine lv_ladd hx hb dX11_countFront_154 ?_
                                          refine lv_topl (fun zj_4373 ezj_4373 => ?_)
                                          refine ht_last (v := zj_4373) (n := 1440) (q := 1) hx hb hK hP hD hS hs t_4276 (by decide) rfl rfl ⟨by omega, by omega⟩ dX11_countFront_155 (fun H locs hP hD hS => ?_)
                                          generalize uzJ_4374 : u2 zJ_4284 (zR zy 13) zi_4368.toNatClampNeg zj_4373 = zJ_4374 at hP hD
                                          obtain ⟨zi_4375, ezi_4375⟩ : ∃ y : Int32, y = zi_4283 + 1 := ⟨_, rfl⟩
                                          have tzi_4375 : zi_4375.toInt = zi_4283.toInt + 1 := by rw [ezi_4375]; exact tadd rfl (show (1 : Int32).toInt = 1 by decide) (by omega) (by omega)
                                          refine lv_iinc (v := zi_4375) (lv' := [(6, .int zi_4375), (7, .int zi_4359), (0, .ref zy), (1, .int zi_3255), (2, .int zi_3959), (3, .int zi_4170), (4, .long zj_4282)]) hx hb dX11_countFront_156 hl (k := 6) rfl (by rw [ezi_4375]; rfl) (by decide) rfl (fun ls hl => ?_)
                                          refine lv_goto (tgt := 108) hx hb dX11_countFront_159 (by decide) ?_
                                          exact ih_4329 (24 - zi_4375.toInt).toNat (by omega) zi_4375 zJ_4374 _ _ _ rfl (by omega) (by rw [← uzJ_4374, u2_rl]; exact V4.s (q := zi_4359.toInt) e_lp_4329_0 (by omega) (by omega) ps_4362 (by omega) (by omega) (by omega) ezj_4372 ezj_4373) ((show zJ_4374 zy 20 = zJ_4284 zy 20 from by rw [← uzJ_4374]; exact u2_n (tne t_zy t_4276 (by decide))).trans e_lp_4329_1) hP hD hS (lv_sub hl [2, 3, 4, 5, 6, 0] rfl)
                                exact lp_4329 _ zi_3959 zJ_4171 _ _ _ rfl (by omega) (V3.s e_lp_4272_0 (by omega) (by omega) (by omega) ezj_4282 rfl) e_lp_4272_1 hP hD hS (lv_sub hl [2, 3, 4, 5, 1, 0] rfl)
                          have qc_1 : (1 : Int32).toInt = 1 := by decide
                          exact lp_4272 _ (1 : Int32) zJ_3960 _ _ _ rfl (by decide) (V2.s e_lp_4166_0 (by omega)) e_lp_4166_1 hP hD hS (lv_sub hl [1, 2, 3, 0] rfl)
                    have qc_0 : (0 : Int32).toInt = 0 := by decide
                    exact lp_4166 _ (0 : Int32) zJ_3256 _ _ _ rfl (by decide) (V1.s e_lp_3673_0 (by omega)) e_lp_3673_1 hP hD hS (lv_sub hl [1, 2, 0] rfl)
              have qc_1 : (1 : Int32).toInt = 1 := by decide
              exact lp_3673 _ (1 : Int32) zJ_155 _ _ _ rfl (by decide) e_jn_208_0 e_jn_208_1 hP hD hS (lv_sub hl [1, 0] rfl)
            refine lv_icmp_ge (tgt := 65) hx hb dX11_countFront_27 (by decide) (fun c_4376 => ?_) (fun c_4376 => ?_)
            · have f_4377 : zi_154.toInt ≥ (24 : Int) := ic_ge (rfl) (show (24 : Int32).toInt = 24 by decide) c_4376
              exact jn_208  _ _ _ (V0.e e_lp_190_0 (by omega)) e_lp_190_1 hP hD hS (lv_sub hl [0, 1] rfl)
            · have f_4377 : ¬ (zi_154.toInt ≥ (24 : Int)) := ic_nge (rfl) (show (24 : Int32).toInt = 24 by decide) c_4376
              refine lv_aload_n hx hb dX11_countFront_30 rfl (lv_at hl 0 rfl) ?_
              refine ht_geti (C := RX11) (T := TX11) (N := 28) hx hb hts (by decide +kernel) hown hK hP hs t_zy (by decide) rfl rfl 6 (by decide) (hts (.fieldLink RX11 192 "DripStoneModel" "places" "I") (by decide +kernel)) (fun _ h9 => h9) rfl dX11_countFront_31 ?_
              refine lv_topi (fun zi_4378 ezi_4378 => ?_)
              have tzi_4378 : 0 ≤ zi_4378.toInt ∧ zi_4378.toInt ≤ 12 := by rw [ezi_4378]; exact h_zI.at t_zy _ rfl
              have lzi_4378 : (zI zy 6).toInt = zi_4378.toInt := by rw [ezi_4378]
              refine lv_if_le (tgt := 65) hx hb dX11_countFront_34 (by decide) (fun c_4379 => ?_) (fun c_4379 => ?_)
              · have f_4380 : zi_4378.toInt ≤ 0 := ic_le (rfl) (by decide) c_4379
                exact jn_208  _ _ _ (V0.e e_lp_190_0 (by omega)) e_lp_190_1 hP hD hS (lv_sub hl [0, 1] rfl)
              · have f_4380 : ¬ (zi_4378.toInt ≤ 0) := ic_nle (rfl) (by decide) c_4379
                refine lv_aload_n hx hb dX11_countFront_37 rfl (lv_at hl 0 rfl) ?_
                refine ht_getr (C := RX11) (T := TX11) (N := 28) hx hb hts (by decide +kernel) hown hK hP hs t_zy (by decide) rfl rfl 13 (by decide) (hts (.fieldLink RX11 34 "DripStoneModel" "front" "[J") (by decide +kernel)) (fun _ h9 => h9) rfl dX11_countFront_38 ?_
                have t_4381 : zT (zR zy 13) = 113 := sk_f hs t_zy (by decide) rfl (by decide)
                refine lv_iconst (v := 0) hx hb dX11_countFront_41 (by decide) ?_
                refine lv_iload_n hx hb dX11_countFront_42 rfl (lv_at hl 1 rfl) ?_
                refine lv_iconst (v := 1) hx hb dX11_countFront_43 (by decide) ?_
                have qc_0 : (0 : Int32).toInt = 0 := by decide
                have qc_1 : (1 : Int32).toInt = 1 := by decide
                refine hj0_i (ws := (WL cy zL zT zR zI zJ_155)) (va_runS (As := [.int 0, .int zi_154, .int 1]) (rest := [.ref (zR zy 13)]) ⟨hx, hb, hml, hown, hts⟩ (c_X11_cellOf l dC dI cy H.size (0 : Int32) zi_154 (1 : Int32) (by decide) (by omega) (by decide)) (va_cwS 3 hts gX11_countFront_X11_cellOf rfl rfl rfl (by decide +kernel) ⟨(Nat.le_of_ble_eq_true rfl), (Nat.le_of_ble_eq_true rfl)⟩) (PRE.s (hP.sub [] rfl) hK (hD.sub [] (by decide) rfl) hN) rfl rfl hl.1 rfl (lv_room (Nat.le_of_ble_eq_true rfl)) dX11_countFront_44 ⟨(Nat.le_of_ble_eq_true rfl), (Nat.le_of_ble_eq_true rfl)⟩) hP hD hS hA (fun zi_4382 u_4384 H locs hw_4383 hP hD hS => ?_)
                obtain ⟨b_zi_4382, ps_4385⟩ : (0 ≤ zi_4382.toInt ∧ zi_4382.toInt ≤ 1439) ∧ (zi_4382.toInt = 120 * (0 : Int32).toInt + 5 * zi_154.toInt + (1 : Int32).toInt) := hw_4383
                refine lv_aload_n hx hb dX11_countFront_47 rfl (lv_at hl 0 rfl) ?_
                refine ht_getr (C := RX11) (T := TX11) (N := 28) hx hb hts (by decide +kernel) hown hK hP hs t_zy (by decide) rfl rfl 9 (by decide) (hts (.fieldLink RX11 22 "DripStoneModel" "mayYears" "[I") (by decide +kernel)) (fun _ h9 => h9) rfl dX11_countFront_48 ?_
                have t_4386 : zT (zR zy 9) = 104 := sk_f hs t_zy (by decide) rfl (by decide)
                refine lv_iconst (v := 0) hx hb dX11_countFront_51 (by decide) ?_
                refine ht_iald (n := 12) (q := 0) hx hb hK hP hs t_4386 (by decide) rfl rfl ⟨by decide, by decide⟩ dX11_countFront_52 ?_
                refine lv_topi (fun zi_4387 ezi_4387 => ?_)
                refine lv_iload_n hx hb dX11_countFront_53 rfl (lv_at hl 1 rfl) ?_
                refine lv_ishr hx hb dX11_countFront_54 ?_
                refine lv_topi (fun zi_4388 ezi_4388 => ?_)
                have rzi_4388 := rng zi_4388
                refine lv_iconst (v := 1) hx hb dX11_countFront_55 (by decide) ?_
                refine lv_iand hx hb dX11_countFront_56 ?_
                refine lv_topi (fun zi_4389 ezi_4389 => ?_)
                have tzi_4389 : 0 ≤ zi_4389.toInt ∧ zi_4389.toInt ≤ 1 := by rw [ezi_4389]; exact andb (k := 1) (by decide) (by decide) (by decide)
                refine lv_i2l (v := zi_4389.toInt64) hx hb dX11_countFront_57 rfl ?_
                refine lv_topl (fun zj_4390 ezj_4390 => ?_)
                have tzj_4390 : zj_4390.toInt = zi_4389.toInt := by rw [ezj_4390]; exact Int32.toInt_toInt64 _
                refine ht_last (v := zj_4390) (n := 1440) (q := 1) hx hb hK hP hD hS hs t_4381 (by decide) rfl rfl ⟨by omega, by omega⟩ dX11_countFront_58 (fun H locs hP hD hS => ?_)
                generalize uzJ_4391 : u2 zJ_155 (zR zy 13) zi_4382.toNatClampNeg zj_4390 = zJ_4391 at hP hD
                obtain ⟨zi_4392, ezi_4392⟩ : ∃ y : Int32, y = zi_154 + 1 := ⟨_, rfl⟩
                have tzi_4392 : zi_4392.toInt = zi_154.toInt + 1 := by rw [ezi_4392]; exact tadd rfl (show (1 : Int32).toInt = 1 by decide) (by omega) (by omega)
                refine lv_iinc (v := zi_4392) (lv' := [(1, .int zi_4392), (0, .ref zy)]) hx hb dX11_countFront_59 hl (k := 1) rfl (by rw [ezi_4392]; rfl) (by decide) rfl (fun ls hl => ?_)
                refine lv_goto (tgt := 24) hx hb dX11_countFront_62 (by decide) ?_
                exact ih_190 (24 - zi_4392.toInt).toNat (by omega) zi_4392 zJ_4391 _ _ _ rfl (by omega) (by rw [← uzJ_4391, u2_rl]; exact V0.s (t := 0) e_lp_190_0 (by omega) (by omega) (by omega) (by omega) (by rw [Int32.ofInt_toInt, show zI (zR zy 9) 0 = zi_4387 from ezi_4387.symm]; exact ezi_4388) ezi_4389 ezj_4390 (by omega)) ((show zJ_4391 zy 20 = zJ_155 zy 20 from by rw [← uzJ_4391]; exact u2_n (tne t_zy t_4381 (by decide))).trans e_lp_190_1) hP hD hS (lv_sub hl [1, 0] rfl)
        have qc_0 : (0 : Int32).toInt = 0 := by decide
        exact lp_190 _ (0 : Int32) zJ_24 _ _ _ rfl (by decide) (V0.z e_lp_30_0 (by omega)) e_lp_30_1 hP hD hS (lv_sub hl [1, 0] rfl)
      · have f_32 : ¬ (zi_23.toInt ≥ (1440 : Int)) := ic_nge (rfl) (show (1440 : Int32).toInt = 1440 by decide) c_31
        refine lv_aload_n hx hb dX11_countFront_9 rfl (lv_at hl 0 rfl) ?_
        refine ht_getr (C := RX11) (T := TX11) (N := 28) hx hb hts (by decide +kernel) hown hK hP hs t_zy (by decide) rfl rfl 13 (by decide) (hts (.fieldLink RX11 34 "DripStoneModel" "front" "[J") (by decide +kernel)) (fun _ h9 => h9) rfl dX11_countFront_10 ?_
        have t_4393 : zT (zR zy 13) = 113 := sk_f hs t_zy (by decide) rfl (by decide)
        refine lv_iload_n hx hb dX11_countFront_13 rfl (lv_at hl 1 rfl) ?_
        refine lv_lconst (v := 0) hx hb dX11_countFront_14 (by decide) ?_
        refine ht_last (v := (0 : Int64)) (n := 1440) (q := 1) hx hb hK hP hD hS hs t_4393 (by decide) rfl rfl ⟨by omega, by omega⟩ dX11_countFront_15 (fun H locs hP hD hS => ?_)
        generalize uzJ_4394 : u2 zJ_24 (zR zy 13) zi_23.toNatClampNeg (0 : Int64) = zJ_4394 at hP hD
        obtain ⟨zi_4395, ezi_4395⟩ : ∃ y : Int32, y = zi_23 + 1 := ⟨_, rfl⟩
        have tzi_4395 : zi_4395.toInt = zi_23.toInt + 1 := by rw [ezi_4395]; exact tadd rfl (show (1 : Int32).toInt = 1 by decide) (by omega) (by omega)
        refine lv_iinc (v := zi_4395) (lv' := [(1, .int zi_4395), (0, .ref zy)]) hx hb dX11_countFront_16 hl (k := 1) rfl (by rw [ezi_4395]; rfl) (by decide) rfl (fun ls hl => ?_)
        refine lv_goto (tgt := 2) hx hb dX11_countFront_19 (by decide) ?_
        exact ih_30 (1440 - zi_4395.toInt).toNat (by omega) zi_4395 zJ_4394 _ _ _ rfl (by omega) (by rw [← uzJ_4394, u2_rl]; exact clr_s e_lp_30_0 (by omega) (by omega) (by omega)) ((show zJ_4394 zy 20 = zJ_24 zy 20 from by rw [← uzJ_4394]; exact u2_n (tne t_zy t_4393 (by decide))).trans e_lp_30_1) hP hD hS (lv_sub hl [1, 0] rfl)
  have qc_0 : (0 : Int32).toInt = 0 := by decide
  exact lp_30 _ (0 : Int32) zJ _ _ _ rfl (by decide) (clr_z rfl) rfl hP hD hS (lv_sub hl [1, 0] rfl)
