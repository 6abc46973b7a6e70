set_option maxHeartbeats 8000000 in
set_option maxRecDepth 100000 in
theorem t_X10_rain (l : Launch) (dC : Nat → ClassId) (dI : Nat → Nat → Nat) (cy : Nat → ClassId) (sz : Nat) (zL : List Nat) (zT : Nat → Nat) (zR : Nat → Nat → Nat) (zI : Nat → Nat → Int32) (zJ : Nat → Nat → Int64) (zx : Nat) (zia : Int32) (zib : Int32) (zic : Int32) (hs : SKP zL zT zR) (hw : WT zT zR zI) (t_zx : zT zx = 11) (hj : JX zR zI zx) : Met l yX10_rain wsX10_rain ({ frames := 2, cells := 0, slots := 0, locals := 43 } : Room) (va_Pc [.ref zx, .int zia, .int zib, .int zic] (PRE dC dI cy (WL cy zL zT zR zI zJ) sz)) (va_Qi (fun (r : Int32) (u : (Nat → Nat → Int32)) => (WM [3400] AL zT zR zI u) ∧ (JX zR u zx) ∧ (RNok zia.toInt zib.toInt zic.toInt → (r.toInt = (zI (zR (zR (zR (zR zx 0) 0) 0) zib.toNatClampNeg) zia.toNatClampNeg).toInt ∧ (u (zR (zR (zR (zR zx 0) 0) 0) zib.toNatClampNeg) zia.toNatClampNeg).toInt = zic.toInt ∧ (∀ a : Nat, zT a = 34 → ∀ j : Nat, ¬ (a = (zR (zR (zR (zR zx 0) 0) 0) zib.toNatClampNeg) ∧ j = zia.toNatClampNeg) → u a j = zI a j))) ∧ (¬ (RNok zia.toInt zib.toInt zic.toInt) → (r.toInt = -1001 ∧ u = zI))) (fun u t => POST dC dI cy (va_A (WL cy zL zT zR zI zJ) sz) (WL cy zL zT zR u zJ) t) (va_A (WL cy zL zT zR zI zJ) sz)) 0 0 (va_A (WL cy zL zT zR zI zJ) sz) := by
  refine Met.ofW (cc := cX10_rain) (maxL := 5) (ret := (some .int)) (by decide) rfl ?_
  intro p e s m args below meth c s₁ B hml hv
  obtain ⟨rfl, hsz, hP, hK, hD0, hN⟩ := hv
  have hx := B.exec
  have hb := B.bytes
  have hr := B.returns
  have hts := atoms_spec (ws := wsX10_rain) B.pre
  have hown : s.vm.findClass RX10 = some m.cls := findClass_of_methodNamed B.named
  have hlocks := B.notSynchronized
  subst hsz
  have hD := hD0.self (sz := s.heap.size)
  generalize hAe : va_A (WL cy zL zT zR zI zJ) s.heap.size = A at hD ⊢
  have hA : ∀ q : Nat, s.heap.size ≤ q → A q := fun q h => by rw [← hAe]; exact Or.inr h
  have hS : va_S A s.heap s.heap [] := va_S.rf
  have hP : va_P (dC, dI) vwCl (WL cy zL zT zR zI zJ) s.heap := hP
  have hl := lv_entry ([.ref zx, .int zia, .int zib, .int zic] : List Value) (n := 5) (Nat.le_of_ble_eq_true rfl)
  rw [lg_entry_eq]
  generalize (lg_sl ([.ref zx, .int zia, .int zib, .int zic] : List Value) ++ List.replicate (5 - (lg_sl ([.ref zx, .int zia, .int zib, .int zic] : List Value)).length) Slot.unset).toArray = ls at hl ⊢
  have hl : lv_has ls 5 [(0, .ref zx), (1, .int zia), (2, .int zib), (3, .int zic)] := hl
  refine w_q (fun Q hQ => ?_)
  have h_zI : WM [3400] AL zT zR zI zI := WM.rf hw
  refine lv_iload_n hx hb dX10_rain_0 rfl (lv_at hl 1 rfl) ?_
  refine hj0_i (ws := (WL cy zL zT zR zI zJ)) (va_runS (As := [.int zia]) (rest := []) ⟨hx, hb, hml, hown, hts⟩ (c_X10_isYear l dC dI cy s.heap.size zia) (va_cwS 1 hts gX10_rain_X10_isYear rfl rfl rfl (by decide +kernel) ⟨(Nat.le_of_ble_eq_true rfl), (Nat.le_of_ble_eq_true rfl)⟩) (PRE.s (hP.sub [] rfl) hK (hD.sub [] (by decide) rfl) hN) rfl rfl hl.1 rfl (lv_room (Nat.le_of_ble_eq_true rfl)) dX10_rain_1 ⟨(Nat.le_of_ble_eq_true rfl), (Nat.le_of_ble_eq_true rfl)⟩) hP hD hS hA (fun zi_1 u_3 H locs hw_2 hP hD hS => ?_)
  have hw_2 : zi_1 = if 0 ≤ zia.toInt ∧ zia.toInt ≤ 23 then 1 else 0 := hw_2
  have b_zi_1 : 0 ≤ zi_1.toInt ∧ zi_1.toInt ≤ 1 := bz_b hw_2
  refine lv_if_eq (tgt := 24) hx hb dX10_rain_4 (by decide) (fun c_4 => ?_) (fun c_4 => ?_)
  · have f_5 : ¬ (0 ≤ zia.toInt ∧ zia.toInt ≤ 23) := bz_0 hw_2 c_4
    refine lv_sipush (v := (-1001)) hx hb dX10_rain_24 (by decide) ?_
    subst hQ
    exact W.iret (v := (-1001 : Int32)) hx hb hr (fun t ht hW => ⟨⟨(-1001 : Int32), zI, rfl, ⟨h_zI, (show JX zR zI zx from hj), (show RNok zia.toInt zib.toInt zic.toInt → ((-1001 : Int32).toInt = (zI (zR (zR (zR (zR zx 0) 0) 0) zib.toNatClampNeg) zia.toNatClampNeg).toInt ∧ (zI (zR (zR (zR (zR zx 0) 0) 0) zib.toNatClampNeg) zia.toNatClampNeg).toInt = zic.toInt ∧ (∀ a : Nat, zT a = 34 → ∀ j : Nat, ¬ (a = (zR (zR (zR (zR zx 0) 0) 0) zib.toNatClampNeg) ∧ j = zia.toNatClampNeg) → zI a j = zI a j)) from (fun h9 => absurd h9 (by unfold RNok; omega))), (show ¬ (RNok zia.toInt zib.toInt zic.toInt) → ((-1001 : Int32).toInt = -1001 ∧ zI = zI) from (fun _ => ⟨by decide, rfl⟩))⟩, ⟨by rw [ht]; exact hP, va_K.moved hW.alike hK, hD⟩⟩, hS.F ht⟩) hS.2.2 dX10_rain_27
  · have f_5 : 0 ≤ zia.toInt ∧ zia.toInt ≤ 23 := bz_1 hw_2 c_4
    refine lv_iload_n hx hb dX10_rain_7 rfl (lv_at hl 2 rfl) ?_
    refine lv_iconst (v := 0) hx hb dX10_rain_8 (by decide) ?_
    refine lv_iconst (v := 2) hx hb dX10_rain_9 (by decide) ?_
    refine hj0_i (ws := (WL cy zL zT zR zI zJ)) (va_runS (As := [.int zib, .int 0, .int 2]) (rest := []) ⟨hx, hb, hml, hown, hts⟩ (c_X10_isWithin l dC dI cy H.size zib 0 2 0 2 (by first | rfl | decide | omega | exact Int32.toInt_toInt64 _) (by first | rfl | decide | omega | exact Int32.toInt_toInt64 _)) (va_cwS 3 hts gX10_rain_X10_isWithin rfl rfl rfl (by decide +kernel) ⟨(Nat.le_of_ble_eq_true rfl), (Nat.le_of_ble_eq_true rfl)⟩) (PRE.s (hP.sub [] rfl) hK (hD.sub [] (by decide) rfl) hN) rfl rfl hl.1 rfl (lv_room (Nat.le_of_ble_eq_true rfl)) dX10_rain_10 ⟨(Nat.le_of_ble_eq_true rfl), (Nat.le_of_ble_eq_true rfl)⟩) hP hD hS hA (fun zi_6 u_8 H locs hw_7 hP hD hS => ?_)
    have hw_7 : zi_6 = if 0 ≤ zib.toInt ∧ zib.toInt ≤ 2 then 1 else 0 := hw_7
    have b_zi_6 : 0 ≤ zi_6.toInt ∧ zi_6.toInt ≤ 1 := bz_b hw_7
    refine lv_if_eq (tgt := 24) hx hb dX10_rain_13 (by decide) (fun c_9 => ?_) (fun c_9 => ?_)
    · have f_10 : ¬ (0 ≤ zib.toInt ∧ zib.toInt ≤ 2) := bz_0 hw_7 c_9
      refine lv_sipush (v := (-1001)) hx hb dX10_rain_24 (by decide) ?_
      subst hQ
      exact W.iret (v := (-1001 : Int32)) hx hb hr (fun t ht hW => ⟨⟨(-1001 : Int32), zI, rfl, ⟨h_zI, (show JX zR zI zx from hj), (show RNok zia.toInt zib.toInt zic.toInt → ((-1001 : Int32).toInt = (zI (zR (zR (zR (zR zx 0) 0) 0) zib.toNatClampNeg) zia.toNatClampNeg).toInt ∧ (zI (zR (zR (zR (zR zx 0) 0) 0) zib.toNatClampNeg) zia.toNatClampNeg).toInt = zic.toInt ∧ (∀ a : Nat, zT a = 34 → ∀ j : Nat, ¬ (a = (zR (zR (zR (zR zx 0) 0) 0) zib.toNatClampNeg) ∧ j = zia.toNatClampNeg) → zI a j = zI a j)) from (fun h9 => absurd h9 (by unfold RNok; omega))), (show ¬ (RNok zia.toInt zib.toInt zic.toInt) → ((-1001 : Int32).toInt = -1001 ∧ zI = zI) from (fun _ => ⟨by decide, rfl⟩))⟩, ⟨by rw [ht]; exact hP, va_K.moved hW.alike hK, hD⟩⟩, hS.F ht⟩) hS.2.2 dX10_rain_27
    · have f_10 : 0 ≤ zib.toInt ∧ zib.toInt ≤ 2 := bz_1 hw_7 c_9
      refine lv_iload_n hx hb dX10_rain_16 rfl (lv_at hl 2 rfl) ?_
      refine lv_iload_n hx hb dX10_rain_17 rfl (lv_at hl 3 rfl) ?_
      refine hj0_i (ws := (WL cy zL zT zR zI zJ)) (va_runS (As := [.int zib, .int zic]) (rest := []) ⟨hx, hb, hml, hown, hts⟩ (c_X3_fits l dC dI cy H.size zib zic) (va_cwS 2 hts gX10_rain_X3_fits rfl rfl rfl (by decide +kernel) ⟨(Nat.le_of_ble_eq_true rfl), (Nat.le_of_ble_eq_true rfl)⟩) (PRE.s (hP.sub [] rfl) hK (hD.sub [] (by decide) rfl) hN) rfl rfl hl.1 rfl (lv_room (Nat.le_of_ble_eq_true rfl)) dX10_rain_18 ⟨(Nat.le_of_ble_eq_true rfl), (Nat.le_of_ble_eq_true rfl)⟩) hP hD hS hA (fun zi_11 u_13 H locs hw_12 hP hD hS => ?_)
      have hw_12 : zi_11 = if (zib.toInt = 1 ∧ -20 ≤ zic.toInt ∧ zic.toInt ≤ 20) ∨ (¬ zib.toInt = 1 ∧ 0 ≤ zic.toInt ∧ zic.toInt ≤ 9) then 1 else 0 := hw_12
      have b_zi_11 : 0 ≤ zi_11.toInt ∧ zi_11.toInt ≤ 1 := bz_b hw_12
      refine lv_if_ne (tgt := 28) hx hb dX10_rain_21 (by decide) (fun c_14 => ?_) (fun c_14 => ?_)
      · have f_15 : (zib.toInt = 1 ∧ -20 ≤ zic.toInt ∧ zic.toInt ≤ 20) ∨ (¬ zib.toInt = 1 ∧ 0 ≤ zic.toInt ∧ zic.toInt ≤ 9) := bz_1 hw_12 c_14
        refine lv_aload_n hx hb dX10_rain_28 rfl (lv_at hl 0 rfl) ?_
        refine ht_getr (C := RX10) (T := TX10) (N := 10) hx hb hts (by decide +kernel) hown hK hP hs t_zx (by decide) rfl rfl 0 (by decide) (hts (.fieldLink RX10 12 "DripStone" "now" "LDripStone$State;") (by decide +kernel)) (fun _ h9 => h9) rfl dX10_rain_29 ?_
        have t_16 : zT (zR zx 0) = 9 := sk_f hs t_zx (by decide) rfl (by decide)
        refine ht_getr (C := RX8) (T := TX8) (N := 9) hx hb hts (by decide +kernel) hown hK hP hs t_16 (by decide) rfl rfl 0 (by decide) (hts (.fieldLink RX10 79 "DripStone$State" "hill" "LDripStone$Hill;") (by decide +kernel)) (fun _ h9 => h9) rfl dX10_rain_32 ?_
        have t_17 : zT (zR (zR zx 0) 0) = 4 := sk_f hs t_16 (by decide) rfl (by decide)
        refine ht_getr (C := RX3) (T := TX3) (N := 3) hx hb hts (by decide +kernel) hown hK hP hs t_17 (by decide) rfl rfl 0 (by decide) (hts (.fieldLink RX10 83 "DripStone$Hill" "rain" "[[I") (by decide +kernel)) (fun _ h9 => h9) rfl dX10_rain_35 ?_
        have t_18 : zT (zR (zR (zR zx 0) 0) 0) = 60 := sk_f hs t_17 (by decide) rfl (by decide)
        refine lv_iload_n hx hb dX10_rain_38 rfl (lv_at hl 2 rfl) ?_
        refine ht_aaldA (n := 3) (q := 7) hx hb hK hP hs t_18 (by decide) rfl rfl ⟨by omega, by omega⟩ dX10_rain_39 ?_
        have t_19 : zT (zR (zR (zR (zR zx 0) 0) 0) zib.toNatClampNeg) = 34 := sk_a (n := 3) hs t_18 rfl rfl (by decide) (cl_lt (by omega) (by omega))
        refine lv_iload_n hx hb dX10_rain_40 rfl (lv_at hl 1 rfl) ?_
        refine ht_iald (n := 24) (q := 0) hx hb hK hP hs t_19 (by decide) rfl rfl ⟨by omega, by omega⟩ dX10_rain_41 ?_
        refine lv_topi (fun zi_20 ezi_20 => ?_)
        have lzi_20 : (zI (zR (zR (zR (zR zx 0) 0) 0) zib.toNatClampNeg) zia.toNatClampNeg).toInt = zi_20.toInt := by rw [ezi_20]
        refine lv_istore (lv' := [(4, .int zi_20), (0, .ref zx), (1, .int zia), (2, .int zib), (3, .int zic)]) hx hb dX10_rain_42 hl (by decide) rfl (fun ls hl => ?_)
        refine lv_aload_n hx hb dX10_rain_44 rfl (lv_at hl 1 rfl) ?_
        refine ht_getr (C := RX10) (T := TX10) (N := 10) hx hb hts (by decide +kernel) hown hK hP hs t_zx (by decide) rfl rfl 0 (by decide) (hts (.fieldLink RX10 12 "DripStone" "now" "LDripStone$State;") (by decide +kernel)) (fun _ h9 => h9) rfl dX10_rain_45 ?_
        refine ht_getr (C := RX8) (T := TX8) (N := 9) hx hb hts (by decide +kernel) hown hK hP hs t_16 (by decide) rfl rfl 0 (by decide) (hts (.fieldLink RX10 79 "DripStone$State" "hill" "LDripStone$Hill;") (by decide +kernel)) (fun _ h9 => h9) rfl dX10_rain_48 ?_
        refine ht_getr (C := RX3) (T := TX3) (N := 3) hx hb hts (by decide +kernel) hown hK hP hs t_17 (by decide) rfl rfl 0 (by decide) (hts (.fieldLink RX10 83 "DripStone$Hill" "rain" "[[I") (by decide +kernel)) (fun _ h9 => h9) rfl dX10_rain_51 ?_
        refine lv_iload_n hx hb dX10_rain_54 rfl (lv_at hl 3 rfl) ?_
        refine ht_aaldA (n := 3) (q := 7) hx hb hK hP hs t_18 (by decide) rfl rfl ⟨by omega, by omega⟩ dX10_rain_55 ?_
        refine lv_iload_n hx hb dX10_rain_56 rfl (lv_at hl 2 rfl) ?_
        refine lv_iload_n hx hb dX10_rain_57 rfl (lv_at hl 4 rfl) ?_
        refine ht_iast (v := zic) (n := 24) (q := 0) hx hb hK hP hD hS hs t_19 (by decide) rfl rfl ⟨by omega, by omega⟩ dX10_rain_58 (fun H locs hP hD hS => ?_)
        have h_zI_21 : WM [3400] AL zT zR zI (u2 zI (zR (zR (zR (zR zx 0) 0) 0) zib.toNatClampNeg) zia.toNatClampNeg zic) := h_zI.putA hs t_19 rfl (rgF _) (by decide) (fun h => absurd h (by decide)) (by decide) trivial
        generalize uzI_21 : u2 zI (zR (zR (zR (zR zx 0) 0) 0) zib.toNatClampNeg) zia.toNatClampNeg zic = zI_21 at hP hD h_zI_21
        refine lv_iload hx hb dX10_rain_59 (lv_at hl 0 rfl) ?_
        subst hQ
        exact W.iret (v := zi_20) hx hb hr (fun t ht hW => ⟨⟨zi_20, zI_21, rfl, ⟨h_zI_21, (show JX zR zI_21 zx from (JX.sm hj hs t_zx h_zI_21.2 (by decide) (by decide))), (show RNok zia.toInt zib.toInt zic.toInt → (zi_20.toInt = (zI (zR (zR (zR (zR zx 0) 0) 0) zib.toNatClampNeg) zia.toNatClampNeg).toInt ∧ (zI_21 (zR (zR (zR (zR zx 0) 0) 0) zib.toNatClampNeg) zia.toNatClampNeg).toInt = zic.toInt ∧ (∀ a : Nat, zT a = 34 → ∀ j : Nat, ¬ (a = (zR (zR (zR (zR zx 0) 0) 0) zib.toNatClampNeg) ∧ j = zia.toNatClampNeg) → zI_21 a j = zI a j)) from (fun _ => ⟨by omega, by rw [← uzI_21, u2_s], fun a9 _ j9 h9 => by rw [← uzI_21]; exact if_neg h9⟩)), (show ¬ (RNok zia.toInt zib.toInt zic.toInt) → (zi_20.toInt = -1001 ∧ zI_21 = zI) from (fun h9 => absurd (show RNok zia.toInt zib.toInt zic.toInt from by unfold RNok; omega) h9))⟩, ⟨by rw [ht]; exact hP, va_K.moved hW.alike hK, hD⟩⟩, hS.F ht⟩) hS.2.2 dX10_rain_61
      · have f_15 : ¬ ((zib.toInt = 1 ∧ -20 ≤ zic.toInt ∧ zic.toInt ≤ 20) ∨ (¬ zib.toInt = 1 ∧ 0 ≤ zic.toInt ∧ zic.toInt ≤ 9)) := bz_0 hw_12 c_14
        refine lv_sipush (v := (-1001)) hx hb dX10_rain_24 (by decide) ?_
        subst hQ
        exact W.iret (v := (-1001 : Int32)) hx hb hr (fun t ht hW => ⟨⟨(-1001 : Int32), zI, rfl, ⟨h_zI, (show JX zR zI zx from hj), (show RNok zia.toInt zib.toInt zic.toInt → ((-1001 : Int32).toInt = (zI (zR (zR (zR (zR zx 0) 0) 0) zib.toNatClampNeg) zia.toNatClampNeg).toInt ∧ (zI (zR (zR (zR (zR zx 0) 0) 0) zib.toNatClampNeg) zia.toNatClampNeg).toInt = zic.toInt ∧ (∀ a : Nat, zT a = 34 → ∀ j : Nat, ¬ (a = (zR (zR (zR (zR zx 0) 0) 0) zib.toNatClampNeg) ∧ j = zia.toNatClampNeg) → zI a j = zI a j)) from (fun h9 => absurd h9 (by unfold RNok; omega))), (show ¬ (RNok zia.toInt zib.toInt zic.toInt) → ((-1001 : Int32).toInt = -1001 ∧ zI = zI) from (fun _ => ⟨by decide, rfl⟩))⟩, ⟨by rw [ht]; exact hP, va_K.moved hW.alike hK, hD⟩⟩, hS.F ht⟩) hS.2.2 dX10_rain_27
set_option maxHeartbeats 8000000 in
set_option maxRecDepth 100000 in
theorem t_X10_rains (l : Launch) (dC : Nat → ClassId) (dI : Nat → Nat → Nat) (cy : Nat → ClassId) (sz : Nat) (zL : List Nat) (zT : Nat → Nat) (zR : Nat → Nat → Nat) (zI : Nat → Nat → Int32) (zJ : Nat → Nat → Int64) (zx : Nat) (zia : Int32) (zib : Int32) (zic : Int32) (zid : Int32) (zie : Int32) (hs : SKP zL zT zR) (hw : WT zT zR zI) (t_zx : zT zx = 11) (hj : JX zR zI zx) : Met l yX10_rains wsX10_rains ({ frames := 2, cells := 0, slots := 0, locals := 43 } : Room) (va_Pc [.ref zx, .int zia, .int zib, .int zic, .int zid, .int zie] (PRE dC dI cy (WL cy zL zT zR zI zJ) sz)) (va_Qi (fun (r : Int32) (u : (Nat → Nat → Int32)) => (WM [3400] AL zT zR zI u) ∧ ((-13) ≤ r.toInt ∧ r.toInt ≤ 24) ∧ (JX zR u zx) ∧ (¬ (RSok zia.toInt zib.toInt zic.toInt zie.toInt) → (r.toInt = -1 ∧ u = zI)) ∧ (RSok zia.toInt zib.toInt zic.toInt zie.toInt → ¬ (RFS (zI (zR (zR zx 5) zib.toNatClampNeg) 3).toInt (zI (zR (zR zx 5) zib.toNatClampNeg) 1).toInt (zI (zR (zR zx 5) zib.toNatClampNeg) 2).toInt zic.toInt zid.toInt zie.toInt) = 0 → (r.toInt = (RFS (zI (zR (zR zx 5) zib.toNatClampNeg) 3).toInt (zI (zR (zR zx 5) zib.toNatClampNeg) 1).toInt (zI (zR (zR zx 5) zib.toNatClampNeg) 2).toInt zic.toInt zid.toInt zie.toInt) ∧ u = zI)) ∧ (RSok zia.toInt zib.toInt zic.toInt zie.toInt → (RFS (zI (zR (zR zx 5) zib.toNatClampNeg) 3).toInt (zI (zR (zR zx 5) zib.toNatClampNeg) 1).toInt (zI (zR (zR zx 5) zib.toNatClampNeg) 2).toInt zic.toInt zid.toInt zie.toInt) = 0 → ¬ MAYS (zI (zR (zR (zR zx 5) zib.toNatClampNeg) 0)) zia.toInt zid.toInt zie.toInt → (r.toInt = -2 ∧ u = zI)) ∧ (RSok zia.toInt zib.toInt zic.toInt zie.toInt → (RFS (zI (zR (zR zx 5) zib.toNatClampNeg) 3).toInt (zI (zR (zR zx 5) zib.toNatClampNeg) 1).toInt (zI (zR (zR zx 5) zib.toNatClampNeg) 2).toInt zic.toInt zid.toInt zie.toInt) = 0 → MAYS (zI (zR (zR (zR zx 5) zib.toNatClampNeg) 0)) zia.toInt zid.toInt zie.toInt → (r.toInt = zie.toInt ∧ RNS zT zI u (zR (zR (zR (zR zx 0) 0) 0) zia.toNatClampNeg) (zI (zR (zR (zR zx 5) zib.toNatClampNeg) 0)) zid.toInt zie.toInt))) (fun u t => POST dC dI cy (va_A (WL cy zL zT zR zI zJ) sz) (WL cy zL zT zR u zJ) t) (va_A (WL cy zL zT zR zI zJ) sz)) 0 0 (va_A (WL cy zL zT zR zI zJ) sz) := by
  refine Met.ofW (cc := cX10_rains) (maxL := 9) (ret := (some .int)) (by decide) rfl ?_
  intro p e s m args below meth c s₁ B hml hv
  obtain ⟨rfl, hsz, hP, hK, hD0, hN⟩ := hv
  have hx := B.exec
  have hb := B.bytes
  have hr := B.returns
  have hts := atoms_spec (ws := wsX10_rains) B.pre
  have hown : s.vm.findClass RX10 = some m.cls := findClass_of_methodNamed B.named
  have hlocks := B.notSynchronized
  subst hsz
  have hD := hD0.self (sz := s.heap.size)
  generalize hAe : va_A (WL cy zL zT zR zI zJ) s.heap.size = A at hD ⊢
  have hA : ∀ q : Nat, s.heap.size ≤ q → A q := fun q h => by rw [← hAe]; exact Or.inr h
  have hS : va_S A s.heap s.heap [] := va_S.rf
  have hP : va_P (dC, dI) vwCl (WL cy zL zT zR zI zJ) s.heap := hP
  have hl := lv_entry ([.ref zx, .int zia, .int zib, .int zic, .int zid, .int zie] : List Value) (n := 9) (Nat.le_of_ble_eq_true rfl)
  rw [lg_entry_eq]
  generalize (lg_sl ([.ref zx, .int zia, .int zib, .int zic, .int zid, .int zie] : List Value) ++ List.replicate (9 - (lg_sl ([.ref zx, .int zia, .int zib, .int zic, .int zid, .int zie] : List Value)).length) Slot.unset).toArray = ls at hl ⊢
  have hl : lv_has ls 9 [(0, .ref zx), (1, .int zia), (2, .int zib), (3, .int zic), (4, .int zid), (5, .int zie)] := hl
  refine w_q (fun Q hQ => ?_)
  have h_zI : WM [3400] AL zT zR zI zI := WM.rf hw
  refine lv_iload_n hx hb dX10_rains_0 rfl (lv_at hl 1 rfl) ?_
  refine lv_iconst (v := 0) hx hb dX10_rains_1 (by decide) ?_
  refine lv_iconst (v := 2) hx hb dX10_rains_2 (by decide) ?_
  refine hj0_i (ws := (WL cy zL zT zR zI zJ)) (va_runS (As := [.int zia, .int 0, .int 2]) (rest := []) ⟨hx, hb, hml, hown, hts⟩ (c_X10_isWithin l dC dI cy s.heap.size zia 0 2 0 2 (by first | rfl | decide | omega | exact Int32.toInt_toInt64 _) (by first | rfl | decide | omega | exact Int32.toInt_toInt64 _)) (va_cwS 3 hts gX10_rains_X10_isWithin rfl rfl rfl (by decide +kernel) ⟨(Nat.le_of_ble_eq_true rfl), (Nat.le_of_ble_eq_true rfl)⟩) (PRE.s (hP.sub [] rfl) hK (hD.sub [] (by decide) rfl) hN) rfl rfl hl.1 rfl (lv_room (Nat.le_of_ble_eq_true rfl)) dX10_rains_3 ⟨(Nat.le_of_ble_eq_true rfl), (Nat.le_of_ble_eq_true rfl)⟩) hP hD hS hA (fun zi_1 u_3 H locs hw_2 hP hD hS => ?_)
  have hw_2 : zi_1 = if 0 ≤ zia.toInt ∧ zia.toInt ≤ 2 then 1 else 0 := hw_2
  have b_zi_1 : 0 ≤ zi_1.toInt ∧ zi_1.toInt ≤ 1 := bz_b hw_2
  refine lv_if_eq (tgt := 28) hx hb dX10_rains_6 (by decide) (fun c_4 => ?_) (fun c_4 => ?_)
  · have f_5 : ¬ (0 ≤ zia.toInt ∧ zia.toInt ≤ 2) := bz_0 hw_2 c_4
    refine lv_iconst (v := (-1)) hx hb dX10_rains_28 (by decide) ?_
    subst hQ
    have qc_m1 : (-1 : Int32).toInt = -1 := by decide
    exact W.iret (v := (-1 : Int32)) hx hb hr (fun t ht hW => ⟨⟨(-1 : Int32), zI, rfl, ⟨h_zI, (show (-13) ≤ (-1 : Int32).toInt ∧ (-1 : Int32).toInt ≤ 24 from by omega), (show JX zR zI zx from hj), (show ¬ (RSok zia.toInt zib.toInt zic.toInt zie.toInt) → ((-1 : Int32).toInt = -1 ∧ zI = zI) from (fun _ => ⟨by decide, rfl⟩)), (show RSok zia.toInt zib.toInt zic.toInt zie.toInt → ¬ (RFS (zI (zR (zR zx 5) zib.toNatClampNeg) 3).toInt (zI (zR (zR zx 5) zib.toNatClampNeg) 1).toInt (zI (zR (zR zx 5) zib.toNatClampNeg) 2).toInt zic.toInt zid.toInt zie.toInt) = 0 → ((-1 : Int32).toInt = (RFS (zI (zR (zR zx 5) zib.toNatClampNeg) 3).toInt (zI (zR (zR zx 5) zib.toNatClampNeg) 1).toInt (zI (zR (zR zx 5) zib.toNatClampNeg) 2).toInt zic.toInt zid.toInt zie.toInt) ∧ zI = zI) from (fun h9 => absurd h9 (by unfold RSok; omega))), (show RSok zia.toInt zib.toInt zic.toInt zie.toInt → (RFS (zI (zR (zR zx 5) zib.toNatClampNeg) 3).toInt (zI (zR (zR zx 5) zib.toNatClampNeg) 1).toInt (zI (zR (zR zx 5) zib.toNatClampNeg) 2).toInt zic.toInt zid.toInt zie.toInt) = 0 → ¬ MAYS (zI (zR (zR (zR zx 5) zib.toNatClampNeg) 0)) zia.toInt zid.toInt zie.toInt → ((-1 : Int32).toInt = -2 ∧ zI = zI) from (fun h9 => absurd h9 (by unfold RSok; omega))), (show RSok zia.toInt zib.toInt zic.toInt zie.toInt → (RFS (zI (zR (zR zx 5) zib.toNatClampNeg) 3).toInt (zI (zR (zR zx 5) zib.toNatClampNeg) 1).toInt (zI (zR (zR zx 5) zib.toNatClampNeg) 2).toInt zic.toInt zid.toInt zie.toInt) = 0 → MAYS (zI (zR (zR (zR zx 5) zib.toNatClampNeg) 0)) zia.toInt zid.toInt zie.toInt → ((-1 : Int32).toInt = zie.toInt ∧ RNS zT zI zI (zR (zR (zR (zR zx 0) 0) 0) zia.toNatClampNeg) (zI (zR (zR (zR zx 5) zib.toNatClampNeg) 0)) zid.toInt zie.toInt) from (fun h9 => absurd h9 (by unfold RSok; omega)))⟩, ⟨by rw [ht]; exact hP, va_K.moved hW.alike hK, hD⟩⟩, hS.F ht⟩) hS.2.2 dX10_rains_29
  · have f_5 : 0 ≤ zia.toInt ∧ zia.toInt ≤ 2 := bz_1 hw_2 c_4
    refine lv_iload_n hx hb dX10_rains_9 rfl (lv_at hl 2 rfl) ?_
    refine lv_iload_n hx hb dX10_rains_10 rfl (lv_at hl 3 rfl) ?_
    refine hj0_i (ws := (WL cy zL zT zR zI zJ)) (va_runS (As := [.int zib, .int zic]) (rest := []) ⟨hx, hb, hml, hown, hts⟩ (c_X10_isRow l dC dI cy H.size zib zic) (va_cwS 2 hts gX10_rains_X10_isRow rfl rfl rfl (by decide +kernel) ⟨(Nat.le_of_ble_eq_true rfl), (Nat.le_of_ble_eq_true rfl)⟩) (PRE.s (hP.sub [] rfl) hK (hD.sub [] (by decide) rfl) hN) rfl rfl hl.1 rfl (lv_room (Nat.le_of_ble_eq_true rfl)) dX10_rains_11 ⟨(Nat.le_of_ble_eq_true rfl), (Nat.le_of_ble_eq_true rfl)⟩) hP hD hS hA (fun zi_6 u_8 H locs hw_7 hP hD hS => ?_)
    have hw_7 : zi_6 = if (0 ≤ zib.toInt ∧ zib.toInt ≤ 3) ∧ 0 ≤ zic.toInt ∧ zic.toInt ≤ 2 then 1 else 0 := hw_7
    have b_zi_6 : 0 ≤ zi_6.toInt ∧ zi_6.toInt ≤ 1 := bz_b hw_7
    refine lv_if_eq (tgt := 28) hx hb dX10_rains_14 (by decide) (fun c_9 => ?_) (fun c_9 => ?_)
    · have f_10 : ¬ ((0 ≤ zib.toInt ∧ zib.toInt ≤ 3) ∧ 0 ≤ zic.toInt ∧ zic.toInt ≤ 2) := bz_0 hw_7 c_9
      refine lv_iconst (v := (-1)) hx hb dX10_rains_28 (by decide) ?_
      subst hQ
      have qc_m1 : (-1 : Int32).toInt = -1 := by decide
      exact W.iret (v := (-1 : Int32)) hx hb hr (fun t ht hW => ⟨⟨(-1 : Int32), zI, rfl, ⟨h_zI, (show (-13) ≤ (-1 : Int32).toInt ∧ (-1 : Int32).toInt ≤ 24 from by omega), (show JX zR zI zx from hj), (show ¬ (RSok zia.toInt zib.toInt zic.toInt zie.toInt) → ((-1 : Int32).toInt = -1 ∧ zI = zI) from (fun _ => ⟨by decide, rfl⟩)), (show RSok zia.toInt zib.toInt zic.toInt zie.toInt → ¬ (RFS (zI (zR (zR zx 5) zib.toNatClampNeg) 3).toInt (zI (zR (zR zx 5) zib.toNatClampNeg) 1).toInt (zI (zR (zR zx 5) zib.toNatClampNeg) 2).toInt zic.toInt zid.toInt zie.toInt) = 0 → ((-1 : Int32).toInt = (RFS (zI (zR (zR zx 5) zib.toNatClampNeg) 3).toInt (zI (zR (zR zx 5) zib.toNatClampNeg) 1).toInt (zI (zR (zR zx 5) zib.toNatClampNeg) 2).toInt zic.toInt zid.toInt zie.toInt) ∧ zI = zI) from (fun h9 => absurd h9 (by unfold RSok; omega))), (show RSok zia.toInt zib.toInt zic.toInt zie.toInt → (RFS (zI (zR (zR zx 5) zib.toNatClampNeg) 3).toInt (zI (zR (zR zx 5) zib.toNatClampNeg) 1).toInt (zI (zR (zR zx 5) zib.toNatClampNeg) 2).toInt zic.toInt zid.toInt zie.toInt) = 0 → ¬ MAYS (zI (zR (zR (zR zx 5) zib.toNatClampNeg) 0)) zia.toInt zid.toInt zie.toInt → ((-1 : Int32).toInt = -2 ∧ zI = zI) from (fun h9 => absurd h9 (by unfold RSok; omega))), (show RSok zia.toInt zib.toInt zic.toInt zie.toInt → (RFS (zI (zR (zR zx 5) zib.toNatClampNeg) 3).toInt (zI (zR (zR zx 5) zib.toNatClampNeg) 1).toInt (zI (zR (zR zx 5) zib.toNatClampNeg) 2).toInt zic.toInt zid.toInt zie.toInt) = 0 → MAYS (zI (zR (zR (zR zx 5) zib.toNatClampNeg) 0)) zia.toInt zid.toInt zie.toInt → ((-1 : Int32).toInt = zie.toInt ∧ RNS zT zI zI (zR (zR (zR (zR zx 0) 0) 0) zia.toNatClampNeg) (zI (zR (zR (zR zx 5) zib.toNatClampNeg) 0)) zid.toInt zie.toInt) from (fun h9 => absurd h9 (by unfold RSok; omega)))⟩, ⟨by rw [ht]; exact hP, va_K.moved hW.alike hK, hD⟩⟩, hS.F ht⟩) hS.2.2 dX10_rains_29
    · have f_10 : (0 ≤ zib.toInt ∧ zib.toInt ≤ 3) ∧ 0 ≤ zic.toInt ∧ zic.toInt ≤ 2 := bz_1 hw_7 c_9
      refine lv_iload hx hb dX10_rains_17 (lv_at hl 5 rfl) ?_
      refine lv_iconst (v := 1) hx hb dX10_rains_19 (by decide) ?_
      refine lv_bipush (v := 24) hx hb dX10_rains_20 (by decide) ?_
      refine hj0_i (ws := (WL cy zL zT zR zI zJ)) (va_runS (As := [.int zie, .int 1, .int 24]) (rest := []) ⟨hx, hb, hml, hown, hts⟩ (c_X10_isWithin l dC dI cy H.size zie 1 24 1 24 (by first | rfl | decide | omega | exact Int32.toInt_toInt64 _) (by first | rfl | decide | omega | exact Int32.toInt_toInt64 _)) (va_cwS 3 hts gX10_rains_X10_isWithin rfl rfl rfl (by decide +kernel) ⟨(Nat.le_of_ble_eq_true rfl), (Nat.le_of_ble_eq_true rfl)⟩) (PRE.s (hP.sub [] rfl) hK (hD.sub [] (by decide) rfl) hN) rfl rfl hl.1 rfl (lv_room (Nat.le_of_ble_eq_true rfl)) dX10_rains_22 ⟨(Nat.le_of_ble_eq_true rfl), (Nat.le_of_ble_eq_true rfl)⟩) hP hD hS hA (fun zi_11 u_13 H locs hw_12 hP hD hS => ?_)
      have hw_12 : zi_11 = if 1 ≤ zie.toInt ∧ zie.toInt ≤ 24 then 1 else 0 := hw_12
      have b_zi_11 : 0 ≤ zi_11.toInt ∧ zi_11.toInt ≤ 1 := bz_b hw_12
      refine lv_if_ne (tgt := 30) hx hb dX10_rains_25 (by decide) (fun c_14 => ?_) (fun c_14 => ?_)
      · have f_15 : 1 ≤ zie.toInt ∧ zie.toInt ≤ 24 := bz_1 hw_12 c_14
        refine lv_aload_n hx hb dX10_rains_30 rfl (lv_at hl 0 rfl) ?_
        refine ht_getr (C := RX10) (T := TX10) (N := 10) hx hb hts (by decide +kernel) hown hK hP hs t_zx (by decide) rfl rfl 5 (by decide) (hts (.fieldLink RX10 43 "DripStone" "sheets" "[LDripStone$Sheet;") (by decide +kernel)) (fun _ h9 => h9) rfl dX10_rains_31 ?_
        have t_16 : zT (zR zx 5) = 63 := sk_f hs t_zx (by decide) rfl (by decide)
        refine lv_iload_n hx hb dX10_rains_34 rfl (lv_at hl 2 rfl) ?_
        refine ht_aald (n := 4) (q := 5) hx hb hK hP hs t_16 (by decide) rfl rfl ⟨by omega, by omega⟩ dX10_rains_35 ?_
        have t_17 : zT (zR (zR zx 5) zib.toNatClampNeg) = 8 := sk_a (n := 4) hs t_16 rfl rfl (by decide) (cl_lt (by omega) (by omega))
        refine lv_astore (lv' := [(6, .ref (zR (zR zx 5) zib.toNatClampNeg)), (0, .ref zx), (1, .int zia), (2, .int zib), (3, .int zic), (4, .int zid), (5, .int zie)]) hx hb dX10_rains_36 hl (by decide) rfl (fun ls hl => ?_)
        refine lv_aload hx hb dX10_rains_38 (lv_at hl 0 rfl) ?_
        refine lv_iload_n hx hb dX10_rains_40 rfl (lv_at hl 4 rfl) ?_
        refine lv_iload hx hb dX10_rains_41 (lv_at hl 5 rfl) ?_
        refine lv_iload hx hb dX10_rains_43 (lv_at hl 6 rfl) ?_
        refine hj_i (ws := (WL cy zL zT zR zI zJ)) (w1 := fun (u : Unit) => (WL cy zL zT zR zI zJ)) (va_runV (As := [.int zic, .int zid, .int zie]) (rest := []) ⟨hx, hb, hml, hown, hts⟩ (t_X7_refusal l dC dI cy H.size zL zT zR zI zJ (zR (zR zx 5) zib.toNatClampNeg) zic zid zie hs h_zI.1 t_17 (by omega)) (cwV 3 hts gX10_rains_X7_refusal rfl rfl rfl (by decide +kernel) ⟨(Nat.le_of_ble_eq_true rfl), (Nat.le_of_ble_eq_true rfl)⟩) (PRE.v hP hK hD hN (ht_recv hK hP hs t_17 (by decide) rfl rfl)) rfl rfl hl.1 rfl (lv_room (Nat.le_of_ble_eq_true rfl)) dX10_rains_45 ⟨(Nat.le_of_ble_eq_true rfl), (Nat.le_of_ble_eq_true rfl)⟩) hP hD hS hA (fun zi_18 u_20 H locs hw_19 hP hD hS => ?_)
        obtain ⟨b_zi_18, ps_21, ps_22, ps_23⟩ : ((-13) ≤ zi_18.toInt ∧ zi_18.toInt ≤ 0) ∧ (¬ (zi_18.toInt = 0) ∨ (0 ≤ zid.toInt ∧ zid.toInt ≤ 24)) ∧ (¬ (zi_18.toInt = 0) ∨ zid.toInt + zie.toInt ≤ 24) ∧ (zi_18.toInt = RFS (zI (zR (zR zx 5) zib.toNatClampNeg) 3).toInt (zI (zR (zR zx 5) zib.toNatClampNeg) 1).toInt (zI (zR (zR zx 5) zib.toNatClampNeg) 2).toInt zic.toInt zid.toInt zie.toInt) := hw_19
        obtain ⟨zi_24, ezi_24⟩ : ∃ y : Int32, y = zI (zR (zR zx 5) zib.toNatClampNeg) 3 := ⟨_, rfl⟩
        have tzi_24 : 0 ≤ zi_24.toInt ∧ zi_24.toInt ≤ 1 := by rw [ezi_24]; exact h_zI.at t_17 _ rfl
        obtain ⟨zi_25, ezi_25⟩ : ∃ y : Int32, y = zI (zR (zR zx 5) zib.toNatClampNeg) 1 := ⟨_, rfl⟩
        have tzi_25 : 0 ≤ zi_25.toInt ∧ zi_25.toInt ≤ 2 := by rw [ezi_25]; exact h_zI.at t_17 _ rfl
        obtain ⟨zi_26, ezi_26⟩ : ∃ y : Int32, y = zI (zR (zR zx 5) zib.toNatClampNeg) 2 := ⟨_, rfl⟩
        have tzi_26 : 0 ≤ zi_26.toInt ∧ zi_26.toInt ≤ 24 := by rw [ezi_26]; exact h_zI.at t_17 _ rfl
        have lk_27 : (zI (zR (zR zx 5) zib.toNatClampNeg) 3).toInt = zi_24.toInt := congrArg Int32.toInt ezi_24.symm
        have lk_28 : (zI (zR (zR zx 5) zib.toNatClampNeg) 1).toInt = zi_25.toInt := congrArg Int32.toInt ezi_25.symm
        have lk_29 : (zI (zR (zR zx 5) zib.toNatClampNeg) 2).toInt = zi_26.toInt := congrArg Int32.toInt ezi_26.symm
        refine lv_istore (lv' := [(7, .int zi_18), (6, .ref (zR (zR zx 5) zib.toNatClampNeg)), (0, .ref zx), (1, .int zia), (2, .int zib), (3, .int zic), (4, .int zid), (5, .int zie)]) hx hb dX10_rains_48 hl (by decide) rfl (fun ls hl => ?_)
        refine lv_iload hx hb dX10_rains_50 (lv_at hl 0 rfl) ?_
        refine lv_if_eq (tgt := 58) hx hb dX10_rains_52 (by decide) (fun c_30 => ?_) (fun c_30 => ?_)
        · have f_31 : zi_18.toInt = 0 := ic_eq (rfl) (by decide) c_30
          have b9_zid : 0 ≤ zid.toInt ∧ zid.toInt ≤ 24 := by omega
          refine lv_iconst (v := 0) hx hb dX10_rains_58 (by decide) ?_
          refine lv_istore (lv' := [(8, .int 0), (7, .int zi_18), (6, .ref (zR (zR zx 5) zib.toNatClampNeg)), (0, .ref zx), (1, .int zia), (2, .int zib), (3, .int zic), (4, .int zid), (5, .int zie)]) hx hb dX10_rains_59 hl (by decide) rfl (fun ls hl => ?_)
          have lp_94 : ∀ (n : Nat) (zi_81 : Int32) (H : Heap) (locs : List Loc) (ls : Array Slot), (zie.toInt - zi_81.toInt).toNat = n → (0 ≤ zi_81.toInt ∧ zi_81.toInt ≤ 24) → (MAYS (zI (zR (zR (zR zx 5) zib.toNatClampNeg) 0)) zia.toInt zid.toInt zi_81.toInt) → va_P (dC, dI) vwCl (WL cy zL zT zR zI zJ) H → va_D A (WL cy zL zT zR zI zJ) → va_S A s.heap H locs → lv_has ls 9 [(0, .ref zx), (1, .int zia), (2, .int zib), (3, .int zic), (4, .int zid), (5, .int zie), (6, .ref (zR (zR zx 5) zib.toNatClampNeg)), (7, .int zi_18), (8, .int zi_81)] → W p l e ({ frames := 2, cells := 0, slots := 0, locals := 43 } : Room) s m ([.ref zx, .int zia, .int zib, .int zic, .int zid, .int zie] : List Value).toArray below meth c H locs 0 0 Q (F0 m 61 ls []) := by
            intro n
            induction n using Nat.strongRecOn with
            | _ n ih_94 =>
              intro zi_81 H locs ls hn b_zi_81 e_lp_94_0 hP hD hS hl
              refine lv_iload hx hb dX10_rains_61 (lv_at hl 8 rfl) ?_
              refine lv_iload hx hb dX10_rains_63 (lv_at hl 5 rfl) ?_
              refine lv_icmp_ge (tgt := 95) hx hb dX10_rains_65 (by decide) (fun c_95 => ?_) (fun c_95 => ?_)
              · have f_96 : zi_81.toInt ≥ zie.toInt := ic_ge (rfl) (rfl) c_95
                refine lv_iconst (v := 0) hx hb dX10_rains_95 (by decide) ?_
                refine lv_istore (lv' := [(8, .int 0), (0, .ref zx), (1, .int zia), (2, .int zib), (3, .int zic), (4, .int zid), (5, .int zie), (6, .ref (zR (zR zx 5) zib.toNatClampNeg)), (7, .int zi_18)]) hx hb dX10_rains_96 hl (by decide) rfl (fun ls hl => ?_)
                have lp_162 : ∀ (n : Nat) (zi_148 : Int32) (zI_149 : Nat → Nat → Int32) (H : Heap) (locs : List Loc) (ls : Array Slot), (zie.toInt - zi_148.toInt).toNat = n → (0 ≤ zi_148.toInt ∧ zi_148.toInt ≤ 24) → (WM [3400] AL zT zR zI zI_149) → (RNS zT zI zI_149 (zR (zR (zR (zR zx 0) 0) 0) zia.toNatClampNeg) (zI (zR (zR (zR zx 5) zib.toNatClampNeg) 0)) zid.toInt zi_148.toInt) → (zi_148.toInt ≤ zie.toInt) → va_P (dC, dI) vwCl (WL cy zL zT zR zI_149 zJ) H → va_D A (WL cy zL zT zR zI_149 zJ) → va_S A s.heap H locs → lv_has ls 9 [(0, .ref zx), (1, .int zia), (2, .int zib), (3, .int zic), (4, .int zid), (5, .int zie), (6, .ref (zR (zR zx 5) zib.toNatClampNeg)), (7, .int zi_18), (8, .int zi_148)] → W p l e ({ frames := 2, cells := 0, slots := 0, locals := 43 } : Room) s m ([.ref zx, .int zia, .int zib, .int zic, .int zid, .int zie] : List Value).toArray below meth c H locs 0 0 Q (F0 m 98 ls []) := by
                  intro n
                  induction n using Nat.strongRecOn with
                  | _ n ih_162 =>
                    intro zi_148 zI_149 H locs ls hn b_zi_148 h_zI_149 e_lp_162_0 e_lp_162_1 hP hD hS hl
                    refine lv_iload hx hb dX10_rains_98 (lv_at hl 8 rfl) ?_
                    refine lv_iload hx hb dX10_rains_100 (lv_at hl 5 rfl) ?_
                    refine lv_icmp_ge (tgt := 137) hx hb dX10_rains_102 (by decide) (fun c_163 => ?_) (fun c_163 => ?_)
                    · have f_164 : zi_148.toInt ≥ zie.toInt := ic_ge (rfl) (rfl) c_163
                      refine lv_iload hx hb dX10_rains_137 (lv_at hl 5 rfl) ?_
                      subst hQ
                      exact W.iret (v := zie) hx hb hr (fun t ht hW => ⟨⟨zie, zI_149, rfl, ⟨h_zI_149, (show (-13) ≤ zie.toInt ∧ zie.toInt ≤ 24 from by omega), (show JX zR zI_149 zx from (JX.sm hj hs t_zx h_zI_149.2 (by decide) (by decide))), (show ¬ (RSok zia.toInt zib.toInt zic.toInt zie.toInt) → (zie.toInt = -1 ∧ zI_149 = zI) from (fun h9 => absurd (show RSok zia.toInt zib.toInt zic.toInt zie.toInt from by unfold RSok; omega) h9)), (show RSok zia.toInt zib.toInt zic.toInt zie.toInt → ¬ (RFS (zI (zR (zR zx 5) zib.toNatClampNeg) 3).toInt (zI (zR (zR zx 5) zib.toNatClampNeg) 1).toInt (zI (zR (zR zx 5) zib.toNatClampNeg) 2).toInt zic.toInt zid.toInt zie.toInt) = 0 → (zie.toInt = (RFS (zI (zR (zR zx 5) zib.toNatClampNeg) 3).toInt (zI (zR (zR zx 5) zib.toNatClampNeg) 1).toInt (zI (zR (zR zx 5) zib.toNatClampNeg) 2).toInt zic.toInt zid.toInt zie.toInt) ∧ zI_149 = zI) from (fun _ h9 => absurd (by omega) h9)), (show RSok zia.toInt zib.toInt zic.toInt zie.toInt → (RFS (zI (zR (zR zx 5) zib.toNatClampNeg) 3).toInt (zI (zR (zR zx 5) zib.toNatClampNeg) 1).toInt (zI (zR (zR zx 5) zib.toNatClampNeg) 2).toInt zic.toInt zid.toInt zie.toInt) = 0 → ¬ MAYS (zI (zR (zR (zR zx 5) zib.toNatClampNeg) 0)) zia.toInt zid.toInt zie.toInt → (zie.toInt = -2 ∧ zI_149 = zI) from (fun _ _ h9 => absurd (MAYS.e e_lp_94_0 (by omega)) h9)), (show RSok zia.toInt zib.toInt zic.toInt zie.toInt → (RFS (zI (zR (zR zx 5) zib.toNatClampNeg) 3).toInt (zI (zR (zR zx 5) zib.toNatClampNeg) 1).toInt (zI (zR (zR zx 5) zib.toNatClampNeg) 2).toInt zic.toInt zid.toInt zie.toInt) = 0 → MAYS (zI (zR (zR (zR zx 5) zib.toNatClampNeg) 0)) zia.toInt zid.toInt zie.toInt → (zie.toInt = zie.toInt ∧ RNS zT zI zI_149 (zR (zR (zR (zR zx 0) 0) 0) zia.toNatClampNeg) (zI (zR (zR (zR zx 5) zib.toNatClampNeg) 0)) zid.toInt zie.toInt) from (fun _ _ _ => ⟨rfl, RNS.e e_lp_162_0 (by omega)⟩))⟩, ⟨by rw [ht]; exact hP, va_K.moved hW.alike hK, hD⟩⟩, hS.F ht⟩) hS.2.2 dX10_rains_139
                    · have f_164 : ¬ (zi_148.toInt ≥ zie.toInt) := ic_nge (rfl) (rfl) c_163
                      refine lv_aload_n hx hb dX10_rains_105 rfl (lv_at hl 0 rfl) ?_
                      refine ht_getr (C := RX10) (T := TX10) (N := 10) hx hb hts (by decide +kernel) hown hK hP hs t_zx (by decide) rfl rfl 0 (by decide) (hts (.fieldLink RX10 12 "DripStone" "now" "LDripStone$State;") (by decide +kernel)) (fun _ h9 => h9) rfl dX10_rains_106 ?_
                      have t_165 : zT (zR zx 0) = 9 := sk_f hs t_zx (by decide) rfl (by decide)
                      refine ht_getr (C := RX8) (T := TX8) (N := 9) hx hb hts (by decide +kernel) hown hK hP hs t_165 (by decide) rfl rfl 0 (by decide) (hts (.fieldLink RX10 79 "DripStone$State" "hill" "LDripStone$Hill;") (by decide +kernel)) (fun _ h9 => h9) rfl dX10_rains_109 ?_
                      have t_166 : zT (zR (zR zx 0) 0) = 4 := sk_f hs t_165 (by decide) rfl (by decide)
                      refine ht_getr (C := RX3) (T := TX3) (N := 3) hx hb hts (by decide +kernel) hown hK hP hs t_166 (by decide) rfl rfl 0 (by decide) (hts (.fieldLink RX10 83 "DripStone$Hill" "rain" "[[I") (by decide +kernel)) (fun _ h9 => h9) rfl dX10_rains_112 ?_
                      have t_167 : zT (zR (zR (zR zx 0) 0) 0) = 60 := sk_f hs t_166 (by decide) rfl (by decide)
                      refine lv_iload_n hx hb dX10_rains_115 rfl (lv_at hl 1 rfl) ?_
                      refine ht_aaldA (n := 3) (q := 7) hx hb hK hP hs t_167 (by decide) rfl rfl ⟨by omega, by omega⟩ dX10_rains_116 ?_
                      have t_168 : zT (zR (zR (zR (zR zx 0) 0) 0) zia.toNatClampNeg) = 34 := sk_a (n := 3) hs t_167 rfl rfl (by decide) (cl_lt (by omega) (by omega))
                      refine lv_iload hx hb dX10_rains_117 (lv_at hl 8 rfl) ?_
                      refine lv_aload hx hb dX10_rains_119 (lv_at hl 6 rfl) ?_
                      refine ht_getr (C := RX7) (T := TX7) (N := 4) hx hb hts (by decide +kernel) hown hK hP hs t_17 (by decide) rfl rfl 0 (by decide) (hts (.fieldLink RX10 94 "DripStone$Sheet" "items" "[I") (by decide +kernel)) (fun _ h9 => h9) rfl dX10_rains_121 ?_
                      have t_169 : zT (zR (zR (zR zx 5) zib.toNatClampNeg) 0) = 36 := sk_f hs t_17 (by decide) rfl (by decide)
                      refine lv_iload hx hb dX10_rains_124 (lv_at hl 4 rfl) ?_
                      refine lv_iload hx hb dX10_rains_126 (lv_at hl 8 rfl) ?_
                      refine lv_iadd hx hb dX10_rains_128 ?_
                      refine lv_topi (fun zi_170 ezi_170 => ?_)
                      have tzi_170 : zi_170.toInt = zid.toInt + zi_148.toInt := by rw [ezi_170]; exact tiadd (rfl) (rfl) (by omega) (by omega)
                      refine ht_iald (n := 24) (q := 0) hx hb hK hP hs t_169 (by decide) rfl rfl ⟨by omega, by omega⟩ dX10_rains_129 ?_
                      refine lv_topi (fun zi_171 ezi_171 => ?_)
                      have zb_172 : zi_171.toInt = zB (zI (zR (zR (zR zx 5) zib.toNatClampNeg) 0)) (zid.toInt + zi_148.toInt) := by rw [zB_at (i := zi_170) (show zi_170.toInt = zid.toInt + zi_148.toInt from by omega), ← show zI_149 (zR (zR (zR zx 5) zib.toNatClampNeg) 0) = zI (zR (zR (zR zx 5) zib.toNatClampNeg) 0) from h_zI_149.2.row t_169 (by decide) (by decide), show zI_149 (zR (zR (zR zx 5) zib.toNatClampNeg) 0) zi_170.toNatClampNeg = zi_171 from ezi_171.symm]
                      refine ht_iast (v := zi_171) (n := 24) (q := 0) hx hb hK hP hD hS hs t_168 (by decide) rfl rfl ⟨by omega, by omega⟩ dX10_rains_130 (fun H locs hP hD hS => ?_)
                      have h_zI_173 : WM [3400] AL zT zR zI (u2 zI_149 (zR (zR (zR (zR zx 0) 0) 0) zia.toNatClampNeg) zi_148.toNatClampNeg zi_171) := h_zI_149.putA hs t_168 rfl (rgF _) (by decide) (fun h => absurd h (by decide)) (by decide) trivial
                      generalize uzI_173 : u2 zI_149 (zR (zR (zR (zR zx 0) 0) 0) zia.toNatClampNeg) zi_148.toNatClampNeg zi_171 = zI_173 at hP hD h_zI_173
                      obtain ⟨zi_174, ezi_174⟩ : ∃ y : Int32, y = zi_148 + 1 := ⟨_, rfl⟩
                      have tzi_174 : zi_174.toInt = zi_148.toInt + 1 := by rw [ezi_174]; exact tadd rfl (show (1 : Int32).toInt = 1 by decide) (by omega) (by omega)
                      refine lv_iinc (v := zi_174) (lv' := [(8, .int zi_174), (0, .ref zx), (1, .int zia), (2, .int zib), (3, .int zic), (4, .int zid), (5, .int zie), (6, .ref (zR (zR zx 5) zib.toNatClampNeg)), (7, .int zi_18)]) hx hb dX10_rains_131 hl (k := 8) rfl (by rw [ezi_174]; rfl) (by decide) rfl (fun ls hl => ?_)
                      refine lv_goto (tgt := 98) hx hb dX10_rains_134 (by decide) ?_
                      exact ih_162 (zie.toInt - zi_174.toInt).toNat (by omega) zi_174 zI_173 _ _ _ rfl (by omega) h_zI_173 (by rw [← uzI_173]; exact RNS.s (i := zi_148) e_lp_162_0 (by omega) rfl zb_172 (by omega)) (by omega) hP hD hS (lv_sub hl [1, 2, 3, 4, 5, 6, 7, 8, 0] rfl)
                have qc_0 : (0 : Int32).toInt = 0 := by decide
                exact lp_162 _ (0 : Int32) zI _ _ _ rfl (by decide) h_zI RNS.z (by omega) hP hD hS (lv_sub hl [1, 2, 3, 4, 5, 6, 7, 8, 0] rfl)
              · have f_96 : ¬ (zi_81.toInt ≥ zie.toInt) := ic_nge (rfl) (rfl) c_95
                refine lv_iload_n hx hb dX10_rains_68 rfl (lv_at hl 1 rfl) ?_
                refine lv_aload hx hb dX10_rains_69 (lv_at hl 6 rfl) ?_
                refine ht_getr (C := RX7) (T := TX7) (N := 4) hx hb hts (by decide +kernel) hown hK hP hs t_17 (by decide) rfl rfl 0 (by decide) (hts (.fieldLink RX10 94 "DripStone$Sheet" "items" "[I") (by decide +kernel)) (fun _ h9 => h9) rfl dX10_rains_71 ?_
                have t_175 : zT (zR (zR (zR zx 5) zib.toNatClampNeg) 0) = 36 := sk_f hs t_17 (by decide) rfl (by decide)
                refine lv_iload hx hb dX10_rains_74 (lv_at hl 4 rfl) ?_
                refine lv_iload hx hb dX10_rains_76 (lv_at hl 8 rfl) ?_
                refine lv_iadd hx hb dX10_rains_78 ?_
                refine lv_topi (fun zi_176 ezi_176 => ?_)
                have tzi_176 : zi_176.toInt = zid.toInt + zi_81.toInt := by rw [ezi_176]; exact tiadd (rfl) (rfl) (by omega) (by omega)
                refine ht_iald (n := 24) (q := 0) hx hb hK hP hs t_175 (by decide) rfl rfl ⟨by omega, by omega⟩ dX10_rains_79 ?_
                refine lv_topi (fun zi_177 ezi_177 => ?_)
                have zb_178 : zi_177.toInt = zB (zI (zR (zR (zR zx 5) zib.toNatClampNeg) 0)) (zid.toInt + zi_81.toInt) := by rw [zB_at (i := zi_176) (show zi_176.toInt = zid.toInt + zi_81.toInt from by omega), show zI (zR (zR (zR zx 5) zib.toNatClampNeg) 0) zi_176.toNatClampNeg = zi_177 from ezi_177.symm]
                refine hj0_i (ws := (WL cy zL zT zR zI zJ)) (va_runS (As := [.int zia, .int zi_177]) (rest := []) ⟨hx, hb, hml, hown, hts⟩ (c_X3_fits l dC dI cy H.size zia zi_177) (va_cwS 2 hts gX10_rains_X3_fits rfl rfl rfl (by decide +kernel) ⟨(Nat.le_of_ble_eq_true rfl), (Nat.le_of_ble_eq_true rfl)⟩) (PRE.s (hP.sub [] rfl) hK (hD.sub [] (by decide) rfl) hN) rfl rfl hl.1 rfl (lv_room (Nat.le_of_ble_eq_true rfl)) dX10_rains_80 ⟨(Nat.le_of_ble_eq_true rfl), (Nat.le_of_ble_eq_true rfl)⟩) hP hD hS hA (fun zi_179 u_181 H locs hw_180 hP hD hS => ?_)
                have hw_180 : zi_179 = if (zia.toInt = 1 ∧ -20 ≤ zi_177.toInt ∧ zi_177.toInt ≤ 20) ∨ (¬ zia.toInt = 1 ∧ 0 ≤ zi_177.toInt ∧ zi_177.toInt ≤ 9) then 1 else 0 := hw_180
                have b_zi_179 : 0 ≤ zi_179.toInt ∧ zi_179.toInt ≤ 1 := bz_b hw_180
                refine lv_if_ne (tgt := 89) hx hb dX10_rains_83 (by decide) (fun c_182 => ?_) (fun c_182 => ?_)
                · have f_183 : (zia.toInt = 1 ∧ -20 ≤ zi_177.toInt ∧ zi_177.toInt ≤ 20) ∨ (¬ zia.toInt = 1 ∧ 0 ≤ zi_177.toInt ∧ zi_177.toInt ≤ 9) := bz_1 hw_180 c_182
                  obtain ⟨zi_184, ezi_184⟩ : ∃ y : Int32, y = zi_81 + 1 := ⟨_, rfl⟩
                  have tzi_184 : zi_184.toInt = zi_81.toInt + 1 := by rw [ezi_184]; exact tadd rfl (show (1 : Int32).toInt = 1 by decide) (by omega) (by omega)
                  refine lv_iinc (v := zi_184) (lv' := [(8, .int zi_184), (0, .ref zx), (1, .int zia), (2, .int zib), (3, .int zic), (4, .int zid), (5, .int zie), (6, .ref (zR (zR zx 5) zib.toNatClampNeg)), (7, .int zi_18)]) hx hb dX10_rains_89 hl (k := 8) rfl (by rw [ezi_184]; rfl) (by decide) rfl (fun ls hl => ?_)
                  refine lv_goto (tgt := 61) hx hb dX10_rains_92 (by decide) ?_
                  exact ih_94 (zie.toInt - zi_184.toInt).toNat (by omega) zi_184 _ _ _ rfl (by omega) (MAYS.s e_lp_94_0 (show MAYp zia.toInt zi_177.toInt from by unfold MAYp; omega) zb_178 (by omega)) hP hD hS (lv_sub hl [1, 2, 3, 4, 5, 6, 7, 8, 0] rfl)
                · have f_183 : ¬ ((zia.toInt = 1 ∧ -20 ≤ zi_177.toInt ∧ zi_177.toInt ≤ 20) ∨ (¬ zia.toInt = 1 ∧ 0 ≤ zi_177.toInt ∧ zi_177.toInt ≤ 9)) := bz_0 hw_180 c_182
                  refine lv_bipush (v := (-2)) hx hb dX10_rains_86 (by decide) ?_
                  subst hQ
                  have qc_m2 : (-2 : Int32).toInt = -2 := by decide
                  exact W.iret (v := (-2 : Int32)) hx hb hr (fun t ht hW => ⟨⟨(-2 : Int32), zI, rfl, ⟨h_zI, (show (-13) ≤ (-2 : Int32).toInt ∧ (-2 : Int32).toInt ≤ 24 from by omega), (show JX zR zI zx from hj), (show ¬ (RSok zia.toInt zib.toInt zic.toInt zie.toInt) → ((-2 : Int32).toInt = -1 ∧ zI = zI) from (fun h9 => absurd (show RSok zia.toInt zib.toInt zic.toInt zie.toInt from by unfold RSok; omega) h9)), (show RSok zia.toInt zib.toInt zic.toInt zie.toInt → ¬ (RFS (zI (zR (zR zx 5) zib.toNatClampNeg) 3).toInt (zI (zR (zR zx 5) zib.toNatClampNeg) 1).toInt (zI (zR (zR zx 5) zib.toNatClampNeg) 2).toInt zic.toInt zid.toInt zie.toInt) = 0 → ((-2 : Int32).toInt = (RFS (zI (zR (zR zx 5) zib.toNatClampNeg) 3).toInt (zI (zR (zR zx 5) zib.toNatClampNeg) 1).toInt (zI (zR (zR zx 5) zib.toNatClampNeg) 2).toInt zic.toInt zid.toInt zie.toInt) ∧ zI = zI) from (fun _ h9 => absurd (by omega) h9)), (show RSok zia.toInt zib.toInt zic.toInt zie.toInt → (RFS (zI (zR (zR zx 5) zib.toNatClampNeg) 3).toInt (zI (zR (zR zx 5) zib.toNatClampNeg) 1).toInt (zI (zR (zR zx 5) zib.toNatClampNeg) 2).toInt zic.toInt zid.toInt zie.toInt) = 0 → ¬ MAYS (zI (zR (zR (zR zx 5) zib.toNatClampNeg) 0)) zia.toInt zid.toInt zie.toInt → ((-2 : Int32).toInt = -2 ∧ zI = zI) from (fun _ _ _ => ⟨by decide, rfl⟩)), (show RSok zia.toInt zib.toInt zic.toInt zie.toInt → (RFS (zI (zR (zR zx 5) zib.toNatClampNeg) 3).toInt (zI (zR (zR zx 5) zib.toNatClampNeg) 1).toInt (zI (zR (zR zx 5) zib.toNatClampNeg) 2).toInt zic.toInt zid.toInt zie.toInt) = 0 → MAYS (zI (zR (zR (zR zx 5) zib.toNatClampNeg) 0)) zia.toInt zid.toInt zie.toInt → ((-2 : Int32).toInt = zie.toInt ∧ RNS zT zI zI (zR (zR (zR (zR zx 0) 0) 0) zia.toNatClampNeg) (zI (zR (zR (zR zx 5) zib.toNatClampNeg) 0)) zid.toInt zie.toInt) from (fun _ _ h9 => ((fun h9 => MAYS.no h9 (by omega) (by omega) zb_178 (show ¬ MAYp zia.toInt zi_177.toInt from by unfold MAYp; omega)) h9).elim))⟩, ⟨by rw [ht]; exact hP, va_K.moved hW.alike hK, hD⟩⟩, hS.F ht⟩) hS.2.2 dX10_rains_88
          have qc_0 : (0 : Int32).toInt = 0 := by decide
          exact lp_94 _ (0 : Int32) _ _ _ rfl (by decide) MAYS.z hP hD hS (lv_sub hl [3, 4, 5, 6, 7, 8, 2, 1, 0] rfl)
        · have f_31 : ¬ (zi_18.toInt = 0) := ic_neq (rfl) (by decide) c_30
          refine lv_iload hx hb dX10_rains_55 (lv_at hl 0 rfl) ?_
          subst hQ
          exact W.iret (v := zi_18) hx hb hr (fun t ht hW => ⟨⟨zi_18, zI, rfl, ⟨h_zI, (show (-13) ≤ zi_18.toInt ∧ zi_18.toInt ≤ 24 from by omega), (show JX zR zI zx from hj), (show ¬ (RSok zia.toInt zib.toInt zic.toInt zie.toInt) → (zi_18.toInt = -1 ∧ zI = zI) from (fun h9 => absurd (show RSok zia.toInt zib.toInt zic.toInt zie.toInt from by unfold RSok; omega) h9)), (show RSok zia.toInt zib.toInt zic.toInt zie.toInt → ¬ (RFS (zI (zR (zR zx 5) zib.toNatClampNeg) 3).toInt (zI (zR (zR zx 5) zib.toNatClampNeg) 1).toInt (zI (zR (zR zx 5) zib.toNatClampNeg) 2).toInt zic.toInt zid.toInt zie.toInt) = 0 → (zi_18.toInt = (RFS (zI (zR (zR zx 5) zib.toNatClampNeg) 3).toInt (zI (zR (zR zx 5) zib.toNatClampNeg) 1).toInt (zI (zR (zR zx 5) zib.toNatClampNeg) 2).toInt zic.toInt zid.toInt zie.toInt) ∧ zI = zI) from (fun _ _ => ⟨by omega, rfl⟩)), (show RSok zia.toInt zib.toInt zic.toInt zie.toInt → (RFS (zI (zR (zR zx 5) zib.toNatClampNeg) 3).toInt (zI (zR (zR zx 5) zib.toNatClampNeg) 1).toInt (zI (zR (zR zx 5) zib.toNatClampNeg) 2).toInt zic.toInt zid.toInt zie.toInt) = 0 → ¬ MAYS (zI (zR (zR (zR zx 5) zib.toNatClampNeg) 0)) zia.toInt zid.toInt zie.toInt → (zi_18.toInt = -2 ∧ zI = zI) from (fun _ h9 => absurd h9 (by omega))), (show RSok zia.toInt zib.toInt zic.toInt zie.toInt → (RFS (zI (zR (zR zx 5) zib.toNatClampNeg) 3).toInt (zI (zR (zR zx 5) zib.toNatClampNeg) 1).toInt (zI (zR (zR zx 5) zib.toNatClampNeg) 2).toInt zic.toInt zid.toInt zie.toInt) = 0 → MAYS (zI (zR (zR (zR zx 5) zib.toNatClampNeg) 0)) zia.toInt zid.toInt zie.toInt → (zi_18.toInt = zie.toInt ∧ RNS zT zI zI (zR (zR (zR (zR zx 0) 0) 0) zia.toNatClampNeg) (zI (zR (zR (zR zx 5) zib.toNatClampNeg) 0)) zid.toInt zie.toInt) from (fun _ h9 => absurd h9 (by omega)))⟩, ⟨by rw [ht]; exact hP, va_K.moved hW.alike hK, hD⟩⟩, hS.F ht⟩) hS.2.2 dX10_rains_57
      · have f_15 : ¬ (1 ≤ zie.toInt ∧ zie.toInt ≤ 24) := bz_0 hw_12 c_14
        refine lv_iconst (v := (-1)) hx hb dX10_rains_28 (by decide) ?_
        subst hQ
        have qc_m1 : (-1 : Int32).toInt = -1 := by decide
        exact W.iret (v := (-1 : Int32)) hx hb hr (fun t ht hW => ⟨⟨(-1 : Int32), zI, rfl, ⟨h_zI, (show (-13) ≤ (-1 : Int32).toInt ∧ (-1 : Int32).toInt ≤ 24 from by omega), (show JX zR zI zx from hj), (show ¬ (RSok zia.toInt zib.toInt zic.toInt zie.toInt) → ((-1 : Int32).toInt = -1 ∧ zI = zI) from (fun _ => ⟨by decide, rfl⟩)), (show RSok zia.toInt zib.toInt zic.toInt zie.toInt → ¬ (RFS (zI (zR (zR zx 5) zib.toNatClampNeg) 3).toInt (zI (zR (zR zx 5) zib.toNatClampNeg) 1).toInt (zI (zR (zR zx 5) zib.toNatClampNeg) 2).toInt zic.toInt zid.toInt zie.toInt) = 0 → ((-1 : Int32).toInt = (RFS (zI (zR (zR zx 5) zib.toNatClampNeg) 3).toInt (zI (zR (zR zx 5) zib.toNatClampNeg) 1).toInt (zI (zR (zR zx 5) zib.toNatClampNeg) 2).toInt zic.toInt zid.toInt zie.toInt) ∧ zI = zI) from (fun h9 => absurd h9 (by unfold RSok; omega))), (show RSok zia.toInt zib.toInt zic.toInt zie.toInt → (RFS (zI (zR (zR zx 5) zib.toNatClampNeg) 3).toInt (zI (zR (zR zx 5) zib.toNatClampNeg) 1).toInt (zI (zR (zR zx 5) zib.toNatClampNeg) 2).toInt zic.toInt zid.toInt zie.toInt) = 0 → ¬ MAYS (zI (zR (zR (zR zx 5) zib.toNatClampNeg) 0)) zia.toInt zid.toInt zie.toInt → ((-1 : Int32).toInt = -2 ∧ zI = zI) from (fun h9 => absurd h9 (by unfold RSok; omega))), (show RSok zia.toInt zib.toInt zic.toInt zie.toInt → (RFS (zI (zR (zR zx 5) zib.toNatClampNeg) 3).toInt (zI (zR (zR zx 5) zib.toNatClampNeg) 1).toInt (zI (zR (zR zx 5) zib.toNatClampNeg) 2).toInt zic.toInt zid.toInt zie.toInt) = 0 → MAYS (zI (zR (zR (zR zx 5) zib.toNatClampNeg) 0)) zia.toInt zid.toInt zie.toInt → ((-1 : Int32).toInt = zie.toInt ∧ RNS zT zI zI (zR (zR (zR (zR zx 0) 0) 0) zia.toNatClampNeg) (zI (zR (zR (zR zx 5) zib.toNatClampNeg) 0)) zid.toInt zie.toInt) from (fun h9 => absurd h9 (by unfold RSok; omega)))⟩, ⟨by rw [ht]; exact hP, va_K.moved hW.alike hK, hD⟩⟩, hS.F ht⟩) hS.2.2 dX10_rains_29
set_option maxHeartbeats 8000000 in
set_option maxRecDepth 100000 in
theorem t_X10_set (l : Launch) (dC : Nat → ClassId) (dI : Nat → Nat → Nat) (cy : Nat → ClassId) (sz : Nat) (zL : List Nat) (zT : Nat → Nat) (zR : Nat → Nat → Nat) (zI : Nat → Nat → Int32) (zJ : Nat → Nat → Int64) (zx : Nat) (zia : Int32) (zib : Int32) (hs : SKP zL zT zR) (hw : WT zT zR zI) (t_zx : zT zx = 11) (hj : JX zR zI zx) : Met l yX10_set wsX10_set ({ frames := 1, cells := 0, slots := 0, locals := 22 } : Room) (va_Pc [.ref zx, .int zia, .int zib] (PRE dC dI cy (WL cy zL zT zR zI zJ) sz)) (va_Qi (fun (r : Int32) (u : (Nat → Nat → Int32)) => (WM [401, 402] AL zT zR zI u) ∧ ((-1) ≤ r.toInt ∧ r.toInt ≤ 9) ∧ (JX zR u zx) ∧ (STok zia.toInt zib.toInt → ((zia.toInt = 0 ∧ r.toInt = (zI (zR (zR zx 0) 0) 1).toInt ∧ (u (zR (zR zx 0) 0) 1).toInt = zib.toInt ∧ u (zR (zR zx 0) 0) 2 = zI (zR (zR zx 0) 0) 2) ∨ (zia.toInt = 1 ∧ r.toInt = (zI (zR (zR zx 0) 0) 2).toInt ∧ (u (zR (zR zx 0) 0) 2).toInt = zib.toInt ∧ u (zR (zR zx 0) 0) 1 = zI (zR (zR zx 0) 0) 1))) ∧ (¬ (STok zia.toInt zib.toInt) → (r.toInt = -1 ∧ u = zI))) (fun u t => POST dC dI cy (va_A (WL cy zL zT zR zI zJ) sz) (WL cy zL zT zR u zJ) t) (va_A (WL cy zL zT zR zI zJ) sz)) 0 0 (va_A (WL cy zL zT zR zI zJ) sz) := by
  refine Met.ofW (cc := cX10_set) (maxL := 5) (ret := (some .int)) (by decide) rfl ?_
  intro p e s m args below meth c s₁ B hml hv
  obtain ⟨rfl, hsz, hP, hK, hD0, hN⟩ := hv
  have hx := B.exec
  have hb := B.bytes
  have hr := B.returns
  have hts := atoms_spec (ws := wsX10_set) B.pre
  have hown : s.vm.findClass RX10 = some m.cls := findClass_of_methodNamed B.named
  have hlocks := B.notSynchronized
  subst hsz
  have hD := hD0.self (sz := s.heap.size)
  generalize hAe : va_A (WL cy zL zT zR zI zJ) s.heap.size = A at hD ⊢
  have hA : ∀ q : Nat, s.heap.size ≤ q → A q := fun q h => by rw [← hAe]; exact Or.inr h
  have hS : va_S A s.heap s.heap [] := va_S.rf
  have hP : va_P (dC, dI) vwCl (WL cy zL zT zR zI zJ) s.heap := hP
  have hl := lv_entry ([.ref zx, .int zia, .int zib] : List Value) (n := 5) (Nat.le_of_ble_eq_true rfl)
  rw [lg_entry_eq]
  generalize (lg_sl ([.ref zx, .int zia, .int zib] : List Value) ++ List.replicate (5 - (lg_sl ([.ref zx, .int zia, .int zib] : List Value)).length) Slot.unset).toArray = ls at hl ⊢
  have hl : lv_has ls 5 [(0, .ref zx), (1, .int zia), (2, .int zib)] := hl
  refine w_q (fun Q hQ => ?_)
  have h_zI : WM [401, 402] AL zT zR zI zI := WM.rf hw
  refine lv_iload_n hx hb dX10_set_0 rfl (lv_at hl 1 rfl) ?_
  refine lv_iconst (v := 0) hx hb dX10_set_1 (by decide) ?_
  refine lv_iconst (v := 1) hx hb dX10_set_2 (by decide) ?_
  refine hj0_i (ws := (WL cy zL zT zR zI zJ)) (va_runS (As := [.int zia, .int 0, .int 1]) (rest := []) ⟨hx, hb, hml, hown, hts⟩ (c_X10_isWithin l dC dI cy s.heap.size zia 0 1 0 1 (by first | rfl | decide | omega | exact Int32.toInt_toInt64 _) (by first | rfl | decide | omega | exact Int32.toInt_toInt64 _)) (va_cwS 3 hts gX10_set_X10_isWithin rfl rfl rfl (by decide +kernel) ⟨(Nat.le_of_ble_eq_true rfl), (Nat.le_of_ble_eq_true rfl)⟩) (PRE.s (hP.sub [] rfl) hK (hD.sub [] (by decide) rfl) hN) rfl rfl hl.1 rfl (lv_room (Nat.le_of_ble_eq_true rfl)) dX10_set_3 ⟨(Nat.le_of_ble_eq_true rfl), (Nat.le_of_ble_eq_true rfl)⟩) hP hD hS hA (fun zi_1 u_3 H locs hw_2 hP hD hS => ?_)
  have hw_2 : zi_1 = if 0 ≤ zia.toInt ∧ zia.toInt ≤ 1 then 1 else 0 := hw_2
  have b_zi_1 : 0 ≤ zi_1.toInt ∧ zi_1.toInt ≤ 1 := bz_b hw_2
  refine lv_if_eq (tgt := 27) hx hb dX10_set_6 (by decide) (fun c_4 => ?_) (fun c_4 => ?_)
  · have f_5 : ¬ (0 ≤ zia.toInt ∧ zia.toInt ≤ 1) := bz_0 hw_2 c_4
    refine lv_iconst (v := (-1)) hx hb dX10_set_27 (by decide) ?_
    subst hQ
    have qc_m1 : (-1 : Int32).toInt = -1 := by decide
    exact W.iret (v := (-1 : Int32)) hx hb hr (fun t ht hW => ⟨⟨(-1 : Int32), zI, rfl, ⟨h_zI, (show (-1) ≤ (-1 : Int32).toInt ∧ (-1 : Int32).toInt ≤ 9 from by omega), (show JX zR zI zx from hj), (show STok zia.toInt zib.toInt → ((zia.toInt = 0 ∧ (-1 : Int32).toInt = (zI (zR (zR zx 0) 0) 1).toInt ∧ (zI (zR (zR zx 0) 0) 1).toInt = zib.toInt ∧ zI (zR (zR zx 0) 0) 2 = zI (zR (zR zx 0) 0) 2) ∨ (zia.toInt = 1 ∧ (-1 : Int32).toInt = (zI (zR (zR zx 0) 0) 2).toInt ∧ (zI (zR (zR zx 0) 0) 2).toInt = zib.toInt ∧ zI (zR (zR zx 0) 0) 1 = zI (zR (zR zx 0) 0) 1)) from (fun h9 => absurd h9 (by unfold STok; omega))), (show ¬ (STok zia.toInt zib.toInt) → ((-1 : Int32).toInt = -1 ∧ zI = zI) from (fun _ => ⟨by decide, rfl⟩))⟩, ⟨by rw [ht]; exact hP, va_K.moved hW.alike hK, hD⟩⟩, hS.F ht⟩) hS.2.2 dX10_set_28
  · have f_5 : 0 ≤ zia.toInt ∧ zia.toInt ≤ 1 := bz_1 hw_2 c_4
    refine lv_iload_n hx hb dX10_set_9 rfl (lv_at hl 2 rfl) ?_
    refine lv_iconst (v := 1) hx hb dX10_set_10 (by decide) ?_
    refine lv_iload_n hx hb dX10_set_11 rfl (lv_at hl 1 rfl) ?_
    refine lv_if_ne (tgt := 19) hx hb dX10_set_12 (by decide) (fun c_6 => ?_) (fun c_6 => ?_)
    · have f_7 : zia.toInt ≠ 0 := ic_ne (rfl) (by decide) c_6
      refine lv_bipush (v := 9) hx hb dX10_set_19 (by decide) ?_
      refine hj0_i (ws := (WL cy zL zT zR zI zJ)) (va_runS (As := [.int zib, .int 1, .int 9]) (rest := []) ⟨hx, hb, hml, hown, hts⟩ (c_X10_isWithin l dC dI cy H.size zib 1 9 1 9 (by first | rfl | decide | omega | exact Int32.toInt_toInt64 _) (by first | rfl | decide | omega | exact Int32.toInt_toInt64 _)) (va_cwS 3 hts gX10_set_X10_isWithin rfl rfl rfl (by decide +kernel) ⟨(Nat.le_of_ble_eq_true rfl), (Nat.le_of_ble_eq_true rfl)⟩) (PRE.s (hP.sub [] rfl) hK (hD.sub [] (by decide) rfl) hN) rfl rfl hl.1 rfl (lv_room (Nat.le_of_ble_eq_true rfl)) dX10_set_21 ⟨(Nat.le_of_ble_eq_true rfl), (Nat.le_of_ble_eq_true rfl)⟩) hP hD hS hA (fun zi_8 u_10 H locs hw_9 hP hD hS => ?_)
      have hw_9 : zi_8 = if 1 ≤ zib.toInt ∧ zib.toInt ≤ 9 then 1 else 0 := hw_9
      have b_zi_8 : 0 ≤ zi_8.toInt ∧ zi_8.toInt ≤ 1 := bz_b hw_9
      refine lv_if_ne (tgt := 29) hx hb dX10_set_24 (by decide) (fun c_11 => ?_) (fun c_11 => ?_)
      · have f_12 : 1 ≤ zib.toInt ∧ zib.toInt ≤ 9 := bz_1 hw_9 c_11
        refine lv_aload_n hx hb dX10_set_29 rfl (lv_at hl 0 rfl) ?_
        refine ht_getr (C := RX10) (T := TX10) (N := 10) hx hb hts (by decide +kernel) hown hK hP hs t_zx (by decide) rfl rfl 0 (by decide) (hts (.fieldLink RX10 12 "DripStone" "now" "LDripStone$State;") (by decide +kernel)) (fun _ h9 => h9) rfl dX10_set_30 ?_
        have t_13 : zT (zR zx 0) = 9 := sk_f hs t_zx (by decide) rfl (by decide)
        refine ht_getr (C := RX8) (T := TX8) (N := 9) hx hb hts (by decide +kernel) hown hK hP hs t_13 (by decide) rfl rfl 0 (by decide) (hts (.fieldLink RX10 79 "DripStone$State" "hill" "LDripStone$Hill;") (by decide +kernel)) (fun _ h9 => h9) rfl dX10_set_33 ?_
        have t_14 : zT (zR (zR zx 0) 0) = 4 := sk_f hs t_13 (by decide) rfl (by decide)
        refine lv_astore_n (lv' := [(3, .ref (zR (zR zx 0) 0)), (0, .ref zx), (1, .int zia), (2, .int zib)]) hx hb dX10_set_36 rfl hl (by decide) rfl (fun ls hl => ?_)
        refine lv_iload_n hx hb dX10_set_37 rfl (lv_at hl 2 rfl) ?_
        refine lv_if_ne (tgt := 48) hx hb dX10_set_38 (by decide) (fun c_15 => ?_) (fun c_15 => ?_)
        · have f_16 : zia.toInt ≠ 0 := ic_ne (rfl) (by decide) c_15
          refine lv_aload_n hx hb dX10_set_48 rfl (lv_at hl 0 rfl) ?_
          refine ht_geti (C := RX3) (T := TX3) (N := 3) hx hb hts (by decide +kernel) hown hK hP hs t_14 (by decide) rfl rfl 2 (by decide) (hts (.fieldLink RX10 102 "DripStone$Hill" "seen" "I") (by decide +kernel)) (fun _ h9 => h9) rfl dX10_set_49 ?_
          refine lv_topi (fun zi_17 ezi_17 => ?_)
          have tzi_17 : 1 ≤ zi_17.toInt ∧ zi_17.toInt ≤ 9 := by rw [ezi_17]; exact h_zI.at t_14 _ rfl
          have lzi_17 : (zI (zR (zR zx 0) 0) 2).toInt = zi_17.toInt := by rw [ezi_17]
          refine lv_istore (lv' := [(4, .int zi_17), (3, .ref (zR (zR zx 0) 0)), (0, .ref zx), (1, .int zia), (2, .int zib)]) hx hb dX10_set_52 hl (by decide) rfl (fun ls hl => ?_)
          refine lv_iload_n hx hb dX10_set_54 rfl (lv_at hl 3 rfl) ?_
          refine lv_if_ne (tgt := 66) hx hb dX10_set_55 (by decide) (fun c_18 => ?_) (fun c_18 => ?_)
          · have f_19 : zia.toInt ≠ 0 := ic_ne (rfl) (by decide) c_18
            refine lv_aload_n hx hb dX10_set_66 rfl (lv_at hl 1 rfl) ?_
            refine lv_iload_n hx hb dX10_set_67 rfl (lv_at hl 4 rfl) ?_
            refine ht_puti (v := zib) (ty := .int) (C := RX3) (T := TX3) (N := 3) hx hb hts (by decide +kernel) tyX3 tyX3_ok nmX3 hown hK hP hD hS hs t_14 (by decide) rfl rfl 2 (by decide) (hts (.fieldLink RX10 102 "DripStone$Hill" "seen" "I") (by decide +kernel)) (fun _ h9 => h9) rfl (by decide +kernel) rfl rfl rfl dX10_set_68 (fun H locs hP hD hS => ?_)
            have h_zI_20 : WM [401, 402] AL zT zR zI (u2 zI (zR (zR zx 0) 0) 2 zib) := h_zI.put hs t_14 rfl (by omega) (by decide) (fun h => absurd h (by decide)) (by decide) trivial
            generalize uzI_20 : u2 zI (zR (zR zx 0) 0) 2 zib = zI_20 at hP hD h_zI_20
            refine lv_iload hx hb dX10_set_71 (lv_at hl 0 rfl) ?_
            subst hQ
            exact W.iret (v := zi_17) hx hb hr (fun t ht hW => ⟨⟨zi_17, zI_20, rfl, ⟨h_zI_20, (show (-1) ≤ zi_17.toInt ∧ zi_17.toInt ≤ 9 from by omega), (show JX zR zI_20 zx from (JX.sm hj hs t_zx h_zI_20.2 (by decide) (by decide))), (show STok zia.toInt zib.toInt → ((zia.toInt = 0 ∧ zi_17.toInt = (zI (zR (zR zx 0) 0) 1).toInt ∧ (zI_20 (zR (zR zx 0) 0) 1).toInt = zib.toInt ∧ zI_20 (zR (zR zx 0) 0) 2 = zI (zR (zR zx 0) 0) 2) ∨ (zia.toInt = 1 ∧ zi_17.toInt = (zI (zR (zR zx 0) 0) 2).toInt ∧ (zI_20 (zR (zR zx 0) 0) 2).toInt = zib.toInt ∧ zI_20 (zR (zR zx 0) 0) 1 = zI (zR (zR zx 0) 0) 1)) from (fun _ => (Or.inr ⟨by omega, by omega, by rw [← uzI_20, u2_s], by rw [← uzI_20]; exact u2_k (by decide)⟩))), (show ¬ (STok zia.toInt zib.toInt) → (zi_17.toInt = -1 ∧ zI_20 = zI) from (fun h9 => absurd (show STok zia.toInt zib.toInt from by unfold STok; omega) h9))⟩, ⟨by rw [ht]; exact hP, va_K.moved hW.alike hK, hD⟩⟩, hS.F ht⟩) hS.2.2 dX10_set_73
          · have f_19 : ¬ (zia.toInt ≠ 0) := ic_nne (rfl) (by decide) c_18
            exfalso; omega
        · have f_16 : ¬ (zia.toInt ≠ 0) := ic_nne (rfl) (by decide) c_15
          exfalso; omega
      · have f_12 : ¬ (1 ≤ zib.toInt ∧ zib.toInt ≤ 9) := bz_0 hw_9 c_11
        refine lv_iconst (v := (-1)) hx hb dX10_set_27 (by decide) ?_
        subst hQ
        have qc_m1 : (-1 : Int32).toInt = -1 := by decide
        exact W.iret (v := (-1 : Int32)) hx hb hr (fun t ht hW => ⟨⟨(-1 : Int32), zI, rfl, ⟨h_zI, (show (-1) ≤ (-1 : Int32).toInt ∧ (-1 : Int32).toInt ≤ 9 from by omega), (show JX zR zI zx from hj), (show STok zia.toInt zib.toInt → ((zia.toInt = 0 ∧ (-1 : Int32).toInt = (zI (zR (zR zx 0) 0) 1).toInt ∧ (zI (zR (zR zx 0) 0) 1).toInt = zib.toInt ∧ zI (zR (zR zx 0) 0) 2 = zI (zR (zR zx 0) 0) 2) ∨ (zia.toInt = 1 ∧ (-1 : Int32).toInt = (zI (zR (zR zx 0) 0) 2).toInt ∧ (zI (zR (zR zx 0) 0) 2).toInt = zib.toInt ∧ zI (zR (zR zx 0) 0) 1 = zI (zR (zR zx 0) 0) 1)) from (fun h9 => absurd h9 (by unfold STok; omega))), (show ¬ (STok zia.toInt zib.toInt) → ((-1 : Int32).toInt = -1 ∧ zI = zI) from (fun _ => ⟨by decide, rfl⟩))⟩, ⟨by rw [ht]; exact hP, va_K.moved hW.alike hK, hD⟩⟩, hS.F ht⟩) hS.2.2 dX10_set_28
    · have f_7 : ¬ (zia.toInt ≠ 0) := ic_nne (rfl) (by decide) c_6
      refine lv_iconst (v := 5) hx hb dX10_set_15 (by decide) ?_
      refine lv_goto (tgt := 21) hx hb dX10_set_16 (by decide) ?_
      refine hj0_i (ws := (WL cy zL zT zR zI zJ)) (va_runS (As := [.int zib, .int 1, .int 5]) (rest := []) ⟨hx, hb, hml, hown, hts⟩ (c_X10_isWithin l dC dI cy H.size zib 1 5 1 5 (by first | rfl | decide | omega | exact Int32.toInt_toInt64 _) (by first | rfl | decide | omega | exact Int32.toInt_toInt64 _)) (va_cwS 3 hts gX10_set_X10_isWithin rfl rfl rfl (by decide +kernel) ⟨(Nat.le_of_ble_eq_true rfl), (Nat.le_of_ble_eq_true rfl)⟩) (PRE.s (hP.sub [] rfl) hK (hD.sub [] (by decide) rfl) hN) rfl rfl hl.1 rfl (lv_room (Nat.le_of_ble_eq_true rfl)) dX10_set_21 ⟨(Nat.le_of_ble_eq_true rfl), (Nat.le_of_ble_eq_true rfl)⟩) hP hD hS hA (fun zi_21 u_23 H locs hw_22 hP hD hS => ?_)
      have hw_22 : zi_21 = if 1 ≤ zib.toInt ∧ zib.toInt ≤ 5 then 1 else 0 := hw_22
      have b_zi_21 : 0 ≤ zi_21.toInt ∧ zi_21.toInt ≤ 1 := bz_b hw_22
      refine lv_if_ne (tgt := 29) hx hb dX10_set_24 (by decide) (fun c_24 => ?_) (fun c_24 => ?_)
      · have f_25 : 1 ≤ zib.toInt ∧ zib.toInt ≤ 5 := bz_1 hw_22 c_24
        refine lv_aload_n hx hb dX10_set_29 rfl (lv_at hl 0 rfl) ?_
        refine ht_getr (C := RX10) (T := TX10) (N := 10) hx hb hts (by decide +kernel) hown hK hP hs t_zx (by decide) rfl rfl 0 (by decide) (hts (.fieldLink RX10 12 "DripStone" "now" "LDripStone$State;") (by decide +kernel)) (fun _ h9 => h9) rfl dX10_set_30 ?_
        have t_26 : zT (zR zx 0) = 9 := sk_f hs t_zx (by decide) rfl (by decide)
        refine ht_getr (C := RX8) (T := TX8) (N := 9) hx hb hts (by decide +kernel) hown hK hP hs t_26 (by decide) rfl rfl 0 (by decide) (hts (.fieldLink RX10 79 "DripStone$State" "hill" "LDripStone$Hill;") (by decide +kernel)) (fun _ h9 => h9) rfl dX10_set_33 ?_
        have t_27 : zT (zR (zR zx 0) 0) = 4 := sk_f hs t_26 (by decide) rfl (by decide)
        refine lv_astore_n (lv' := [(3, .ref (zR (zR zx 0) 0)), (0, .ref zx), (1, .int zia), (2, .int zib)]) hx hb dX10_set_36 rfl hl (by decide) rfl (fun ls hl => ?_)
        refine lv_iload_n hx hb dX10_set_37 rfl (lv_at hl 2 rfl) ?_
        refine lv_if_ne (tgt := 48) hx hb dX10_set_38 (by decide) (fun c_28 => ?_) (fun c_28 => ?_)
        · have f_29 : zia.toInt ≠ 0 := ic_ne (rfl) (by decide) c_28
          exfalso; omega
        · have f_29 : ¬ (zia.toInt ≠ 0) := ic_nne (rfl) (by decide) c_28
          refine lv_aload_n hx hb dX10_set_41 rfl (lv_at hl 0 rfl) ?_
          refine ht_geti (C := RX3) (T := TX3) (N := 3) hx hb hts (by decide +kernel) hown hK hP hs t_27 (by decide) rfl rfl 1 (by decide) (hts (.fieldLink RX10 98 "DripStone$Hill" "keeps" "I") (by decide +kernel)) (fun _ h9 => h9) rfl dX10_set_42 ?_
          refine lv_topi (fun zi_30 ezi_30 => ?_)
          have tzi_30 : 1 ≤ zi_30.toInt ∧ zi_30.toInt ≤ 5 := by rw [ezi_30]; exact h_zI.at t_27 _ rfl
          have lzi_30 : (zI (zR (zR zx 0) 0) 1).toInt = zi_30.toInt := by rw [ezi_30]
          refine lv_goto (tgt := 52) hx hb dX10_set_45 (by decide) ?_
          refine lv_istore (lv' := [(4, .int zi_30), (3, .ref (zR (zR zx 0) 0)), (0, .ref zx), (1, .int zia), (2, .int zib)]) hx hb dX10_set_52 hl (by decide) rfl (fun ls hl => ?_)
          refine lv_iload_n hx hb dX10_set_54 rfl (lv_at hl 3 rfl) ?_
          refine lv_if_ne (tgt := 66) hx hb dX10_set_55 (by decide) (fun c_31 => ?_) (fun c_31 => ?_)
          · have f_32 : zia.toInt ≠ 0 := ic_ne (rfl) (by decide) c_31
            exfalso; omega
          · have f_32 : ¬ (zia.toInt ≠ 0) := ic_nne (rfl) (by decide) c_31
            refine lv_aload_n hx hb dX10_set_58 rfl (lv_at hl 1 rfl) ?_
            refine lv_iload_n hx hb dX10_set_59 rfl (lv_at hl 4 rfl) ?_
            refine ht_puti (v := zib) (ty := .int) (C := RX3) (T := TX3) (N := 3) hx hb hts (by decide +kernel) tyX3 tyX3_ok nmX3 hown hK hP hD hS hs t_27 (by decide) rfl rfl 1 (by decide) (hts (.fieldLink RX10 98 "DripStone$Hill" "keeps" "I") (by decide +kernel)) (fun _ h9 => h9) rfl (by decide +kernel) rfl rfl rfl dX10_set_60 (fun H locs hP hD hS => ?_)
            have h_zI_33 : WM [401, 402] AL zT zR zI (u2 zI (zR (zR zx 0) 0) 1 zib) := h_zI.put hs t_27 rfl (by omega) (by decide) (fun h => absurd h (by decide)) (by decide) trivial
            generalize uzI_33 : u2 zI (zR (zR zx 0) 0) 1 zib = zI_33 at hP hD h_zI_33
            refine lv_goto (tgt := 71) hx hb dX10_set_63 (by decide) ?_
            refine lv_iload hx hb dX10_set_71 (lv_at hl 0 rfl) ?_
            subst hQ
            exact W.iret (v := zi_30) hx hb hr (fun t ht hW => ⟨⟨zi_30, zI_33, rfl, ⟨h_zI_33, (show (-1) ≤ zi_30.toInt ∧ zi_30.toInt ≤ 9 from by omega), (show JX zR zI_33 zx from (JX.sm hj hs t_zx h_zI_33.2 (by decide) (by decide))), (show STok zia.toInt zib.toInt → ((zia.toInt = 0 ∧ zi_30.toInt = (zI (zR (zR zx 0) 0) 1).toInt ∧ (zI_33 (zR (zR zx 0) 0) 1).toInt = zib.toInt ∧ zI_33 (zR (zR zx 0) 0) 2 = zI (zR (zR zx 0) 0) 2) ∨ (zia.toInt = 1 ∧ zi_30.toInt = (zI (zR (zR zx 0) 0) 2).toInt ∧ (zI_33 (zR (zR zx 0) 0) 2).toInt = zib.toInt ∧ zI_33 (zR (zR zx 0) 0) 1 = zI (zR (zR zx 0) 0) 1)) from (fun _ => (Or.inl ⟨by omega, by omega, by rw [← uzI_33, u2_s], by rw [← uzI_33]; exact u2_k (by decide)⟩))), (show ¬ (STok zia.toInt zib.toInt) → (zi_30.toInt = -1 ∧ zI_33 = zI) from (fun h9 => absurd (show STok zia.toInt zib.toInt from by unfold STok; omega) h9))⟩, ⟨by rw [ht]; exact hP, va_K.moved hW.alike hK, hD⟩⟩, hS.F ht⟩) hS.2.2 dX10_set_73
      · have f_25 : ¬ (1 ≤ zib.toInt ∧ zib.toInt ≤ 5) := bz_0 hw_22 c_24
        refine lv_iconst (v := (-1)) hx hb dX10_set_27 (by decide) ?_
        subst hQ
        have qc_m1 : (-1 : Int32).toInt = -1 := by decide
        exact W.iret (v := (-1 : Int32)) hx hb hr (fun t ht hW => ⟨⟨(-1 : Int32), zI, rfl, ⟨h_zI, (show (-1) ≤ (-1 : Int32).toInt ∧ (-1 : Int32).toInt ≤ 9 from by omega), (show JX zR zI zx from hj), (show STok zia.toInt zib.toInt → ((zia.toInt = 0 ∧ (-1 : Int32).toInt = (zI (zR (zR zx 0) 0) 1).toInt ∧ (zI (zR (zR zx 0) 0) 1).toInt = zib.toInt ∧ zI (zR (zR zx 0) 0) 2 = zI (zR (zR zx 0) 0) 2) ∨ (zia.toInt = 1 ∧ (-1 : Int32).toInt = (zI (zR (zR zx 0) 0) 2).toInt ∧ (zI (zR (zR zx 0) 0) 2).toInt = zib.toInt ∧ zI (zR (zR zx 0) 0) 1 = zI (zR (zR zx 0) 0) 1)) from (fun h9 => absurd h9 (by unfold STok; omega))), (show ¬ (STok zia.toInt zib.toInt) → ((-1 : Int32).toInt = -1 ∧ zI = zI) from (fun _ => ⟨by decide, rfl⟩))⟩, ⟨by rw [ht]; exact hP, va_K.moved hW.alike hK, hD⟩⟩, hS.F ht⟩) hS.2.2 dX10_set_28
set_option maxHeartbeats 8000000 in
set_option maxRecDepth 100000 in
theorem t_X10_wet (l : Launch) (dC : Nat → ClassId) (dI : Nat → Nat → Nat) (cy : Nat → ClassId) (sz : Nat) (zL : List Nat) (zT : Nat → Nat) (zR : Nat → Nat → Nat) (zI : Nat → Nat → Int32) (zJ : Nat → Nat → Int64) (zx : Nat) (zia : Int32) (hs : SKP zL zT zR) (hw : WT zT zR zI) (t_zx : zT zx = 11) (hj : JX zR zI zx) : Met l yX10_wet wsX10_wet ({ frames := 2, cells := 0, slots := 0, locals := 54 } : Room) (va_Pc [.ref zx, .int zia] (PRE dC dI cy (WL cy zL zT zR zI zJ) sz)) (va_Qi (fun (r : Int32) (u : Unit) => (JX zR zI zx) ∧ (¬ (0 ≤ zia.toInt ∧ zia.toInt ≤ 23) → r.toInt = -1) ∧ ((0 ≤ zia.toInt ∧ zia.toInt ≤ 23) → r = WTC (zI (zR (zR (zR (zR zx 0) 0) 0) 0)) zia.toInt (zI (zR (zR zx 0) 0) 1).toInt)) (fun u t => POST dC dI cy (va_A (WL cy zL zT zR zI zJ) sz) (WL cy zL zT zR zI zJ) t) (va_A (WL cy zL zT zR zI zJ) sz)) 0 0 (va_A (WL cy zL zT zR zI zJ) sz) := by
  refine Met.ofW (cc := cX10_wet) (maxL := 2) (ret := (some .int)) (by decide) rfl ?_
  intro p e s m args below meth c s₁ B hml hv
  obtain ⟨rfl, hsz, hP, hK, hD0, hN⟩ := hv
  have hx := B.exec
  have hb := B.bytes
  have hr := B.returns
  have hts := atoms_spec (ws := wsX10_wet) B.pre
  have hown : s.vm.findClass RX10 = some m.cls := findClass_of_methodNamed B.named
  have hlocks := B.notSynchronized
  subst hsz
  have hD := hD0.self (sz := s.heap.size)
  generalize hAe : va_A (WL cy zL zT zR zI zJ) s.heap.size = A at hD ⊢
  have hA : ∀ q : Nat, s.heap.size ≤ q → A q := fun q h => by rw [← hAe]; exact Or.inr h
  have hS : va_S A s.heap s.heap [] := va_S.rf
  have hP : va_P (dC, dI) vwCl (WL cy zL zT zR zI zJ) s.heap := hP
  have hl := lv_entry ([.ref zx, .int zia] : List Value) (n := 2) (Nat.le_of_ble_eq_true rfl)
  rw [lg_entry_eq]
  generalize (lg_sl ([.ref zx, .int zia] : List Value) ++ List.replicate (2 - (lg_sl ([.ref zx, .int zia] : List Value)).length) Slot.unset).toArray = ls at hl ⊢
  have hl : lv_has ls 2 [(0, .ref zx), (1, .int zia)] := hl
  refine w_q (fun Q hQ => ?_)
  have h_zI : WM [] AL zT zR zI zI := WM.rf hw
  refine lv_iload_n hx hb dX10_wet_0 rfl (lv_at hl 1 rfl) ?_
  refine hj0_i (ws := (WL cy zL zT zR zI zJ)) (va_runS (As := [.int zia]) (rest := []) ⟨hx, hb, hml, hown, hts⟩ (c_X10_isYear l dC dI cy s.heap.size zia) (va_cwS 1 hts gX10_wet_X10_isYear rfl rfl rfl (by decide +kernel) ⟨(Nat.le_of_ble_eq_true rfl), (Nat.le_of_ble_eq_true rfl)⟩) (PRE.s (hP.sub [] rfl) hK (hD.sub [] (by decide) rfl) hN) rfl rfl hl.1 rfl (lv_room (Nat.le_of_ble_eq_true rfl)) dX10_wet_1 ⟨(Nat.le_of_ble_eq_true rfl), (Nat.le_of_ble_eq_true rfl)⟩) hP hD hS hA (fun zi_1 u_3 H locs hw_2 hP hD hS => ?_)
  have hw_2 : zi_1 = if 0 ≤ zia.toInt ∧ zia.toInt ≤ 23 then 1 else 0 := hw_2
  have b_zi_1 : 0 ≤ zi_1.toInt ∧ zi_1.toInt ≤ 1 := bz_b hw_2
  refine lv_if_eq (tgt := 31) hx hb dX10_wet_4 (by decide) (fun c_4 => ?_) (fun c_4 => ?_)
  · have f_5 : ¬ (0 ≤ zia.toInt ∧ zia.toInt ≤ 23) := bz_0 hw_2 c_4
    refine lv_iconst (v := (-1)) hx hb dX10_wet_31 (by decide) ?_
    subst hQ
    exact W.iret (v := (-1 : Int32)) hx hb hr (fun t ht hW => ⟨⟨(-1 : Int32), (), rfl, ⟨(show JX zR zI zx from hj), (show ¬ (0 ≤ zia.toInt ∧ zia.toInt ≤ 23) → (-1 : Int32).toInt = -1 from (fun _ => by decide)), (show (0 ≤ zia.toInt ∧ zia.toInt ≤ 23) → (-1 : Int32) = WTC (zI (zR (zR (zR (zR zx 0) 0) 0) 0)) zia.toInt (zI (zR (zR zx 0) 0) 1).toInt from (fun h9 => absurd h9 (by omega)))⟩, ⟨by rw [ht]; exact hP, va_K.moved hW.alike hK, hD⟩⟩, hS.F ht⟩) hS.2.2 dX10_wet_32
  · have f_5 : 0 ≤ zia.toInt ∧ zia.toInt ≤ 23 := bz_1 hw_2 c_4
    refine lv_aload_n hx hb dX10_wet_7 rfl (lv_at hl 0 rfl) ?_
    refine ht_getr (C := RX10) (T := TX10) (N := 10) hx hb hts (by decide +kernel) hown hK hP hs t_zx (by decide) rfl rfl 0 (by decide) (hts (.fieldLink RX10 12 "DripStone" "now" "LDripStone$State;") (by decide +kernel)) (fun _ h9 => h9) rfl dX10_wet_8 ?_
    have t_6 : zT (zR zx 0) = 9 := sk_f hs t_zx (by decide) rfl (by decide)
    refine ht_getr (C := RX8) (T := TX8) (N := 9) hx hb hts (by decide +kernel) hown hK hP hs t_6 (by decide) rfl rfl 0 (by decide) (hts (.fieldLink RX10 79 "DripStone$State" "hill" "LDripStone$Hill;") (by decide +kernel)) (fun _ h9 => h9) rfl dX10_wet_11 ?_
    have t_7 : zT (zR (zR zx 0) 0) = 4 := sk_f hs t_6 (by decide) rfl (by decide)
    refine lv_iload_n hx hb dX10_wet_14 rfl (lv_at hl 1 rfl) ?_
    refine lv_aload_n hx hb dX10_wet_15 rfl (lv_at hl 0 rfl) ?_
    refine ht_getr (C := RX10) (T := TX10) (N := 10) hx hb hts (by decide +kernel) hown hK hP hs t_zx (by decide) rfl rfl 0 (by decide) (hts (.fieldLink RX10 12 "DripStone" "now" "LDripStone$State;") (by decide +kernel)) (fun _ h9 => h9) rfl dX10_wet_16 ?_
    refine ht_getr (C := RX8) (T := TX8) (N := 9) hx hb hts (by decide +kernel) hown hK hP hs t_6 (by decide) rfl rfl 0 (by decide) (hts (.fieldLink RX10 79 "DripStone$State" "hill" "LDripStone$Hill;") (by decide +kernel)) (fun _ h9 => h9) rfl dX10_wet_19 ?_
    refine ht_geti (C := RX3) (T := TX3) (N := 3) hx hb hts (by decide +kernel) hown hK hP hs t_7 (by decide) rfl rfl 1 (by decide) (hts (.fieldLink RX10 98 "DripStone$Hill" "keeps" "I") (by decide +kernel)) (fun _ h9 => h9) rfl dX10_wet_22 ?_
    refine lv_topi (fun zi_8 ezi_8 => ?_)
    have tzi_8 : 1 ≤ zi_8.toInt ∧ zi_8.toInt ≤ 5 := by rw [ezi_8]; exact h_zI.at t_7 _ rfl
    refine hj_i (ws := (WL cy zL zT zR zI zJ)) (w1 := fun (u : Unit) => (WL cy zL zT zR zI zJ)) (va_runV (As := [.int zia, .int zi_8]) (rest := []) ⟨hx, hb, hml, hown, hts⟩ (t_X3_wetBy l dC dI cy H.size zL zT zR zI zJ (zR (zR zx 0) 0) zia zi_8 hs h_zI.1 t_7 (by omega) (by omega)) (cwV 2 hts gX10_wet_X3_wetBy rfl rfl rfl (by decide +kernel) ⟨(Nat.le_of_ble_eq_true rfl), (Nat.le_of_ble_eq_true rfl)⟩) (PRE.v hP hK hD hN (ht_recv hK hP hs t_7 (by decide) rfl rfl)) rfl rfl hl.1 rfl (lv_room (Nat.le_of_ble_eq_true rfl)) dX10_wet_25 ⟨(Nat.le_of_ble_eq_true rfl), (Nat.le_of_ble_eq_true rfl)⟩) hP hD hS hA (fun zi_9 u_11 H locs hw_10 hP hD hS => ?_)
    have ps_12 : zi_9 = WTC (zI (zR (zR (zR (zR zx 0) 0) 0) 0)) zia.toInt zi_8.toInt := hw_10
    have rzi_9 := rng zi_9
    refine lv_goto (tgt := 32) hx hb dX10_wet_28 (by decide) ?_
    subst hQ
    exact W.iret (v := zi_9) hx hb hr (fun t ht hW => ⟨⟨zi_9, (), rfl, ⟨(show JX zR zI zx from hj), (show ¬ (0 ≤ zia.toInt ∧ zia.toInt ≤ 23) → zi_9.toInt = -1 from (fun h9 => absurd (by omega) h9)), (show (0 ≤ zia.toInt ∧ zia.toInt ≤ 23) → zi_9 = WTC (zI (zR (zR (zR (zR zx 0) 0) 0) 0)) zia.toInt (zI (zR (zR zx 0) 0) 1).toInt from (fun _ => (show zi_9 = WTC (zI (zR (zR (zR (zR zx 0) 0) 0) 0)) zia.toInt zi_8.toInt from ps_12).trans (congrArg (fun w9 : Int32 => WTC (zI (zR (zR (zR (zR zx 0) 0) 0) 0)) zia.toInt w9.toInt) (ezi_8.symm).symm)))⟩, ⟨by rw [ht]; exact hP, va_K.moved hW.alike hK, hD⟩⟩, hS.F ht⟩) hS.2.2 dX10_wet_32
set_option maxHeartbeats 8000000 in
set_option maxRecDepth 100000 in
theorem t_X10_water (l : Launch) (dC : Nat → ClassId) (dI : Nat → Nat → Nat) (cy : Nat → ClassId) (sz : Nat) (zL : List Nat) (zT : Nat → Nat) (zR : Nat → Nat → Nat) (zI : Nat → Nat → Int32) (zJ : Nat → Nat → Int64) (zx : Nat) (zia : Int32) (hs : SKP zL zT zR) (hw : WT zT zR zI) (t_zx : zT zx = 11) (hj : JX zR zI zx) : Met l yX10_water wsX10_water ({ frames := 3, cells := 0, slots := 0, locals := 79 } : Room) (va_Pc [.ref zx, .int zia] (PRE dC dI cy (WL cy zL zT zR zI zJ) sz)) (va_Qi (fun (r : Int32) (u : Unit) => (JX zR zI zx) ∧ (¬ (0 ≤ zia.toInt ∧ zia.toInt ≤ 23) → r.toInt = -1001) ∧ ((0 ≤ zia.toInt ∧ zia.toInt ≤ 23) → r = WRC (zI (zR (zR (zR (zR zx 0) 0) 0) 0)) (zI (zR (zR (zR (zR zx 0) 0) 0) 1)) zia.toInt (zI (zR (zR zx 0) 0) 1).toInt)) (fun u t => POST dC dI cy (va_A (WL cy zL zT zR zI zJ) sz) (WL cy zL zT zR zI zJ) t) (va_A (WL cy zL zT zR zI zJ) sz)) 0 0 (va_A (WL cy zL zT zR zI zJ) sz) := by
  refine Met.ofW (cc := cX10_water) (maxL := 2) (ret := (some .int)) (by decide) rfl ?_
  intro p e s m args below meth c s₁ B hml hv
  obtain ⟨rfl, hsz, hP, hK, hD0, hN⟩ := hv
  have hx := B.exec
  have hb := B.bytes
  have hr := B.returns
  have hts := atoms_spec (ws := wsX10_water) B.pre
  have hown : s.vm.findClass RX10 = some m.cls := findClass_of_methodNamed B.named
  have hlocks := B.notSynchronized
  subst hsz
  have hD := hD0.self (sz := s.heap.size)
  generalize hAe : va_A (WL cy zL zT zR zI zJ) s.heap.size = A at hD ⊢
  have hA : ∀ q : Nat, s.heap.size ≤ q → A q := fun q h => by rw [← hAe]; exact Or.inr h
  have hS : va_S A s.heap s.heap [] := va_S.rf
  have hP : va_P (dC, dI) vwCl (WL cy zL zT zR zI zJ) s.heap := hP
  have hl := lv_entry ([.ref zx, .int zia] : List Value) (n := 2) (Nat.le_of_ble_eq_true rfl)
  rw [lg_entry_eq]
  generalize (lg_sl ([.ref zx, .int zia] : List Value) ++ List.replicate (2 - (lg_sl ([.ref zx, .int zia] : List Value)).length) Slot.unset).toArray = ls at hl ⊢
  have hl : lv_has ls 2 [(0, .ref zx), (1, .int zia)] := hl
  refine w_q (fun Q hQ => ?_)
  have h_zI : WM [] AL zT zR zI zI := WM.rf hw
  refine lv_iload_n hx hb dX10_water_0 rfl (lv_at hl 1 rfl) ?_
  refine hj0_i (ws := (WL cy zL zT zR zI zJ)) (va_runS (As := [.int zia]) (rest := []) ⟨hx, hb, hml, hown, hts⟩ (c_X10_isYear l dC dI cy s.heap.size zia) (va_cwS 1 hts gX10_water_X10_isYear rfl rfl rfl (by decide +kernel) ⟨(Nat.le_of_ble_eq_true rfl), (Nat.le_of_ble_eq_true rfl)⟩) (PRE.s (hP.sub [] rfl) hK (hD.sub [] (by decide) rfl) hN) rfl rfl hl.1 rfl (lv_room (Nat.le_of_ble_eq_true rfl)) dX10_water_1 ⟨(Nat.le_of_ble_eq_true rfl), (Nat.le_of_ble_eq_true rfl)⟩) hP hD hS hA (fun zi_1 u_3 H locs hw_2 hP hD hS => ?_)
  have hw_2 : zi_1 = if 0 ≤ zia.toInt ∧ zia.toInt ≤ 23 then 1 else 0 := hw_2
  have b_zi_1 : 0 ≤ zi_1.toInt ∧ zi_1.toInt ≤ 1 := bz_b hw_2
  refine lv_if_eq (tgt := 31) hx hb dX10_water_4 (by decide) (fun c_4 => ?_) (fun c_4 => ?_)
  · have f_5 : ¬ (0 ≤ zia.toInt ∧ zia.toInt ≤ 23) := bz_0 hw_2 c_4
    refine lv_sipush (v := (-1001)) hx hb dX10_water_31 (by decide) ?_
    subst hQ
    exact W.iret (v := (-1001 : Int32)) hx hb hr (fun t ht hW => ⟨⟨(-1001 : Int32), (), rfl, ⟨(show JX zR zI zx from hj), (show ¬ (0 ≤ zia.toInt ∧ zia.toInt ≤ 23) → (-1001 : Int32).toInt = -1001 from (fun _ => by decide)), (show (0 ≤ zia.toInt ∧ zia.toInt ≤ 23) → (-1001 : Int32) = WRC (zI (zR (zR (zR (zR zx 0) 0) 0) 0)) (zI (zR (zR (zR (zR zx 0) 0) 0) 1)) zia.toInt (zI (zR (zR zx 0) 0) 1).toInt from (fun h9 => absurd h9 (by omega)))⟩, ⟨by rw [ht]; exact hP, va_K.moved hW.alike hK, hD⟩⟩, hS.F ht⟩) hS.2.2 dX10_water_34
  · have f_5 : 0 ≤ zia.toInt ∧ zia.toInt ≤ 23 := bz_1 hw_2 c_4
    refine lv_aload_n hx hb dX10_water_7 rfl (lv_at hl 0 rfl) ?_
    refine ht_getr (C := RX10) (T := TX10) (N := 10) hx hb hts (by decide +kernel) hown hK hP hs t_zx (by decide) rfl rfl 0 (by decide) (hts (.fieldLink RX10 12 "DripStone" "now" "LDripStone$State;") (by decide +kernel)) (fun _ h9 => h9) rfl dX10_water_8 ?_
    have t_6 : zT (zR zx 0) = 9 := sk_f hs t_zx (by decide) rfl (by decide)
    refine ht_getr (C := RX8) (T := TX8) (N := 9) hx hb hts (by decide +kernel) hown hK hP hs t_6 (by decide) rfl rfl 0 (by decide) (hts (.fieldLink RX10 79 "DripStone$State" "hill" "LDripStone$Hill;") (by decide +kernel)) (fun _ h9 => h9) rfl dX10_water_11 ?_
    have t_7 : zT (zR (zR zx 0) 0) = 4 := sk_f hs t_6 (by decide) rfl (by decide)
    refine lv_iload_n hx hb dX10_water_14 rfl (lv_at hl 1 rfl) ?_
    refine lv_aload_n hx hb dX10_water_15 rfl (lv_at hl 0 rfl) ?_
    refine ht_getr (C := RX10) (T := TX10) (N := 10) hx hb hts (by decide +kernel) hown hK hP hs t_zx (by decide) rfl rfl 0 (by decide) (hts (.fieldLink RX10 12 "DripStone" "now" "LDripStone$State;") (by decide +kernel)) (fun _ h9 => h9) rfl dX10_water_16 ?_
    refine ht_getr (C := RX8) (T := TX8) (N := 9) hx hb hts (by decide +kernel) hown hK hP hs t_6 (by decide) rfl rfl 0 (by decide) (hts (.fieldLink RX10 79 "DripStone$State" "hill" "LDripStone$Hill;") (by decide +kernel)) (fun _ h9 => h9) rfl dX10_water_19 ?_
    refine ht_geti (C := RX3) (T := TX3) (N := 3) hx hb hts (by decide +kernel) hown hK hP hs t_7 (by decide) rfl rfl 1 (by decide) (hts (.fieldLink RX10 98 "DripStone$Hill" "keeps" "I") (by decide +kernel)) (fun _ h9 => h9) rfl dX10_water_22 ?_
    refine lv_topi (fun zi_8 ezi_8 => ?_)
    have tzi_8 : 1 ≤ zi_8.toInt ∧ zi_8.toInt ≤ 5 := by rw [ezi_8]; exact h_zI.at t_7 _ rfl
    refine hj_i (ws := (WL cy zL zT zR zI zJ)) (w1 := fun (u : Unit) => (WL cy zL zT zR zI zJ)) (va_runV (As := [.int zia, .int zi_8]) (rest := []) ⟨hx, hb, hml, hown, hts⟩ (t_X3_waterBy l dC dI cy H.size zL zT zR zI zJ (zR (zR zx 0) 0) zia zi_8 hs h_zI.1 t_7 (by omega) (by omega)) (cwV 2 hts gX10_water_X3_waterBy rfl rfl rfl (by decide +kernel) ⟨(Nat.le_of_ble_eq_true rfl), (Nat.le_of_ble_eq_true rfl)⟩) (PRE.v hP hK hD hN (ht_recv hK hP hs t_7 (by decide) rfl rfl)) rfl rfl hl.1 rfl (lv_room (Nat.le_of_ble_eq_true rfl)) dX10_water_25 ⟨(Nat.le_of_ble_eq_true rfl), (Nat.le_of_ble_eq_true rfl)⟩) hP hD hS hA (fun zi_9 u_11 H locs hw_10 hP hD hS => ?_)
    have ps_12 : zi_9 = WRC (zI (zR (zR (zR (zR zx 0) 0) 0) 0)) (zI (zR (zR (zR (zR zx 0) 0) 0) 1)) zia.toInt zi_8.toInt := hw_10
    have rzi_9 := rng zi_9
    refine lv_goto (tgt := 34) hx hb dX10_water_28 (by decide) ?_
    subst hQ
    exact W.iret (v := zi_9) hx hb hr (fun t ht hW => ⟨⟨zi_9, (), rfl, ⟨(show JX zR zI zx from hj), (show ¬ (0 ≤ zia.toInt ∧ zia.toInt ≤ 23) → zi_9.toInt = -1001 from (fun h9 => absurd (by omega) h9)), (show (0 ≤ zia.toInt ∧ zia.toInt ≤ 23) → zi_9 = WRC (zI (zR (zR (zR (zR zx 0) 0) 0) 0)) (zI (zR (zR (zR (zR zx 0) 0) 0) 1)) zia.toInt (zI (zR (zR zx 0) 0) 1).toInt from (fun _ => (show zi_9 = WRC (zI (zR (zR (zR (zR zx 0) 0) 0) 0)) (zI (zR (zR (zR (zR zx 0) 0) 0) 1)) zia.toInt zi_8.toInt from ps_12).trans (congrArg (fun w9 : Int32 => WRC (zI (zR (zR (zR (zR zx 0) 0) 0) 0)) (zI (zR (zR (zR (zR zx 0) 0) 0) 1)) zia.toInt w9.toInt) (ezi_8.symm).symm)))⟩, ⟨by rw [ht]; exact hP, va_K.moved hW.alike hK, hD⟩⟩, hS.F ht⟩) hS.2.2 dX10_water_34
set_option maxHeartbeats 8000000 in
set_option maxRecDepth 100000 in
theorem t_X10_type (l : Launch) (dC : Nat → ClassId) (dI : Nat → Nat → Nat) (cy : Nat → ClassId) (sz : Nat) (zL : List Nat) (zT : Nat → Nat) (zR : Nat → Nat → Nat) (zI : Nat → Nat → Int32) (zJ : Nat → Nat → Int64) (zx : Nat) (zja : Int64) (zib : Int32) (hs : SKP zL zT zR) (hw : WT zT zR zI) (t_zx : zT zx = 11) (hj : JX zR zI zx) : Met l yX10_type wsX10_type ({ frames := 1, cells := 0, slots := 0, locals := 22 } : Room) (va_Pc [.ref zx, .long zja, .int zib] (PRE dC dI cy (WL cy zL zT zR zI zJ) sz)) (va_Qi (fun (r : Int32) (u : (Nat → Nat → Int32)) => (WM [701, 3500] AL zT zR zI u) ∧ ((-3) ≤ r.toInt ∧ r.toInt ≤ 80) ∧ (JX zR u zx)) (fun u t => POST dC dI cy (va_A (WL cy zL zT zR zI zJ) sz) (WL cy zL zT zR u zJ) t) (va_A (WL cy zL zT zR zI zJ) sz)) 0 0 (va_A (WL cy zL zT zR zI zJ) sz) := by
  refine Met.ofW (cc := cX10_type) (maxL := 5) (ret := (some .int)) (by decide) rfl ?_
  intro p e s m args below meth c s₁ B hml hv
  obtain ⟨rfl, hsz, hP, hK, hD0, hN⟩ := hv
  have hx := B.exec
  have hb := B.bytes
  have hr := B.returns
  have hts := atoms_spec (ws := wsX10_type) B.pre
  have hown : s.vm.findClass RX10 = some m.cls := findClass_of_methodNamed B.named
  have hlocks := B.notSynchronized
  subst hsz
  have hD := hD0.self (sz := s.heap.size)
  generalize hAe : va_A (WL cy zL zT zR zI zJ) s.heap.size = A at hD ⊢
  have hA : ∀ q : Nat, s.heap.size ≤ q → A q := fun q h => by rw [← hAe]; exact Or.inr h
  have hS : va_S A s.heap s.heap [] := va_S.rf
  have hP : va_P (dC, dI) vwCl (WL cy zL zT zR zI zJ) s.heap := hP
  have hl := lv_entry ([.ref zx, .long zja, .int zib] : List Value) (n := 5) (Nat.le_of_ble_eq_true rfl)
  rw [lg_entry_eq]
  generalize (lg_sl ([.ref zx, .long zja, .int zib] : List Value) ++ List.replicate (5 - (lg_sl ([.ref zx, .long zja, .int zib] : List Value)).length) Slot.unset).toArray = ls at hl ⊢
  have hl : lv_has ls 5 [(0, .ref zx), (1, .long zja), (3, .int zib)] := hl
  refine w_q (fun Q hQ => ?_)
  have h_zI : WM [701, 3500] AL zT zR zI zI := WM.rf hw
  refine lv_iload_n hx hb dX10_type_0 rfl (lv_at hl 2 rfl) ?_
  refine lv_iconst (v := 1) hx hb dX10_type_1 (by decide) ?_
  refine lv_bipush (v := 8) hx hb dX10_type_2 (by decide) ?_
  refine hj0_i (ws := (WL cy zL zT zR zI zJ)) (va_runS (As := [.int zib, .int 1, .int 8]) (rest := []) ⟨hx, hb, hml, hown, hts⟩ (c_X10_isWithin l dC dI cy s.heap.size zib 1 8 1 8 (by first | rfl | decide | omega | exact Int32.toInt_toInt64 _) (by first | rfl | decide | omega | exact Int32.toInt_toInt64 _)) (va_cwS 3 hts gX10_type_X10_isWithin rfl rfl rfl (by decide +kernel) ⟨(Nat.le_of_ble_eq_true rfl), (Nat.le_of_ble_eq_true rfl)⟩) (PRE.s (hP.sub [] rfl) hK (hD.sub [] (by decide) rfl) hN) rfl rfl hl.1 rfl (lv_room (Nat.le_of_ble_eq_true rfl)) dX10_type_4 ⟨(Nat.le_of_ble_eq_true rfl), (Nat.le_of_ble_eq_true rfl)⟩) hP hD hS hA (fun zi_1 u_3 H locs hw_2 hP hD hS => ?_)
  have hw_2 : zi_1 = if 1 ≤ zib.toInt ∧ zib.toInt ≤ 8 then 1 else 0 := hw_2
  have b_zi_1 : 0 ≤ zi_1.toInt ∧ zi_1.toInt ≤ 1 := bz_b hw_2
  refine lv_if_ne (tgt := 12) hx hb dX10_type_7 (by decide) (fun c_4 => ?_) (fun c_4 => ?_)
  · have f_5 : 1 ≤ zib.toInt ∧ zib.toInt ≤ 8 := bz_1 hw_2 c_4
    refine lv_iconst (v := 0) hx hb dX10_type_12 (by decide) ?_
    refine lv_istore (lv' := [(4, .int 0), (0, .ref zx), (1, .long zja), (3, .int zib)]) hx hb dX10_type_13 hl (by decide) rfl (fun ls hl => ?_)
    have t_6 : zT (zR zx 2) = 7 := sk_f hs t_zx (by decide) rfl (by decide)
    obtain ⟨zi_7, ezi_7⟩ : ∃ y : Int32, y = zI (zR zx 2) 1 := ⟨_, rfl⟩
    have tzi_7 : 0 ≤ zi_7.toInt ∧ zi_7.toInt ≤ 80 := by rw [ezi_7]; exact h_zI.at t_6 _ rfl
    have lzi_7 : (zI (zR zx 2) 1).toInt = zi_7.toInt := by rw [ezi_7]
    have lp_65 : ∀ (n : Nat) (zi_53 : Int32) (H : Heap) (locs : List Loc) (ls : Array Slot), (zib.toInt - zi_53.toInt).toNat = n → (0 ≤ zi_53.toInt ∧ zi_53.toInt ≤ 8) → (zI (zR zx 2) 1 = zi_7) → va_P (dC, dI) vwCl (WL cy zL zT zR zI zJ) H → va_D A (WL cy zL zT zR zI zJ) → va_S A s.heap H locs → lv_has ls 5 [(0, .ref zx), (1, .long zja), (3, .int zib), (4, .int zi_53)] → W p l e ({ frames := 1, cells := 0, slots := 0, locals := 22 } : Room) s m ([.ref zx, .long zja, .int zib] : List Value).toArray below meth c H locs 0 0 Q (F0 m 15 ls []) := by
      intro n
      induction n using Nat.strongRecOn with
      | _ n ih_65 =>
        intro zi_53 H locs ls hn b_zi_53 e_lp_65_0 hP hD hS hl
        refine lv_iload hx hb dX10_type_15 (lv_at hl 3 rfl) ?_
        refine lv_iload_n hx hb dX10_type_17 rfl (lv_at hl 2 rfl) ?_
        refine lv_icmp_ge (tgt := 45) hx hb dX10_type_18 (by decide) (fun c_66 => ?_) (fun c_66 => ?_)
        · have f_67 : zi_53.toInt ≥ zib.toInt := ic_ge (rfl) (rfl) c_66
          refine lv_aload_n hx hb dX10_type_45 rfl (lv_at hl 0 rfl) ?_
          refine ht_getr (C := RX10) (T := TX10) (N := 10) hx hb hts (by decide +kernel) hown hK hP hs t_zx (by decide) rfl rfl 2 (by decide) (hts (.fieldLink RX10 22 "DripStone" "reader" "LDripStone$Reader;") (by decide +kernel)) (fun _ h9 => h9) rfl dX10_type_46 ?_
          refine ht_geti (C := RX6) (T := TX6) (N := 4) hx hb hts (by decide +kernel) hown hK hP hs t_6 (by decide) rfl rfl 1 (by decide) (hts (.fieldLink RX10 116 "DripStone$Reader" "typed" "I") (by decide +kernel)) (fun _ h9 => h9) rfl dX10_type_49 ?_
          refine lv_topi (fun zi_68 ezi_68 => ?_)
          obtain rfl : zi_7 = zi_68 := (ezi_68.trans e_lp_65_0).symm
          refine lv_iload_n hx hb dX10_type_52 rfl (lv_at hl 2 rfl) ?_
          refine lv_iadd hx hb dX10_type_53 ?_
          refine lv_topi (fun zi_69 ezi_69 => ?_)
          have tzi_69 : zi_69.toInt = zi_7.toInt + zib.toInt := by rw [ezi_69]; exact tiadd (rfl) (rfl) (by omega) (by omega)
          refine lv_bipush (v := 80) hx hb dX10_type_54 (by decide) ?_
          refine lv_icmp_le (tgt := 62) hx hb dX10_type_56 (by decide) (fun c_70 => ?_) (fun c_70 => ?_)
          · have f_71 : zi_69.toInt ≤ (80 : Int) := ic_le (rfl) (show (80 : Int32).toInt = 80 by decide) c_70
            refine lv_iload_n hx hb dX10_type_62 rfl (lv_at hl 2 rfl) ?_
            refine lv_iconst (v := 1) hx hb dX10_type_63 (by decide) ?_
            refine lv_isub hx hb dX10_type_64 ?_
            refine lv_topi (fun zi_72 ezi_72 => ?_)
            have tzi_72 : zi_72.toInt = zib.toInt - (1 : Int) := by rw [ezi_72]; exact tisub (rfl) (show (1 : Int32).toInt = 1 by decide) (by omega) (by omega)
            refine lv_istore (lv' := [(4, .int zi_72), (0, .ref zx), (1, .long zja), (3, .int zib)]) hx hb dX10_type_65 hl (by decide) rfl (fun ls hl => ?_)
            have lp_205 : ∀ (n : Nat) (zi_190 : Int32) (zI_191 : Nat → Nat → Int32) (zi_192 : Int32) (H : Heap) (locs : List Loc) (ls : Array Slot), (zi_190.toInt + 1).toNat = n → ((-1) ≤ zi_190.toInt ∧ zi_190.toInt ≤ 7) → (WM [701, 3500] AL zT zR zI zI_191) → (0 ≤ zi_192.toInt ∧ zi_192.toInt ≤ 80) → (zi_192.toInt + zi_190.toInt ≤ 79) → (zI_191 (zR zx 2) 1 = zi_192) → va_P (dC, dI) vwCl (WL cy zL zT zR zI_191 zJ) H → va_D A (WL cy zL zT zR zI_191 zJ) → va_S A s.heap H locs → lv_has ls 5 [(0, .ref zx), (1, .long zja), (3, .int zib), (4, .int zi_190)] → W p l e ({ frames := 1, cells := 0, slots := 0, locals := 22 } : Room) s m ([.ref zx, .long zja, .int zib] : List Value).toArray below meth c H locs 0 0 Q (F0 m 67 ls []) := by
              intro n
              induction n using Nat.strongRecOn with
              | _ n ih_205 =>
                intro zi_190 zI_191 zi_192 H locs ls hn b_zi_190 h_zI_191 b_zi_192 e_lp_205_0 e_lp_205_1 hP hD hS hl
                refine lv_iload hx hb dX10_type_67 (lv_at hl 3 rfl) ?_
                refine lv_if_lt (tgt := 112) hx hb dX10_type_69 (by decide) (fun c_206 => ?_) (fun c_206 => ?_)
                · have f_207 : zi_190.toInt < 0 := ic_lt (rfl) (by decide) c_206
                  refine lv_aload_n hx hb dX10_type_112 rfl (lv_at hl 0 rfl) ?_
                  refine ht_getr (C := RX10) (T := TX10) (N := 10) hx hb hts (by decide +kernel) hown hK hP hs t_zx (by decide) rfl rfl 2 (by decide) (hts (.fieldLink RX10 22 "DripStone" "reader" "LDripStone$Reader;") (by decide +kernel)) (fun _ h9 => h9) rfl dX10_type_113 ?_
                  refine ht_geti (C := RX6) (T := TX6) (N := 4) hx hb hts (by decide +kernel) hown hK hP hs t_6 (by decide) rfl rfl 1 (by decide) (hts (.fieldLink RX10 116 "DripStone$Reader" "typed" "I") (by decide +kernel)) (fun _ h9 => h9) rfl dX10_type_116 ?_
                  refine lv_topi (fun zi_208 ezi_208 => ?_)
                  obtain rfl : zi_192 = zi_208 := (ezi_208.trans e_lp_205_1).symm
                  subst hQ
                  exact W.iret (v := zi_192) hx hb hr (fun t ht hW => ⟨⟨zi_192, zI_191, rfl, ⟨h_zI_191, (show (-3) ≤ zi_192.toInt ∧ zi_192.toInt ≤ 80 from by omega), (show JX zR zI_191 zx from (JX.sm hj hs t_zx h_zI_191.2 (by decide) (by decide)))⟩, ⟨by rw [ht]; exact hP, va_K.moved hW.alike hK, hD⟩⟩, hS.F ht⟩) hS.2.2 dX10_type_119
                · have f_207 : ¬ (zi_190.toInt < 0) := ic_nlt (rfl) (by decide) c_206
                  refine lv_aload_n hx hb dX10_type_72 rfl (lv_at hl 0 rfl) ?_
                  refine ht_getr (C := RX10) (T := TX10) (N := 10) hx hb hts (by decide +kernel) hown hK hP hs t_zx (by decide) rfl rfl 2 (by decide) (hts (.fieldLink RX10 22 "DripStone" "reader" "LDripStone$Reader;") (by decide +kernel)) (fun _ h9 => h9) rfl dX10_type_73 ?_
                  refine ht_getr (C := RX6) (T := TX6) (N := 4) hx hb hts (by decide +kernel) hown hK hP hs t_6 (by decide) rfl rfl 0 (by decide) (hts (.fieldLink RX10 119 "DripStone$Reader" "tape" "[I") (by decide +kernel)) (fun _ h9 => h9) rfl dX10_type_76 ?_
                  have t_209 : zT (zR (zR zx 2) 0) = 35 := sk_f hs t_6 (by decide) rfl (by decide)
                  refine lv_aload_n hx hb dX10_type_79 rfl (lv_at hl 0 rfl) ?_
                  refine ht_getr (C := RX10) (T := TX10) (N := 10) hx hb hts (by decide +kernel) hown hK hP hs t_zx (by decide) rfl rfl 2 (by decide) (hts (.fieldLink RX10 22 "DripStone" "reader" "LDripStone$Reader;") (by decide +kernel)) (fun _ h9 => h9) rfl dX10_type_80 ?_
                  refine ht_geti (C := RX6) (T := TX6) (N := 4) hx hb hts (by decide +kernel) hown hK hP hs t_6 (by decide) rfl rfl 1 (by decide) (hts (.fieldLink RX10 116 "DripStone$Reader" "typed" "I") (by decide +kernel)) (fun _ h9 => h9) rfl dX10_type_83 ?_
                  refine lv_topi (fun zi_210 ezi_210 => ?_)
                  obtain rfl : zi_192 = zi_210 := (ezi_210.trans e_lp_205_1).symm
                  refine lv_lload_n hx hb dX10_type_86 rfl (lv_at hl 1 rfl) ?_
                  refine lv_iload hx hb dX10_type_87 (lv_at hl 3 rfl) ?_
                  refine hj0_i (ws := (WL cy zL zT zR zI_191 zJ)) (va_runS (As := [.long zja, .int zi_190]) (rest := [.int zi_192, .ref (zR (zR zx 2) 0)]) ⟨hx, hb, hml, hown, hts⟩ (c_X10_byteOf l dC dI cy H.size zja zi_190 (by omega)) (va_cwS 2 hts gX10_type_X10_byteOf rfl rfl rfl (by decide +kernel) ⟨(Nat.le_of_ble_eq_true rfl), (Nat.le_of_ble_eq_true rfl)⟩) (PRE.s (hP.sub [] rfl) hK (hD.sub [] (by decide) rfl) hN) rfl rfl hl.1 rfl (lv_room (Nat.le_of_ble_eq_true rfl)) dX10_type_89 ⟨(Nat.le_of_ble_eq_true rfl), (Nat.le_of_ble_eq_true rfl)⟩) hP hD hS hA (fun zi_211 u_213 H locs hw_212 hP hD hS => ?_)
                  have b_zi_211 : 0 ≤ zi_211.toInt ∧ zi_211.toInt ≤ 255 := hw_212
                  refine ht_iast (v := zi_211) (n := 80) (q := 0) hx hb hK hP hD hS hs t_209 (by decide) rfl rfl ⟨by omega, by omega⟩ dX10_type_92 (fun H locs hP hD hS => ?_)
                  have h_zI_214 : WM [701, 3500] AL zT zR zI (u2 zI_191 (zR (zR zx 2) 0) zi_192.toNatClampNeg zi_211) := h_zI_191.putA hs t_209 rfl (by omega) (by decide) (fun h => absurd h (by decide)) (by decide) trivial
                  generalize uzI_214 : u2 zI_191 (zR (zR zx 2) 0) zi_192.toNatClampNeg zi_211 = zI_214 at hP hD h_zI_214
                  refine lv_aload_n hx hb dX10_type_93 rfl (lv_at hl 0 rfl) ?_
                  refine ht_getr (C := RX10) (T := TX10) (N := 10) hx hb hts (by decide +kernel) hown hK hP hs t_zx (by decide) rfl rfl 2 (by decide) (hts (.fieldLink RX10 22 "DripStone" "reader" "LDripStone$Reader;") (by decide +kernel)) (fun _ h9 => h9) rfl dX10_type_94 ?_
                  refine lv_dup hx hb dX10_type_97 rfl ?_
                  refine ht_geti (C := RX6) (T := TX6) (N := 4) hx hb hts (by decide +kernel) hown hK hP hs t_6 (by decide) rfl rfl 1 (by decide) (hts (.fieldLink RX10 116 "DripStone$Reader" "typed" "I") (by decide +kernel)) (fun _ h9 => h9) rfl dX10_type_98 ?_
                  refine lv_topi (fun zi_215 ezi_215 => ?_)
                  obtain rfl : zi_192 = zi_215 := (ezi_215.trans ((show zI_214 (zR zx 2) 1 = zI_191 (zR zx 2) 1 from by rw [← uzI_214]; exact u2_n (tne t_6 t_209 (by decide))).trans e_lp_205_1)).symm
                  refine lv_iconst (v := 1) hx hb dX10_type_101 (by decide) ?_
                  refine lv_iadd hx hb dX10_type_102 ?_
                  refine lv_topi (fun zi_216 ezi_216 => ?_)
                  have tzi_216 : zi_216.toInt = zi_192.toInt + (1 : Int) := by rw [ezi_216]; exact tiadd (rfl) (show (1 : Int32).toInt = 1 by decide) (by omega) (by omega)
                  refine ht_puti (v := zi_216) (ty := .int) (C := RX6) (T := TX6) (N := 4) hx hb hts (by decide +kernel) tyX6 tyX6_ok nmX6 hown hK hP hD hS hs t_6 (by decide) rfl rfl 1 (by decide) (hts (.fieldLink RX10 116 "DripStone$Reader" "typed" "I") (by decide +kernel)) (fun _ h9 => h9) rfl (by decide +kernel) rfl rfl rfl dX10_type_103 (fun H locs hP hD hS => ?_)
                  have h_zI_217 : WM [701, 3500] AL zT zR zI (u2 zI_214 (zR zx 2) 1 zi_216) := h_zI_214.put hs t_6 rfl (by omega) (by decide) (fun h => absurd h (by decide)) (by decide) trivial
                  generalize uzI_217 : u2 zI_214 (zR zx 2) 1 zi_216 = zI_217 at hP hD h_zI_217
                  obtain ⟨zi_218, ezi_218⟩ : ∃ y : Int32, y = zi_190 + (-1) := ⟨_, rfl⟩
                  have tzi_218 : zi_218.toInt = zi_190.toInt + (-1) := by rw [ezi_218]; exact tadd rfl (show ((-1) : Int32).toInt = -1 by decide) (by omega) (by omega)
                  refine lv_iinc (v := zi_218) (lv' := [(4, .int zi_218), (0, .ref zx), (1, .long zja), (3, .int zib)]) hx hb dX10_type_106 hl (k := 3) rfl (by rw [ezi_218]; rfl) (by decide) rfl (fun ls hl => ?_)
                  refine lv_goto (tgt := 67) hx hb dX10_type_109 (by decide) ?_
                  exact ih_205 (zi_218.toInt + 1).toNat (by omega) zi_218 zI_217 zi_216 _ _ _ rfl (by omega) h_zI_217 (by omega) (by omega) (by rw [← uzI_217]; exact u2_s) hP hD hS (lv_sub hl [1, 2, 3, 0] rfl)
            exact lp_205 _ zi_72 zI zi_7 _ _ _ rfl (by omega) h_zI (by omega) (by omega) e_lp_65_0 hP hD hS (lv_sub hl [1, 2, 3, 0] rfl)
          · have f_71 : ¬ (zi_69.toInt ≤ (80 : Int)) := ic_nle (rfl) (show (80 : Int32).toInt = 80 by decide) c_70
            refine lv_bipush (v := (-3)) hx hb dX10_type_59 (by decide) ?_
            subst hQ
            have qc_m3 : (-3 : Int32).toInt = -3 := by decide
            exact W.iret (v := (-3 : Int32)) hx hb hr (fun t ht hW => ⟨⟨(-3 : Int32), zI, rfl, ⟨h_zI, (show (-3) ≤ (-3 : Int32).toInt ∧ (-3 : Int32).toInt ≤ 80 from by omega), (show JX zR zI zx from hj)⟩, ⟨by rw [ht]; exact hP, va_K.moved hW.alike hK, hD⟩⟩, hS.F ht⟩) hS.2.2 dX10_type_61
        · have f_67 : ¬ (zi_53.toInt ≥ zib.toInt) := ic_nge (rfl) (rfl) c_66
          refine lv_lload_n hx hb dX10_type_21 rfl (lv_at hl 1 rfl) ?_
          refine lv_iload hx hb dX10_type_22 (lv_at hl 3 rfl) ?_
          refine hj0_i (ws := (WL cy zL zT zR zI zJ)) (va_runS (As := [.long zja, .int zi_53]) (rest := []) ⟨hx, hb, hml, hown, hts⟩ (c_X10_byteOf l dC dI cy H.size zja zi_53 (by omega)) (va_cwS 2 hts gX10_type_X10_byteOf rfl rfl rfl (by decide +kernel) ⟨(Nat.le_of_ble_eq_true rfl), (Nat.le_of_ble_eq_true rfl)⟩) (PRE.s (hP.sub [] rfl) hK (hD.sub [] (by decide) rfl) hN) rfl rfl hl.1 rfl (lv_room (Nat.le_of_ble_eq_true rfl)) dX10_type_24 ⟨(Nat.le_of_ble_eq_true rfl), (Nat.le_of_ble_eq_true rfl)⟩) hP hD hS hA (fun zi_219 u_221 H locs hw_220 hP hD hS => ?_)
          have b_zi_219 : 0 ≤ zi_219.toInt ∧ zi_219.toInt ≤ 255 := hw_220
          refine lv_bipush (v := 32) hx hb dX10_type_27 (by decide) ?_
          refine lv_bipush (v := 126) hx hb dX10_type_29 (by decide) ?_
          refine hj0_i (ws := (WL cy zL zT zR zI zJ)) (va_runS (As := [.int zi_219, .int 32, .int 126]) (rest := []) ⟨hx, hb, hml, hown, hts⟩ (c_X10_isWithin l dC dI cy H.size zi_219 32 126 32 126 (by first | rfl | decide | omega | exact Int32.toInt_toInt64 _) (by first | rfl | decide | omega | exact Int32.toInt_toInt64 _)) (va_cwS 3 hts gX10_type_X10_isWithin rfl rfl rfl (by decide +kernel) ⟨(Nat.le_of_ble_eq_true rfl), (Nat.le_of_ble_eq_true rfl)⟩) (PRE.s (hP.sub [] rfl) hK (hD.sub [] (by decide) rfl) hN) rfl rfl hl.1 rfl (lv_room (Nat.le_of_ble_eq_true rfl)) dX10_type_31 ⟨(Nat.le_of_ble_eq_true rfl), (Nat.le_of_ble_eq_true rfl)⟩) hP hD hS hA (fun zi_222 u_224 H locs hw_223 hP hD hS => ?_)
          have hw_223 : zi_222 = if 32 ≤ zi_219.toInt ∧ zi_219.toInt ≤ 126 then 1 else 0 := hw_223
          have b_zi_222 : 0 ≤ zi_222.toInt ∧ zi_222.toInt ≤ 1 := bz_b hw_223
          refine lv_if_ne (tgt := 39) hx hb dX10_type_34 (by decide) (fun c_225 => ?_) (fun c_225 => ?_)
          · have f_226 : 32 ≤ zi_219.toInt ∧ zi_219.toInt ≤ 126 := bz_1 hw_223 c_225
            obtain ⟨zi_227, ezi_227⟩ : ∃ y : Int32, y = zi_53 + 1 := ⟨_, rfl⟩
            have tzi_227 : zi_227.toInt = zi_53.toInt + 1 := by rw [ezi_227]; exact tadd rfl (show (1 : Int32).toInt = 1 by decide) (by omega) (by omega)
            refine lv_iinc (v := zi_227) (lv' := [(4, .int zi_227), (0, .ref zx), (1, .long zja), (3, .int zib)]) hx hb dX10_type_39 hl (k := 3) rfl (by rw [ezi_227]; rfl) (by decide) rfl (fun ls hl => ?_)
            refine lv_goto (tgt := 15) hx hb dX10_type_42 (by decide) ?_
            exact ih_65 (zib.toInt - zi_227.toInt).toNat (by omega) zi_227 _ _ _ rfl (by omega) e_lp_65_0 hP hD hS (lv_sub hl [1, 2, 3, 0] rfl)
          · have f_226 : ¬ (32 ≤ zi_219.toInt ∧ zi_219.toInt ≤ 126) := bz_0 hw_223 c_225
            refine lv_iconst (v := (-1)) hx hb dX10_type_37 (by decide) ?_
            subst hQ
            have qc_m1 : (-1 : Int32).toInt = -1 := by decide
            exact W.iret (v := (-1 : Int32)) hx hb hr (fun t ht hW => ⟨⟨(-1 : Int32), zI, rfl, ⟨h_zI, (show (-3) ≤ (-1 : Int32).toInt ∧ (-1 : Int32).toInt ≤ 80 from by omega), (show JX zR zI zx from hj)⟩, ⟨by rw [ht]; exact hP, va_K.moved hW.alike hK, hD⟩⟩, hS.F ht⟩) hS.2.2 dX10_type_38
    have qc_0 : (0 : Int32).toInt = 0 := by decide
    exact lp_65 _ (0 : Int32) _ _ _ rfl (by decide) ezi_7.symm hP hD hS (lv_sub hl [1, 2, 3, 0] rfl)
  · have f_5 : ¬ (1 ≤ zib.toInt ∧ zib.toInt ≤ 8) := bz_0 hw_2 c_4
    refine lv_iconst (v := (-1)) hx hb dX10_type_10 (by decide) ?_
    subst hQ
    have qc_m1 : (-1 : Int32).toInt = -1 := by decide
    exact W.iret (v := (-1 : Int32)) hx hb hr (fun t ht hW => ⟨⟨(-1 : Int32), zI, rfl, ⟨h_zI, (show (-3) ≤ (-1 : Int32).toInt ∧ (-1 : Int32).toInt ≤ 80 from by omega), (show JX zR zI zx from hj)⟩, ⟨by rw [ht]; exact hP, va_K.moved hW.alike hK, hD⟩⟩, hS.F ht⟩) hS.2.2 dX10_type_11
set_option maxHeartbeats 8000000 in
set_option maxRecDepth 100000 in
theorem t_X10_law (l : Launch) (dC : Nat → ClassId) (dI : Nat → Nat → Nat) (cy : Nat → ClassId) (sz : Nat) (zL : List Nat) (zT : Nat → Nat) (zR : Nat → Nat → Nat) (zI : Nat → Nat → Int32) (zJ : Nat → Nat → Int64) (zx : Nat) (hs : SKP zL zT zR) (hw : WT zT zR zI) (t_zx : zT zx = 11) (hj : JX zR zI zx) : Met l yX10_law wsX10_law ({ frames := 6, cells := 0, slots := 0, locals := 148 } : Room) (va_Pc [.ref zx] (PRE dC dI cy (WL cy zL zT zR zI zJ) sz)) (va_Qi (fun (r : Int32) (u : (Nat → Nat → Int32)) => (WM [505, 701, 702, 703, 2200, 2900, 3000] AL zT zR zI u) ∧ (JX zR u zx)) (fun u t => POST dC dI cy (va_A (WL cy zL zT zR zI zJ) sz) (WL cy zL zT zR u zJ) t) (va_A (WL cy zL zT zR zI zJ) sz)) 0 0 (va_A (WL cy zL zT zR zI zJ) sz) := by
  refine Met.ofW (cc := cX10_law) (maxL := 2) (ret := (some .int)) (by decide) rfl ?_
  intro p e s m args below meth c s₁ B hml hv
  obtain ⟨rfl, hsz, hP, hK, hD0, hN⟩ := hv
  have hx := B.exec
  have hb := B.bytes
  have hr := B.returns
  have hts := atoms_spec (ws := wsX10_law) B.pre
  have hown : s.vm.findClass RX10 = some m.cls := findClass_of_methodNamed B.named
  have hlocks := B.notSynchronized
  subst hsz
  have hD := hD0.self (sz := s.heap.size)
  generalize hAe : va_A (WL cy zL zT zR zI zJ) s.heap.size = A at hD ⊢
  have hA : ∀ q : Nat, s.heap.size ≤ q → A q := fun q h => by rw [← hAe]; exact Or.inr h
  have hS : va_S A s.heap s.heap [] := va_S.rf
  have hP : va_P (dC, dI) vwCl (WL cy zL zT zR zI zJ) s.heap := hP
  have hl := lv_entry ([.ref zx] : List Value) (n := 2) (Nat.le_of_ble_eq_true rfl)
  rw [lg_entry_eq]
  generalize (lg_sl ([.ref zx] : List Value) ++ List.replicate (2 - (lg_sl ([.ref zx] : List Value)).length) Slot.unset).toArray = ls at hl ⊢
  have hl : lv_has ls 2 [(0, .ref zx)] := hl
  refine w_q (fun Q hQ => ?_)
  have h_zI : WM [505, 701, 702, 703, 2200, 2900, 3000] AL zT zR zI zI := WM.rf hw
  refine lv_aload_n hx hb dX10_law_0 rfl (lv_at hl 0 rfl) ?_
  refine ht_getr (C := RX10) (T := TX10) (N := 10) hx hb hts (by decide +kernel) hown hK hP hs t_zx (by decide) rfl rfl 2 (by decide) (hts (.fieldLink RX10 22 "DripStone" "reader" "LDripStone$Reader;") (by decide +kernel)) (fun _ h9 => h9) rfl dX10_law_1 ?_
  have t_1 : zT (zR zx 2) = 7 := sk_f hs t_zx (by decide) rfl (by decide)
  refine lv_aload_n hx hb dX10_law_4 rfl (lv_at hl 0 rfl) ?_
  refine ht_getr (C := RX10) (T := TX10) (N := 10) hx hb hts (by decide +kernel) hown hK hP hs t_zx (by decide) rfl rfl 3 (by decide) (hts (.fieldLink RX10 29 "DripStone" "lawDraft" "LDripStone$Law;") (by decide +kernel)) (fun _ h9 => h9) rfl dX10_law_5 ?_
  have t_2 : zT (zR zx 3) = 5 := sk_f hs t_zx (by decide) rfl (by decide)
  refine hj_i (ws := (WL cy zL zT zR zI zJ)) (w1 := fun (u : (Nat → Nat → Int32)) => (WL cy zL zT zR u zJ)) (va_runV (As := [.ref (zR zx 3)]) (rest := []) ⟨hx, hb, hml, hown, hts⟩ (t_X6_readLaw l dC dI cy s.heap.size zL zT zR zI zJ (zR zx 2) (zR zx 3) hs h_zI.1 t_1 t_2) (cwV 1 hts gX10_law_X6_readLaw rfl rfl rfl (by decide +kernel) ⟨(Nat.le_of_ble_eq_true rfl), (Nat.le_of_ble_eq_true rfl)⟩) (PRE.v hP hK hD hN (ht_recv hK hP hs t_1 (by decide) rfl rfl)) rfl rfl hl.1 rfl (lv_room (Nat.le_of_ble_eq_true rfl)) dX10_law_8 ⟨(Nat.le_of_ble_eq_true rfl), (Nat.le_of_ble_eq_true rfl)⟩) hP hD hS hA (fun zi_3 zI_6 H locs hw_4 hP hD hS => ?_)
  have k_zI_6 : WM [505, 702, 703, 2200, 2900, 3000] AL zT zR zI zI_6 := hw_4
  have h_zI_6 : WM [505, 701, 702, 703, 2200, 2900, 3000] AL zT zR zI zI_6 := h_zI.tr k_zI_6 (by decide) (fun _ _ => trivial)
  have rzi_3 := rng zi_3
  refine lv_istore_n (lv' := [(1, .int zi_3), (0, .ref zx)]) hx hb dX10_law_11 rfl hl (by decide) rfl (fun ls hl => ?_)
  refine lv_aload_n hx hb dX10_law_12 rfl (lv_at hl 1 rfl) ?_
  refine ht_getr (C := RX10) (T := TX10) (N := 10) hx hb hts (by decide +kernel) hown hK hP hs t_zx (by decide) rfl rfl 2 (by decide) (hts (.fieldLink RX10 22 "DripStone" "reader" "LDripStone$Reader;") (by decide +kernel)) (fun _ h9 => h9) rfl dX10_law_13 ?_
  refine lv_iconst (v := 0) hx hb dX10_law_16 (by decide) ?_
  refine ht_puti (v := (0 : Int32)) (ty := .int) (C := RX6) (T := TX6) (N := 4) hx hb hts (by decide +kernel) tyX6 tyX6_ok nmX6 hown hK hP hD hS hs t_1 (by decide) rfl rfl 1 (by decide) (hts (.fieldLink RX10 116 "DripStone$Reader" "typed" "I") (by decide +kernel)) (fun _ h9 => h9) rfl (by decide +kernel) rfl rfl rfl dX10_law_17 (fun H locs hP hD hS => ?_)
  have h_zI_7 : WM [505, 701, 702, 703, 2200, 2900, 3000] AL zT zR zI (u2 zI_6 (zR zx 2) 1 (0 : Int32)) := h_zI_6.put hs t_1 rfl (by decide) (by decide) (fun h => absurd h (by decide)) (by decide) trivial
  generalize uzI_7 : u2 zI_6 (zR zx 2) 1 (0 : Int32) = zI_7 at hP hD h_zI_7
  refine lv_iload_n hx hb dX10_law_20 rfl (lv_at hl 0 rfl) ?_
  refine lv_if_eq (tgt := 26) hx hb dX10_law_21 (by decide) (fun c_8 => ?_) (fun c_8 => ?_)
  · have f_9 : zi_3.toInt = 0 := ic_eq (rfl) (by decide) c_8
    refine lv_aload_n hx hb dX10_law_26 rfl (lv_at hl 1 rfl) ?_
    refine ht_getr (C := RX10) (T := TX10) (N := 10) hx hb hts (by decide +kernel) hown hK hP hs t_zx (by decide) rfl rfl 0 (by decide) (hts (.fieldLink RX10 12 "DripStone" "now" "LDripStone$State;") (by decide +kernel)) (fun _ h9 => h9) rfl dX10_law_27 ?_
    have t_10 : zT (zR zx 0) = 9 := sk_f hs t_zx (by decide) rfl (by decide)
    refine ht_getr (C := RX8) (T := TX8) (N := 9) hx hb hts (by decide +kernel) hown hK hP hs t_10 (by decide) rfl rfl 1 (by decide) (hts (.fieldLink RX10 126 "DripStone$State" "law" "LDripStone$Law;") (by decide +kernel)) (fun _ h9 => h9) rfl dX10_law_30 ?_
    have t_11 : zT (zR (zR zx 0) 1) = 5 := sk_f hs t_10 (by decide) rfl (by decide)
    refine lv_aload_n hx hb dX10_law_33 rfl (lv_at hl 1 rfl) ?_
    refine ht_getr (C := RX10) (T := TX10) (N := 10) hx hb hts (by decide +kernel) hown hK hP hs t_zx (by decide) rfl rfl 3 (by decide) (hts (.fieldLink RX10 29 "DripStone" "lawDraft" "LDripStone$Law;") (by decide +kernel)) (fun _ h9 => h9) rfl dX10_law_34 ?_
    refine hj_v (ws := (WL cy zL zT zR zI_7 zJ)) (w1 := fun (u : (Nat → Nat → Int32)) => (WL cy zL zT zR u zJ)) (va_runV (As := [.ref (zR zx 3)]) (rest := []) ⟨hx, hb, hml, hown, hts⟩ (t_X4_take_5_5 l dC dI cy H.size zL zT zR zI_7 zJ (zR (zR zx 0) 1) (zR zx 3) hs h_zI_7.1 t_11 t_2) (cwV 1 hts gX10_law_X4_take rfl rfl rfl (by decide +kernel) ⟨(Nat.le_of_ble_eq_true rfl), (Nat.le_of_ble_eq_true rfl)⟩) (PRE.v hP hK hD hN (ht_recv hK hP hs t_11 (by decide) rfl rfl)) rfl rfl hl.1 rfl (lv_room (Nat.le_of_ble_eq_true rfl)) dX10_law_37 ⟨(Nat.le_of_ble_eq_true rfl), (Nat.le_of_ble_eq_true rfl)⟩) hP hD hS hA (fun zI_15 H locs hw_13 hP hD hS => ?_)
    have k_zI_15 : WM [505, 2200, 2900, 3000] AL zT zR zI_7 zI_15 := hw_13
    have h_zI_15 : WM [505, 701, 702, 703, 2200, 2900, 3000] AL zT zR zI zI_15 := h_zI_7.tr k_zI_15 (by decide) (fun _ _ => trivial)
    refine lv_aload_n hx hb dX10_law_40 rfl (lv_at hl 1 rfl) ?_
    refine ht_getr (C := RX10) (T := TX10) (N := 10) hx hb hts (by decide +kernel) hown hK hP hs t_zx (by decide) rfl rfl 0 (by decide) (hts (.fieldLink RX10 12 "DripStone" "now" "LDripStone$State;") (by decide +kernel)) (fun _ h9 => h9) rfl dX10_law_41 ?_
    refine ht_getr (C := RX8) (T := TX8) (N := 9) hx hb hts (by decide +kernel) hown hK hP hs t_10 (by decide) rfl rfl 1 (by decide) (hts (.fieldLink RX10 126 "DripStone$State" "law" "LDripStone$Law;") (by decide +kernel)) (fun _ h9 => h9) rfl dX10_law_44 ?_
    refine ht_geti (C := RX4) (T := TX4) (N := 6) hx hb hts (by decide +kernel) hown hK hP hs t_11 (by decide) rfl rfl 5 (by decide) (hts (.fieldLink RX10 133 "DripStone$Law" "clauses" "I") (by decide +kernel)) (fun _ h9 => h9) rfl dX10_law_47 ?_
    refine lv_topi (fun zi_16 ezi_16 => ?_)
    have tzi_16 : 0 ≤ zi_16.toInt ∧ zi_16.toInt ≤ 6 := by rw [ezi_16]; exact h_zI_15.at t_11 _ rfl
    subst hQ
    exact W.iret (v := zi_16) hx hb hr (fun t ht hW => ⟨⟨zi_16, zI_15, rfl, ⟨h_zI_15, (show JX zR zI_15 zx from (JX.sm hj hs t_zx h_zI_15.2 (by decide) (by decide)))⟩, ⟨by rw [ht]; exact hP, va_K.moved hW.alike hK, hD⟩⟩, hS.F ht⟩) hS.2.2 dX10_law_50
  · have f_9 : ¬ (zi_3.toInt = 0) := ic_neq (rfl) (by decide) c_8
    refine lv_iload_n hx hb dX10_law_24 rfl (lv_at hl 0 rfl) ?_
    subst hQ
    exact W.iret (v := zi_3) hx hb hr (fun t ht hW => ⟨⟨zi_3, zI_7, rfl, ⟨h_zI_7, (show JX zR zI_7 zx from (JX.sm hj hs t_zx h_zI_7.2 (by decide) (by decide)))⟩, ⟨by rw [ht]; exact hP, va_K.moved hW.alike hK, hD⟩⟩, hS.F ht⟩) hS.2.2 dX10_law_25
set_option maxHeartbeats 8000000 in
set_option maxRecDepth 100000 in
theorem t_X10_grows (l : Launch) (dC : Nat → ClassId) (dI : Nat → Nat → Nat) (cy : Nat → ClassId) (sz : Nat) (zL : List Nat) (zT : Nat → Nat) (zR : Nat → Nat → Nat) (zI : Nat → Nat → Int32) (zJ : Nat → Nat → Int64) (zx : Nat) (zia : Int32) (hs : SKP zL zT zR) (hw : WT zT zR zI) (t_zx : zT zx = 11) (hj : JX zR zI zx) : Met l yX10_grows wsX10_grows ({ frames := 3, cells := 0, slots := 0, locals := 78 } : Room) (va_Pc [.ref zx, .int zia] (PRE dC dI cy (WL cy zL zT zR zI zJ) sz)) (va_Qi (fun (r : Int32) (u : Unit) => (JX zR zI zx)) (fun u t => POST dC dI cy (va_A (WL cy zL zT zR zI zJ) sz) (WL cy zL zT zR zI zJ) t) (va_A (WL cy zL zT zR zI zJ) sz)) 0 0 (va_A (WL cy zL zT zR zI zJ) sz) := by
  refine Met.ofW (cc := cX10_grows) (maxL := 2) (ret := (some .int)) (by decide) rfl ?_
  intro p e s m args below meth c s₁ B hml hv
  obtain ⟨rfl, hsz, hP, hK, hD0, hN⟩ := hv
  have hx := B.exec
  have hb := B.bytes
  have hr := B.returns
  have hts := atoms_spec (ws := wsX10_grows) B.pre
  have hown : s.vm.findClass RX10 = some m.cls := findClass_of_methodNamed B.named
  have hlocks := B.notSynchronized
  subst hsz
  have hD := hD0.self (sz := s.heap.size)
  generalize hAe : va_A (WL cy zL zT zR zI zJ) s.heap.size = A at hD ⊢
  have hA : ∀ q : Nat, s.heap.size ≤ q → A q := fun q h => by rw [← hAe]; exact Or.inr h
  have hS : va_S A s.heap s.heap [] := va_S.rf
  have hP : va_P (dC, dI) vwCl (WL cy zL zT zR zI zJ) s.heap := hP
  have hl := lv_entry ([.ref zx, .int zia] : List Value) (n := 2) (Nat.le_of_ble_eq_true rfl)
  rw [lg_entry_eq]
  generalize (lg_sl ([.ref zx, .int zia] : List Value) ++ List.replicate (2 - (lg_sl ([.ref zx, .int zia] : List Value)).length) Slot.unset).toArray = ls at hl ⊢
  have hl : lv_has ls 2 [(0, .ref zx), (1, .int zia)] := hl
  refine w_q (fun Q hQ => ?_)
  have h_zI : WM [] AL zT zR zI zI := WM.rf hw
  refine lv_iload_n hx hb dX10_grows_0 rfl (lv_at hl 1 rfl) ?_
  refine hj0_i (ws := (WL cy zL zT zR zI zJ)) (va_runS (As := [.int zia]) (rest := []) ⟨hx, hb, hml, hown, hts⟩ (c_X10_isYear l dC dI cy s.heap.size zia) (va_cwS 1 hts gX10_grows_X10_isYear rfl rfl rfl (by decide +kernel) ⟨(Nat.le_of_ble_eq_true rfl), (Nat.le_of_ble_eq_true rfl)⟩) (PRE.s (hP.sub [] rfl) hK (hD.sub [] (by decide) rfl) hN) rfl rfl hl.1 rfl (lv_room (Nat.le_of_ble_eq_true rfl)) dX10_grows_1 ⟨(Nat.le_of_ble_eq_true rfl), (Nat.le_of_ble_eq_true rfl)⟩) hP hD hS hA (fun zi_1 u_3 H locs hw_2 hP hD hS => ?_)
  have hw_2 : zi_1 = if 0 ≤ zia.toInt ∧ zia.toInt ≤ 23 then 1 else 0 := hw_2
  have b_zi_1 : 0 ≤ zi_1.toInt ∧ zi_1.toInt ≤ 1 := bz_b hw_2
  refine lv_if_eq (tgt := 28) hx hb dX10_grows_4 (by decide) (fun c_4 => ?_) (fun c_4 => ?_)
  · have f_5 : ¬ (0 ≤ zia.toInt ∧ zia.toInt ≤ 23) := bz_0 hw_2 c_4
    refine lv_iconst (v := (-1)) hx hb dX10_grows_28 (by decide) ?_
    subst hQ
    exact W.iret (v := (-1 : Int32)) hx hb hr (fun t ht hW => ⟨⟨(-1 : Int32), (), rfl, (show JX zR zI zx from hj), ⟨by rw [ht]; exact hP, va_K.moved hW.alike hK, hD⟩⟩, hS.F ht⟩) hS.2.2 dX10_grows_29
  · have f_5 : 0 ≤ zia.toInt ∧ zia.toInt ≤ 23 := bz_1 hw_2 c_4
    refine lv_aload_n hx hb dX10_grows_7 rfl (lv_at hl 0 rfl) ?_
    refine ht_getr (C := RX10) (T := TX10) (N := 10) hx hb hts (by decide +kernel) hown hK hP hs t_zx (by decide) rfl rfl 0 (by decide) (hts (.fieldLink RX10 12 "DripStone" "now" "LDripStone$State;") (by decide +kernel)) (fun _ h9 => h9) rfl dX10_grows_8 ?_
    have t_6 : zT (zR zx 0) = 9 := sk_f hs t_zx (by decide) rfl (by decide)
    refine ht_getr (C := RX8) (T := TX8) (N := 9) hx hb hts (by decide +kernel) hown hK hP hs t_6 (by decide) rfl rfl 1 (by decide) (hts (.fieldLink RX10 126 "DripStone$State" "law" "LDripStone$Law;") (by decide +kernel)) (fun _ h9 => h9) rfl dX10_grows_11 ?_
    have t_7 : zT (zR (zR zx 0) 1) = 5 := sk_f hs t_6 (by decide) rfl (by decide)
    refine lv_aload_n hx hb dX10_grows_14 rfl (lv_at hl 0 rfl) ?_
    refine ht_getr (C := RX10) (T := TX10) (N := 10) hx hb hts (by decide +kernel) hown hK hP hs t_zx (by decide) rfl rfl 0 (by decide) (hts (.fieldLink RX10 12 "DripStone" "now" "LDripStone$State;") (by decide +kernel)) (fun _ h9 => h9) rfl dX10_grows_15 ?_
    refine ht_getr (C := RX8) (T := TX8) (N := 9) hx hb hts (by decide +kernel) hown hK hP hs t_6 (by decide) rfl rfl 0 (by decide) (hts (.fieldLink RX10 79 "DripStone$State" "hill" "LDripStone$Hill;") (by decide +kernel)) (fun _ h9 => h9) rfl dX10_grows_18 ?_
    have t_8 : zT (zR (zR zx 0) 0) = 4 := sk_f hs t_6 (by decide) rfl (by decide)
    refine lv_iload_n hx hb dX10_grows_21 rfl (lv_at hl 1 rfl) ?_
    refine hj_i (ws := (WL cy zL zT zR zI zJ)) (w1 := fun (u : Unit) => (WL cy zL zT zR zI zJ)) (va_runV (As := [.ref (zR (zR zx 0) 0), .int zia]) (rest := []) ⟨hx, hb, hml, hown, hts⟩ (t_X4_growth l dC dI cy H.size zL zT zR zI zJ (zR (zR zx 0) 1) (zR (zR zx 0) 0) zia hs h_zI.1 t_7 t_8 (by omega)) (cwV 2 hts gX10_grows_X4_growth rfl rfl rfl (by decide +kernel) ⟨(Nat.le_of_ble_eq_true rfl), (Nat.le_of_ble_eq_true rfl)⟩) (PRE.v hP hK hD hN (ht_recv hK hP hs t_7 (by decide) rfl rfl)) rfl rfl hl.1 rfl (lv_room (Nat.le_of_ble_eq_true rfl)) dX10_grows_22 ⟨(Nat.le_of_ble_eq_true rfl), (Nat.le_of_ble_eq_true rfl)⟩) hP hD hS hA (fun zi_9 u_11 H locs hw_10 hP hD hS => ?_)
    have rzi_9 := rng zi_9
    refine lv_goto (tgt := 29) hx hb dX10_grows_25 (by decide) ?_
    subst hQ
    exact W.iret (v := zi_9) hx hb hr (fun t ht hW => ⟨⟨zi_9, (), rfl, (show JX zR zI zx from hj), ⟨by rw [ht]; exact hP, va_K.moved hW.alike hK, hD⟩⟩, hS.F ht⟩) hS.2.2 dX10_grows_29
set_option maxHeartbeats 8000000 in
set_option maxRecDepth 100000 in
theorem t_X10_fitsBuckets (l : Launch) (dC : Nat → ClassId) (dI : Nat → Nat → Nat) (cy : Nat → ClassId) (sz : Nat) (zL : List Nat) (zT : Nat → Nat) (zR : Nat → Nat → Nat) (zI : Nat → Nat → Int32) (zJ : Nat → Nat → Int64) (zx : Nat) (zs : Nat) (zif : Int32) (zin : Int32) (zie : Int32) (zik : Int32) (hs : SKP zL zT zR) (hw : WT zT zR zI) (t_zx : zT zx = 11) (t_zs : zT zs = 8) (b_zif : 0 ≤ zif.toInt ∧ zif.toInt ≤ 24) (b_zin : 1 ≤ zin.toInt ∧ zin.toInt ≤ 8) (b_zie : 0 ≤ zie.toInt ∧ zie.toInt ≤ 9) (b_zik : 1 ≤ zik.toInt ∧ zik.toInt ≤ 5) (hx1 : zif.toInt + 2 * zin.toInt ≤ 24) (hx2 : YQ (zI (zR zs 0)) zif.toInt zin.toInt) : Met l yX10_fitsBuckets wsX10_fitsBuckets ({ frames := 3, cells := 0, slots := 0, locals := 79 } : Room) (va_Pc [.ref zx, .ref zs, .int zif, .int zin, .int zie, .int zik] (PRE dC dI cy (WL cy zL zT zR zI zJ) sz)) (va_Qi (fun (r : Int32) (u : Unit) => (0 ≤ r.toInt ∧ r.toInt ≤ 1) ∧ ((r.toInt = 1 ∧ ALLB (FTc (fun y9 => WRC (zI (zR (zR (zR (zR zx 0) 0) 0) 0)) (zI (zR (zR (zR (zR zx 0) 0) 0) 1)) y9 zik.toInt) (zB (zI (zR zs 0))) zif.toInt zie.toInt) zin.toInt) ∨ (r.toInt = 0 ∧ ¬ ALLB (FTc (fun y9 => WRC (zI (zR (zR (zR (zR zx 0) 0) 0) 0)) (zI (zR (zR (zR (zR zx 0) 0) 0) 1)) y9 zik.toInt) (zB (zI (zR zs 0))) zif.toInt zie.toInt) zin.toInt))) (fun u t => POST dC dI cy (va_A (WL cy zL zT zR zI zJ) sz) (WL cy zL zT zR zI zJ) t) (va_A (WL cy zL zT zR zI zJ) sz)) 0 0 (va_A (WL cy zL zT zR zI zJ) sz) := by
  refine Met.ofW (cc := cX10_fitsBuckets) (maxL := 10) (ret := (some .boolean)) (by decide) rfl ?_
  intro p e s m args below meth c s₁ B hml hv
  obtain ⟨rfl, hsz, hP, hK, hD0, hN⟩ := hv
  have hx := B.exec
  have hb := B.bytes
  have hr := B.returns
  have hts := atoms_spec (ws := wsX10_fitsBuckets) B.pre
  have hown : s.vm.findClass RX10 = some m.cls := findClass_of_methodNamed B.named
  have hlocks := B.notSynchronized
  subst hsz
  have hD := hD0.self (sz := s.heap.size)
  generalize hAe : va_A (WL cy zL zT zR zI zJ) s.heap.size = A at hD ⊢
  have hA : ∀ q : Nat, s.heap.size ≤ q → A q := fun q h => by rw [← hAe]; exact Or.inr h
  have hS : va_S A s.heap s.heap [] := va_S.rf
  have hP : va_P (dC, dI) vwCl (WL cy zL zT zR zI zJ) s.heap := hP
  have hl := lv_entry ([.ref zx, .ref zs, .int zif, .int zin, .int zie, .int zik] : List Value) (n := 10) (Nat.le_of_ble_eq_true rfl)
  rw [lg_entry_eq]
  generalize (lg_sl ([.ref zx, .ref zs, .int zif, .int zin, .int zie, .int zik] : List Value) ++ List.replicate (10 - (lg_sl ([.ref zx, .ref zs, .int zif, .int zin, .int zie, .int zik] : List Value)).length) Slot.unset).toArray = ls at hl ⊢
  have hl : lv_has ls 10 [(0, .ref zx), (1, .ref zs), (2, .int zif), (3, .int zin), (4, .int zie), (5, .int zik)] := hl
  refine w_q (fun Q hQ => ?_)
  have h_zI : WM [] AL zT zR zI zI := WM.rf hw
  refine lv_iconst (v := 0) hx hb dX10_fitsBuckets_0 (by decide) ?_
  refine lv_istore (lv' := [(6, .int 0), (0, .ref zx), (1, .ref zs), (2, .int zif), (3, .int zin), (4, .int zie), (5, .int zik)]) hx hb dX10_fitsBuckets_1 hl (by decide) rfl (fun ls hl => ?_)
  have lp_178 : ∀ (n : Nat) (zi_142 : Int32) (H : Heap) (locs : List Loc) (ls : Array Slot), (zin.toInt - zi_142.toInt).toNat = n → (0 ≤ zi_142.toInt ∧ zi_142.toInt ≤ 8) → (ALLB (FTc (fun y9 => WRC (zI (zR (zR (zR (zR zx 0) 0) 0) 0)) (zI (zR (zR (zR (zR zx 0) 0) 0) 1)) y9 zik.toInt) (zB (zI (zR zs 0))) zif.toInt zie.toInt) zi_142.toInt) → va_P (dC, dI) vwCl (WL cy zL zT zR zI zJ) H → va_D A (WL cy zL zT zR zI zJ) → va_S A s.heap H locs → lv_has ls 10 [(0, .ref zx), (1, .ref zs), (2, .int zif), (3, .int zin), (4, .int zie), (5, .int zik), (6, .int zi_142)] → W p l e ({ frames := 3, cells := 0, slots := 0, locals := 79 } : Room) s m ([.ref zx, .ref zs, .int zif, .int zin, .int zie, .int zik] : List Value).toArray below meth c H locs 0 0 Q (F0 m 3 ls []) := by
    intro n
    induction n using Nat.strongRecOn with
    | _ n ih_178 =>
      intro zi_142 H locs ls hn b_zi_142 e_lp_178_0 hP hD hS hl
      refine lv_iload hx hb dX10_fitsBuckets_3 (lv_at hl 6 rfl) ?_
      refine lv_iload_n hx hb dX10_fitsBuckets_5 rfl (lv_at hl 3 rfl) ?_
      refine lv_icmp_ge (tgt := 89) hx hb dX10_fitsBuckets_6 (by decide) (fun c_179 => ?_) (fun c_179 => ?_)
      · have f_180 : zi_142.toInt ≥ zin.toInt := ic_ge (rfl) (rfl) c_179
        refine lv_iconst (v := 1) hx hb dX10_fitsBuckets_89 (by decide) ?_
        subst hQ
        have qc_1 : (1 : Int32).toInt = 1 := by decide
        exact W.zret (v := (1 : Int32)) hx hb hr rfl (fun t ht hW => ⟨⟨(1 : Int32), (), rfl, ⟨(show 0 ≤ (1 : Int32).toInt ∧ (1 : Int32).toInt ≤ 1 from by omega), (show ((1 : Int32).toInt = 1 ∧ ALLB (FTc (fun y9 => WRC (zI (zR (zR (zR (zR zx 0) 0) 0) 0)) (zI (zR (zR (zR (zR zx 0) 0) 0) 1)) y9 zik.toInt) (zB (zI (zR zs 0))) zif.toInt zie.toInt) zin.toInt) ∨ ((1 : Int32).toInt = 0 ∧ ¬ ALLB (FTc (fun y9 => WRC (zI (zR (zR (zR (zR zx 0) 0) 0) 0)) (zI (zR (zR (zR (zR zx 0) 0) 0) 1)) y9 zik.toInt) (zB (zI (zR zs 0))) zif.toInt zie.toInt) zin.toInt) from (Or.inl ⟨by decide, ALLB.e e_lp_178_0 (by omega)⟩))⟩, ⟨by rw [ht]; exact hP, va_K.moved hW.alike hK, hD⟩⟩, hS.F ht⟩) hS.2.2 dX10_fitsBuckets_90
      · have f_180 : ¬ (zi_142.toInt ≥ zin.toInt) := ic_nge (rfl) (rfl) c_179
        refine lv_aload_n hx hb dX10_fitsBuckets_9 rfl (lv_at hl 0 rfl) ?_
        refine ht_getr (C := RX10) (T := TX10) (N := 10) hx hb hts (by decide +kernel) hown hK hP hs t_zx (by decide) rfl rfl 0 (by decide) (hts (.fieldLink RX10 12 "DripStone" "now" "LDripStone$State;") (by decide +kernel)) (fun _ h9 => h9) rfl dX10_fitsBuckets_10 ?_
        have t_181 : zT (zR zx 0) = 9 := sk_f hs t_zx (by decide) rfl (by decide)
        refine ht_getr (C := RX8) (T := TX8) (N := 9) hx hb hts (by decide +kernel) hown hK hP hs t_181 (by decide) rfl rfl 0 (by decide) (hts (.fieldLink RX10 79 "DripStone$State" "hill" "LDripStone$Hill;") (by decide +kernel)) (fun _ h9 => h9) rfl dX10_fitsBuckets_13 ?_
        have t_182 : zT (zR (zR zx 0) 0) = 4 := sk_f hs t_181 (by decide) rfl (by decide)
        refine lv_aload_n hx hb dX10_fitsBuckets_16 rfl (lv_at hl 1 rfl) ?_
        refine ht_getr (C := RX7) (T := TX7) (N := 4) hx hb hts (by decide +kernel) hown hK hP hs t_zs (by decide) rfl rfl 0 (by decide) (hts (.fieldLink RX10 94 "DripStone$Sheet" "items" "[I") (by decide +kernel)) (fun _ h9 => h9) rfl dX10_fitsBuckets_17 ?_
        have t_183 : zT (zR zs 0) = 36 := sk_f hs t_zs (by decide) rfl (by decide)
        refine lv_iload_n hx hb dX10_fitsBuckets_20 rfl (lv_at hl 2 rfl) ?_
        refine lv_iconst (v := 2) hx hb dX10_fitsBuckets_21 (by decide) ?_
        refine lv_iload hx hb dX10_fitsBuckets_22 (lv_at hl 6 rfl) ?_
        refine lv_imul hx hb dX10_fitsBuckets_24 ?_
        refine lv_topi (fun zi_184 ezi_184 => ?_)
        have tzi_184 : zi_184.toInt = (2 : Int) * zi_142.toInt := by rw [ezi_184]; exact timul (show (2 : Int32).toInt = 2 by decide) (rfl) (by omega) (by omega)
        refine lv_iadd hx hb dX10_fitsBuckets_25 ?_
        refine lv_topi (fun zi_185 ezi_185 => ?_)
        have tzi_185 : zi_185.toInt = zif.toInt + zi_184.toInt := by rw [ezi_185]; exact tiadd (rfl) (rfl) (by omega) (by omega)
        refine ht_iald (n := 24) (q := 0) hx hb hK hP hs t_183 (by decide) rfl rfl ⟨by omega, by omega⟩ dX10_fitsBuckets_26 ?_
        refine lv_topi (fun zi_186 ezi_186 => ?_)
        have y_187 : 0 ≤ zi_186.toInt ∧ zi_186.toInt ≤ 23 := by rw [← ezi_186.symm]; exact YQ.at hx2 (q := zi_142.toInt) (by omega) (by omega) (by omega)
        have rr_188 := rng zi_186
        refine lv_iload hx hb dX10_fitsBuckets_27 (lv_at hl 5 rfl) ?_
        refine hj_i (ws := (WL cy zL zT zR zI zJ)) (w1 := fun (u : Unit) => (WL cy zL zT zR zI zJ)) (va_runV (As := [.int zi_186, .int zik]) (rest := []) ⟨hx, hb, hml, hown, hts⟩ (t_X3_waterBy l dC dI cy H.size zL zT zR zI zJ (zR (zR zx 0) 0) zi_186 zik hs h_zI.1 t_182 (by omega) (by omega)) (cwV 2 hts gX10_fitsBuckets_X3_waterBy rfl rfl rfl (by decide +kernel) ⟨(Nat.le_of_ble_eq_true rfl), (Nat.le_of_ble_eq_true rfl)⟩) (PRE.v hP hK hD hN (ht_recv hK hP hs t_182 (by decide) rfl rfl)) rfl rfl hl.1 rfl (lv_room (Nat.le_of_ble_eq_true rfl)) dX10_fitsBuckets_29 ⟨(Nat.le_of_ble_eq_true rfl), (Nat.le_of_ble_eq_true rfl)⟩) hP hD hS hA (fun zi_189 u_191 H locs hw_190 hP hD hS => ?_)
        have ps_192 : zi_189 = WRC (zI (zR (zR (zR (zR zx 0) 0) 0) 0)) (zI (zR (zR (zR (zR zx 0) 0) 0) 1)) zi_186.toInt zik.toInt := hw_190
        have rzi_189 := rng zi_189
        refine lv_istore (lv' := [(7, .int zi_189), (0, .ref zx), (1, .ref zs), (2, .int zif), (3, .int zin), (4, .int zie), (5, .int zik), (6, .int zi_142)]) hx hb dX10_fitsBuckets_32 hl (by decide) rfl (fun ls hl => ?_)
        refine lv_iload hx hb dX10_fitsBuckets_34 (lv_at hl 0 rfl) ?_
        refine lv_i2l (v := zi_189.toInt64) hx hb dX10_fitsBuckets_36 rfl ?_
        refine lv_topl (fun zj_193 ezj_193 => ?_)
        have tzj_193 : zj_193.toInt = zi_189.toInt := by rw [ezj_193]; exact Int32.toInt_toInt64 _
        refine lv_aload_n hx hb dX10_fitsBuckets_37 rfl (lv_at hl 2 rfl) ?_
        refine ht_getr (C := RX7) (T := TX7) (N := 4) hx hb hts (by decide +kernel) hown hK hP hs t_zs (by decide) rfl rfl 0 (by decide) (hts (.fieldLink RX10 94 "DripStone$Sheet" "items" "[I") (by decide +kernel)) (fun _ h9 => h9) rfl dX10_fitsBuckets_38 ?_
        refine lv_iload_n hx hb dX10_fitsBuckets_41 rfl (lv_at hl 3 rfl) ?_
        refine lv_iconst (v := 2) hx hb dX10_fitsBuckets_42 (by decide) ?_
        refine lv_iload hx hb dX10_fitsBuckets_43 (lv_at hl 7 rfl) ?_
        refine lv_imul hx hb dX10_fitsBuckets_45 ?_
        refine lv_topi (fun zi_194 ezi_194 => ?_)
        have tzi_194 : zi_194.toInt = (2 : Int) * zi_142.toInt := by rw [ezi_194]; exact timul (show (2 : Int32).toInt = 2 by decide) (rfl) (by omega) (by omega)
        refine lv_iadd hx hb dX10_fitsBuckets_46 ?_
        refine lv_topi (fun zi_195 ezi_195 => ?_)
        have tzi_195 : zi_195.toInt = zif.toInt + zi_194.toInt := by rw [ezi_195]; exact tiadd (rfl) (rfl) (by omega) (by omega)
        refine lv_iconst (v := 1) hx hb dX10_fitsBuckets_47 (by decide) ?_
        refine lv_iadd hx hb dX10_fitsBuckets_48 ?_
        refine lv_topi (fun zi_196 ezi_196 => ?_)
        have tzi_196 : zi_196.toInt = zi_195.toInt + (1 : Int) := by rw [ezi_196]; exact tiadd (rfl) (show (1 : Int32).toInt = 1 by decide) (by omega) (by omega)
        refine ht_iald (n := 24) (q := 0) hx hb hK hP hs t_183 (by decide) rfl rfl ⟨by omega, by omega⟩ dX10_fitsBuckets_49 ?_
        refine lv_topi (fun zi_197 ezi_197 => ?_)
        have rr_198 := rng zi_197
        refine lv_i2l (v := zi_197.toInt64) hx hb dX10_fitsBuckets_50 rfl ?_
        refine lv_topl (fun zj_199 ezj_199 => ?_)
        have tzj_199 : zj_199.toInt = zi_197.toInt := by rw [ezj_199]; exact Int32.toInt_toInt64 _
        refine lv_lsub hx hb dX10_fitsBuckets_51 ?_
        refine lv_topl (fun zj_200 ezj_200 => ?_)
        have ls_201 : zj_200.toInt = zj_193.toInt - zj_199.toInt := LSUB ezj_200 (by omega) (by omega)
        refine lv_lstore (lv' := [(8, .long zj_200), (7, .int zi_189), (0, .ref zx), (1, .ref zs), (2, .int zif), (3, .int zin), (4, .int zie), (5, .int zik), (6, .int zi_142)]) hx hb dX10_fitsBuckets_52 hl (by decide) rfl (fun ls hl => ?_)
        refine lv_iload hx hb dX10_fitsBuckets_54 (lv_at hl 1 rfl) ?_
        refine lv_sipush (v := (-1004)) hx hb dX10_fitsBuckets_56 (by decide) ?_
        refine lv_icmp_eq (tgt := 81) hx hb dX10_fitsBuckets_59 (by decide) (fun c_202 => ?_) (fun c_202 => ?_)
        · have f_203 : zi_189.toInt = (-1004 : Int) := ic_eq (rfl) (show ((-1004) : Int32).toInt = -1004 by decide) c_202
          refine lv_iconst (v := 0) hx hb dX10_fitsBuckets_81 (by decide) ?_
          subst hQ
          have qc_0 : (0 : Int32).toInt = 0 := by decide
          exact W.zret (v := (0 : Int32)) hx hb hr rfl (fun t ht hW => ⟨⟨(0 : Int32), (), rfl, ⟨(show 0 ≤ (0 : Int32).toInt ∧ (0 : Int32).toInt ≤ 1 from by omega), (show ((0 : Int32).toInt = 1 ∧ ALLB (FTc (fun y9 => WRC (zI (zR (zR (zR (zR zx 0) 0) 0) 0)) (zI (zR (zR (zR (zR zx 0) 0) 0) 1)) y9 zik.toInt) (zB (zI (zR zs 0))) zif.toInt zie.toInt) zin.toInt) ∨ ((0 : Int32).toInt = 0 ∧ ¬ ALLB (FTc (fun y9 => WRC (zI (zR (zR (zR (zR zx 0) 0) 0) 0)) (zI (zR (zR (zR (zR zx 0) 0) 0) 1)) y9 zik.toInt) (zB (zI (zR zs 0))) zif.toInt zie.toInt) zin.toInt) from (Or.inr ⟨by decide, FTc.no (i := zi_142.toInt) ((zB_at (i := zi_185) (by omega)).trans (congrArg Int32.toInt ezi_186.symm)) ((zB_at (i := zi_196) (by omega)).trans (congrArg Int32.toInt ezi_197.symm)) ps_192 (by omega) (by omega) (by omega)⟩))⟩, ⟨by rw [ht]; exact hP, va_K.moved hW.alike hK, hD⟩⟩, hS.F ht⟩) hS.2.2 dX10_fitsBuckets_82
        · have f_203 : ¬ (zi_189.toInt = (-1004 : Int)) := ic_neq (rfl) (show ((-1004) : Int32).toInt = -1004 by decide) c_202
          refine lv_lload hx hb dX10_fitsBuckets_62 (lv_at hl 0 rfl) ?_
          refine lv_iload hx hb dX10_fitsBuckets_64 (lv_at hl 6 rfl) ?_
          refine lv_i2l (v := zie.toInt64) hx hb dX10_fitsBuckets_66 rfl ?_
          refine lv_topl (fun zj_204 ezj_204 => ?_)
          have tzj_204 : zj_204.toInt = zie.toInt := by rw [ezj_204]; exact Int32.toInt_toInt64 _
          refine W.lcmp hx hb dX10_fitsBuckets_67 ?_
          refine lv_topi (fun zi_205 ezi_205 => ?_)
          refine lv_if_gt (tgt := 81) hx hb dX10_fitsBuckets_68 (by decide) (fun c_206 => ?_) (fun c_206 => ?_)
          · have f_207 : zj_200.toInt > zj_204.toInt := lk_gt ezi_205 (rfl) (rfl) c_206
            refine lv_iconst (v := 0) hx hb dX10_fitsBuckets_81 (by decide) ?_
            subst hQ
            have qc_0 : (0 : Int32).toInt = 0 := by decide
            exact W.zret (v := (0 : Int32)) hx hb hr rfl (fun t ht hW => ⟨⟨(0 : Int32), (), rfl, ⟨(show 0 ≤ (0 : Int32).toInt ∧ (0 : Int32).toInt ≤ 1 from by omega), (show ((0 : Int32).toInt = 1 ∧ ALLB (FTc (fun y9 => WRC (zI (zR (zR (zR (zR zx 0) 0) 0) 0)) (zI (zR (zR (zR (zR zx 0) 0) 0) 1)) y9 zik.toInt) (zB (zI (zR zs 0))) zif.toInt zie.toInt) zin.toInt) ∨ ((0 : Int32).toInt = 0 ∧ ¬ ALLB (FTc (fun y9 => WRC (zI (zR (zR (zR (zR zx 0) 0) 0) 0)) (zI (zR (zR (zR (zR zx 0) 0) 0) 1)) y9 zik.toInt) (zB (zI (zR zs 0))) zif.toInt zie.toInt) zin.toInt) from (Or.inr ⟨by decide, FTc.no (i := zi_142.toInt) ((zB_at (i := zi_185) (by omega)).trans (congrArg Int32.toInt ezi_186.symm)) ((zB_at (i := zi_196) (by omega)).trans (congrArg Int32.toInt ezi_197.symm)) ps_192 (by omega) (by omega) (by omega)⟩))⟩, ⟨by rw [ht]; exact hP, va_K.moved hW.alike hK, hD⟩⟩, hS.F ht⟩) hS.2.2 dX10_fitsBuckets_82
          · have f_207 : ¬ (zj_200.toInt > zj_204.toInt) := lk_ngt ezi_205 (rfl) (rfl) c_206
            refine lv_lload hx hb dX10_fitsBuckets_71 (lv_at hl 0 rfl) ?_
            refine lv_iload hx hb dX10_fitsBuckets_73 (lv_at hl 6 rfl) ?_
            refine lv_ineg hx hb dX10_fitsBuckets_75 ?_
            refine lv_topi (fun zi_208 ezi_208 => ?_)
            have tzi_208 : zi_208.toInt = - zie.toInt := by rw [ezi_208]; exact tineg rfl (by omega)
            refine lv_i2l (v := zi_208.toInt64) hx hb dX10_fitsBuckets_76 rfl ?_
            refine lv_topl (fun zj_209 ezj_209 => ?_)
            have tzj_209 : zj_209.toInt = zi_208.toInt := by rw [ezj_209]; exact Int32.toInt_toInt64 _
            refine W.lcmp hx hb dX10_fitsBuckets_77 ?_
            refine lv_topi (fun zi_210 ezi_210 => ?_)
            refine lv_if_ge (tgt := 83) hx hb dX10_fitsBuckets_78 (by decide) (fun c_211 => ?_) (fun c_211 => ?_)
            · have f_212 : ¬ (zj_200.toInt < zj_209.toInt) := lk_ge ezi_210 (rfl) (rfl) c_211
              obtain ⟨zi_213, ezi_213⟩ : ∃ y : Int32, y = zi_142 + 1 := ⟨_, rfl⟩
              have tzi_213 : zi_213.toInt = zi_142.toInt + 1 := by rw [ezi_213]; exact tadd rfl (show (1 : Int32).toInt = 1 by decide) (by omega) (by omega)
              refine lv_iinc (v := zi_213) (lv' := [(6, .int zi_213), (8, .long zj_200), (7, .int zi_189), (0, .ref zx), (1, .ref zs), (2, .int zif), (3, .int zin), (4, .int zie), (5, .int zik)]) hx hb dX10_fitsBuckets_83 hl (k := 8) rfl (by rw [ezi_213]; rfl) (by decide) rfl (fun ls hl => ?_)
              refine lv_goto (tgt := 3) hx hb dX10_fitsBuckets_86 (by decide) ?_
              exact ih_178 (zin.toInt - zi_213.toInt).toNat (by omega) zi_213 _ _ _ rfl (by omega) (ALLB.s e_lp_178_0 (FTc.mk ((zB_at (i := zi_185) (by omega)).trans (congrArg Int32.toInt ezi_186.symm)) ((zB_at (i := zi_196) (by omega)).trans (congrArg Int32.toInt ezi_197.symm)) ps_192 (by omega) (by omega) (by omega)) (by omega)) hP hD hS (lv_sub hl [3, 4, 5, 6, 7, 8, 0] rfl)
            · have f_212 : zj_200.toInt < zj_209.toInt := lk_nge ezi_210 (rfl) (rfl) c_211
              refine lv_iconst (v := 0) hx hb dX10_fitsBuckets_81 (by decide) ?_
              subst hQ
              have qc_0 : (0 : Int32).toInt = 0 := by decide
              exact W.zret (v := (0 : Int32)) hx hb hr rfl (fun t ht hW => ⟨⟨(0 : Int32), (), rfl, ⟨(show 0 ≤ (0 : Int32).toInt ∧ (0 : Int32).toInt ≤ 1 from by omega), (show ((0 : Int32).toInt = 1 ∧ ALLB (FTc (fun y9 => WRC (zI (zR (zR (zR (zR zx 0) 0) 0) 0)) (zI (zR (zR (zR (zR zx 0) 0) 0) 1)) y9 zik.toInt) (zB (zI (zR zs 0))) zif.toInt zie.toInt) zin.toInt) ∨ ((0 : Int32).toInt = 0 ∧ ¬ ALLB (FTc (fun y9 => WRC (zI (zR (zR (zR (zR zx 0) 0) 0) 0)) (zI (zR (zR (zR (zR zx 0) 0) 0) 1)) y9 zik.toInt) (zB (zI (zR zs 0))) zif.toInt zie.toInt) zin.toInt) from (Or.inr ⟨by decide, FTc.no (i := zi_142.toInt) ((zB_at (i := zi_185) (by omega)).trans (congrArg Int32.toInt ezi_186.symm)) ((zB_at (i := zi_196) (by omega)).trans (congrArg Int32.toInt ezi_197.symm)) ps_192 (by omega) (by omega) (by omega)⟩))⟩, ⟨by rw [ht]; exact hP, va_K.moved hW.alike hK, hD⟩⟩, hS.F ht⟩) hS.2.2 dX10_fitsBuckets_82
  have qc_0 : (0 : Int32).toInt = 0 := by decide
  exact lp_178 _ (0 : Int32) _ _ _ rfl (by decide) ALLB.z hP hD hS (lv_sub hl [1, 2, 3, 4, 5, 6, 0] rfl)
set_option maxHeartbeats 8000000 in
set_option maxRecDepth 100000 in
theorem t_X10_learn (l : Launch) (dC : Nat → ClassId) (dI : Nat → Nat → Nat) (cy : Nat → ClassId) (sz : Nat) (zL : List Nat) (zT : Nat → Nat) (zR : Nat → Nat → Nat) (zI : Nat → Nat → Int32) (zJ : Nat → Nat → Int64) (zx : Nat) (zia : Int32) (zib : Int32) (zic : Int32) (zid : Int32) (zie : Int32) (hs : SKP zL zT zR) (hw : WT zT zR zI) (t_zx : zT zx = 11) (hj : JX zR zI zx) : Met l yX10_learn wsX10_learn ({ frames := 4, cells := 0, slots := 0, locals := 108 } : Room) (va_Pc [.ref zx, .int zia, .int zib, .int zic, .int zid, .int zie] (PRE dC dI cy (WL cy zL zT zR zI zJ) sz)) (va_Qi (fun (r : Int32) (u : Unit) => (JX zR zI zx) ∧ (¬ (LNok zia.toInt zib.toInt zid.toInt zie.toInt) → r.toInt = -1) ∧ (LNok zia.toInt zib.toInt zid.toInt zie.toInt → ¬ (RFS (zI (zR (zR zx 5) zia.toNatClampNeg) 3).toInt (zI (zR (zR zx 5) zia.toNatClampNeg) 1).toInt (zI (zR (zR zx 5) zia.toNatClampNeg) 2).toInt zib.toInt zic.toInt (2 * zid.toInt)) = 0 → r.toInt = (RFS (zI (zR (zR zx 5) zia.toNatClampNeg) 3).toInt (zI (zR (zR zx 5) zia.toNatClampNeg) 1).toInt (zI (zR (zR zx 5) zia.toNatClampNeg) 2).toInt zib.toInt zic.toInt (2 * zid.toInt))) ∧ (LNok zia.toInt zib.toInt zid.toInt zie.toInt → (RFS (zI (zR (zR zx 5) zia.toNatClampNeg) 3).toInt (zI (zR (zR zx 5) zia.toNatClampNeg) 1).toInt (zI (zR (zR zx 5) zia.toNatClampNeg) 2).toInt zib.toInt zic.toInt (2 * zid.toInt)) = 0 → ¬ YQ (zI (zR (zR (zR zx 5) zia.toNatClampNeg) 0)) zic.toInt zid.toInt → r.toInt = -2) ∧ (LNok zia.toInt zib.toInt zid.toInt zie.toInt → (RFS (zI (zR (zR zx 5) zia.toNatClampNeg) 3).toInt (zI (zR (zR zx 5) zia.toNatClampNeg) 1).toInt (zI (zR (zR zx 5) zia.toNatClampNeg) 2).toInt zib.toInt zic.toInt (2 * zid.toInt)) = 0 → YQ (zI (zR (zR (zR zx 5) zia.toNatClampNeg) 0)) zic.toInt zid.toInt → LNa (fun k9 => ALLB (FTc (fun y9 => WRC (zI (zR (zR (zR (zR zx 0) 0) 0) 0)) (zI (zR (zR (zR (zR zx 0) 0) 0) 1)) y9 k9) (zB (zI (zR (zR (zR zx 5) zia.toNatClampNeg) 0))) zic.toInt zie.toInt) zid.toInt) r)) (fun u t => POST dC dI cy (va_A (WL cy zL zT zR zI zJ) sz) (WL cy zL zT zR zI zJ) t) (va_A (WL cy zL zT zR zI zJ) sz)) 0 0 (va_A (WL cy zL zT zR zI zJ) sz) := by
  refine Met.ofW (cc := cX10_learn) (maxL := 10) (ret := (some .int)) (by decide) rfl ?_
  intro p e s m args below meth c s₁ B hml hv
  obtain ⟨rfl, hsz, hP, hK, hD0, hN⟩ := hv
  have hx := B.exec
  have hb := B.bytes
  have hr := B.returns
  have hts := atoms_spec (ws := wsX10_learn) B.pre
  have hown : s.vm.findClass RX10 = some m.cls := findClass_of_methodNamed B.named
  have hlocks := B.notSynchronized
  subst hsz
  have hD := hD0.self (sz := s.heap.size)
  generalize hAe : va_A (WL cy zL zT zR zI zJ) s.heap.size = A at hD ⊢
  have hA : ∀ q : Nat, s.heap.size ≤ q → A q := fun q h => by rw [← hAe]; exact Or.inr h
  have hS : va_S A s.heap s.heap [] := va_S.rf
  have hP : va_P (dC, dI) vwCl (WL cy zL zT zR zI zJ) s.heap := hP
  have hl := lv_entry ([.ref zx, .int zia, .int zib, .int zic, .int zid, .int zie] : List Value) (n := 10) (Nat.le_of_ble_eq_true rfl)
  rw [lg_entry_eq]
  generalize (lg_sl ([.ref zx, .int zia, .int zib, .int zic, .int zid, .int zie] : List Value) ++ List.replicate (10 - (lg_sl ([.ref zx, .int zia, .int zib, .int zic, .int zid, .int zie] : List Value)).length) Slot.unset).toArray = ls at hl ⊢
  have hl : lv_has ls 10 [(0, .ref zx), (1, .int zia), (2, .int zib), (3, .int zic), (4, .int zid), (5, .int zie)] := hl
  refine w_q (fun Q hQ => ?_)
  have h_zI : WM [] AL zT zR zI zI := WM.rf hw
  refine lv_iload_n hx hb dX10_learn_0 rfl (lv_at hl 1 rfl) ?_
  refine lv_iload_n hx hb dX10_learn_1 rfl (lv_at hl 2 rfl) ?_
  refine hj0_i (ws := (WL cy zL zT zR zI zJ)) (va_runS (As := [.int zia, .int zib]) (rest := []) ⟨hx, hb, hml, hown, hts⟩ (c_X10_isRow l dC dI cy s.heap.size zia zib) (va_cwS 2 hts gX10_learn_X10_isRow rfl rfl rfl (by decide +kernel) ⟨(Nat.le_of_ble_eq_true rfl), (Nat.le_of_ble_eq_true rfl)⟩) (PRE.s (hP.sub [] rfl) hK (hD.sub [] (by decide) rfl) hN) rfl rfl hl.1 rfl (lv_room (Nat.le_of_ble_eq_true rfl)) dX10_learn_2 ⟨(Nat.le_of_ble_eq_true rfl), (Nat.le_of_ble_eq_true rfl)⟩) hP hD hS hA (fun zi_1 u_3 H locs hw_2 hP hD hS => ?_)
  have hw_2 : zi_1 = if (0 ≤ zia.toInt ∧ zia.toInt ≤ 3) ∧ 0 ≤ zib.toInt ∧ zib.toInt ≤ 2 then 1 else 0 := hw_2
  have b_zi_1 : 0 ≤ zi_1.toInt ∧ zi_1.toInt ≤ 1 := bz_b hw_2
  refine lv_if_eq (tgt := 30) hx hb dX10_learn_5 (by decide) (fun c_4 => ?_) (fun c_4 => ?_)
  · have f_5 : ¬ ((0 ≤ zia.toInt ∧ zia.toInt ≤ 3) ∧ 0 ≤ zib.toInt ∧ zib.toInt ≤ 2) := bz_0 hw_2 c_4
    refine lv_iconst (v := (-1)) hx hb dX10_learn_30 (by decide) ?_
    subst hQ
    exact W.iret (v := (-1 : Int32)) hx hb hr (fun t ht hW => ⟨⟨(-1 : Int32), (), rfl, ⟨(show JX zR zI zx from hj), (show ¬ (LNok zia.toInt zib.toInt zid.toInt zie.toInt) → (-1 : Int32).toInt = -1 from (fun _ => by decide)), (show LNok zia.toInt zib.toInt zid.toInt zie.toInt → ¬ (RFS (zI (zR (zR zx 5) zia.toNatClampNeg) 3).toInt (zI (zR (zR zx 5) zia.toNatClampNeg) 1).toInt (zI (zR (zR zx 5) zia.toNatClampNeg) 2).toInt zib.toInt zic.toInt (2 * zid.toInt)) = 0 → (-1 : Int32).toInt = (RFS (zI (zR (zR zx 5) zia.toNatClampNeg) 3).toInt (zI (zR (zR zx 5) zia.toNatClampNeg) 1).toInt (zI (zR (zR zx 5) zia.toNatClampNeg) 2).toInt zib.toInt zic.toInt (2 * zid.toInt)) from (fun h9 => absurd h9 (by unfold LNok; omega))), (show LNok zia.toInt zib.toInt zid.toInt zie.toInt → (RFS (zI (zR (zR zx 5) zia.toNatClampNeg) 3).toInt (zI (zR (zR zx 5) zia.toNatClampNeg) 1).toInt (zI (zR (zR zx 5) zia.toNatClampNeg) 2).toInt zib.toInt zic.toInt (2 * zid.toInt)) = 0 → ¬ YQ (zI (zR (zR (zR zx 5) zia.toNatClampNeg) 0)) zic.toInt zid.toInt → (-1 : Int32).toInt = -2 from (fun h9 => absurd h9 (by unfold LNok; omega))), (show LNok zia.toInt zib.toInt zid.toInt zie.toInt → (RFS (zI (zR (zR zx 5) zia.toNatClampNeg) 3).toInt (zI (zR (zR zx 5) zia.toNatClampNeg) 1).toInt (zI (zR (zR zx 5) zia.toNatClampNeg) 2).toInt zib.toInt zic.toInt (2 * zid.toInt)) = 0 → YQ (zI (zR (zR (zR zx 5) zia.toNatClampNeg) 0)) zic.toInt zid.toInt → LNa (fun k9 => ALLB (FTc (fun y9 => WRC (zI (zR (zR (zR (zR zx 0) 0) 0) 0)) (zI (zR (zR (zR (zR zx 0) 0) 0) 1)) y9 k9) (zB (zI (zR (zR (zR zx 5) zia.toNatClampNeg) 0))) zic.toInt zie.toInt) zid.toInt) (-1 : Int32) from (fun h9 => absurd h9 (by unfold LNok; omega)))⟩, ⟨by rw [ht]; exact hP, va_K.moved hW.alike hK, hD⟩⟩, hS.F ht⟩) hS.2.2 dX10_learn_31
  · have f_5 : (0 ≤ zia.toInt ∧ zia.toInt ≤ 3) ∧ 0 ≤ zib.toInt ∧ zib.toInt ≤ 2 := bz_1 hw_2 c_4
    refine lv_iload hx hb dX10_learn_8 (lv_at hl 4 rfl) ?_
    refine lv_iconst (v := 1) hx hb dX10_learn_10 (by decide) ?_
    refine lv_bipush (v := 8) hx hb dX10_learn_11 (by decide) ?_
    refine hj0_i (ws := (WL cy zL zT zR zI zJ)) (va_runS (As := [.int zid, .int 1, .int 8]) (rest := []) ⟨hx, hb, hml, hown, hts⟩ (c_X10_isWithin l dC dI cy H.size zid 1 8 1 8 (by first | rfl | decide | omega | exact Int32.toInt_toInt64 _) (by first | rfl | decide | omega | exact Int32.toInt_toInt64 _)) (va_cwS 3 hts gX10_learn_X10_isWithin rfl rfl rfl (by decide +kernel) ⟨(Nat.le_of_ble_eq_true rfl), (Nat.le_of_ble_eq_true rfl)⟩) (PRE.s (hP.sub [] rfl) hK (hD.sub [] (by decide) rfl) hN) rfl rfl hl.1 rfl (lv_room (Nat.le_of_ble_eq_true rfl)) dX10_learn_13 ⟨(Nat.le_of_ble_eq_true rfl), (Nat.le_of_ble_eq_true rfl)⟩) hP hD hS hA (fun zi_6 u_8 H locs hw_7 hP hD hS => ?_)
    have hw_7 : zi_6 = if 1 ≤ zid.toInt ∧ zid.toInt ≤ 8 then 1 else 0 := hw_7
    have b_zi_6 : 0 ≤ zi_6.toInt ∧ zi_6.toInt ≤ 1 := bz_b hw_7
    refine lv_if_eq (tgt := 30) hx hb dX10_learn_16 (by decide) (fun c_9 => ?_) (fun c_9 => ?_)
    · have f_10 : ¬ (1 ≤ zid.toInt ∧ zid.toInt ≤ 8) := bz_0 hw_7 c_9
      refine lv_iconst (v := (-1)) hx hb dX10_learn_30 (by decide) ?_
      subst hQ
      exact W.iret (v := (-1 : Int32)) hx hb hr (fun t ht hW => ⟨⟨(-1 : Int32), (), rfl, ⟨(show JX zR zI zx from hj), (show ¬ (LNok zia.toInt zib.toInt zid.toInt zie.toInt) → (-1 : Int32).toInt = -1 from (fun _ => by decide)), (show LNok zia.toInt zib.toInt zid.toInt zie.toInt → ¬ (RFS (zI (zR (zR zx 5) zia.toNatClampNeg) 3).toInt (zI (zR (zR zx 5) zia.toNatClampNeg) 1).toInt (zI (zR (zR zx 5) zia.toNatClampNeg) 2).toInt zib.toInt zic.toInt (2 * zid.toInt)) = 0 → (-1 : Int32).toInt = (RFS (zI (zR (zR zx 5) zia.toNatClampNeg) 3).toInt (zI (zR (zR zx 5) zia.toNatClampNeg) 1).toInt (zI (zR (zR zx 5) zia.toNatClampNeg) 2).toInt zib.toInt zic.toInt (2 * zid.toInt)) from (fun h9 => absurd h9 (by unfold LNok; omega))), (show LNok zia.toInt zib.toInt zid.toInt zie.toInt → (RFS (zI (zR (zR zx 5) zia.toNatClampNeg) 3).toInt (zI (zR (zR zx 5) zia.toNatClampNeg) 1).toInt (zI (zR (zR zx 5) zia.toNatClampNeg) 2).toInt zib.toInt zic.toInt (2 * zid.toInt)) = 0 → ¬ YQ (zI (zR (zR (zR zx 5) zia.toNatClampNeg) 0)) zic.toInt zid.toInt → (-1 : Int32).toInt = -2 from (fun h9 => absurd h9 (by unfold LNok; omega))), (show LNok zia.toInt zib.toInt zid.toInt zie.toInt → (RFS (zI (zR (zR zx 5) zia.toNatClampNeg) 3).toInt (zI (zR (zR zx 5) zia.toNatClampNeg) 1).toInt (zI (zR (zR zx 5) zia.toNatClampNeg) 2).toInt zib.toInt zic.toInt (2 * zid.toInt)) = 0 → YQ (zI (zR (zR (zR zx 5) zia.toNatClampNeg) 0)) zic.toInt zid.toInt → LNa (fun k9 => ALLB (FTc (fun y9 => WRC (zI (zR (zR (zR (zR zx 0) 0) 0) 0)) (zI (zR (zR (zR (zR zx 0) 0) 0) 1)) y9 k9) (zB (zI (zR (zR (zR zx 5) zia.toNatClampNeg) 0))) zic.toInt zie.toInt) zid.toInt) (-1 : Int32) from (fun h9 => absurd h9 (by unfold LNok; omega)))⟩, ⟨by rw [ht]; exact hP, va_K.moved hW.alike hK, hD⟩⟩, hS.F ht⟩) hS.2.2 dX10_learn_31
    · have f_10 : 1 ≤ zid.toInt ∧ zid.toInt ≤ 8 := bz_1 hw_7 c_9
      refine lv_iload hx hb dX10_learn_19 (lv_at hl 5 rfl) ?_
      refine lv_iconst (v := 0) hx hb dX10_learn_21 (by decide) ?_
      refine lv_bipush (v := 9) hx hb dX10_learn_22 (by decide) ?_
      refine hj0_i (ws := (WL cy zL zT zR zI zJ)) (va_runS (As := [.int zie, .int 0, .int 9]) (rest := []) ⟨hx, hb, hml, hown, hts⟩ (c_X10_isWithin l dC dI cy H.size zie 0 9 0 9 (by first | rfl | decide | omega | exact Int32.toInt_toInt64 _) (by first | rfl | decide | omega | exact Int32.toInt_toInt64 _)) (va_cwS 3 hts gX10_learn_X10_isWithin rfl rfl rfl (by decide +kernel) ⟨(Nat.le_of_ble_eq_true rfl), (Nat.le_of_ble_eq_true rfl)⟩) (PRE.s (hP.sub [] rfl) hK (hD.sub [] (by decide) rfl) hN) rfl rfl hl.1 rfl (lv_room (Nat.le_of_ble_eq_true rfl)) dX10_learn_24 ⟨(Nat.le_of_ble_eq_true rfl), (Nat.le_of_ble_eq_true rfl)⟩) hP hD hS hA (fun zi_11 u_13 H locs hw_12 hP hD hS => ?_)
      have hw_12 : zi_11 = if 0 ≤ zie.toInt ∧ zie.toInt ≤ 9 then 1 else 0 := hw_12
      have b_zi_11 : 0 ≤ zi_11.toInt ∧ zi_11.toInt ≤ 1 := bz_b hw_12
      refine lv_if_ne (tgt := 32) hx hb dX10_learn_27 (by decide) (fun c_14 => ?_) (fun c_14 => ?_)
      · have f_15 : 0 ≤ zie.toInt ∧ zie.toInt ≤ 9 := bz_1 hw_12 c_14
        refine lv_aload_n hx hb dX10_learn_32 rfl (lv_at hl 0 rfl) ?_
        refine ht_getr (C := RX10) (T := TX10) (N := 10) hx hb hts (by decide +kernel) hown hK hP hs t_zx (by decide) rfl rfl 5 (by decide) (hts (.fieldLink RX10 43 "DripStone" "sheets" "[LDripStone$Sheet;") (by decide +kernel)) (fun _ h9 => h9) rfl dX10_learn_33 ?_
        have t_16 : zT (zR zx 5) = 63 := sk_f hs t_zx (by decide) rfl (by decide)
        refine lv_iload_n hx hb dX10_learn_36 rfl (lv_at hl 1 rfl) ?_
        refine ht_aald (n := 4) (q := 5) hx hb hK hP hs t_16 (by decide) rfl rfl ⟨by omega, by omega⟩ dX10_learn_37 ?_
        have t_17 : zT (zR (zR zx 5) zia.toNatClampNeg) = 8 := sk_a (n := 4) hs t_16 rfl rfl (by decide) (cl_lt (by omega) (by omega))
        refine lv_astore (lv' := [(6, .ref (zR (zR zx 5) zia.toNatClampNeg)), (0, .ref zx), (1, .int zia), (2, .int zib), (3, .int zic), (4, .int zid), (5, .int zie)]) hx hb dX10_learn_38 hl (by decide) rfl (fun ls hl => ?_)
        refine lv_aload hx hb dX10_learn_40 (lv_at hl 0 rfl) ?_
        refine lv_iload_n hx hb dX10_learn_42 rfl (lv_at hl 3 rfl) ?_
        refine lv_iload_n hx hb dX10_learn_43 rfl (lv_at hl 4 rfl) ?_
        refine lv_iconst (v := 2) hx hb dX10_learn_44 (by decide) ?_
        refine lv_iload hx hb dX10_learn_45 (lv_at hl 5 rfl) ?_
        refine lv_imul hx hb dX10_learn_47 ?_
        refine lv_topi (fun zi_18 ezi_18 => ?_)
        have tzi_18 : zi_18.toInt = (2 : Int) * zid.toInt := by rw [ezi_18]; exact timul (show (2 : Int32).toInt = 2 by decide) (rfl) (by omega) (by omega)
        refine hj_i (ws := (WL cy zL zT zR zI zJ)) (w1 := fun (u : Unit) => (WL cy zL zT zR zI zJ)) (va_runV (As := [.int zib, .int zic, .int zi_18]) (rest := []) ⟨hx, hb, hml, hown, hts⟩ (t_X7_refusal l dC dI cy H.size zL zT zR zI zJ (zR (zR zx 5) zia.toNatClampNeg) zib zic zi_18 hs h_zI.1 t_17 (by omega)) (cwV 3 hts gX10_learn_X7_refusal rfl rfl rfl (by decide +kernel) ⟨(Nat.le_of_ble_eq_true rfl), (Nat.le_of_ble_eq_true rfl)⟩) (PRE.v hP hK hD hN (ht_recv hK hP hs t_17 (by decide) rfl rfl)) rfl rfl hl.1 rfl (lv_room (Nat.le_of_ble_eq_true rfl)) dX10_learn_48 ⟨(Nat.le_of_ble_eq_true rfl), (Nat.le_of_ble_eq_true rfl)⟩) hP hD hS hA (fun zi_19 u_21 H locs hw_20 hP hD hS => ?_)
        obtain ⟨b_zi_19, ps_22, ps_23, ps_24⟩ : ((-13) ≤ zi_19.toInt ∧ zi_19.toInt ≤ 0) ∧ (¬ (zi_19.toInt = 0) ∨ (0 ≤ zic.toInt ∧ zic.toInt ≤ 24)) ∧ (¬ (zi_19.toInt = 0) ∨ zic.toInt + zi_18.toInt ≤ 24) ∧ (zi_19.toInt = RFS (zI (zR (zR zx 5) zia.toNatClampNeg) 3).toInt (zI (zR (zR zx 5) zia.toNatClampNeg) 1).toInt (zI (zR (zR zx 5) zia.toNatClampNeg) 2).toInt zib.toInt zic.toInt zi_18.toInt) := hw_20
        obtain ⟨zi_25, ezi_25⟩ : ∃ y : Int32, y = zI (zR (zR zx 5) zia.toNatClampNeg) 3 := ⟨_, rfl⟩
        have tzi_25 : 0 ≤ zi_25.toInt ∧ zi_25.toInt ≤ 1 := by rw [ezi_25]; exact h_zI.at t_17 _ rfl
        obtain ⟨zi_26, ezi_26⟩ : ∃ y : Int32, y = zI (zR (zR zx 5) zia.toNatClampNeg) 1 := ⟨_, rfl⟩
        have tzi_26 : 0 ≤ zi_26.toInt ∧ zi_26.toInt ≤ 2 := by rw [ezi_26]; exact h_zI.at t_17 _ rfl
        obtain ⟨zi_27, ezi_27⟩ : ∃ y : Int32, y = zI (zR (zR zx 5) zia.toNatClampNeg) 2 := ⟨_, rfl⟩
        have tzi_27 : 0 ≤ zi_27.toInt ∧ zi_27.toInt ≤ 24 := by rw [ezi_27]; exact h_zI.at t_17 _ rfl
        have lk_28 : (zI (zR (zR zx 5) zia.toNatClampNeg) 3).toInt = zi_25.toInt := congrArg Int32.toInt ezi_25.symm
        have lk_29 : (zI (zR (zR zx 5) zia.toNatClampNeg) 1).toInt = zi_26.toInt := congrArg Int32.toInt ezi_26.symm
        have lk_30 : (zI (zR (zR zx 5) zia.toNatClampNeg) 2).toInt = zi_27.toInt := congrArg Int32.toInt ezi_27.symm
        have lq_31 : zi_19.toInt = (RFS (zI (zR (zR zx 5) zia.toNatClampNeg) 3).toInt (zI (zR (zR zx 5) zia.toNatClampNeg) 1).toInt (zI (zR (zR zx 5) zia.toNatClampNeg) 2).toInt zib.toInt zic.toInt (2 * zid.toInt)) := by rw [ps_24, show zi_18.toInt = 2 * zid.toInt from by omega]
        refine lv_istore (lv' := [(7, .int zi_19), (6, .ref (zR (zR zx 5) zia.toNatClampNeg)), (0, .ref zx), (1, .int zia), (2, .int zib), (3, .int zic), (4, .int zid), (5, .int zie)]) hx hb dX10_learn_51 hl (by decide) rfl (fun ls hl => ?_)
        refine lv_iload hx hb dX10_learn_53 (lv_at hl 0 rfl) ?_
        refine lv_if_eq (tgt := 61) hx hb dX10_learn_55 (by decide) (fun c_32 => ?_) (fun c_32 => ?_)
        · have f_33 : zi_19.toInt = 0 := ic_eq (rfl) (by decide) c_32
          have b9_zic : 0 ≤ zic.toInt ∧ zic.toInt ≤ 24 := by omega
          refine lv_iconst (v := 0) hx hb dX10_learn_61 (by decide) ?_
          refine lv_istore (lv' := [(8, .int 0), (7, .int zi_19), (6, .ref (zR (zR zx 5) zia.toNatClampNeg)), (0, .ref zx), (1, .int zia), (2, .int zib), (3, .int zic), (4, .int zid), (5, .int zie)]) hx hb dX10_learn_62 hl (by decide) rfl (fun ls hl => ?_)
          have lp_101 : ∀ (n : Nat) (zi_87 : Int32) (H : Heap) (locs : List Loc) (ls : Array Slot), (zid.toInt - zi_87.toInt).toNat = n → (0 ≤ zi_87.toInt ∧ zi_87.toInt ≤ 8) → (YQ (zI (zR (zR (zR zx 5) zia.toNatClampNeg) 0)) zic.toInt zi_87.toInt) → va_P (dC, dI) vwCl (WL cy zL zT zR zI zJ) H → va_D A (WL cy zL zT zR zI zJ) → va_S A s.heap H locs → lv_has ls 10 [(0, .ref zx), (1, .int zia), (2, .int zib), (3, .int zic), (4, .int zid), (5, .int zie), (6, .ref (zR (zR zx 5) zia.toNatClampNeg)), (7, .int zi_19), (8, .int zi_87)] → W p l e ({ frames := 4, cells := 0, slots := 0, locals := 108 } : Room) s m ([.ref zx, .int zia, .int zib, .int zic, .int zid, .int zie] : List Value).toArray below meth c H locs 0 0 Q (F0 m 64 ls []) := by
            intro n
            induction n using Nat.strongRecOn with
            | _ n ih_101 =>
              intro zi_87 H locs ls hn b_zi_87 e_lp_101_0 hP hD hS hl
              refine lv_iload hx hb dX10_learn_64 (lv_at hl 8 rfl) ?_
              refine lv_iload hx hb dX10_learn_66 (lv_at hl 4 rfl) ?_
              refine lv_icmp_ge (tgt := 98) hx hb dX10_learn_68 (by decide) (fun c_102 => ?_) (fun c_102 => ?_)
              · have f_103 : zi_87.toInt ≥ zid.toInt := ic_ge (rfl) (rfl) c_102
                refine lv_iconst (v := 0) hx hb dX10_learn_98 (by decide) ?_
                refine lv_istore (lv' := [(8, .int 0), (0, .ref zx), (1, .int zia), (2, .int zib), (3, .int zic), (4, .int zid), (5, .int zie), (6, .ref (zR (zR zx 5) zia.toNatClampNeg)), (7, .int zi_19)]) hx hb dX10_learn_99 hl (by decide) rfl (fun ls hl => ?_)
                refine lv_iconst (v := 1) hx hb dX10_learn_101 (by decide) ?_
                refine lv_istore (lv' := [(9, .int 1), (8, .int 0), (0, .ref zx), (1, .int zia), (2, .int zib), (3, .int zic), (4, .int zid), (5, .int zie), (6, .ref (zR (zR zx 5) zia.toNatClampNeg)), (7, .int zi_19)]) hx hb dX10_learn_102 hl (by decide) rfl (fun ls hl => ?_)
                have lp_412 : ∀ (n : Nat) (zi_157 : Int32) (zi_158 : Int32) (H : Heap) (locs : List Loc) (ls : Array Slot), (6 - zi_158.toInt).toNat = n → (1 ≤ zi_158.toInt ∧ zi_158.toInt ≤ 6) → (LBR (fun k9 => ALLB (FTc (fun y9 => WRC (zI (zR (zR (zR (zR zx 0) 0) 0) 0)) (zI (zR (zR (zR (zR zx 0) 0) 0) 1)) y9 k9) (zB (zI (zR (zR (zR zx 5) zia.toNatClampNeg) 0))) zic.toInt zie.toInt) zid.toInt) (zi_158.toInt - 1).toNat zi_157) → va_P (dC, dI) vwCl (WL cy zL zT zR zI zJ) H → va_D A (WL cy zL zT zR zI zJ) → va_S A s.heap H locs → lv_has ls 10 [(0, .ref zx), (1, .int zia), (2, .int zib), (3, .int zic), (4, .int zid), (5, .int zie), (6, .ref (zR (zR zx 5) zia.toNatClampNeg)), (7, .int zi_19), (8, .int zi_157), (9, .int zi_158)] → W p l e ({ frames := 4, cells := 0, slots := 0, locals := 108 } : Room) s m ([.ref zx, .int zia, .int zib, .int zic, .int zid, .int zie] : List Value).toArray below meth c H locs 0 0 Q (F0 m 104 ls []) := by
                  intro n
                  induction n using Nat.strongRecOn with
                  | _ n ih_412 =>
                    intro zi_157 zi_158 H locs ls hn b_zi_158 e_lp_412_0 hP hD hS hl
                    refine lv_iload hx hb dX10_learn_104 (lv_at hl 9 rfl) ?_
                    refine lv_iconst (v := 5) hx hb dX10_learn_106 (by decide) ?_
                    refine lv_icmp_gt (tgt := 143) hx hb dX10_learn_107 (by decide) (fun c_413 => ?_) (fun c_413 => ?_)
                    · have f_414 : zi_158.toInt > (5 : Int) := ic_gt (rfl) (show (5 : Int32).toInt = 5 by decide) c_413
                      refine lv_iload hx hb dX10_learn_143 (lv_at hl 8 rfl) ?_
                      refine lv_if_ne (tgt := 153) hx hb dX10_learn_145 (by decide) (fun c_415 => ?_) (fun c_415 => ?_)
                      · have f_416 : zi_157.toInt ≠ 0 := ic_ne (rfl) (by decide) c_415
                        refine lv_iload hx hb dX10_learn_153 (lv_at hl 8 rfl) ?_
                        subst hQ
                        exact W.iret (v := zi_157) hx hb hr (fun t ht hW => ⟨⟨zi_157, (), rfl, ⟨(show JX zR zI zx from hj), (show ¬ (LNok zia.toInt zib.toInt zid.toInt zie.toInt) → zi_157.toInt = -1 from (fun h9 => absurd (show LNok zia.toInt zib.toInt zid.toInt zie.toInt from by unfold LNok; omega) h9)), (show LNok zia.toInt zib.toInt zid.toInt zie.toInt → ¬ (RFS (zI (zR (zR zx 5) zia.toNatClampNeg) 3).toInt (zI (zR (zR zx 5) zia.toNatClampNeg) 1).toInt (zI (zR (zR zx 5) zia.toNatClampNeg) 2).toInt zib.toInt zic.toInt (2 * zid.toInt)) = 0 → zi_157.toInt = (RFS (zI (zR (zR zx 5) zia.toNatClampNeg) 3).toInt (zI (zR (zR zx 5) zia.toNatClampNeg) 1).toInt (zI (zR (zR zx 5) zia.toNatClampNeg) 2).toInt zib.toInt zic.toInt (2 * zid.toInt)) from (fun _ h9 => absurd (by omega) h9)), (show LNok zia.toInt zib.toInt zid.toInt zie.toInt → (RFS (zI (zR (zR zx 5) zia.toNatClampNeg) 3).toInt (zI (zR (zR zx 5) zia.toNatClampNeg) 1).toInt (zI (zR (zR zx 5) zia.toNatClampNeg) 2).toInt zib.toInt zic.toInt (2 * zid.toInt)) = 0 → ¬ YQ (zI (zR (zR (zR zx 5) zia.toNatClampNeg) 0)) zic.toInt zid.toInt → zi_157.toInt = -2 from (fun _ _ h9 => absurd (YQ.e e_lp_101_0 (by omega)) h9)), (show LNok zia.toInt zib.toInt zid.toInt zie.toInt → (RFS (zI (zR (zR zx 5) zia.toNatClampNeg) 3).toInt (zI (zR (zR zx 5) zia.toNatClampNeg) 1).toInt (zI (zR (zR zx 5) zia.toNatClampNeg) 2).toInt zib.toInt zic.toInt (2 * zid.toInt)) = 0 → YQ (zI (zR (zR (zR zx 5) zia.toNatClampNeg) 0)) zic.toInt zid.toInt → LNa (fun k9 => ALLB (FTc (fun y9 => WRC (zI (zR (zR (zR (zR zx 0) 0) 0) 0)) (zI (zR (zR (zR (zR zx 0) 0) 0) 1)) y9 k9) (zB (zI (zR (zR (zR zx 5) zia.toNatClampNeg) 0))) zic.toInt zie.toInt) zid.toInt) zi_157 from (fun _ _ _ => ⟨zi_157, (LBR.c e_lp_412_0 (show (zi_158.toInt - 1).toNat = 5 from by omega)), Or.inr ⟨by omega, rfl⟩⟩))⟩, ⟨by rw [ht]; exact hP, va_K.moved hW.alike hK, hD⟩⟩, hS.F ht⟩) hS.2.2 dX10_learn_155
                      · have f_416 : ¬ (zi_157.toInt ≠ 0) := ic_nne (rfl) (by decide) c_415
                        refine lv_bipush (v := (-4)) hx hb dX10_learn_148 (by decide) ?_
                        refine lv_goto (tgt := 155) hx hb dX10_learn_150 (by decide) ?_
                        subst hQ
                        exact W.iret (v := (-4 : Int32)) hx hb hr (fun t ht hW => ⟨⟨(-4 : Int32), (), rfl, ⟨(show JX zR zI zx from hj), (show ¬ (LNok zia.toInt zib.toInt zid.toInt zie.toInt) → (-4 : Int32).toInt = -1 from (fun h9 => absurd (show LNok zia.toInt zib.toInt zid.toInt zie.toInt from by unfold LNok; omega) h9)), (show LNok zia.toInt zib.toInt zid.toInt zie.toInt → ¬ (RFS (zI (zR (zR zx 5) zia.toNatClampNeg) 3).toInt (zI (zR (zR zx 5) zia.toNatClampNeg) 1).toInt (zI (zR (zR zx 5) zia.toNatClampNeg) 2).toInt zib.toInt zic.toInt (2 * zid.toInt)) = 0 → (-4 : Int32).toInt = (RFS (zI (zR (zR zx 5) zia.toNatClampNeg) 3).toInt (zI (zR (zR zx 5) zia.toNatClampNeg) 1).toInt (zI (zR (zR zx 5) zia.toNatClampNeg) 2).toInt zib.toInt zic.toInt (2 * zid.toInt)) from (fun _ h9 => absurd (by omega) h9)), (show LNok zia.toInt zib.toInt zid.toInt zie.toInt → (RFS (zI (zR (zR zx 5) zia.toNatClampNeg) 3).toInt (zI (zR (zR zx 5) zia.toNatClampNeg) 1).toInt (zI (zR (zR zx 5) zia.toNatClampNeg) 2).toInt zib.toInt zic.toInt (2 * zid.toInt)) = 0 → ¬ YQ (zI (zR (zR (zR zx 5) zia.toNatClampNeg) 0)) zic.toInt zid.toInt → (-4 : Int32).toInt = -2 from (fun _ _ h9 => absurd (YQ.e e_lp_101_0 (by omega)) h9)), (show LNok zia.toInt zib.toInt zid.toInt zie.toInt → (RFS (zI (zR (zR zx 5) zia.toNatClampNeg) 3).toInt (zI (zR (zR zx 5) zia.toNatClampNeg) 1).toInt (zI (zR (zR zx 5) zia.toNatClampNeg) 2).toInt zib.toInt zic.toInt (2 * zid.toInt)) = 0 → YQ (zI (zR (zR (zR zx 5) zia.toNatClampNeg) 0)) zic.toInt zid.toInt → LNa (fun k9 => ALLB (FTc (fun y9 => WRC (zI (zR (zR (zR (zR zx 0) 0) 0) 0)) (zI (zR (zR (zR (zR zx 0) 0) 0) 1)) y9 k9) (zB (zI (zR (zR (zR zx 5) zia.toNatClampNeg) 0))) zic.toInt zie.toInt) zid.toInt) (-4 : Int32) from (fun _ _ _ => ⟨zi_157, (LBR.c e_lp_412_0 (show (zi_158.toInt - 1).toNat = 5 from by omega)), Or.inl ⟨by omega, by decide⟩⟩))⟩, ⟨by rw [ht]; exact hP, va_K.moved hW.alike hK, hD⟩⟩, hS.F ht⟩) hS.2.2 dX10_learn_155
                    · have f_414 : ¬ (zi_158.toInt > (5 : Int)) := ic_ngt (rfl) (show (5 : Int32).toInt = 5 by decide) c_413
                      refine lv_aload_n hx hb dX10_learn_110 rfl (lv_at hl 0 rfl) ?_
                      refine lv_aload hx hb dX10_learn_111 (lv_at hl 6 rfl) ?_
                      refine lv_iload_n hx hb dX10_learn_113 rfl (lv_at hl 3 rfl) ?_
                      refine lv_iload hx hb dX10_learn_114 (lv_at hl 4 rfl) ?_
                      refine lv_iload hx hb dX10_learn_116 (lv_at hl 5 rfl) ?_
                      refine lv_iload hx hb dX10_learn_118 (lv_at hl 9 rfl) ?_
                      refine hj_i (ws := (WL cy zL zT zR zI zJ)) (w1 := fun (u : Unit) => (WL cy zL zT zR zI zJ)) (va_runV (As := [.ref (zR (zR zx 5) zia.toNatClampNeg), .int zic, .int zid, .int zie, .int zi_158]) (rest := []) ⟨hx, hb, hml, hown, hts⟩ (t_X10_fitsBuckets l dC dI cy H.size zL zT zR zI zJ zx (zR (zR zx 5) zia.toNatClampNeg) zic zid zie zi_158 hs h_zI.1 t_zx t_17 (by omega) (by omega) (by omega) (by omega) (by omega) (YQ.e e_lp_101_0 (by omega))) (cwV 5 hts gX10_learn_X10_fitsBuckets rfl rfl rfl (by decide +kernel) ⟨(Nat.le_of_ble_eq_true rfl), (Nat.le_of_ble_eq_true rfl)⟩) (PRE.v hP hK hD hN (ht_recv hK hP hs t_zx (by decide) rfl rfl)) rfl rfl hl.1 rfl (lv_room (Nat.le_of_ble_eq_true rfl)) dX10_learn_120 ⟨(Nat.le_of_ble_eq_true rfl), (Nat.le_of_ble_eq_true rfl)⟩) hP hD hS hA (fun zi_417 u_419 H locs hw_418 hP hD hS => ?_)
                      obtain ⟨b_zi_417, ps_420⟩ : (0 ≤ zi_417.toInt ∧ zi_417.toInt ≤ 1) ∧ ((zi_417.toInt = 1 ∧ ALLB (FTc (fun y9 => WRC (zI (zR (zR (zR (zR zx 0) 0) 0) 0)) (zI (zR (zR (zR (zR zx 0) 0) 0) 1)) y9 zi_158.toInt) (zB (zI (zR (zR (zR zx 5) zia.toNatClampNeg) 0))) zic.toInt zie.toInt) zid.toInt) ∨ (zi_417.toInt = 0 ∧ ¬ ALLB (FTc (fun y9 => WRC (zI (zR (zR (zR (zR zx 0) 0) 0) 0)) (zI (zR (zR (zR (zR zx 0) 0) 0) 1)) y9 zi_158.toInt) (zB (zI (zR (zR (zR zx 5) zia.toNatClampNeg) 0))) zic.toInt zie.toInt) zid.toInt)) := hw_418
                      refine lv_if_eq (tgt := 137) hx hb dX10_learn_123 (by decide) (fun c_421 => ?_) (fun c_421 => ?_)
                      · have f_422 : zi_417.toInt = 0 := ic_eq (rfl) (by decide) c_421
                        obtain ⟨zi_423, ezi_423⟩ : ∃ y : Int32, y = zi_158 + 1 := ⟨_, rfl⟩
                        have tzi_423 : zi_423.toInt = zi_158.toInt + 1 := by rw [ezi_423]; exact tadd rfl (show (1 : Int32).toInt = 1 by decide) (by omega) (by omega)
                        refine lv_iinc (v := zi_423) (lv' := [(9, .int zi_423), (0, .ref zx), (1, .int zia), (2, .int zib), (3, .int zic), (4, .int zid), (5, .int zie), (6, .ref (zR (zR zx 5) zia.toNatClampNeg)), (7, .int zi_19), (8, .int zi_157)]) hx hb dX10_learn_137 hl (k := 9) rfl (by rw [ezi_423]; rfl) (by decide) rfl (fun ls hl => ?_)
                        refine lv_goto (tgt := 104) hx hb dX10_learn_140 (by decide) ?_
                        exact ih_412 (6 - zi_423.toInt).toNat (by omega) zi_157 zi_423 _ _ _ rfl (by omega) (LBR.n (k := zi_158.toInt) e_lp_412_0 (by omega) (by omega) (ps_420.resolve_left (fun h9 => absurd h9.1 (by omega))).2 rfl) hP hD hS (lv_sub hl [1, 2, 3, 4, 5, 6, 7, 8, 9, 0] rfl)
                      · have f_422 : ¬ (zi_417.toInt = 0) := ic_neq (rfl) (by decide) c_421
                        refine lv_iload hx hb dX10_learn_126 (lv_at hl 8 rfl) ?_
                        refine lv_iconst (v := 1) hx hb dX10_learn_128 (by decide) ?_
                        refine lv_iload hx hb dX10_learn_129 (lv_at hl 9 rfl) ?_
                        refine lv_iconst (v := 1) hx hb dX10_learn_131 (by decide) ?_
                        refine lv_isub hx hb dX10_learn_132 ?_
                        refine lv_topi (fun zi_424 ezi_424 => ?_)
                        have tzi_424 : zi_424.toInt = zi_158.toInt - (1 : Int) := by rw [ezi_424]; exact tisub (rfl) (show (1 : Int32).toInt = 1 by decide) (by omega) (by omega)
                        refine lv_ishl hx hb dX10_learn_133 ?_
                        refine lv_topi (fun zi_425 ezi_425 => ?_)
                        have rzi_425 := rng zi_425
                        refine lv_ior hx hb dX10_learn_134 ?_
                        refine lv_topi (fun zi_426 ezi_426 => ?_)
                        have rzi_426 := rng zi_426
                        refine lv_istore (lv' := [(8, .int zi_426), (0, .ref zx), (1, .int zia), (2, .int zib), (3, .int zic), (4, .int zid), (5, .int zie), (6, .ref (zR (zR zx 5) zia.toNatClampNeg)), (7, .int zi_19), (9, .int zi_158)]) hx hb dX10_learn_135 hl (by decide) rfl (fun ls hl => ?_)
                        obtain ⟨zi_427, ezi_427⟩ : ∃ y : Int32, y = zi_158 + 1 := ⟨_, rfl⟩
                        have tzi_427 : zi_427.toInt = zi_158.toInt + 1 := by rw [ezi_427]; exact tadd rfl (show (1 : Int32).toInt = 1 by decide) (by omega) (by omega)
                        refine lv_iinc (v := zi_427) (lv' := [(9, .int zi_427), (8, .int zi_426), (0, .ref zx), (1, .int zia), (2, .int zib), (3, .int zic), (4, .int zid), (5, .int zie), (6, .ref (zR (zR zx 5) zia.toNatClampNeg)), (7, .int zi_19)]) hx hb dX10_learn_137 hl (k := 9) rfl (by rw [ezi_427]; rfl) (by decide) rfl (fun ls hl => ?_)
                        refine lv_goto (tgt := 104) hx hb dX10_learn_140 (by decide) ?_
                        exact ih_412 (6 - zi_427.toInt).toNat (by omega) zi_426 zi_427 _ _ _ rfl (by omega) (LBR.y (k := zi_158.toInt) (y := zi_424) e_lp_412_0 (by omega) (by omega) (ps_420.resolve_right (fun h9 => absurd h9.1 (by omega))).2 (by omega) ezi_425 ezi_426) hP hD hS (lv_sub hl [2, 3, 4, 5, 6, 7, 8, 9, 1, 0] rfl)
                have qc_0 : (0 : Int32).toInt = 0 := by decide
                have qc_1 : (1 : Int32).toInt = 1 := by decide
                exact lp_412 _ (0 : Int32) (1 : Int32) _ _ _ rfl (by decide) (LBR.z (by decide)) hP hD hS (lv_sub hl [2, 3, 4, 5, 6, 7, 8, 9, 1, 0] rfl)
              · have f_103 : ¬ (zi_87.toInt ≥ zid.toInt) := ic_nge (rfl) (rfl) c_102
                refine lv_aload hx hb dX10_learn_71 (lv_at hl 6 rfl) ?_
                refine ht_getr (C := RX7) (T := TX7) (N := 4) hx hb hts (by decide +kernel) hown hK hP hs t_17 (by decide) rfl rfl 0 (by decide) (hts (.fieldLink RX10 94 "DripStone$Sheet" "items" "[I") (by decide +kernel)) (fun _ h9 => h9) rfl dX10_learn_73 ?_
                have t_428 : zT (zR (zR (zR zx 5) zia.toNatClampNeg) 0) = 36 := sk_f hs t_17 (by decide) rfl (by decide)
                refine lv_iload_n hx hb dX10_learn_76 rfl (lv_at hl 3 rfl) ?_
                refine lv_iconst (v := 2) hx hb dX10_learn_77 (by decide) ?_
                refine lv_iload hx hb dX10_learn_78 (lv_at hl 8 rfl) ?_
                refine lv_imul hx hb dX10_learn_80 ?_
                refine lv_topi (fun zi_429 ezi_429 => ?_)
                have tzi_429 : zi_429.toInt = (2 : Int) * zi_87.toInt := by rw [ezi_429]; exact timul (show (2 : Int32).toInt = 2 by decide) (rfl) (by omega) (by omega)
                refine lv_iadd hx hb dX10_learn_81 ?_
                refine lv_topi (fun zi_430 ezi_430 => ?_)
                have tzi_430 : zi_430.toInt = zic.toInt + zi_429.toInt := by rw [ezi_430]; exact tiadd (rfl) (rfl) (by omega) (by omega)
                refine ht_iald (n := 24) (q := 0) hx hb hK hP hs t_428 (by decide) rfl rfl ⟨by omega, by omega⟩ dX10_learn_82 ?_
                refine lv_topi (fun zi_431 ezi_431 => ?_)
                have rr_432 := rng zi_431
                refine hj0_i (ws := (WL cy zL zT zR zI zJ)) (va_runS (As := [.int zi_431]) (rest := []) ⟨hx, hb, hml, hown, hts⟩ (c_X10_isYear l dC dI cy H.size zi_431) (va_cwS 1 hts gX10_learn_X10_isYear rfl rfl rfl (by decide +kernel) ⟨(Nat.le_of_ble_eq_true rfl), (Nat.le_of_ble_eq_true rfl)⟩) (PRE.s (hP.sub [] rfl) hK (hD.sub [] (by decide) rfl) hN) rfl rfl hl.1 rfl (lv_room (Nat.le_of_ble_eq_true rfl)) dX10_learn_83 ⟨(Nat.le_of_ble_eq_true rfl), (Nat.le_of_ble_eq_true rfl)⟩) hP hD hS hA (fun zi_433 u_435 H locs hw_434 hP hD hS => ?_)
                have hw_434 : zi_433 = if 0 ≤ zi_431.toInt ∧ zi_431.toInt ≤ 23 then 1 else 0 := hw_434
                have b_zi_433 : 0 ≤ zi_433.toInt ∧ zi_433.toInt ≤ 1 := bz_b hw_434
                refine lv_if_ne (tgt := 92) hx hb dX10_learn_86 (by decide) (fun c_436 => ?_) (fun c_436 => ?_)
                · have f_437 : 0 ≤ zi_431.toInt ∧ zi_431.toInt ≤ 23 := bz_1 hw_434 c_436
                  obtain ⟨zi_438, ezi_438⟩ : ∃ y : Int32, y = zi_87 + 1 := ⟨_, rfl⟩
                  have tzi_438 : zi_438.toInt = zi_87.toInt + 1 := by rw [ezi_438]; exact tadd rfl (show (1 : Int32).toInt = 1 by decide) (by omega) (by omega)
                  refine lv_iinc (v := zi_438) (lv' := [(8, .int zi_438), (0, .ref zx), (1, .int zia), (2, .int zib), (3, .int zic), (4, .int zid), (5, .int zie), (6, .ref (zR (zR zx 5) zia.toNatClampNeg)), (7, .int zi_19)]) hx hb dX10_learn_92 hl (k := 8) rfl (by rw [ezi_438]; rfl) (by decide) rfl (fun ls hl => ?_)
                  refine lv_goto (tgt := 64) hx hb dX10_learn_95 (by decide) ?_
                  exact ih_101 (zid.toInt - zi_438.toInt).toNat (by omega) zi_438 _ _ _ rfl (by omega) (YQ.s (i := zi_430) e_lp_101_0 (by omega) (by omega) (by omega) (by rw [ezi_431.symm]; omega) (by omega)) hP hD hS (lv_sub hl [1, 2, 3, 4, 5, 6, 7, 8, 0] rfl)
                · have f_437 : ¬ (0 ≤ zi_431.toInt ∧ zi_431.toInt ≤ 23) := bz_0 hw_434 c_436
                  refine lv_bipush (v := (-2)) hx hb dX10_learn_89 (by decide) ?_
                  subst hQ
                  exact W.iret (v := (-2 : Int32)) hx hb hr (fun t ht hW => ⟨⟨(-2 : Int32), (), rfl, ⟨(show JX zR zI zx from hj), (show ¬ (LNok zia.toInt zib.toInt zid.toInt zie.toInt) → (-2 : Int32).toInt = -1 from (fun h9 => absurd (show LNok zia.toInt zib.toInt zid.toInt zie.toInt from by unfold LNok; omega) h9)), (show LNok zia.toInt zib.toInt zid.toInt zie.toInt → ¬ (RFS (zI (zR (zR zx 5) zia.toNatClampNeg) 3).toInt (zI (zR (zR zx 5) zia.toNatClampNeg) 1).toInt (zI (zR (zR zx 5) zia.toNatClampNeg) 2).toInt zib.toInt zic.toInt (2 * zid.toInt)) = 0 → (-2 : Int32).toInt = (RFS (zI (zR (zR zx 5) zia.toNatClampNeg) 3).toInt (zI (zR (zR zx 5) zia.toNatClampNeg) 1).toInt (zI (zR (zR zx 5) zia.toNatClampNeg) 2).toInt zib.toInt zic.toInt (2 * zid.toInt)) from (fun _ h9 => absurd (by omega) h9)), (show LNok zia.toInt zib.toInt zid.toInt zie.toInt → (RFS (zI (zR (zR zx 5) zia.toNatClampNeg) 3).toInt (zI (zR (zR zx 5) zia.toNatClampNeg) 1).toInt (zI (zR (zR zx 5) zia.toNatClampNeg) 2).toInt zib.toInt zic.toInt (2 * zid.toInt)) = 0 → ¬ YQ (zI (zR (zR (zR zx 5) zia.toNatClampNeg) 0)) zic.toInt zid.toInt → (-2 : Int32).toInt = -2 from (fun _ _ _ => by decide)), (show LNok zia.toInt zib.toInt zid.toInt zie.toInt → (RFS (zI (zR (zR zx 5) zia.toNatClampNeg) 3).toInt (zI (zR (zR zx 5) zia.toNatClampNeg) 1).toInt (zI (zR (zR zx 5) zia.toNatClampNeg) 2).toInt zib.toInt zic.toInt (2 * zid.toInt)) = 0 → YQ (zI (zR (zR (zR zx 5) zia.toNatClampNeg) 0)) zic.toInt zid.toInt → LNa (fun k9 => ALLB (FTc (fun y9 => WRC (zI (zR (zR (zR (zR zx 0) 0) 0) 0)) (zI (zR (zR (zR (zR zx 0) 0) 0) 1)) y9 k9) (zB (zI (zR (zR (zR zx 5) zia.toNatClampNeg) 0))) zic.toInt zie.toInt) zid.toInt) (-2 : Int32) from (fun _ _ h9 => absurd h9 (YQ.no (i := zi_430) (q := zi_87.toInt) (by omega) (by omega) (by omega) (by rw [ezi_431.symm]; omega))))⟩, ⟨by rw [ht]; exact hP, va_K.moved hW.alike hK, hD⟩⟩, hS.F ht⟩) hS.2.2 dX10_learn_91
          have qc_0 : (0 : Int32).toInt = 0 := by decide
          exact lp_101 _ (0 : Int32) _ _ _ rfl (by decide) YQ.z hP hD hS (lv_sub hl [3, 4, 5, 6, 7, 8, 2, 1, 0] rfl)
        · have f_33 : ¬ (zi_19.toInt = 0) := ic_neq (rfl) (by decide) c_32
          refine lv_iload hx hb dX10_learn_58 (lv_at hl 0 rfl) ?_
          subst hQ
          exact W.iret (v := zi_19) hx hb hr (fun t ht hW => ⟨⟨zi_19, (), rfl, ⟨(show JX zR zI zx from hj), (show ¬ (LNok zia.toInt zib.toInt zid.toInt zie.toInt) → zi_19.toInt = -1 from (fun h9 => absurd (show LNok zia.toInt zib.toInt zid.toInt zie.toInt from by unfold LNok; omega) h9)), (show LNok zia.toInt zib.toInt zid.toInt zie.toInt → ¬ (RFS (zI (zR (zR zx 5) zia.toNatClampNeg) 3).toInt (zI (zR (zR zx 5) zia.toNatClampNeg) 1).toInt (zI (zR (zR zx 5) zia.toNatClampNeg) 2).toInt zib.toInt zic.toInt (2 * zid.toInt)) = 0 → zi_19.toInt = (RFS (zI (zR (zR zx 5) zia.toNatClampNeg) 3).toInt (zI (zR (zR zx 5) zia.toNatClampNeg) 1).toInt (zI (zR (zR zx 5) zia.toNatClampNeg) 2).toInt zib.toInt zic.toInt (2 * zid.toInt)) from (fun _ _ => by omega)), (show LNok zia.toInt zib.toInt zid.toInt zie.toInt → (RFS (zI (zR (zR zx 5) zia.toNatClampNeg) 3).toInt (zI (zR (zR zx 5) zia.toNatClampNeg) 1).toInt (zI (zR (zR zx 5) zia.toNatClampNeg) 2).toInt zib.toInt zic.toInt (2 * zid.toInt)) = 0 → ¬ YQ (zI (zR (zR (zR zx 5) zia.toNatClampNeg) 0)) zic.toInt zid.toInt → zi_19.toInt = -2 from (fun _ h9 => absurd h9 (by omega))), (show LNok zia.toInt zib.toInt zid.toInt zie.toInt → (RFS (zI (zR (zR zx 5) zia.toNatClampNeg) 3).toInt (zI (zR (zR zx 5) zia.toNatClampNeg) 1).toInt (zI (zR (zR zx 5) zia.toNatClampNeg) 2).toInt zib.toInt zic.toInt (2 * zid.toInt)) = 0 → YQ (zI (zR (zR (zR zx 5) zia.toNatClampNeg) 0)) zic.toInt zid.toInt → LNa (fun k9 => ALLB (FTc (fun y9 => WRC (zI (zR (zR (zR (zR zx 0) 0) 0) 0)) (zI (zR (zR (zR (zR zx 0) 0) 0) 1)) y9 k9) (zB (zI (zR (zR (zR zx 5) zia.toNatClampNeg) 0))) zic.toInt zie.toInt) zid.toInt) zi_19 from (fun _ h9 => absurd h9 (by omega)))⟩, ⟨by rw [ht]; exact hP, va_K.moved hW.alike hK, hD⟩⟩, hS.F ht⟩) hS.2.2 dX10_learn_60
      · have f_15 : ¬ (0 ≤ zie.toInt ∧ zie.toInt ≤ 9) := bz_0 hw_12 c_14
        refine lv_iconst (v := (-1)) hx hb dX10_learn_30 (by decide) ?_
        subst hQ
        exact W.iret (v := (-1 : Int32)) hx hb hr (fun t ht hW => ⟨⟨(-1 : Int32), (), rfl, ⟨(show JX zR zI zx from hj), (show ¬ (LNok zia.toInt zib.toInt zid.toInt zie.toInt) → (-1 : Int32).toInt = -1 from (fun _ => by decide)), (show LNok zia.toInt zib.toInt zid.toInt zie.toInt → ¬ (RFS (zI (zR (zR zx 5) zia.toNatClampNeg) 3).toInt (zI (zR (zR zx 5) zia.toNatClampNeg) 1).toInt (zI (zR (zR zx 5) zia.toNatClampNeg) 2).toInt zib.toInt zic.toInt (2 * zid.toInt)) = 0 → (-1 : Int32).toInt = (RFS (zI (zR (zR zx 5) zia.toNatClampNeg) 3).toInt (zI (zR (zR zx 5) zia.toNatClampNeg) 1).toInt (zI (zR (zR zx 5) zia.toNatClampNeg) 2).toInt zib.toInt zic.toInt (2 * zid.toInt)) from (fun h9 => absurd h9 (by unfold LNok; omega))), (show LNok zia.toInt zib.toInt zid.toInt zie.toInt → (RFS (zI (zR (zR zx 5) zia.toNatClampNeg) 3).toInt (zI (zR (zR zx 5) zia.toNatClampNeg) 1).toInt (zI (zR (zR zx 5) zia.toNatClampNeg) 2).toInt zib.toInt zic.toInt (2 * zid.toInt)) = 0 → ¬ YQ (zI (zR (zR (zR zx 5) zia.toNatClampNeg) 0)) zic.toInt zid.toInt → (-1 : Int32).toInt = -2 from (fun h9 => absurd h9 (by unfold LNok; omega))), (show LNok zia.toInt zib.toInt zid.toInt zie.toInt → (RFS (zI (zR (zR zx 5) zia.toNatClampNeg) 3).toInt (zI (zR (zR zx 5) zia.toNatClampNeg) 1).toInt (zI (zR (zR zx 5) zia.toNatClampNeg) 2).toInt zib.toInt zic.toInt (2 * zid.toInt)) = 0 → YQ (zI (zR (zR (zR zx 5) zia.toNatClampNeg) 0)) zic.toInt zid.toInt → LNa (fun k9 => ALLB (FTc (fun y9 => WRC (zI (zR (zR (zR (zR zx 0) 0) 0) 0)) (zI (zR (zR (zR (zR zx 0) 0) 0) 1)) y9 k9) (zB (zI (zR (zR (zR zx 5) zia.toNatClampNeg) 0))) zic.toInt zie.toInt) zid.toInt) (-1 : Int32) from (fun h9 => absurd h9 (by unfold LNok; omega)))⟩, ⟨by rw [ht]; exact hP, va_K.moved hW.alike hK, hD⟩⟩, hS.F ht⟩) hS.2.2 dX10_learn_31
