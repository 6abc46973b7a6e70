set_option maxHeartbeats 8000000 in
set_option maxRecDepth 100000 in
theorem t_X10_claim (l : Launch) (dC : Nat → ClassId) (dI : Nat → Nat → Nat) (cy : Nat → ClassId) (sz : Nat) (zL : List Nat) (zT : Nat → Nat) (zR : Nat → Nat → Nat) (zI : Nat → Nat → Int32) (zJ : Nat → Nat → Int64) (zx : Nat) (hs : SKP zL zT zR) (hw : WT zT zR zI) (t_zx : zT zx = 11) (hj : JX zR zI zx) : Met l yX10_claim wsX10_claim ({ frames := 6, cells := 0, slots := 0, locals := 132 } : Room) (va_Pc [.ref zx] (PRE dC dI cy (WL cy zL zT zR zI zJ) sz)) (va_Qi (fun (r : Int32) (u : (Nat → Nat → Int32)) => (WM [206, 207, 701, 702, 703, 907, 3100, 3200, 3300] AL zT zR zI u) ∧ (JX zR u zx)) (fun u t => POST dC dI cy (va_A (WL cy zL zT zR zI zJ) sz) (WL cy zL zT zR u zJ) t) (va_A (WL cy zL zT zR zI zJ) sz)) 0 0 (va_A (WL cy zL zT zR zI zJ) sz) := by
  refine Met.ofW (cc := cX10_claim) (maxL := 2) (ret := (some .int)) (by decide) rfl ?_
  intro p e s m args below meth c s₁ B hml hv
  obtain ⟨rfl, hsz, hP, hK, hD0, hN⟩ := hv
  have hx := B.exec
  have hb := B.bytes
  have hr := B.returns
  have hts := atoms_spec (ws := wsX10_claim) B.pre
  have hown : s.vm.findClass RX10 = some m.cls := findClass_of_methodNamed B.named
  have hlocks := B.notSynchronized
  subst hsz
  have hD := hD0.self (sz := s.heap.size)
  generalize hAe : va_A (WL cy zL zT zR zI zJ) s.heap.size = A at hD ⊢
  have hA : ∀ q : Nat, s.heap.size ≤ q → A q := fun q h => by rw [← hAe]; exact Or.inr h
  have hS : va_S A s.heap s.heap [] := va_S.rf
  have hP : va_P (dC, dI) vwCl (WL cy zL zT zR zI zJ) s.heap := hP
  have hl := lv_entry ([.ref zx] : List Value) (n := 2) (Nat.le_of_ble_eq_true rfl)
  rw [lg_entry_eq]
  generalize (lg_sl ([.ref zx] : List Value) ++ List.replicate (2 - (lg_sl ([.ref zx] : List Value)).length) Slot.unset).toArray = ls at hl ⊢
  have hl : lv_has ls 2 [(0, .ref zx)] := hl
  refine w_q (fun Q hQ => ?_)
  have h_zI : WM [206, 207, 701, 702, 703, 907, 3100, 3200, 3300] AL zT zR zI zI := WM.rf hw
  refine lv_aload_n hx hb dX10_claim_0 rfl (lv_at hl 0 rfl) ?_
  refine ht_getr (C := RX10) (T := TX10) (N := 10) hx hb hts (by decide +kernel) hown hK hP hs t_zx (by decide) rfl rfl 2 (by decide) (hts (.fieldLink RX10 22 "DripStone" "reader" "LDripStone$Reader;") (by decide +kernel)) (fun _ h9 => h9) rfl dX10_claim_1 ?_
  have t_1 : zT (zR zx 2) = 7 := sk_f hs t_zx (by decide) rfl (by decide)
  refine lv_aload_n hx hb dX10_claim_4 rfl (lv_at hl 0 rfl) ?_
  refine ht_getr (C := RX10) (T := TX10) (N := 10) hx hb hts (by decide +kernel) hown hK hP hs t_zx (by decide) rfl rfl 4 (by decide) (hts (.fieldLink RX10 36 "DripStone" "claimDraft" "LDripStone$Claim;") (by decide +kernel)) (fun _ h9 => h9) rfl dX10_claim_5 ?_
  have t_2 : zT (zR zx 4) = 2 := sk_f hs t_zx (by decide) rfl (by decide)
  refine hj_i (ws := (WL cy zL zT zR zI zJ)) (w1 := fun (u : (Nat → Nat → Int32)) => (WL cy zL zT zR u zJ)) (va_runV (As := [.ref (zR zx 4)]) (rest := []) ⟨hx, hb, hml, hown, hts⟩ (t_X6_readClaim l dC dI cy s.heap.size zL zT zR zI zJ (zR zx 2) (zR zx 4) hs h_zI.1 t_1 t_2) (cwV 1 hts gX10_claim_X6_readClaim rfl rfl rfl (by decide +kernel) ⟨(Nat.le_of_ble_eq_true rfl), (Nat.le_of_ble_eq_true rfl)⟩) (PRE.v hP hK hD hN (ht_recv hK hP hs t_1 (by decide) rfl rfl)) rfl rfl hl.1 rfl (lv_room (Nat.le_of_ble_eq_true rfl)) dX10_claim_8 ⟨(Nat.le_of_ble_eq_true rfl), (Nat.le_of_ble_eq_true rfl)⟩) hP hD hS hA (fun zi_3 zI_6 H locs hw_4 hP hD hS => ?_)
  have k_zI_6 : WM [206, 207, 702, 703, 3100, 3200, 3300] AL zT zR zI zI_6 := hw_4
  have h_zI_6 : WM [206, 207, 701, 702, 703, 907, 3100, 3200, 3300] AL zT zR zI zI_6 := h_zI.tr k_zI_6 (by decide) (fun _ _ => trivial)
  have rzi_3 := rng zi_3
  refine lv_istore_n (lv' := [(1, .int zi_3), (0, .ref zx)]) hx hb dX10_claim_11 rfl hl (by decide) rfl (fun ls hl => ?_)
  refine lv_iload_n hx hb dX10_claim_12 rfl (lv_at hl 0 rfl) ?_
  refine lv_if_eq (tgt := 26) hx hb dX10_claim_13 (by decide) (fun c_7 => ?_) (fun c_7 => ?_)
  · have f_8 : zi_3.toInt = 0 := ic_eq (rfl) (by decide) c_7
    refine lv_aload_n hx hb dX10_claim_26 rfl (lv_at hl 1 rfl) ?_
    refine ht_getr (C := RX10) (T := TX10) (N := 10) hx hb hts (by decide +kernel) hown hK hP hs t_zx (by decide) rfl rfl 0 (by decide) (hts (.fieldLink RX10 12 "DripStone" "now" "LDripStone$State;") (by decide +kernel)) (fun _ h9 => h9) rfl dX10_claim_27 ?_
    have t_9 : zT (zR zx 0) = 9 := sk_f hs t_zx (by decide) rfl (by decide)
    refine ht_geti (C := RX8) (T := TX8) (N := 9) hx hb hts (by decide +kernel) hown hK hP hs t_9 (by decide) rfl rfl 7 (by decide) (hts (.fieldLink RX10 225 "DripStone$State" "claimed" "I") (by decide +kernel)) (fun _ h9 => h9) rfl dX10_claim_30 ?_
    refine lv_topi (fun zi_10 ezi_10 => ?_)
    have tzi_10 : 0 ≤ zi_10.toInt ∧ zi_10.toInt ≤ 4 := by rw [ezi_10]; exact h_zI_6.at t_9 _ rfl
    refine lv_iconst (v := 4) hx hb dX10_claim_33 (by decide) ?_
    refine lv_icmp_ne (tgt := 40) hx hb dX10_claim_34 (by decide) (fun c_11 => ?_) (fun c_11 => ?_)
    · have f_12 : zi_10.toInt ≠ (4 : Int) := ic_ne (rfl) (show (4 : Int32).toInt = 4 by decide) c_11
      refine lv_aload_n hx hb dX10_claim_40 rfl (lv_at hl 1 rfl) ?_
      refine ht_getr (C := RX10) (T := TX10) (N := 10) hx hb hts (by decide +kernel) hown hK hP hs t_zx (by decide) rfl rfl 2 (by decide) (hts (.fieldLink RX10 22 "DripStone" "reader" "LDripStone$Reader;") (by decide +kernel)) (fun _ h9 => h9) rfl dX10_claim_41 ?_
      refine lv_iconst (v := 0) hx hb dX10_claim_44 (by decide) ?_
      refine ht_puti (v := (0 : Int32)) (ty := .int) (C := RX6) (T := TX6) (N := 4) hx hb hts (by decide +kernel) tyX6 tyX6_ok nmX6 hown hK hP hD hS hs t_1 (by decide) rfl rfl 1 (by decide) (hts (.fieldLink RX10 116 "DripStone$Reader" "typed" "I") (by decide +kernel)) (fun _ h9 => h9) rfl (by decide +kernel) rfl rfl rfl dX10_claim_45 (fun H locs hP hD hS => ?_)
      have h_zI_13 : WM [206, 207, 701, 702, 703, 907, 3100, 3200, 3300] AL zT zR zI (u2 zI_6 (zR zx 2) 1 (0 : Int32)) := h_zI_6.put hs t_1 rfl (by decide) (by decide) (fun h => absurd h (by decide)) (by decide) trivial
      generalize uzI_13 : u2 zI_6 (zR zx 2) 1 (0 : Int32) = zI_13 at hP hD h_zI_13
      refine lv_aload_n hx hb dX10_claim_48 rfl (lv_at hl 1 rfl) ?_
      refine ht_getr (C := RX10) (T := TX10) (N := 10) hx hb hts (by decide +kernel) hown hK hP hs t_zx (by decide) rfl rfl 0 (by decide) (hts (.fieldLink RX10 12 "DripStone" "now" "LDripStone$State;") (by decide +kernel)) (fun _ h9 => h9) rfl dX10_claim_49 ?_
      refine ht_getr (C := RX8) (T := TX8) (N := 9) hx hb hts (by decide +kernel) hown hK hP hs t_9 (by decide) rfl rfl 4 (by decide) (hts (.fieldLink RX10 331 "DripStone$State" "claims" "[LDripStone$Claim;") (by decide +kernel)) (fun _ h9 => h9) rfl dX10_claim_52 ?_
      have t_14 : zT (zR (zR zx 0) 4) = 62 := sk_f hs t_9 (by decide) rfl (by decide)
      refine lv_aload_n hx hb dX10_claim_55 rfl (lv_at hl 1 rfl) ?_
      refine ht_getr (C := RX10) (T := TX10) (N := 10) hx hb hts (by decide +kernel) hown hK hP hs t_zx (by decide) rfl rfl 0 (by decide) (hts (.fieldLink RX10 12 "DripStone" "now" "LDripStone$State;") (by decide +kernel)) (fun _ h9 => h9) rfl dX10_claim_56 ?_
      refine ht_geti (C := RX8) (T := TX8) (N := 9) hx hb hts (by decide +kernel) hown hK hP hs t_9 (by decide) rfl rfl 7 (by decide) (hts (.fieldLink RX10 225 "DripStone$State" "claimed" "I") (by decide +kernel)) (fun _ h9 => h9) rfl dX10_claim_59 ?_
      refine lv_topi (fun zi_15 ezi_15 => ?_)
      obtain rfl : zi_10 = zi_15 := (ezi_15.trans ((show zI_13 (zR zx 0) 7 = zI_6 (zR zx 0) 7 from by rw [← uzI_13]; exact u2_k (by decide)).trans ezi_10.symm)).symm
      refine ht_aald (n := 4) (q := 4) hx hb hK hP hs t_14 (by decide) rfl rfl ⟨by omega, by omega⟩ dX10_claim_62 ?_
      have t_16 : zT (zR (zR (zR zx 0) 4) zi_10.toNatClampNeg) = 2 := sk_a (n := 4) hs t_14 rfl rfl (by decide) (cl_lt (by omega) (by omega))
      refine lv_aload_n hx hb dX10_claim_63 rfl (lv_at hl 1 rfl) ?_
      refine ht_getr (C := RX10) (T := TX10) (N := 10) hx hb hts (by decide +kernel) hown hK hP hs t_zx (by decide) rfl rfl 4 (by decide) (hts (.fieldLink RX10 36 "DripStone" "claimDraft" "LDripStone$Claim;") (by decide +kernel)) (fun _ h9 => h9) rfl dX10_claim_64 ?_
      refine hj_v (ws := (WL cy zL zT zR zI_13 zJ)) (w1 := fun (u : (Nat → Nat → Int32)) => (WL cy zL zT zR u zJ)) (va_runV (As := [.ref (zR zx 4)]) (rest := []) ⟨hx, hb, hml, hown, hts⟩ (t_X1_take_2_2 l dC dI cy H.size zL zT zR zI_13 zJ (zR (zR (zR zx 0) 4) zi_10.toNatClampNeg) (zR zx 4) hs h_zI_13.1 t_16 t_2) (cwV 1 hts gX10_claim_X1_take rfl rfl rfl (by decide +kernel) ⟨(Nat.le_of_ble_eq_true rfl), (Nat.le_of_ble_eq_true rfl)⟩) (PRE.v hP hK hD hN (ht_recv hK hP hs t_16 (by decide) rfl rfl)) rfl rfl hl.1 rfl (lv_room (Nat.le_of_ble_eq_true rfl)) dX10_claim_67 ⟨(Nat.le_of_ble_eq_true rfl), (Nat.le_of_ble_eq_true rfl)⟩) hP hD hS hA (fun zI_20 H locs hw_18 hP hD hS => ?_)
      have k_zI_20 : WM [206, 207, 3100, 3200, 3300] AL zT zR zI_13 zI_20 := hw_18
      have h_zI_20 : WM [206, 207, 701, 702, 703, 907, 3100, 3200, 3300] AL zT zR zI zI_20 := h_zI_13.tr k_zI_20 (by decide) (fun _ _ => trivial)
      refine lv_aload_n hx hb dX10_claim_70 rfl (lv_at hl 1 rfl) ?_
      refine ht_getr (C := RX10) (T := TX10) (N := 10) hx hb hts (by decide +kernel) hown hK hP hs t_zx (by decide) rfl rfl 0 (by decide) (hts (.fieldLink RX10 12 "DripStone" "now" "LDripStone$State;") (by decide +kernel)) (fun _ h9 => h9) rfl dX10_claim_71 ?_
      refine lv_dup hx hb dX10_claim_74 rfl ?_
      refine ht_geti (C := RX8) (T := TX8) (N := 9) hx hb hts (by decide +kernel) hown hK hP hs t_9 (by decide) rfl rfl 7 (by decide) (hts (.fieldLink RX10 225 "DripStone$State" "claimed" "I") (by decide +kernel)) (fun _ h9 => h9) rfl dX10_claim_75 ?_
      refine lv_topi (fun zi_21 ezi_21 => ?_)
      obtain rfl : zi_10 = zi_21 := (ezi_21.trans ((k_zI_20.2 (zR zx 0) 7 (Or.inl (by rw [t_9]; decide))).trans ((show zI_13 (zR zx 0) 7 = zI_6 (zR zx 0) 7 from by rw [← uzI_13]; exact u2_k (by decide)).trans ezi_10.symm))).symm
      refine lv_iconst (v := 1) hx hb dX10_claim_78 (by decide) ?_
      refine lv_iadd hx hb dX10_claim_79 ?_
      refine lv_topi (fun zi_22 ezi_22 => ?_)
      have tzi_22 : zi_22.toInt = zi_10.toInt + (1 : Int) := by rw [ezi_22]; exact tiadd (rfl) (show (1 : Int32).toInt = 1 by decide) (by omega) (by omega)
      refine ht_puti (v := zi_22) (ty := .int) (C := RX8) (T := TX8) (N := 9) hx hb hts (by decide +kernel) tyX8 tyX8_ok nmX8 hown hK hP hD hS hs t_9 (by decide) rfl rfl 7 (by decide) (hts (.fieldLink RX10 225 "DripStone$State" "claimed" "I") (by decide +kernel)) (fun _ h9 => h9) rfl (by decide +kernel) rfl rfl rfl dX10_claim_80 (fun H locs hP hD hS => ?_)
      have h_zI_23 : WM [206, 207, 701, 702, 703, 907, 3100, 3200, 3300] AL zT zR zI (u2 zI_20 (zR zx 0) 7 zi_22) := h_zI_20.put hs t_9 rfl (by omega) (by decide) (fun h => absurd h (by decide)) (by decide) trivial
      generalize uzI_23 : u2 zI_20 (zR zx 0) 7 zi_22 = zI_23 at hP hD h_zI_23
      refine lv_aload_n hx hb dX10_claim_83 rfl (lv_at hl 1 rfl) ?_
      refine ht_getr (C := RX10) (T := TX10) (N := 10) hx hb hts (by decide +kernel) hown hK hP hs t_zx (by decide) rfl rfl 0 (by decide) (hts (.fieldLink RX10 12 "DripStone" "now" "LDripStone$State;") (by decide +kernel)) (fun _ h9 => h9) rfl dX10_claim_84 ?_
      refine ht_geti (C := RX8) (T := TX8) (N := 9) hx hb hts (by decide +kernel) hown hK hP hs t_9 (by decide) rfl rfl 7 (by decide) (hts (.fieldLink RX10 225 "DripStone$State" "claimed" "I") (by decide +kernel)) (fun _ h9 => h9) rfl dX10_claim_87 ?_
      refine lv_topi (fun zi_24 ezi_24 => ?_)
      obtain rfl : zi_22 = zi_24 := (ezi_24.trans (by rw [← uzI_23]; exact u2_s)).symm
      refine lv_iconst (v := 1) hx hb dX10_claim_90 (by decide) ?_
      refine lv_isub hx hb dX10_claim_91 ?_
      refine lv_topi (fun zi_25 ezi_25 => ?_)
      have tzi_25 : zi_25.toInt = zi_22.toInt - (1 : Int) := by rw [ezi_25]; exact tisub (rfl) (show (1 : Int32).toInt = 1 by decide) (by omega) (by omega)
      subst hQ
      exact W.iret (v := zi_25) hx hb hr (fun t ht hW => ⟨⟨zi_25, zI_23, rfl, ⟨h_zI_23, (show JX zR zI_23 zx from (JX.sm hj hs t_zx h_zI_23.2 (by decide) (by decide)))⟩, ⟨by rw [ht]; exact hP, va_K.moved hW.alike hK, hD⟩⟩, hS.F ht⟩) hS.2.2 dX10_claim_92
    · have f_12 : ¬ (zi_10.toInt ≠ (4 : Int)) := ic_nne (rfl) (show (4 : Int32).toInt = 4 by decide) c_11
      refine lv_bipush (v := (-3)) hx hb dX10_claim_37 (by decide) ?_
      subst hQ
      exact W.iret (v := (-3 : Int32)) hx hb hr (fun t ht hW => ⟨⟨(-3 : Int32), zI_6, rfl, ⟨h_zI_6, (show JX zR zI_6 zx from (JX.sm hj hs t_zx h_zI_6.2 (by decide) (by decide)))⟩, ⟨by rw [ht]; exact hP, va_K.moved hW.alike hK, hD⟩⟩, hS.F ht⟩) hS.2.2 dX10_claim_39
  · have f_8 : ¬ (zi_3.toInt = 0) := ic_neq (rfl) (by decide) c_7
    refine lv_aload_n hx hb dX10_claim_16 rfl (lv_at hl 1 rfl) ?_
    refine ht_getr (C := RX10) (T := TX10) (N := 10) hx hb hts (by decide +kernel) hown hK hP hs t_zx (by decide) rfl rfl 2 (by decide) (hts (.fieldLink RX10 22 "DripStone" "reader" "LDripStone$Reader;") (by decide +kernel)) (fun _ h9 => h9) rfl dX10_claim_17 ?_
    refine lv_iconst (v := 0) hx hb dX10_claim_20 (by decide) ?_
    refine ht_puti (v := (0 : Int32)) (ty := .int) (C := RX6) (T := TX6) (N := 4) hx hb hts (by decide +kernel) tyX6 tyX6_ok nmX6 hown hK hP hD hS hs t_1 (by decide) rfl rfl 1 (by decide) (hts (.fieldLink RX10 116 "DripStone$Reader" "typed" "I") (by decide +kernel)) (fun _ h9 => h9) rfl (by decide +kernel) rfl rfl rfl dX10_claim_21 (fun H locs hP hD hS => ?_)
    have h_zI_26 : WM [206, 207, 701, 702, 703, 907, 3100, 3200, 3300] AL zT zR zI (u2 zI_6 (zR zx 2) 1 (0 : Int32)) := h_zI_6.put hs t_1 rfl (by decide) (by decide) (fun h => absurd h (by decide)) (by decide) trivial
    generalize uzI_26 : u2 zI_6 (zR zx 2) 1 (0 : Int32) = zI_26 at hP hD h_zI_26
    refine lv_iload_n hx hb dX10_claim_24 rfl (lv_at hl 0 rfl) ?_
    subst hQ
    exact W.iret (v := zi_3) hx hb hr (fun t ht hW => ⟨⟨zi_3, zI_26, rfl, ⟨h_zI_26, (show JX zR zI_26 zx from (JX.sm hj hs t_zx h_zI_26.2 (by decide) (by decide)))⟩, ⟨by rw [ht]; exact hP, va_K.moved hW.alike hK, hD⟩⟩, hS.F ht⟩) hS.2.2 dX10_claim_25
set_option maxHeartbeats 8000000 in
set_option maxRecDepth 100000 in
theorem t_X10_chance (l : Launch) (dC : Nat → ClassId) (dI : Nat → Nat → Nat) (cy : Nat → ClassId) (sz : Nat) (zL : List Nat) (zT : Nat → Nat) (zR : Nat → Nat → Nat) (zI : Nat → Nat → Int32) (zJ : Nat → Nat → Int64) (zx : Nat) (zia : Int32) (zib : Int32) (zic : Int32) (hs : SKP zL zT zR) (hw : WT zT zR zI) (t_zx : zT zx = 11) (hj : JX zR zI zx) : Met l yX10_chance wsX10_chance ({ frames := 5, cells := 0, slots := 0, locals := 126 } : Room) (va_Pc [.ref zx, .int zia, .int zib, .int zic] (PRE dC dI cy (WL cy zL zT zR zI zJ) sz)) (va_Ql (fun (r : Int64) (u : (Nat → Nat → Int32) × (Nat → Nat → Int64)) => (WM [607, 608, 1013, 1014, 3700, 3800, 3900, 4000, 4200, 4400, 4500, 4600, 4700] AL zT zR zI u.1) ∧ (JX zR u.1 zx)) (fun u t => POST dC dI cy (va_A (WL cy zL zT zR zI zJ) sz) (WL cy zL zT zR u.1 u.2) t) (va_A (WL cy zL zT zR zI zJ) sz)) 0 0 (va_A (WL cy zL zT zR zI zJ) sz) := by
  refine Met.ofW (cc := cX10_chance) (maxL := 5) (ret := (some .long)) (by decide) rfl ?_
  intro p e s m args below meth c s₁ B hml hv
  obtain ⟨rfl, hsz, hP, hK, hD0, hN⟩ := hv
  have hx := B.exec
  have hb := B.bytes
  have hr := B.returns
  have hts := atoms_spec (ws := wsX10_chance) B.pre
  have hown : s.vm.findClass RX10 = some m.cls := findClass_of_methodNamed B.named
  have hlocks := B.notSynchronized
  subst hsz
  have hD := hD0.self (sz := s.heap.size)
  generalize hAe : va_A (WL cy zL zT zR zI zJ) s.heap.size = A at hD ⊢
  have hA : ∀ q : Nat, s.heap.size ≤ q → A q := fun q h => by rw [← hAe]; exact Or.inr h
  have hS : va_S A s.heap s.heap [] := va_S.rf
  have hP : va_P (dC, dI) vwCl (WL cy zL zT zR zI zJ) s.heap := hP
  have hl := lv_entry ([.ref zx, .int zia, .int zib, .int zic] : List Value) (n := 5) (Nat.le_of_ble_eq_true rfl)
  rw [lg_entry_eq]
  generalize (lg_sl ([.ref zx, .int zia, .int zib, .int zic] : List Value) ++ List.replicate (5 - (lg_sl ([.ref zx, .int zia, .int zib, .int zic] : List Value)).length) Slot.unset).toArray = ls at hl ⊢
  have hl : lv_has ls 5 [(0, .ref zx), (1, .int zia), (2, .int zib), (3, .int zic)] := hl
  refine w_q (fun Q hQ => ?_)
  have h_zI : WM [607, 608, 1013, 1014, 3700, 3800, 3900, 4000, 4200, 4400, 4500, 4600, 4700] AL zT zR zI zI := WM.rf hw
  refine lv_aload_n hx hb dX10_chance_0 rfl (lv_at hl 0 rfl) ?_
  refine lv_iload_n hx hb dX10_chance_1 rfl (lv_at hl 1 rfl) ?_
  refine hj_i (ws := (WL cy zL zT zR zI zJ)) (w1 := fun (u : Unit) => (WL cy zL zT zR zI zJ)) (va_runV (As := [.int zia]) (rest := []) ⟨hx, hb, hml, hown, hts⟩ (t_X10_isClaim l dC dI cy s.heap.size zL zT zR zI zJ zx zia hs h_zI.1 t_zx) (cwV 1 hts gX10_chance_X10_isClaim rfl rfl rfl (by decide +kernel) ⟨(Nat.le_of_ble_eq_true rfl), (Nat.le_of_ble_eq_true rfl)⟩) (PRE.v hP hK hD hN (ht_recv hK hP hs t_zx (by decide) rfl rfl)) rfl rfl hl.1 rfl (lv_room (Nat.le_of_ble_eq_true rfl)) dX10_chance_2 ⟨(Nat.le_of_ble_eq_true rfl), (Nat.le_of_ble_eq_true rfl)⟩) hP hD hS hA (fun zi_1 u_3 H locs hw_2 hP hD hS => ?_)
  obtain ⟨b_zi_1, ps_4⟩ : (0 ≤ zi_1.toInt ∧ zi_1.toInt ≤ 1) ∧ (zi_1.toInt = 0 ∨ (0 ≤ zia.toInt ∧ zia.toInt ≤ 3)) := hw_2
  refine lv_if_eq (tgt := 24) hx hb dX10_chance_5 (by decide) (fun c_5 => ?_) (fun c_5 => ?_)
  · have f_6 : zi_1.toInt = 0 := ic_eq (rfl) (by decide) c_5
    refine lv_ldc2 (v := (-1)) hx hb hown (hts (.constantLong RX10 234 (-1)) (by decide +kernel)) dX10_chance_24 ?_
    subst hQ
    exact W.lret (v := (-1 : Int64)) hx hb hr (fun t ht hW => ⟨⟨(-1 : Int64), (zI, zJ), rfl, ⟨h_zI, (show JX zR zI zx from hj)⟩, ⟨by rw [ht]; exact hP, va_K.moved hW.alike hK, hD⟩⟩, hS.F ht⟩) hS.2.2 dX10_chance_27
  · have f_6 : ¬ (zi_1.toInt = 0) := ic_neq (rfl) (by decide) c_5
    have b9_zia : 0 ≤ zia.toInt ∧ zia.toInt ≤ 3 := by omega
    refine lv_iload_n hx hb dX10_chance_8 rfl (lv_at hl 2 rfl) ?_
    refine hj0_i (ws := (WL cy zL zT zR zI zJ)) (va_runS (As := [.int zib]) (rest := []) ⟨hx, hb, hml, hown, hts⟩ (c_X10_isCandle l dC dI cy H.size zib) (va_cwS 1 hts gX10_chance_X10_isCandle rfl rfl rfl (by decide +kernel) ⟨(Nat.le_of_ble_eq_true rfl), (Nat.le_of_ble_eq_true rfl)⟩) (PRE.s (hP.sub [] rfl) hK (hD.sub [] (by decide) rfl) hN) rfl rfl hl.1 rfl (lv_room (Nat.le_of_ble_eq_true rfl)) dX10_chance_9 ⟨(Nat.le_of_ble_eq_true rfl), (Nat.le_of_ble_eq_true rfl)⟩) hP hD hS hA (fun zi_7 u_9 H locs hw_8 hP hD hS => ?_)
    have hw_8 : zi_7 = if 0 ≤ zib.toInt ∧ zib.toInt ≤ 1 then 1 else 0 := hw_8
    have b_zi_7 : 0 ≤ zi_7.toInt ∧ zi_7.toInt ≤ 1 := bz_b hw_8
    refine lv_if_eq (tgt := 24) hx hb dX10_chance_12 (by decide) (fun c_10 => ?_) (fun c_10 => ?_)
    · have f_11 : ¬ (0 ≤ zib.toInt ∧ zib.toInt ≤ 1) := bz_0 hw_8 c_10
      refine lv_ldc2 (v := (-1)) hx hb hown (hts (.constantLong RX10 234 (-1)) (by decide +kernel)) dX10_chance_24 ?_
      subst hQ
      exact W.lret (v := (-1 : Int64)) hx hb hr (fun t ht hW => ⟨⟨(-1 : Int64), (zI, zJ), rfl, ⟨h_zI, (show JX zR zI zx from hj)⟩, ⟨by rw [ht]; exact hP, va_K.moved hW.alike hK, hD⟩⟩, hS.F ht⟩) hS.2.2 dX10_chance_27
    · have f_11 : 0 ≤ zib.toInt ∧ zib.toInt ≤ 1 := bz_1 hw_8 c_10
      refine lv_iload_n hx hb dX10_chance_15 rfl (lv_at hl 3 rfl) ?_
      refine lv_iconst (v := 0) hx hb dX10_chance_16 (by decide) ?_
      refine lv_iconst (v := 1) hx hb dX10_chance_17 (by decide) ?_
      refine hj0_i (ws := (WL cy zL zT zR zI zJ)) (va_runS (As := [.int zic, .int 0, .int 1]) (rest := []) ⟨hx, hb, hml, hown, hts⟩ (c_X10_isWithin l dC dI cy H.size zic 0 1 0 1 (by first | rfl | decide | omega | exact Int32.toInt_toInt64 _) (by first | rfl | decide | omega | exact Int32.toInt_toInt64 _)) (va_cwS 3 hts gX10_chance_X10_isWithin rfl rfl rfl (by decide +kernel) ⟨(Nat.le_of_ble_eq_true rfl), (Nat.le_of_ble_eq_true rfl)⟩) (PRE.s (hP.sub [] rfl) hK (hD.sub [] (by decide) rfl) hN) rfl rfl hl.1 rfl (lv_room (Nat.le_of_ble_eq_true rfl)) dX10_chance_18 ⟨(Nat.le_of_ble_eq_true rfl), (Nat.le_of_ble_eq_true rfl)⟩) hP hD hS hA (fun zi_12 u_14 H locs hw_13 hP hD hS => ?_)
      have hw_13 : zi_12 = if 0 ≤ zic.toInt ∧ zic.toInt ≤ 1 then 1 else 0 := hw_13
      have b_zi_12 : 0 ≤ zi_12.toInt ∧ zi_12.toInt ≤ 1 := bz_b hw_13
      refine lv_if_ne (tgt := 28) hx hb dX10_chance_21 (by decide) (fun c_15 => ?_) (fun c_15 => ?_)
      · have f_16 : 0 ≤ zic.toInt ∧ zic.toInt ≤ 1 := bz_1 hw_13 c_15
        refine lv_aload_n hx hb dX10_chance_28 rfl (lv_at hl 0 rfl) ?_
        refine ht_getr (C := RX10) (T := TX10) (N := 10) hx hb hts (by decide +kernel) hown hK hP hs t_zx (by decide) rfl rfl 0 (by decide) (hts (.fieldLink RX10 12 "DripStone" "now" "LDripStone$State;") (by decide +kernel)) (fun _ h9 => h9) rfl dX10_chance_29 ?_
        have t_17 : zT (zR zx 0) = 9 := sk_f hs t_zx (by decide) rfl (by decide)
        refine ht_getr (C := RX8) (T := TX8) (N := 9) hx hb hts (by decide +kernel) hown hK hP hs t_17 (by decide) rfl rfl 2 (by decide) (hts (.fieldLink RX10 147 "DripStone$State" "candles" "[LDripStone$Candle;") (by decide +kernel)) (fun _ h9 => h9) rfl dX10_chance_32 ?_
        have t_18 : zT (zR (zR zx 0) 2) = 61 := sk_f hs t_17 (by decide) rfl (by decide)
        refine lv_iload_n hx hb dX10_chance_35 rfl (lv_at hl 2 rfl) ?_
        refine ht_aald (n := 2) (q := 3) hx hb hK hP hs t_18 (by decide) rfl rfl ⟨by omega, by omega⟩ dX10_chance_36 ?_
        have t_19 : zT (zR (zR (zR zx 0) 2) zib.toNatClampNeg) = 1 := sk_a (n := 2) hs t_18 rfl rfl (by decide) (cl_lt (by omega) (by omega))
        refine hj_i (ws := (WL cy zL zT zR zI zJ)) (w1 := fun (u : Unit) => (WL cy zL zT zR zI zJ)) (va_runV (As := []) (rest := []) ⟨hx, hb, hml, hown, hts⟩ (t_X0_places l dC dI cy H.size zL zT zR zI zJ (zR (zR (zR zx 0) 2) zib.toNatClampNeg) hs h_zI.1 t_19) (cwV 0 hts gX10_chance_X0_places rfl rfl rfl (by decide +kernel) ⟨(Nat.le_of_ble_eq_true rfl), (Nat.le_of_ble_eq_true rfl)⟩) (PRE.v hP hK hD hN (ht_recv hK hP hs t_19 (by decide) rfl rfl)) rfl rfl hl.1 rfl (lv_room (Nat.le_of_ble_eq_true rfl)) dX10_chance_37 ⟨(Nat.le_of_ble_eq_true rfl), (Nat.le_of_ble_eq_true rfl)⟩) hP hD hS hA (fun zi_20 u_22 H locs hw_21 hP hD hS => ?_)
        obtain ⟨b_zi_20, ps_23⟩ : (0 ≤ zi_20.toInt ∧ zi_20.toInt ≤ 12) ∧ (zi_20.toInt = PL (zI (zR (zR (zR (zR zx 0) 2) zib.toNatClampNeg) 0)) ((zI (zR (zR (zR zx 0) 2) zib.toNatClampNeg) 7).toInt).toNat) := hw_21
        obtain ⟨zi_24, ezi_24⟩ : ∃ y : Int32, y = zI (zR (zR (zR zx 0) 2) zib.toNatClampNeg) 7 := ⟨_, rfl⟩
        have tzi_24 : 0 ≤ zi_24.toInt ∧ zi_24.toInt ≤ 12 := by rw [ezi_24]; exact h_zI.at t_19 _ rfl
        have lk_25 : (zI (zR (zR (zR zx 0) 2) zib.toNatClampNeg) 7).toInt = zi_24.toInt := congrArg Int32.toInt ezi_24.symm
        refine lv_if_ne (tgt := 47) hx hb dX10_chance_40 (by decide) (fun c_26 => ?_) (fun c_26 => ?_)
        · have f_27 : zi_20.toInt ≠ 0 := ic_ne (rfl) (by decide) c_26
          refine lv_aload_n hx hb dX10_chance_47 rfl (lv_at hl 0 rfl) ?_
          refine lv_iload_n hx hb dX10_chance_48 rfl (lv_at hl 2 rfl) ?_
          refine hj_r (ws := (WL cy zL zT zR zI zJ)) (w1 := fun (u : (Nat → Nat → Int32) × (Nat → Nat → Int64)) => (WL cy zL zT zR u.1 u.2)) (va_runV (As := [.int zib]) (rest := []) ⟨hx, hb, hml, hown, hts⟩ (t_X10_lineOf l dC dI cy H.size zL zT zR zI zJ zx zib hs h_zI.1 t_zx (by omega) (by omega)) (cwV 1 hts gX10_chance_X10_lineOf rfl rfl rfl (by decide +kernel) ⟨(Nat.le_of_ble_eq_true rfl), (Nat.le_of_ble_eq_true rfl)⟩) (PRE.v hP hK hD hN (ht_recv hK hP hs t_zx (by decide) rfl rfl)) rfl rfl hl.1 rfl (lv_room (Nat.le_of_ble_eq_true rfl)) dX10_chance_49 ⟨(Nat.le_of_ble_eq_true rfl), (Nat.le_of_ble_eq_true rfl)⟩) hP hD hS hA (fun zi_28 u_30 H locs hw_29 hr0 hP hD hS => ?_)
          obtain ⟨zI_31, zJ_32⟩ := u_30
          obtain ⟨k_zI_31, ps_33, ps_34⟩ : (WM [1013, 1014, 3700, 3800, 3900, 4000, 4200, 4700] AL zT zR zI zI_31) ∧ (JX zR zI_31 zx) ∧ (LW zR zI_31 (zR (zR zx 6) zib.toNatClampNeg) (zR (zR (zR zx 0) 2) zib.toNatClampNeg)) := hw_29
          have h_zI_31 : WM [607, 608, 1013, 1014, 3700, 3800, 3900, 4000, 4200, 4400, 4500, 4600, 4700] AL zT zR zI zI_31 := h_zI.tr k_zI_31 (by decide) (fun _ _ => trivial)
          subst hr0
          have t_35 : zT (zR zx 6) = 64 := sk_f hs t_zx (by decide) rfl (by decide)
          have t_36 : zT (zR (zR zx 6) zib.toNatClampNeg) = 10 := sk_a (n := 2) hs t_35 rfl rfl (by decide) (cl_lt (by omega) (by omega))
          refine lv_astore (lv' := [(4, .ref (zR (zR zx 6) zib.toNatClampNeg)), (0, .ref zx), (1, .int zia), (2, .int zib), (3, .int zic)]) hx hb dX10_chance_52 hl (by decide) rfl (fun ls hl => ?_)
          refine lv_aload hx hb dX10_chance_54 (lv_at hl 0 rfl) ?_
          refine ht_getl (C := RX9) (T := TX9) (N := 16) hx hb hts (by decide +kernel) hown hK hP hs t_36 (by decide) rfl rfl 15 (by decide) (hts (.fieldLink RX10 242 "DripStone$Ways" "total" "J") (by decide +kernel)) (fun _ h9 => h9) rfl dX10_chance_56 ?_
          refine lv_topl (fun zj_37 ezj_37 => ?_)
          refine lv_lconst (v := 0) hx hb dX10_chance_59 (by decide) ?_
          refine W.lcmp hx hb dX10_chance_60 ?_
          refine lv_topi (fun zi_38 ezi_38 => ?_)
          refine lv_if_ne (tgt := 68) hx hb dX10_chance_61 (by decide) (fun c_39 => ?_) (fun c_39 => ?_)
          · have f_40 : ¬ (zj_37.toInt = (0 : Int)) := lk_ne ezi_38 (rfl) (show (0 : Int64).toInt = 0 by decide) c_39
            refine lv_aload_n hx hb dX10_chance_68 rfl (lv_at hl 1 rfl) ?_
            refine ht_getr (C := RX10) (T := TX10) (N := 10) hx hb hts (by decide +kernel) hown hK hP hs t_zx (by decide) rfl rfl 8 (by decide) (hts (.fieldLink RX10 61 "DripStone" "marks" "LDripStone$Marks;") (by decide +kernel)) (fun _ h9 => h9) rfl dX10_chance_69 ?_
            have t_41 : zT (zR zx 8) = 6 := sk_f hs t_zx (by decide) rfl (by decide)
            refine lv_aload hx hb dX10_chance_72 (lv_at hl 0 rfl) ?_
            refine lv_aload_n hx hb dX10_chance_74 rfl (lv_at hl 1 rfl) ?_
            refine ht_getr (C := RX10) (T := TX10) (N := 10) hx hb hts (by decide +kernel) hown hK hP hs t_zx (by decide) rfl rfl 0 (by decide) (hts (.fieldLink RX10 12 "DripStone" "now" "LDripStone$State;") (by decide +kernel)) (fun _ h9 => h9) rfl dX10_chance_75 ?_
            refine ht_getr (C := RX8) (T := TX8) (N := 9) hx hb hts (by decide +kernel) hown hK hP hs t_17 (by decide) rfl rfl 2 (by decide) (hts (.fieldLink RX10 147 "DripStone$State" "candles" "[LDripStone$Candle;") (by decide +kernel)) (fun _ h9 => h9) rfl dX10_chance_78 ?_
            refine lv_iload_n hx hb dX10_chance_81 rfl (lv_at hl 3 rfl) ?_
            refine ht_aald (n := 2) (q := 3) hx hb hK hP hs t_18 (by decide) rfl rfl ⟨by omega, by omega⟩ dX10_chance_82 ?_
            refine lv_aload_n hx hb dX10_chance_83 rfl (lv_at hl 1 rfl) ?_
            refine ht_getr (C := RX10) (T := TX10) (N := 10) hx hb hts (by decide +kernel) hown hK hP hs t_zx (by decide) rfl rfl 0 (by decide) (hts (.fieldLink RX10 12 "DripStone" "now" "LDripStone$State;") (by decide +kernel)) (fun _ h9 => h9) rfl dX10_chance_84 ?_
            refine ht_getr (C := RX8) (T := TX8) (N := 9) hx hb hts (by decide +kernel) hown hK hP hs t_17 (by decide) rfl rfl 4 (by decide) (hts (.fieldLink RX10 331 "DripStone$State" "claims" "[LDripStone$Claim;") (by decide +kernel)) (fun _ h9 => h9) rfl dX10_chance_87 ?_
            have t_42 : zT (zR (zR zx 0) 4) = 62 := sk_f hs t_17 (by decide) rfl (by decide)
            refine lv_iload_n hx hb dX10_chance_90 rfl (lv_at hl 2 rfl) ?_
            refine ht_aald (n := 4) (q := 4) hx hb hK hP hs t_42 (by decide) rfl rfl ⟨by omega, by omega⟩ dX10_chance_91 ?_
            have t_43 : zT (zR (zR (zR zx 0) 4) zia.toNatClampNeg) = 2 := sk_a (n := 4) hs t_42 rfl rfl (by decide) (cl_lt (by omega) (by omega))
            refine lv_iconst (v := 0) hx hb dX10_chance_92 (by decide) ?_
            have qc_0 : (0 : Int32).toInt = 0 := by decide
            refine hj_l (ws := (WL cy zL zT zR zI_31 zJ_32)) (w1 := fun (u : (Nat → Nat → Int32) × (Nat → Nat → Int64)) => (WL cy zL zT zR u.1 u.2)) (va_runV (As := [.ref (zR (zR zx 6) zib.toNatClampNeg), .ref (zR (zR (zR zx 0) 2) zib.toNatClampNeg), .ref (zR (zR (zR zx 0) 4) zia.toNatClampNeg), .int 0]) (rest := []) ⟨hx, hb, hml, hown, hts⟩ (t_X5_waysSo l dC dI cy H.size zL zT zR zI_31 zJ_32 (zR zx 8) (zR (zR zx 6) zib.toNatClampNeg) (zR (zR (zR zx 0) 2) zib.toNatClampNeg) (zR (zR (zR zx 0) 4) zia.toNatClampNeg) (0 : Int32) hs h_zI_31.1 t_41 t_36 t_19 t_43) (cwV 4 hts gX10_chance_X5_waysSo rfl rfl rfl (by decide +kernel) ⟨(Nat.le_of_ble_eq_true rfl), (Nat.le_of_ble_eq_true rfl)⟩) (PRE.v hP hK hD hN (ht_recv hK hP hs t_41 (by decide) rfl rfl)) rfl rfl hl.1 rfl (lv_room (Nat.le_of_ble_eq_true rfl)) dX10_chance_93 ⟨(Nat.le_of_ble_eq_true rfl), (Nat.le_of_ble_eq_true rfl)⟩) hP hD hS hA (fun zj_44 u_46 H locs hw_45 hP hD hS => ?_)
            obtain ⟨zI_47, zJ_48⟩ := u_46
            have k_zI_47 : WM [607, 608, 4400, 4500, 4600] AL zT zR zI_31 zI_47 := hw_45
            have h_zI_47 : WM [607, 608, 1013, 1014, 3700, 3800, 3900, 4000, 4200, 4400, 4500, 4600, 4700] AL zT zR zI zI_47 := h_zI_31.tr k_zI_47 (by decide) (fun _ _ => trivial)
            have j_zI_47 : JX zR zI_47 zx := ps_33.sm hs t_zx k_zI_47.2 (by decide) (by decide)
            refine lv_aload hx hb dX10_chance_96 (lv_at hl 0 rfl) ?_
            refine ht_getl (C := RX9) (T := TX9) (N := 16) hx hb hts (by decide +kernel) hown hK hP hs t_36 (by decide) rfl rfl 15 (by decide) (hts (.fieldLink RX10 242 "DripStone$Ways" "total" "J") (by decide +kernel)) (fun _ h9 => h9) rfl dX10_chance_98 ?_
            refine lv_topl (fun zj_49 ezj_49 => ?_)
            refine lv_iload_n hx hb dX10_chance_101 rfl (lv_at hl 4 rfl) ?_
            refine hj0_l (ws := (WL cy zL zT zR zI_47 zJ_48)) (va_runS (As := [.long zj_44, .long zj_49, .int zic]) (rest := []) ⟨hx, hb, hml, hown, hts⟩ (c_X10_oddsPart l dC dI cy H.size zj_44 zj_49 zic) (va_cwS 3 hts gX10_chance_X10_oddsPart rfl rfl rfl (by decide +kernel) ⟨(Nat.le_of_ble_eq_true rfl), (Nat.le_of_ble_eq_true rfl)⟩) (PRE.s (hP.sub [] rfl) hK (hD.sub [] (by decide) rfl) hN) rfl rfl hl.1 rfl (lv_room (Nat.le_of_ble_eq_true rfl)) dX10_chance_102 ⟨(Nat.le_of_ble_eq_true rfl), (Nat.le_of_ble_eq_true rfl)⟩) hP hD hS hA (fun zj_50 u_52 H locs hw_51 hP hD hS => ?_)
            subst hQ
            exact W.lret (v := zj_50) hx hb hr (fun t ht hW => ⟨⟨zj_50, (zI_47, zJ_48), rfl, ⟨h_zI_47, (show JX zR zI_47 zx from j_zI_47)⟩, ⟨by rw [ht]; exact hP, va_K.moved hW.alike hK, hD⟩⟩, hS.F ht⟩) hS.2.2 dX10_chance_105
          · have f_40 : zj_37.toInt = (0 : Int) := lk_nne ezi_38 (rfl) (show (0 : Int64).toInt = 0 by decide) c_39
            refine lv_ldc2 (v := (-4)) hx hb hown (hts (.constantLong RX10 276 (-4)) (by decide +kernel)) dX10_chance_64 ?_
            subst hQ
            exact W.lret (v := (-4 : Int64)) hx hb hr (fun t ht hW => ⟨⟨(-4 : Int64), (zI_31, zJ_32), rfl, ⟨h_zI_31, (show JX zR zI_31 zx from ps_33)⟩, ⟨by rw [ht]; exact hP, va_K.moved hW.alike hK, hD⟩⟩, hS.F ht⟩) hS.2.2 dX10_chance_67
        · have f_27 : ¬ (zi_20.toInt ≠ 0) := ic_nne (rfl) (by decide) c_26
          refine lv_ldc2 (v := (-2)) hx hb hown (hts (.constantLong RX10 236 (-2)) (by decide +kernel)) dX10_chance_43 ?_
          subst hQ
          exact W.lret (v := (-2 : Int64)) hx hb hr (fun t ht hW => ⟨⟨(-2 : Int64), (zI, zJ), rfl, ⟨h_zI, (show JX zR zI zx from hj)⟩, ⟨by rw [ht]; exact hP, va_K.moved hW.alike hK, hD⟩⟩, hS.F ht⟩) hS.2.2 dX10_chance_46
      · have f_16 : ¬ (0 ≤ zic.toInt ∧ zic.toInt ≤ 1) := bz_0 hw_13 c_15
        refine lv_ldc2 (v := (-1)) hx hb hown (hts (.constantLong RX10 234 (-1)) (by decide +kernel)) dX10_chance_24 ?_
        subst hQ
        exact W.lret (v := (-1 : Int64)) hx hb hr (fun t ht hW => ⟨⟨(-1 : Int64), (zI, zJ), rfl, ⟨h_zI, (show JX zR zI zx from hj)⟩, ⟨by rw [ht]; exact hP, va_K.moved hW.alike hK, hD⟩⟩, hS.F ht⟩) hS.2.2 dX10_chance_27
set_option maxHeartbeats 8000000 in
set_option maxRecDepth 100000 in
theorem t_X10_holds (l : Launch) (dC : Nat → ClassId) (dI : Nat → Nat → Nat) (cy : Nat → ClassId) (sz : Nat) (zL : List Nat) (zT : Nat → Nat) (zR : Nat → Nat → Nat) (zI : Nat → Nat → Int32) (zJ : Nat → Nat → Int64) (zx : Nat) (zia : Int32) (zib : Int32) (hs : SKP zL zT zR) (hw : WT zT zR zI) (t_zx : zT zx = 11) (hj : JX zR zI zx) : Met l yX10_holds wsX10_holds ({ frames := 3, cells := 0, slots := 0, locals := 70 } : Room) (va_Pc [.ref zx, .int zia, .int zib] (PRE dC dI cy (WL cy zL zT zR zI zJ) sz)) (va_Qi (fun (r : Int32) (u : Unit) => ((-2) ≤ r.toInt ∧ r.toInt ≤ 1) ∧ (JX zR zI zx)) (fun u t => POST dC dI cy (va_A (WL cy zL zT zR zI zJ) sz) (WL cy zL zT zR zI zJ) t) (va_A (WL cy zL zT zR zI zJ) sz)) 0 0 (va_A (WL cy zL zT zR zI zJ) sz) := by
  refine Met.ofW (cc := cX10_holds) (maxL := 5) (ret := (some .int)) (by decide) rfl ?_
  intro p e s m args below meth c s₁ B hml hv
  obtain ⟨rfl, hsz, hP, hK, hD0, hN⟩ := hv
  have hx := B.exec
  have hb := B.bytes
  have hr := B.returns
  have hts := atoms_spec (ws := wsX10_holds) B.pre
  have hown : s.vm.findClass RX10 = some m.cls := findClass_of_methodNamed B.named
  have hlocks := B.notSynchronized
  subst hsz
  have hD := hD0.self (sz := s.heap.size)
  generalize hAe : va_A (WL cy zL zT zR zI zJ) s.heap.size = A at hD ⊢
  have hA : ∀ q : Nat, s.heap.size ≤ q → A q := fun q h => by rw [← hAe]; exact Or.inr h
  have hS : va_S A s.heap s.heap [] := va_S.rf
  have hP : va_P (dC, dI) vwCl (WL cy zL zT zR zI zJ) s.heap := hP
  have hl := lv_entry ([.ref zx, .int zia, .int zib] : List Value) (n := 5) (Nat.le_of_ble_eq_true rfl)
  rw [lg_entry_eq]
  generalize (lg_sl ([.ref zx, .int zia, .int zib] : List Value) ++ List.replicate (5 - (lg_sl ([.ref zx, .int zia, .int zib] : List Value)).length) Slot.unset).toArray = ls at hl ⊢
  have hl : lv_has ls 5 [(0, .ref zx), (1, .int zia), (2, .int zib)] := hl
  refine w_q (fun Q hQ => ?_)
  have h_zI : WM [] AL zT zR zI zI := WM.rf hw
  refine lv_aload_n hx hb dX10_holds_0 rfl (lv_at hl 0 rfl) ?_
  refine lv_iload_n hx hb dX10_holds_1 rfl (lv_at hl 1 rfl) ?_
  refine hj_i (ws := (WL cy zL zT zR zI zJ)) (w1 := fun (u : Unit) => (WL cy zL zT zR zI zJ)) (va_runV (As := [.int zia]) (rest := []) ⟨hx, hb, hml, hown, hts⟩ (t_X10_isClaim l dC dI cy s.heap.size zL zT zR zI zJ zx zia hs h_zI.1 t_zx) (cwV 1 hts gX10_holds_X10_isClaim rfl rfl rfl (by decide +kernel) ⟨(Nat.le_of_ble_eq_true rfl), (Nat.le_of_ble_eq_true rfl)⟩) (PRE.v hP hK hD hN (ht_recv hK hP hs t_zx (by decide) rfl rfl)) rfl rfl hl.1 rfl (lv_room (Nat.le_of_ble_eq_true rfl)) dX10_holds_2 ⟨(Nat.le_of_ble_eq_true rfl), (Nat.le_of_ble_eq_true rfl)⟩) hP hD hS hA (fun zi_1 u_3 H locs hw_2 hP hD hS => ?_)
  obtain ⟨b_zi_1, ps_4⟩ : (0 ≤ zi_1.toInt ∧ zi_1.toInt ≤ 1) ∧ (zi_1.toInt = 0 ∨ (0 ≤ zia.toInt ∧ zia.toInt ≤ 3)) := hw_2
  refine lv_if_eq (tgt := 15) hx hb dX10_holds_5 (by decide) (fun c_5 => ?_) (fun c_5 => ?_)
  · have f_6 : zi_1.toInt = 0 := ic_eq (rfl) (by decide) c_5
    refine lv_iconst (v := (-1)) hx hb dX10_holds_15 (by decide) ?_
    subst hQ
    have qc_m1 : (-1 : Int32).toInt = -1 := by decide
    exact W.iret (v := (-1 : Int32)) hx hb hr (fun t ht hW => ⟨⟨(-1 : Int32), (), rfl, ⟨(show (-2) ≤ (-1 : Int32).toInt ∧ (-1 : Int32).toInt ≤ 1 from by omega), (show JX zR zI zx from hj)⟩, ⟨by rw [ht]; exact hP, va_K.moved hW.alike hK, hD⟩⟩, hS.F ht⟩) hS.2.2 dX10_holds_16
  · have f_6 : ¬ (zi_1.toInt = 0) := ic_neq (rfl) (by decide) c_5
    have b9_zia : 0 ≤ zia.toInt ∧ zia.toInt ≤ 3 := by omega
    refine lv_iload_n hx hb dX10_holds_8 rfl (lv_at hl 2 rfl) ?_
    refine hj0_i (ws := (WL cy zL zT zR zI zJ)) (va_runS (As := [.int zib]) (rest := []) ⟨hx, hb, hml, hown, hts⟩ (c_X10_isCandle l dC dI cy H.size zib) (va_cwS 1 hts gX10_holds_X10_isCandle rfl rfl rfl (by decide +kernel) ⟨(Nat.le_of_ble_eq_true rfl), (Nat.le_of_ble_eq_true rfl)⟩) (PRE.s (hP.sub [] rfl) hK (hD.sub [] (by decide) rfl) hN) rfl rfl hl.1 rfl (lv_room (Nat.le_of_ble_eq_true rfl)) dX10_holds_9 ⟨(Nat.le_of_ble_eq_true rfl), (Nat.le_of_ble_eq_true rfl)⟩) hP hD hS hA (fun zi_7 u_9 H locs hw_8 hP hD hS => ?_)
    have hw_8 : zi_7 = if 0 ≤ zib.toInt ∧ zib.toInt ≤ 1 then 1 else 0 := hw_8
    have b_zi_7 : 0 ≤ zi_7.toInt ∧ zi_7.toInt ≤ 1 := bz_b hw_8
    refine lv_if_ne (tgt := 17) hx hb dX10_holds_12 (by decide) (fun c_10 => ?_) (fun c_10 => ?_)
    · have f_11 : 0 ≤ zib.toInt ∧ zib.toInt ≤ 1 := bz_1 hw_8 c_10
      refine lv_aload_n hx hb dX10_holds_17 rfl (lv_at hl 0 rfl) ?_
      refine ht_getr (C := RX10) (T := TX10) (N := 10) hx hb hts (by decide +kernel) hown hK hP hs t_zx (by decide) rfl rfl 0 (by decide) (hts (.fieldLink RX10 12 "DripStone" "now" "LDripStone$State;") (by decide +kernel)) (fun _ h9 => h9) rfl dX10_holds_18 ?_
      have t_12 : zT (zR zx 0) = 9 := sk_f hs t_zx (by decide) rfl (by decide)
      refine ht_getr (C := RX8) (T := TX8) (N := 9) hx hb hts (by decide +kernel) hown hK hP hs t_12 (by decide) rfl rfl 2 (by decide) (hts (.fieldLink RX10 147 "DripStone$State" "candles" "[LDripStone$Candle;") (by decide +kernel)) (fun _ h9 => h9) rfl dX10_holds_21 ?_
      have t_13 : zT (zR (zR zx 0) 2) = 61 := sk_f hs t_12 (by decide) rfl (by decide)
      refine lv_iload_n hx hb dX10_holds_24 rfl (lv_at hl 2 rfl) ?_
      refine ht_aald (n := 2) (q := 3) hx hb hK hP hs t_13 (by decide) rfl rfl ⟨by omega, by omega⟩ dX10_holds_25 ?_
      have t_14 : zT (zR (zR (zR zx 0) 2) zib.toNatClampNeg) = 1 := sk_a (n := 2) hs t_13 rfl rfl (by decide) (cl_lt (by omega) (by omega))
      refine lv_astore_n (lv' := [(3, .ref (zR (zR (zR zx 0) 2) zib.toNatClampNeg)), (0, .ref zx), (1, .int zia), (2, .int zib)]) hx hb dX10_holds_26 rfl hl (by decide) rfl (fun ls hl => ?_)
      refine lv_aload_n hx hb dX10_holds_27 rfl (lv_at hl 0 rfl) ?_
      refine ht_geti (C := RX0) (T := TX0) (N := 11) hx hb hts (by decide +kernel) hown hK hP hs t_14 (by decide) rfl rfl 10 (by decide) (hts (.fieldLink RX10 173 "DripStone$Candle" "made" "Z") (by decide +kernel)) (fun _ h9 => h9) rfl dX10_holds_28 ?_
      refine lv_topi (fun zi_15 ezi_15 => ?_)
      have tzi_15 : 0 ≤ zi_15.toInt ∧ zi_15.toInt ≤ 1 := by rw [ezi_15]; exact h_zI.at t_14 _ rfl
      refine lv_if_ne (tgt := 37) hx hb dX10_holds_31 (by decide) (fun c_16 => ?_) (fun c_16 => ?_)
      · have f_17 : zi_15.toInt ≠ 0 := ic_ne (rfl) (by decide) c_16
        refine lv_aload_n hx hb dX10_holds_37 rfl (lv_at hl 1 rfl) ?_
        refine ht_getr (C := RX10) (T := TX10) (N := 10) hx hb hts (by decide +kernel) hown hK hP hs t_zx (by decide) rfl rfl 0 (by decide) (hts (.fieldLink RX10 12 "DripStone" "now" "LDripStone$State;") (by decide +kernel)) (fun _ h9 => h9) rfl dX10_holds_38 ?_
        refine ht_getr (C := RX8) (T := TX8) (N := 9) hx hb hts (by decide +kernel) hown hK hP hs t_12 (by decide) rfl rfl 4 (by decide) (hts (.fieldLink RX10 331 "DripStone$State" "claims" "[LDripStone$Claim;") (by decide +kernel)) (fun _ h9 => h9) rfl dX10_holds_41 ?_
        have t_18 : zT (zR (zR zx 0) 4) = 62 := sk_f hs t_12 (by decide) rfl (by decide)
        refine lv_iload_n hx hb dX10_holds_44 rfl (lv_at hl 2 rfl) ?_
        refine ht_aald (n := 4) (q := 4) hx hb hK hP hs t_18 (by decide) rfl rfl ⟨by omega, by omega⟩ dX10_holds_45 ?_
        have t_19 : zT (zR (zR (zR zx 0) 4) zia.toNatClampNeg) = 2 := sk_a (n := 4) hs t_18 rfl rfl (by decide) (cl_lt (by omega) (by omega))
        refine lv_astore (lv' := [(4, .ref (zR (zR (zR zx 0) 4) zia.toNatClampNeg)), (3, .ref (zR (zR (zR zx 0) 2) zib.toNatClampNeg)), (0, .ref zx), (1, .int zia), (2, .int zib)]) hx hb dX10_holds_46 hl (by decide) rfl (fun ls hl => ?_)
        refine lv_aload hx hb dX10_holds_48 (lv_at hl 0 rfl) ?_
        refine lv_aload hx hb dX10_holds_50 (lv_at hl 0 rfl) ?_
        refine lv_iconst (v := 0) hx hb dX10_holds_52 (by decide) ?_
        refine lv_aload_n hx hb dX10_holds_53 rfl (lv_at hl 1 rfl) ?_
        have qc_0 : (0 : Int32).toInt = 0 := by decide
        refine hj_i (ws := (WL cy zL zT zR zI zJ)) (w1 := fun (u : Unit) => (WL cy zL zT zR zI zJ)) (va_runV (As := [.int 0, .ref (zR (zR (zR zx 0) 2) zib.toNatClampNeg)]) (rest := [.ref (zR (zR (zR zx 0) 4) zia.toNatClampNeg)]) ⟨hx, hb, hml, hown, hts⟩ (t_X1_seenInTruth l dC dI cy H.size zL zT zR zI zJ (zR (zR (zR zx 0) 4) zia.toNatClampNeg) (0 : Int32) (zR (zR (zR zx 0) 2) zib.toNatClampNeg) hs h_zI.1 t_19 t_14 (by decide)) (cwV 2 hts gX10_holds_X1_seenInTruth rfl rfl rfl (by decide +kernel) ⟨(Nat.le_of_ble_eq_true rfl), (Nat.le_of_ble_eq_true rfl)⟩) (PRE.v hP hK hD hN (ht_recv hK hP hs t_19 (by decide) rfl rfl)) rfl rfl hl.1 rfl (lv_room (Nat.le_of_ble_eq_true rfl)) dX10_holds_54 ⟨(Nat.le_of_ble_eq_true rfl), (Nat.le_of_ble_eq_true rfl)⟩) hP hD hS hA (fun zi_20 u_22 H locs hw_21 hP hD hS => ?_)
        have rzi_20 := rng zi_20
        refine lv_aload hx hb dX10_holds_57 (lv_at hl 0 rfl) ?_
        refine lv_iconst (v := 1) hx hb dX10_holds_59 (by decide) ?_
        refine lv_aload_n hx hb dX10_holds_60 rfl (lv_at hl 1 rfl) ?_
        have qc_1 : (1 : Int32).toInt = 1 := by decide
        refine hj_i (ws := (WL cy zL zT zR zI zJ)) (w1 := fun (u : Unit) => (WL cy zL zT zR zI zJ)) (va_runV (As := [.int 1, .ref (zR (zR (zR zx 0) 2) zib.toNatClampNeg)]) (rest := [.int zi_20, .ref (zR (zR (zR zx 0) 4) zia.toNatClampNeg)]) ⟨hx, hb, hml, hown, hts⟩ (t_X1_seenInTruth l dC dI cy H.size zL zT zR zI zJ (zR (zR (zR zx 0) 4) zia.toNatClampNeg) (1 : Int32) (zR (zR (zR zx 0) 2) zib.toNatClampNeg) hs h_zI.1 t_19 t_14 (by decide)) (cwV 2 hts gX10_holds_X1_seenInTruth rfl rfl rfl (by decide +kernel) ⟨(Nat.le_of_ble_eq_true rfl), (Nat.le_of_ble_eq_true rfl)⟩) (PRE.v hP hK hD hN (ht_recv hK hP hs t_19 (by decide) rfl rfl)) rfl rfl hl.1 rfl (lv_room (Nat.le_of_ble_eq_true rfl)) dX10_holds_61 ⟨(Nat.le_of_ble_eq_true rfl), (Nat.le_of_ble_eq_true rfl)⟩) hP hD hS hA (fun zi_23 u_25 H locs hw_24 hP hD hS => ?_)
        have rzi_23 := rng zi_23
        refine hj_i (ws := (WL cy zL zT zR zI zJ)) (w1 := fun (u : Unit) => (WL cy zL zT zR zI zJ)) (va_runV (As := [.int zi_20, .int zi_23]) (rest := []) ⟨hx, hb, hml, hown, hts⟩ (t_X1_isSo l dC dI cy H.size zL zT zR zI zJ (zR (zR (zR zx 0) 4) zia.toNatClampNeg) zi_20 zi_23 hs h_zI.1 t_19) (cwV 2 hts gX10_holds_X1_isSo rfl rfl rfl (by decide +kernel) ⟨(Nat.le_of_ble_eq_true rfl), (Nat.le_of_ble_eq_true rfl)⟩) (PRE.v hP hK hD hN (ht_recv hK hP hs t_19 (by decide) rfl rfl)) rfl rfl hl.1 rfl (lv_room (Nat.le_of_ble_eq_true rfl)) dX10_holds_64 ⟨(Nat.le_of_ble_eq_true rfl), (Nat.le_of_ble_eq_true rfl)⟩) hP hD hS hA (fun zi_26 u_28 H locs hw_27 hP hD hS => ?_)
        have b_zi_26 : 0 ≤ zi_26.toInt ∧ zi_26.toInt ≤ 1 := hw_27
        refine lv_if_eq (tgt := 74) hx hb dX10_holds_67 (by decide) (fun c_29 => ?_) (fun c_29 => ?_)
        · have f_30 : zi_26.toInt = 0 := ic_eq (rfl) (by decide) c_29
          refine lv_iconst (v := 0) hx hb dX10_holds_74 (by decide) ?_
          subst hQ
          exact W.iret (v := (0 : Int32)) hx hb hr (fun t ht hW => ⟨⟨(0 : Int32), (), rfl, ⟨(show (-2) ≤ (0 : Int32).toInt ∧ (0 : Int32).toInt ≤ 1 from by omega), (show JX zR zI zx from hj)⟩, ⟨by rw [ht]; exact hP, va_K.moved hW.alike hK, hD⟩⟩, hS.F ht⟩) hS.2.2 dX10_holds_75
        · have f_30 : ¬ (zi_26.toInt = 0) := ic_neq (rfl) (by decide) c_29
          refine lv_iconst (v := 1) hx hb dX10_holds_70 (by decide) ?_
          refine lv_goto (tgt := 75) hx hb dX10_holds_71 (by decide) ?_
          subst hQ
          exact W.iret (v := (1 : Int32)) hx hb hr (fun t ht hW => ⟨⟨(1 : Int32), (), rfl, ⟨(show (-2) ≤ (1 : Int32).toInt ∧ (1 : Int32).toInt ≤ 1 from by omega), (show JX zR zI zx from hj)⟩, ⟨by rw [ht]; exact hP, va_K.moved hW.alike hK, hD⟩⟩, hS.F ht⟩) hS.2.2 dX10_holds_75
      · have f_17 : ¬ (zi_15.toInt ≠ 0) := ic_nne (rfl) (by decide) c_16
        refine lv_bipush (v := (-2)) hx hb dX10_holds_34 (by decide) ?_
        subst hQ
        have qc_m2 : (-2 : Int32).toInt = -2 := by decide
        exact W.iret (v := (-2 : Int32)) hx hb hr (fun t ht hW => ⟨⟨(-2 : Int32), (), rfl, ⟨(show (-2) ≤ (-2 : Int32).toInt ∧ (-2 : Int32).toInt ≤ 1 from by omega), (show JX zR zI zx from hj)⟩, ⟨by rw [ht]; exact hP, va_K.moved hW.alike hK, hD⟩⟩, hS.F ht⟩) hS.2.2 dX10_holds_36
    · have f_11 : ¬ (0 ≤ zib.toInt ∧ zib.toInt ≤ 1) := bz_0 hw_8 c_10
      refine lv_iconst (v := (-1)) hx hb dX10_holds_15 (by decide) ?_
      subst hQ
      have qc_m1 : (-1 : Int32).toInt = -1 := by decide
      exact W.iret (v := (-1 : Int32)) hx hb hr (fun t ht hW => ⟨⟨(-1 : Int32), (), rfl, ⟨(show (-2) ≤ (-1 : Int32).toInt ∧ (-1 : Int32).toInt ≤ 1 from by omega), (show JX zR zI zx from hj)⟩, ⟨by rw [ht]; exact hP, va_K.moved hW.alike hK, hD⟩⟩, hS.F ht⟩) hS.2.2 dX10_holds_16
set_option maxHeartbeats 8000000 in
set_option maxRecDepth 100000 in
theorem t_X10_looked (l : Launch) (dC : Nat → ClassId) (dI : Nat → Nat → Nat) (cy : Nat → ClassId) (sz : Nat) (zL : List Nat) (zT : Nat → Nat) (zR : Nat → Nat → Nat) (zI : Nat → Nat → Int32) (zJ : Nat → Nat → Int64) (zx : Nat) (zia : Int32) (zib : Int32) (zic : Int32) (zid : Int32) (zie : Int32) (hs : SKP zL zT zR) (hw : WT zT zR zI) (t_zx : zT zx = 11) (hj : JX zR zI zx) : Met l yX10_looked wsX10_looked ({ frames := 5, cells := 0, slots := 0, locals := 126 } : Room) (va_Pc [.ref zx, .int zia, .int zib, .int zic, .int zid, .int zie] (PRE dC dI cy (WL cy zL zT zR zI zJ) sz)) (va_Qi (fun (r : Int32) (u : (Nat → Nat → Int32) × (Nat → Nat → Int64)) => (WM [607, 608, 1013, 1014, 3700, 3800, 3900, 4000, 4200, 4400, 4500, 4600, 4700] AL zT zR zI u.1) ∧ (JX zR u.1 zx)) (fun u t => POST dC dI cy (va_A (WL cy zL zT zR zI zJ) sz) (WL cy zL zT zR u.1 u.2) t) (va_A (WL cy zL zT zR zI zJ) sz)) 0 0 (va_A (WL cy zL zT zR zI zJ) sz) := by
  refine Met.ofW (cc := cX10_looked) (maxL := 11) (ret := (some .int)) (by decide) rfl ?_
  intro p e s m args below meth c s₁ B hml hv
  obtain ⟨rfl, hsz, hP, hK, hD0, hN⟩ := hv
  have hx := B.exec
  have hb := B.bytes
  have hr := B.returns
  have hts := atoms_spec (ws := wsX10_looked) B.pre
  have hown : s.vm.findClass RX10 = some m.cls := findClass_of_methodNamed B.named
  have hlocks := B.notSynchronized
  subst hsz
  have hD := hD0.self (sz := s.heap.size)
  generalize hAe : va_A (WL cy zL zT zR zI zJ) s.heap.size = A at hD ⊢
  have hA : ∀ q : Nat, s.heap.size ≤ q → A q := fun q h => by rw [← hAe]; exact Or.inr h
  have hS : va_S A s.heap s.heap [] := va_S.rf
  have hP : va_P (dC, dI) vwCl (WL cy zL zT zR zI zJ) s.heap := hP
  have hl := lv_entry ([.ref zx, .int zia, .int zib, .int zic, .int zid, .int zie] : List Value) (n := 11) (Nat.le_of_ble_eq_true rfl)
  rw [lg_entry_eq]
  generalize (lg_sl ([.ref zx, .int zia, .int zib, .int zic, .int zid, .int zie] : List Value) ++ List.replicate (11 - (lg_sl ([.ref zx, .int zia, .int zib, .int zic, .int zid, .int zie] : List Value)).length) Slot.unset).toArray = ls at hl ⊢
  have hl : lv_has ls 11 [(0, .ref zx), (1, .int zia), (2, .int zib), (3, .int zic), (4, .int zid), (5, .int zie)] := hl
  refine w_q (fun Q hQ => ?_)
  have h_zI : WM [607, 608, 1013, 1014, 3700, 3800, 3900, 4000, 4200, 4400, 4500, 4600, 4700] AL zT zR zI zI := WM.rf hw
  refine lv_aload_n hx hb dX10_looked_0 rfl (lv_at hl 0 rfl) ?_
  refine lv_iload_n hx hb dX10_looked_1 rfl (lv_at hl 1 rfl) ?_
  refine hj_i (ws := (WL cy zL zT zR zI zJ)) (w1 := fun (u : Unit) => (WL cy zL zT zR zI zJ)) (va_runV (As := [.int zia]) (rest := []) ⟨hx, hb, hml, hown, hts⟩ (t_X10_isClaim l dC dI cy s.heap.size zL zT zR zI zJ zx zia hs h_zI.1 t_zx) (cwV 1 hts gX10_looked_X10_isClaim rfl rfl rfl (by decide +kernel) ⟨(Nat.le_of_ble_eq_true rfl), (Nat.le_of_ble_eq_true rfl)⟩) (PRE.v hP hK hD hN (ht_recv hK hP hs t_zx (by decide) rfl rfl)) rfl rfl hl.1 rfl (lv_room (Nat.le_of_ble_eq_true rfl)) dX10_looked_2 ⟨(Nat.le_of_ble_eq_true rfl), (Nat.le_of_ble_eq_true rfl)⟩) hP hD hS hA (fun zi_1 u_3 H locs hw_2 hP hD hS => ?_)
  obtain ⟨b_zi_1, ps_4⟩ : (0 ≤ zi_1.toInt ∧ zi_1.toInt ≤ 1) ∧ (zi_1.toInt = 0 ∨ (0 ≤ zia.toInt ∧ zia.toInt ≤ 3)) := hw_2
  refine lv_if_eq (tgt := 25) hx hb dX10_looked_5 (by decide) (fun c_5 => ?_) (fun c_5 => ?_)
  · have f_6 : zi_1.toInt = 0 := ic_eq (rfl) (by decide) c_5
    refine lv_iconst (v := (-1)) hx hb dX10_looked_25 (by decide) ?_
    subst hQ
    exact W.iret (v := (-1 : Int32)) hx hb hr (fun t ht hW => ⟨⟨(-1 : Int32), (zI, zJ), rfl, ⟨h_zI, (show JX zR zI zx from hj)⟩, ⟨by rw [ht]; exact hP, va_K.moved hW.alike hK, hD⟩⟩, hS.F ht⟩) hS.2.2 dX10_looked_26
  · have f_6 : ¬ (zi_1.toInt = 0) := ic_neq (rfl) (by decide) c_5
    have b9_zia : 0 ≤ zia.toInt ∧ zia.toInt ≤ 3 := by omega
    refine lv_iload_n hx hb dX10_looked_8 rfl (lv_at hl 2 rfl) ?_
    refine hj0_i (ws := (WL cy zL zT zR zI zJ)) (va_runS (As := [.int zib]) (rest := []) ⟨hx, hb, hml, hown, hts⟩ (c_X10_isCandle l dC dI cy H.size zib) (va_cwS 1 hts gX10_looked_X10_isCandle rfl rfl rfl (by decide +kernel) ⟨(Nat.le_of_ble_eq_true rfl), (Nat.le_of_ble_eq_true rfl)⟩) (PRE.s (hP.sub [] rfl) hK (hD.sub [] (by decide) rfl) hN) rfl rfl hl.1 rfl (lv_room (Nat.le_of_ble_eq_true rfl)) dX10_looked_9 ⟨(Nat.le_of_ble_eq_true rfl), (Nat.le_of_ble_eq_true rfl)⟩) hP hD hS hA (fun zi_7 u_9 H locs hw_8 hP hD hS => ?_)
    have hw_8 : zi_7 = if 0 ≤ zib.toInt ∧ zib.toInt ≤ 1 then 1 else 0 := hw_8
    have b_zi_7 : 0 ≤ zi_7.toInt ∧ zi_7.toInt ≤ 1 := bz_b hw_8
    refine lv_if_eq (tgt := 25) hx hb dX10_looked_12 (by decide) (fun c_10 => ?_) (fun c_10 => ?_)
    · have f_11 : ¬ (0 ≤ zib.toInt ∧ zib.toInt ≤ 1) := bz_0 hw_8 c_10
      refine lv_iconst (v := (-1)) hx hb dX10_looked_25 (by decide) ?_
      subst hQ
      exact W.iret (v := (-1 : Int32)) hx hb hr (fun t ht hW => ⟨⟨(-1 : Int32), (zI, zJ), rfl, ⟨h_zI, (show JX zR zI zx from hj)⟩, ⟨by rw [ht]; exact hP, va_K.moved hW.alike hK, hD⟩⟩, hS.F ht⟩) hS.2.2 dX10_looked_26
    · have f_11 : 0 ≤ zib.toInt ∧ zib.toInt ≤ 1 := bz_1 hw_8 c_10
      refine lv_iload hx hb dX10_looked_15 (lv_at hl 5 rfl) ?_
      refine lv_iconst (v := 0) hx hb dX10_looked_17 (by decide) ?_
      refine lv_iconst (v := 1) hx hb dX10_looked_18 (by decide) ?_
      refine hj0_i (ws := (WL cy zL zT zR zI zJ)) (va_runS (As := [.int zie, .int 0, .int 1]) (rest := []) ⟨hx, hb, hml, hown, hts⟩ (c_X10_isWithin l dC dI cy H.size zie 0 1 0 1 (by first | rfl | decide | omega | exact Int32.toInt_toInt64 _) (by first | rfl | decide | omega | exact Int32.toInt_toInt64 _)) (va_cwS 3 hts gX10_looked_X10_isWithin rfl rfl rfl (by decide +kernel) ⟨(Nat.le_of_ble_eq_true rfl), (Nat.le_of_ble_eq_true rfl)⟩) (PRE.s (hP.sub [] rfl) hK (hD.sub [] (by decide) rfl) hN) rfl rfl hl.1 rfl (lv_room (Nat.le_of_ble_eq_true rfl)) dX10_looked_19 ⟨(Nat.le_of_ble_eq_true rfl), (Nat.le_of_ble_eq_true rfl)⟩) hP hD hS hA (fun zi_12 u_14 H locs hw_13 hP hD hS => ?_)
      have hw_13 : zi_12 = if 0 ≤ zie.toInt ∧ zie.toInt ≤ 1 then 1 else 0 := hw_13
      have b_zi_12 : 0 ≤ zi_12.toInt ∧ zi_12.toInt ≤ 1 := bz_b hw_13
      refine lv_if_ne (tgt := 27) hx hb dX10_looked_22 (by decide) (fun c_15 => ?_) (fun c_15 => ?_)
      · have f_16 : 0 ≤ zie.toInt ∧ zie.toInt ≤ 1 := bz_1 hw_13 c_15
        refine lv_iload hx hb dX10_looked_27 (lv_at hl 4 rfl) ?_
        refine lv_iconst (v := 1) hx hb dX10_looked_29 (by decide) ?_
        refine lv_sipush (v := 1000) hx hb dX10_looked_30 (by decide) ?_
        refine hj0_i (ws := (WL cy zL zT zR zI zJ)) (va_runS (As := [.int zid, .int 1, .int 1000]) (rest := []) ⟨hx, hb, hml, hown, hts⟩ (c_X10_isWithin l dC dI cy H.size zid 1 1000 1 1000 (by first | rfl | decide | omega | exact Int32.toInt_toInt64 _) (by first | rfl | decide | omega | exact Int32.toInt_toInt64 _)) (va_cwS 3 hts gX10_looked_X10_isWithin rfl rfl rfl (by decide +kernel) ⟨(Nat.le_of_ble_eq_true rfl), (Nat.le_of_ble_eq_true rfl)⟩) (PRE.s (hP.sub [] rfl) hK (hD.sub [] (by decide) rfl) hN) rfl rfl hl.1 rfl (lv_room (Nat.le_of_ble_eq_true rfl)) dX10_looked_33 ⟨(Nat.le_of_ble_eq_true rfl), (Nat.le_of_ble_eq_true rfl)⟩) hP hD hS hA (fun zi_17 u_19 H locs hw_18 hP hD hS => ?_)
        have hw_18 : zi_17 = if 1 ≤ zid.toInt ∧ zid.toInt ≤ 1000 then 1 else 0 := hw_18
        have b_zi_17 : 0 ≤ zi_17.toInt ∧ zi_17.toInt ≤ 1 := bz_b hw_18
        refine lv_if_eq (tgt := 49) hx hb dX10_looked_36 (by decide) (fun c_20 => ?_) (fun c_20 => ?_)
        · have f_21 : ¬ (1 ≤ zid.toInt ∧ zid.toInt ≤ 1000) := bz_0 hw_18 c_20
          refine lv_iconst (v := (-1)) hx hb dX10_looked_49 (by decide) ?_
          subst hQ
          exact W.iret (v := (-1 : Int32)) hx hb hr (fun t ht hW => ⟨⟨(-1 : Int32), (zI, zJ), rfl, ⟨h_zI, (show JX zR zI zx from hj)⟩, ⟨by rw [ht]; exact hP, va_K.moved hW.alike hK, hD⟩⟩, hS.F ht⟩) hS.2.2 dX10_looked_50
        · have f_21 : 1 ≤ zid.toInt ∧ zid.toInt ≤ 1000 := bz_1 hw_18 c_20
          refine lv_iload_n hx hb dX10_looked_39 rfl (lv_at hl 3 rfl) ?_
          refine lv_iconst (v := 0) hx hb dX10_looked_40 (by decide) ?_
          refine lv_iload hx hb dX10_looked_41 (lv_at hl 4 rfl) ?_
          refine hj0_i (ws := (WL cy zL zT zR zI zJ)) (va_runS (As := [.int zic, .int 0, .int zid]) (rest := []) ⟨hx, hb, hml, hown, hts⟩ (c_X10_isWithin l dC dI cy H.size zic 0 zid 0 zid.toInt (by first | rfl | decide | omega | exact Int32.toInt_toInt64 _) (by first | rfl | decide | omega | exact Int32.toInt_toInt64 _)) (va_cwS 3 hts gX10_looked_X10_isWithin rfl rfl rfl (by decide +kernel) ⟨(Nat.le_of_ble_eq_true rfl), (Nat.le_of_ble_eq_true rfl)⟩) (PRE.s (hP.sub [] rfl) hK (hD.sub [] (by decide) rfl) hN) rfl rfl hl.1 rfl (lv_room (Nat.le_of_ble_eq_true rfl)) dX10_looked_43 ⟨(Nat.le_of_ble_eq_true rfl), (Nat.le_of_ble_eq_true rfl)⟩) hP hD hS hA (fun zi_22 u_24 H locs hw_23 hP hD hS => ?_)
          have hw_23 : zi_22 = if 0 ≤ zic.toInt ∧ zic.toInt ≤ zid.toInt then 1 else 0 := hw_23
          have b_zi_22 : 0 ≤ zi_22.toInt ∧ zi_22.toInt ≤ 1 := bz_b hw_23
          refine lv_if_ne (tgt := 51) hx hb dX10_looked_46 (by decide) (fun c_25 => ?_) (fun c_25 => ?_)
          · have f_26 : 0 ≤ zic.toInt ∧ zic.toInt ≤ zid.toInt := bz_1 hw_23 c_25
            refine lv_aload_n hx hb dX10_looked_51 rfl (lv_at hl 0 rfl) ?_
            refine ht_getr (C := RX10) (T := TX10) (N := 10) hx hb hts (by decide +kernel) hown hK hP hs t_zx (by decide) rfl rfl 0 (by decide) (hts (.fieldLink RX10 12 "DripStone" "now" "LDripStone$State;") (by decide +kernel)) (fun _ h9 => h9) rfl dX10_looked_52 ?_
            have t_27 : zT (zR zx 0) = 9 := sk_f hs t_zx (by decide) rfl (by decide)
            refine ht_getr (C := RX8) (T := TX8) (N := 9) hx hb hts (by decide +kernel) hown hK hP hs t_27 (by decide) rfl rfl 2 (by decide) (hts (.fieldLink RX10 147 "DripStone$State" "candles" "[LDripStone$Candle;") (by decide +kernel)) (fun _ h9 => h9) rfl dX10_looked_55 ?_
            have t_28 : zT (zR (zR zx 0) 2) = 61 := sk_f hs t_27 (by decide) rfl (by decide)
            refine lv_iload_n hx hb dX10_looked_58 rfl (lv_at hl 2 rfl) ?_
            refine ht_aald (n := 2) (q := 3) hx hb hK hP hs t_28 (by decide) rfl rfl ⟨by omega, by omega⟩ dX10_looked_59 ?_
            have t_29 : zT (zR (zR (zR zx 0) 2) zib.toNatClampNeg) = 1 := sk_a (n := 2) hs t_28 rfl rfl (by decide) (cl_lt (by omega) (by omega))
            refine lv_astore (lv' := [(6, .ref (zR (zR (zR zx 0) 2) zib.toNatClampNeg)), (0, .ref zx), (1, .int zia), (2, .int zib), (3, .int zic), (4, .int zid), (5, .int zie)]) hx hb dX10_looked_60 hl (by decide) rfl (fun ls hl => ?_)
            refine lv_aload hx hb dX10_looked_62 (lv_at hl 0 rfl) ?_
            refine hj_i (ws := (WL cy zL zT zR zI zJ)) (w1 := fun (u : Unit) => (WL cy zL zT zR zI zJ)) (va_runV (As := []) (rest := []) ⟨hx, hb, hml, hown, hts⟩ (t_X0_places l dC dI cy H.size zL zT zR zI zJ (zR (zR (zR zx 0) 2) zib.toNatClampNeg) hs h_zI.1 t_29) (cwV 0 hts gX10_looked_X0_places rfl rfl rfl (by decide +kernel) ⟨(Nat.le_of_ble_eq_true rfl), (Nat.le_of_ble_eq_true rfl)⟩) (PRE.v hP hK hD hN (ht_recv hK hP hs t_29 (by decide) rfl rfl)) rfl rfl hl.1 rfl (lv_room (Nat.le_of_ble_eq_true rfl)) dX10_looked_64 ⟨(Nat.le_of_ble_eq_true rfl), (Nat.le_of_ble_eq_true rfl)⟩) hP hD hS hA (fun zi_30 u_32 H locs hw_31 hP hD hS => ?_)
            obtain ⟨b_zi_30, ps_33⟩ : (0 ≤ zi_30.toInt ∧ zi_30.toInt ≤ 12) ∧ (zi_30.toInt = PL (zI (zR (zR (zR (zR zx 0) 2) zib.toNatClampNeg) 0)) ((zI (zR (zR (zR zx 0) 2) zib.toNatClampNeg) 7).toInt).toNat) := hw_31
            obtain ⟨zi_34, ezi_34⟩ : ∃ y : Int32, y = zI (zR (zR (zR zx 0) 2) zib.toNatClampNeg) 7 := ⟨_, rfl⟩
            have tzi_34 : 0 ≤ zi_34.toInt ∧ zi_34.toInt ≤ 12 := by rw [ezi_34]; exact h_zI.at t_29 _ rfl
            have lk_35 : (zI (zR (zR (zR zx 0) 2) zib.toNatClampNeg) 7).toInt = zi_34.toInt := congrArg Int32.toInt ezi_34.symm
            refine lv_if_ne (tgt := 73) hx hb dX10_looked_67 (by decide) (fun c_36 => ?_) (fun c_36 => ?_)
            · have f_37 : zi_30.toInt ≠ 0 := ic_ne (rfl) (by decide) c_36
              refine lv_aload_n hx hb dX10_looked_73 rfl (lv_at hl 1 rfl) ?_
              refine lv_iload_n hx hb dX10_looked_74 rfl (lv_at hl 3 rfl) ?_
              refine hj_r (ws := (WL cy zL zT zR zI zJ)) (w1 := fun (u : (Nat → Nat → Int32) × (Nat → Nat → Int64)) => (WL cy zL zT zR u.1 u.2)) (va_runV (As := [.int zib]) (rest := []) ⟨hx, hb, hml, hown, hts⟩ (t_X10_lineOf l dC dI cy H.size zL zT zR zI zJ zx zib hs h_zI.1 t_zx (by omega) (by omega)) (cwV 1 hts gX10_looked_X10_lineOf rfl rfl rfl (by decide +kernel) ⟨(Nat.le_of_ble_eq_true rfl), (Nat.le_of_ble_eq_true rfl)⟩) (PRE.v hP hK hD hN (ht_recv hK hP hs t_zx (by decide) rfl rfl)) rfl rfl hl.1 rfl (lv_room (Nat.le_of_ble_eq_true rfl)) dX10_looked_75 ⟨(Nat.le_of_ble_eq_true rfl), (Nat.le_of_ble_eq_true rfl)⟩) hP hD hS hA (fun zi_38 u_40 H locs hw_39 hr0 hP hD hS => ?_)
              obtain ⟨zI_41, zJ_42⟩ := u_40
              obtain ⟨k_zI_41, ps_43, ps_44⟩ : (WM [1013, 1014, 3700, 3800, 3900, 4000, 4200, 4700] AL zT zR zI zI_41) ∧ (JX zR zI_41 zx) ∧ (LW zR zI_41 (zR (zR zx 6) zib.toNatClampNeg) (zR (zR (zR zx 0) 2) zib.toNatClampNeg)) := hw_39
              have h_zI_41 : WM [607, 608, 1013, 1014, 3700, 3800, 3900, 4000, 4200, 4400, 4500, 4600, 4700] AL zT zR zI zI_41 := h_zI.tr k_zI_41 (by decide) (fun _ _ => trivial)
              subst hr0
              have t_45 : zT (zR zx 6) = 64 := sk_f hs t_zx (by decide) rfl (by decide)
              have t_46 : zT (zR (zR zx 6) zib.toNatClampNeg) = 10 := sk_a (n := 2) hs t_45 rfl rfl (by decide) (cl_lt (by omega) (by omega))
              refine lv_astore (lv' := [(7, .ref (zR (zR zx 6) zib.toNatClampNeg)), (6, .ref (zR (zR (zR zx 0) 2) zib.toNatClampNeg)), (0, .ref zx), (1, .int zia), (2, .int zib), (3, .int zic), (4, .int zid), (5, .int zie)]) hx hb dX10_looked_78 hl (by decide) rfl (fun ls hl => ?_)
              refine lv_aload hx hb dX10_looked_80 (lv_at hl 0 rfl) ?_
              refine ht_getl (C := RX9) (T := TX9) (N := 16) hx hb hts (by decide +kernel) hown hK hP hs t_46 (by decide) rfl rfl 15 (by decide) (hts (.fieldLink RX10 242 "DripStone$Ways" "total" "J") (by decide +kernel)) (fun _ h9 => h9) rfl dX10_looked_82 ?_
              refine lv_topl (fun zj_47 ezj_47 => ?_)
              refine lv_lconst (v := 0) hx hb dX10_looked_85 (by decide) ?_
              refine W.lcmp hx hb dX10_looked_86 ?_
              refine lv_topi (fun zi_48 ezi_48 => ?_)
              refine lv_if_ne (tgt := 93) hx hb dX10_looked_87 (by decide) (fun c_49 => ?_) (fun c_49 => ?_)
              · have f_50 : ¬ (zj_47.toInt = (0 : Int)) := lk_ne ezi_48 (rfl) (show (0 : Int64).toInt = 0 by decide) c_49
                refine lv_bipush (v := 24) hx hb dX10_looked_93 (by decide) ?_
                refine lv_aload_n hx hb dX10_looked_95 rfl (lv_at hl 2 rfl) ?_
                refine ht_getr (C := RX10) (T := TX10) (N := 10) hx hb hts (by decide +kernel) hown hK hP hs t_zx (by decide) rfl rfl 0 (by decide) (hts (.fieldLink RX10 12 "DripStone" "now" "LDripStone$State;") (by decide +kernel)) (fun _ h9 => h9) rfl dX10_looked_96 ?_
                refine ht_getr (C := RX8) (T := TX8) (N := 9) hx hb hts (by decide +kernel) hown hK hP hs t_27 (by decide) rfl rfl 4 (by decide) (hts (.fieldLink RX10 331 "DripStone$State" "claims" "[LDripStone$Claim;") (by decide +kernel)) (fun _ h9 => h9) rfl dX10_looked_99 ?_
                have t_51 : zT (zR (zR zx 0) 4) = 62 := sk_f hs t_27 (by decide) rfl (by decide)
                refine lv_iload_n hx hb dX10_looked_102 rfl (lv_at hl 3 rfl) ?_
                refine ht_aald (n := 4) (q := 4) hx hb hK hP hs t_51 (by decide) rfl rfl ⟨by omega, by omega⟩ dX10_looked_103 ?_
                have t_52 : zT (zR (zR (zR zx 0) 4) zia.toNatClampNeg) = 2 := sk_a (n := 4) hs t_51 rfl rfl (by decide) (cl_lt (by omega) (by omega))
                refine hj_i (ws := (WL cy zL zT zR zI_41 zJ_42)) (w1 := fun (u : Unit) => (WL cy zL zT zR zI_41 zJ_42)) (va_runV (As := []) (rest := [.int 24]) ⟨hx, hb, hml, hown, hts⟩ (t_X1_latest l dC dI cy H.size zL zT zR zI_41 zJ_42 (zR (zR (zR zx 0) 4) zia.toNatClampNeg) hs h_zI_41.1 t_52) (cwV 0 hts gX10_looked_X1_latest rfl rfl rfl (by decide +kernel) ⟨(Nat.le_of_ble_eq_true rfl), (Nat.le_of_ble_eq_true rfl)⟩) (PRE.v hP hK hD hN (ht_recv hK hP hs t_52 (by decide) rfl rfl)) rfl rfl hl.1 rfl (lv_room (Nat.le_of_ble_eq_true rfl)) dX10_looked_104 ⟨(Nat.le_of_ble_eq_true rfl), (Nat.le_of_ble_eq_true rfl)⟩) hP hD hS hA (fun zi_53 u_55 H locs hw_54 hP hD hS => ?_)
                have rzi_53 := rng zi_53
                refine lv_isub hx hb dX10_looked_107 ?_
                refine lv_topi (fun zi_56 ezi_56 => ?_)
                have rzi_56 := rng zi_56
                refine lv_istore (lv' := [(8, .int zi_56), (7, .ref (zR (zR zx 6) zib.toNatClampNeg)), (6, .ref (zR (zR (zR zx 0) 2) zib.toNatClampNeg)), (0, .ref zx), (1, .int zia), (2, .int zib), (3, .int zic), (4, .int zid), (5, .int zie)]) hx hb dX10_looked_108 hl (by decide) rfl (fun ls hl => ?_)
                refine lv_iload hx hb dX10_looked_110 (lv_at hl 8 rfl) ?_
                refine lv_if_ne (tgt := 118) hx hb dX10_looked_112 (by decide) (fun c_57 => ?_) (fun c_57 => ?_)
                · have f_58 : zie.toInt ≠ 0 := ic_ne (rfl) (by decide) c_57
                  refine lv_iconst (v := 0) hx hb dX10_looked_118 (by decide) ?_
                  refine lv_istore (lv' := [(9, .int 0), (8, .int zi_56), (7, .ref (zR (zR zx 6) zib.toNatClampNeg)), (6, .ref (zR (zR (zR zx 0) 2) zib.toNatClampNeg)), (0, .ref zx), (1, .int zia), (2, .int zib), (3, .int zic), (4, .int zid), (5, .int zie)]) hx hb dX10_looked_119 hl (by decide) rfl (fun ls hl => ?_)
                  refine lv_iconst (v := 0) hx hb dX10_looked_121 (by decide) ?_
                  refine lv_istore (lv' := [(10, .int 0), (9, .int 0), (8, .int zi_56), (7, .ref (zR (zR zx 6) zib.toNatClampNeg)), (6, .ref (zR (zR (zR zx 0) 2) zib.toNatClampNeg)), (0, .ref zx), (1, .int zia), (2, .int zib), (3, .int zic), (4, .int zid), (5, .int zie)]) hx hb dX10_looked_122 hl (by decide) rfl (fun ls hl => ?_)
                  have lp_807 : ∀ (n : Nat) (zi_121 : Int32) (zi_122 : Int32) (zI_123 : Nat → Nat → Int32) (zJ_124 : Nat → Nat → Int64) (H : Heap) (locs : List Loc) (ls : Array Slot), (zi_56.toInt - zi_122.toInt).toNat = n → (0 ≤ zi_122.toInt) → (WM [607, 608, 1013, 1014, 3700, 3800, 3900, 4000, 4200, 4400, 4500, 4600, 4700] AL zT zR zI zI_123) → (JX zR zI_123 zx) → va_P (dC, dI) vwCl (WL cy zL zT zR zI_123 zJ_124) H → va_D A (WL cy zL zT zR zI_123 zJ_124) → va_S A s.heap H locs → lv_has ls 11 [(0, .ref zx), (1, .int zia), (2, .int zib), (3, .int zic), (4, .int zid), (5, .int zie), (6, .ref (zR (zR (zR zx 0) 2) zib.toNatClampNeg)), (7, .ref (zR (zR zx 6) zib.toNatClampNeg)), (8, .int zi_56), (9, .int zi_121), (10, .int zi_122)] → W p l e ({ frames := 5, cells := 0, slots := 0, locals := 126 } : Room) s m ([.ref zx, .int zia, .int zib, .int zic, .int zid, .int zie] : List Value).toArray below meth c H locs 0 0 Q (F0 m 124 ls []) := by
                    intro n
                    induction n using Nat.strongRecOn with
                    | _ n ih_807 =>
                      intro zi_121 zi_122 zI_123 zJ_124 H locs ls hn b_zi_122 h_zI_123 e_lp_807_0 hP hD hS hl
                      refine lv_iload hx hb dX10_looked_124 (lv_at hl 10 rfl) ?_
                      refine lv_iload hx hb dX10_looked_126 (lv_at hl 8 rfl) ?_
                      refine lv_icmp_ge (tgt := 178) hx hb dX10_looked_128 (by decide) (fun c_808 => ?_) (fun c_808 => ?_)
                      · have f_809 : zi_122.toInt ≥ zi_56.toInt := ic_ge (rfl) (rfl) c_808
                        refine lv_iload hx hb dX10_looked_178 (lv_at hl 9 rfl) ?_
                        subst hQ
                        exact W.iret (v := zi_121) hx hb hr (fun t ht hW => ⟨⟨zi_121, (zI_123, zJ_124), rfl, ⟨h_zI_123, (show JX zR zI_123 zx from e_lp_807_0)⟩, ⟨by rw [ht]; exact hP, va_K.moved hW.alike hK, hD⟩⟩, hS.F ht⟩) hS.2.2 dX10_looked_180
                      · have f_809 : ¬ (zi_122.toInt ≥ zi_56.toInt) := ic_nge (rfl) (rfl) c_808
                        refine lv_aload_n hx hb dX10_looked_131 rfl (lv_at hl 0 rfl) ?_
                        refine ht_getr (C := RX10) (T := TX10) (N := 10) hx hb hts (by decide +kernel) hown hK hP hs t_zx (by decide) rfl rfl 8 (by decide) (hts (.fieldLink RX10 61 "DripStone" "marks" "LDripStone$Marks;") (by decide +kernel)) (fun _ h9 => h9) rfl dX10_looked_132 ?_
                        have t_810 : zT (zR zx 8) = 6 := sk_f hs t_zx (by decide) rfl (by decide)
                        refine lv_aload hx hb dX10_looked_135 (lv_at hl 7 rfl) ?_
                        refine lv_aload hx hb dX10_looked_137 (lv_at hl 6 rfl) ?_
                        refine lv_aload_n hx hb dX10_looked_139 rfl (lv_at hl 0 rfl) ?_
                        refine ht_getr (C := RX10) (T := TX10) (N := 10) hx hb hts (by decide +kernel) hown hK hP hs t_zx (by decide) rfl rfl 0 (by decide) (hts (.fieldLink RX10 12 "DripStone" "now" "LDripStone$State;") (by decide +kernel)) (fun _ h9 => h9) rfl dX10_looked_140 ?_
                        refine ht_getr (C := RX8) (T := TX8) (N := 9) hx hb hts (by decide +kernel) hown hK hP hs t_27 (by decide) rfl rfl 4 (by decide) (hts (.fieldLink RX10 331 "DripStone$State" "claims" "[LDripStone$Claim;") (by decide +kernel)) (fun _ h9 => h9) rfl dX10_looked_143 ?_
                        refine lv_iload_n hx hb dX10_looked_146 rfl (lv_at hl 1 rfl) ?_
                        refine ht_aald (n := 4) (q := 4) hx hb hK hP hs t_51 (by decide) rfl rfl ⟨by omega, by omega⟩ dX10_looked_147 ?_
                        refine lv_iload hx hb dX10_looked_148 (lv_at hl 10 rfl) ?_
                        refine hj_l (ws := (WL cy zL zT zR zI_123 zJ_124)) (w1 := fun (u : (Nat → Nat → Int32) × (Nat → Nat → Int64)) => (WL cy zL zT zR u.1 u.2)) (va_runV (As := [.ref (zR (zR zx 6) zib.toNatClampNeg), .ref (zR (zR (zR zx 0) 2) zib.toNatClampNeg), .ref (zR (zR (zR zx 0) 4) zia.toNatClampNeg), .int zi_122]) (rest := []) ⟨hx, hb, hml, hown, hts⟩ (t_X5_waysSo l dC dI cy H.size zL zT zR zI_123 zJ_124 (zR zx 8) (zR (zR zx 6) zib.toNatClampNeg) (zR (zR (zR zx 0) 2) zib.toNatClampNeg) (zR (zR (zR zx 0) 4) zia.toNatClampNeg) zi_122 hs h_zI_123.1 t_810 t_46 t_29 t_52) (cwV 4 hts gX10_looked_X5_waysSo rfl rfl rfl (by decide +kernel) ⟨(Nat.le_of_ble_eq_true rfl), (Nat.le_of_ble_eq_true rfl)⟩) (PRE.v hP hK hD hN (ht_recv hK hP hs t_810 (by decide) rfl rfl)) rfl rfl hl.1 rfl (lv_room (Nat.le_of_ble_eq_true rfl)) dX10_looked_150 ⟨(Nat.le_of_ble_eq_true rfl), (Nat.le_of_ble_eq_true rfl)⟩) hP hD hS hA (fun zj_811 u_813 H locs hw_812 hP hD hS => ?_)
                        obtain ⟨zI_814, zJ_815⟩ := u_813
                        have k_zI_814 : WM [607, 608, 4400, 4500, 4600] AL zT zR zI_123 zI_814 := hw_812
                        have h_zI_814 : WM [607, 608, 1013, 1014, 3700, 3800, 3900, 4000, 4200, 4400, 4500, 4600, 4700] AL zT zR zI zI_814 := h_zI_123.tr k_zI_814 (by decide) (fun _ _ => trivial)
                        have j_zI_814 : JX zR zI_814 zx := e_lp_807_0.sm hs t_zx k_zI_814.2 (by decide) (by decide)
                        refine lv_iload hx hb dX10_looked_153 (lv_at hl 4 rfl) ?_
                        refine lv_i2l (v := zid.toInt64) hx hb dX10_looked_155 rfl ?_
                        refine lv_topl (fun zj_816 ezj_816 => ?_)
                        have tzj_816 : zj_816.toInt = zid.toInt := by rw [ezj_816]; exact Int32.toInt_toInt64 _
                        refine lv_lmul hx hb dX10_looked_156 ?_
                        refine lv_topl (fun zj_817 ezj_817 => ?_)
                        refine lv_aload hx hb dX10_looked_157 (lv_at hl 7 rfl) ?_
                        refine ht_getl (C := RX9) (T := TX9) (N := 16) hx hb hts (by decide +kernel) hown hK hP hs t_46 (by decide) rfl rfl 15 (by decide) (hts (.fieldLink RX10 242 "DripStone$Ways" "total" "J") (by decide +kernel)) (fun _ h9 => h9) rfl dX10_looked_159 ?_
                        refine lv_topl (fun zj_818 ezj_818 => ?_)
                        refine lv_iload_n hx hb dX10_looked_162 rfl (lv_at hl 3 rfl) ?_
                        refine lv_i2l (v := zic.toInt64) hx hb dX10_looked_163 rfl ?_
                        refine lv_topl (fun zj_819 ezj_819 => ?_)
                        have tzj_819 : zj_819.toInt = zic.toInt := by rw [ezj_819]; exact Int32.toInt_toInt64 _
                        refine lv_lmul hx hb dX10_looked_164 ?_
                        refine lv_topl (fun zj_820 ezj_820 => ?_)
                        refine W.lcmp hx hb dX10_looked_165 ?_
                        refine lv_topi (fun zi_821 ezi_821 => ?_)
                        refine lv_if_lt (tgt := 172) hx hb dX10_looked_166 (by decide) (fun c_822 => ?_) (fun c_822 => ?_)
                        · have f_823 : zj_817.toInt < zj_820.toInt := lk_lt ezi_821 (rfl) (rfl) c_822
                          obtain ⟨zi_824, ezi_824⟩ : ∃ y : Int32, y = zi_122 + 1 := ⟨_, rfl⟩
                          have tzi_824 : zi_824.toInt = zi_122.toInt + 1 := by rw [ezi_824]; exact tadd rfl (show (1 : Int32).toInt = 1 by decide) (by omega) (by omega)
                          refine lv_iinc (v := zi_824) (lv' := [(10, .int zi_824), (0, .ref zx), (1, .int zia), (2, .int zib), (3, .int zic), (4, .int zid), (5, .int zie), (6, .ref (zR (zR (zR zx 0) 2) zib.toNatClampNeg)), (7, .ref (zR (zR zx 6) zib.toNatClampNeg)), (8, .int zi_56), (9, .int zi_121)]) hx hb dX10_looked_172 hl (k := 10) rfl (by rw [ezi_824]; rfl) (by decide) rfl (fun ls hl => ?_)
                          refine lv_goto (tgt := 124) hx hb dX10_looked_175 (by decide) ?_
                          exact ih_807 (zi_56.toInt - zi_824.toInt).toNat (by omega) zi_121 zi_824 zI_814 zJ_815 _ _ _ rfl (by omega) h_zI_814 j_zI_814 hP hD hS (lv_sub hl [1, 2, 3, 4, 5, 6, 7, 8, 9, 10, 0] rfl)
                        · have f_823 : ¬ (zj_817.toInt < zj_820.toInt) := lk_nlt ezi_821 (rfl) (rfl) c_822
                          obtain ⟨zi_825, ezi_825⟩ : ∃ y : Int32, y = zi_121 + 1 := ⟨_, rfl⟩
                          refine lv_iinc (v := zi_825) (lv' := [(9, .int zi_825), (0, .ref zx), (1, .int zia), (2, .int zib), (3, .int zic), (4, .int zid), (5, .int zie), (6, .ref (zR (zR (zR zx 0) 2) zib.toNatClampNeg)), (7, .ref (zR (zR zx 6) zib.toNatClampNeg)), (8, .int zi_56), (10, .int zi_122)]) hx hb dX10_looked_169 hl (k := 9) rfl (by rw [ezi_825]; rfl) (by decide) rfl (fun ls hl => ?_)
                          obtain ⟨zi_826, ezi_826⟩ : ∃ y : Int32, y = zi_122 + 1 := ⟨_, rfl⟩
                          have tzi_826 : zi_826.toInt = zi_122.toInt + 1 := by rw [ezi_826]; exact tadd rfl (show (1 : Int32).toInt = 1 by decide) (by omega) (by omega)
                          refine lv_iinc (v := zi_826) (lv' := [(10, .int zi_826), (9, .int zi_825), (0, .ref zx), (1, .int zia), (2, .int zib), (3, .int zic), (4, .int zid), (5, .int zie), (6, .ref (zR (zR (zR zx 0) 2) zib.toNatClampNeg)), (7, .ref (zR (zR zx 6) zib.toNatClampNeg)), (8, .int zi_56)]) hx hb dX10_looked_172 hl (k := 10) rfl (by rw [ezi_826]; rfl) (by decide) rfl (fun ls hl => ?_)
                          refine lv_goto (tgt := 124) hx hb dX10_looked_175 (by decide) ?_
                          exact ih_807 (zi_56.toInt - zi_826.toInt).toNat (by omega) zi_825 zi_826 zI_814 zJ_815 _ _ _ rfl (by omega) h_zI_814 j_zI_814 hP hD hS (lv_sub hl [2, 3, 4, 5, 6, 7, 8, 9, 10, 1, 0] rfl)
                  have qc_0 : (0 : Int32).toInt = 0 := by decide
                  exact lp_807 _ (0 : Int32) (0 : Int32) zI_41 zJ_42 _ _ _ rfl (by decide) h_zI_41 ps_43 hP hD hS (lv_sub hl [5, 6, 7, 8, 9, 10, 4, 3, 2, 1, 0] rfl)
                · have f_58 : ¬ (zie.toInt ≠ 0) := ic_nne (rfl) (by decide) c_57
                  refine lv_iload hx hb dX10_looked_115 (lv_at hl 0 rfl) ?_
                  subst hQ
                  exact W.iret (v := zi_56) hx hb hr (fun t ht hW => ⟨⟨zi_56, (zI_41, zJ_42), rfl, ⟨h_zI_41, (show JX zR zI_41 zx from ps_43)⟩, ⟨by rw [ht]; exact hP, va_K.moved hW.alike hK, hD⟩⟩, hS.F ht⟩) hS.2.2 dX10_looked_117
              · have f_50 : zj_47.toInt = (0 : Int) := lk_nne ezi_48 (rfl) (show (0 : Int64).toInt = 0 by decide) c_49
                refine lv_bipush (v := (-4)) hx hb dX10_looked_90 (by decide) ?_
                subst hQ
                exact W.iret (v := (-4 : Int32)) hx hb hr (fun t ht hW => ⟨⟨(-4 : Int32), (zI_41, zJ_42), rfl, ⟨h_zI_41, (show JX zR zI_41 zx from ps_43)⟩, ⟨by rw [ht]; exact hP, va_K.moved hW.alike hK, hD⟩⟩, hS.F ht⟩) hS.2.2 dX10_looked_92
            · have f_37 : ¬ (zi_30.toInt ≠ 0) := ic_nne (rfl) (by decide) c_36
              refine lv_bipush (v := (-2)) hx hb dX10_looked_70 (by decide) ?_
              subst hQ
              exact W.iret (v := (-2 : Int32)) hx hb hr (fun t ht hW => ⟨⟨(-2 : Int32), (zI, zJ), rfl, ⟨h_zI, (show JX zR zI zx from hj)⟩, ⟨by rw [ht]; exact hP, va_K.moved hW.alike hK, hD⟩⟩, hS.F ht⟩) hS.2.2 dX10_looked_72
          · have f_26 : ¬ (0 ≤ zic.toInt ∧ zic.toInt ≤ zid.toInt) := bz_0 hw_23 c_25
            refine lv_iconst (v := (-1)) hx hb dX10_looked_49 (by decide) ?_
            subst hQ
            exact W.iret (v := (-1 : Int32)) hx hb hr (fun t ht hW => ⟨⟨(-1 : Int32), (zI, zJ), rfl, ⟨h_zI, (show JX zR zI zx from hj)⟩, ⟨by rw [ht]; exact hP, va_K.moved hW.alike hK, hD⟩⟩, hS.F ht⟩) hS.2.2 dX10_looked_50
      · have f_16 : ¬ (0 ≤ zie.toInt ∧ zie.toInt ≤ 1) := bz_0 hw_13 c_15
        refine lv_iconst (v := (-1)) hx hb dX10_looked_25 (by decide) ?_
        subst hQ
        exact W.iret (v := (-1 : Int32)) hx hb hr (fun t ht hW => ⟨⟨(-1 : Int32), (zI, zJ), rfl, ⟨h_zI, (show JX zR zI zx from hj)⟩, ⟨by rw [ht]; exact hP, va_K.moved hW.alike hK, hD⟩⟩, hS.F ht⟩) hS.2.2 dX10_looked_26
set_option maxHeartbeats 8000000 in
set_option maxRecDepth 100000 in
theorem t_X10_cause (l : Launch) (dC : Nat → ClassId) (dI : Nat → Nat → Nat) (cy : Nat → ClassId) (sz : Nat) (zL : List Nat) (zT : Nat → Nat) (zR : Nat → Nat → Nat) (zI : Nat → Nat → Int32) (zJ : Nat → Nat → Int64) (zx : Nat) (zia : Int32) (zib : Int32) (hs : SKP zL zT zR) (hw : WT zT zR zI) (t_zx : zT zx = 11) (hj : JX zR zI zx) : Met l yX10_cause wsX10_cause ({ frames := 1, cells := 0, slots := 0, locals := 22 } : Room) (va_Pc [.ref zx, .int zia, .int zib] (PRE dC dI cy (WL cy zL zT zR zI zJ) sz)) (va_Qi (fun (r : Int32) (u : (Nat → Nat → Int32)) => (WM [908, 4800] AL zT zR zI u) ∧ ((-3) ≤ r.toInt ∧ r.toInt ≤ 4) ∧ (JX zR u zx) ∧ (¬ (CSok zia.toInt zib.toInt) → (r.toInt = -1 ∧ u = zI)) ∧ (CSok zia.toInt zib.toInt → (zI (zR zx 0) 8).toInt = 5 → (r.toInt = -3 ∧ u = zI)) ∧ (CSok zia.toInt zib.toInt → ¬ (zI (zR zx 0) 8).toInt = 5 → (r.toInt = (zI (zR zx 0) 8).toInt ∧ (u (zR zx 0) 8).toInt = (zI (zR zx 0) 8).toInt + 1))) (fun u t => POST dC dI cy (va_A (WL cy zL zT zR zI zJ) sz) (WL cy zL zT zR u zJ) t) (va_A (WL cy zL zT zR zI zJ) sz)) 0 0 (va_A (WL cy zL zT zR zI zJ) sz) := by
  refine Met.ofW (cc := cX10_cause) (maxL := 3) (ret := (some .int)) (by decide) rfl ?_
  intro p e s m args below meth c s₁ B hml hv
  obtain ⟨rfl, hsz, hP, hK, hD0, hN⟩ := hv
  have hx := B.exec
  have hb := B.bytes
  have hr := B.returns
  have hts := atoms_spec (ws := wsX10_cause) B.pre
  have hown : s.vm.findClass RX10 = some m.cls := findClass_of_methodNamed B.named
  have hlocks := B.notSynchronized
  subst hsz
  have hD := hD0.self (sz := s.heap.size)
  generalize hAe : va_A (WL cy zL zT zR zI zJ) s.heap.size = A at hD ⊢
  have hA : ∀ q : Nat, s.heap.size ≤ q → A q := fun q h => by rw [← hAe]; exact Or.inr h
  have hS : va_S A s.heap s.heap [] := va_S.rf
  have hP : va_P (dC, dI) vwCl (WL cy zL zT zR zI zJ) s.heap := hP
  have hl := lv_entry ([.ref zx, .int zia, .int zib] : List Value) (n := 3) (Nat.le_of_ble_eq_true rfl)
  rw [lg_entry_eq]
  generalize (lg_sl ([.ref zx, .int zia, .int zib] : List Value) ++ List.replicate (3 - (lg_sl ([.ref zx, .int zia, .int zib] : List Value)).length) Slot.unset).toArray = ls at hl ⊢
  have hl : lv_has ls 3 [(0, .ref zx), (1, .int zia), (2, .int zib)] := hl
  refine w_q (fun Q hQ => ?_)
  have h_zI : WM [908, 4800] AL zT zR zI zI := WM.rf hw
  refine lv_iload_n hx hb dX10_cause_0 rfl (lv_at hl 1 rfl) ?_
  refine lv_bipush (v := (-30)) hx hb dX10_cause_1 (by decide) ?_
  refine lv_bipush (v := 30) hx hb dX10_cause_3 (by decide) ?_
  refine hj0_i (ws := (WL cy zL zT zR zI zJ)) (va_runS (As := [.int zia, .int (-30), .int 30]) (rest := []) ⟨hx, hb, hml, hown, hts⟩ (c_X10_isWithin l dC dI cy s.heap.size zia (-30) 30 (-30) 30 (by first | rfl | decide | omega | exact Int32.toInt_toInt64 _) (by first | rfl | decide | omega | exact Int32.toInt_toInt64 _)) (va_cwS 3 hts gX10_cause_X10_isWithin rfl rfl rfl (by decide +kernel) ⟨(Nat.le_of_ble_eq_true rfl), (Nat.le_of_ble_eq_true rfl)⟩) (PRE.s (hP.sub [] rfl) hK (hD.sub [] (by decide) rfl) hN) rfl rfl hl.1 rfl (lv_room (Nat.le_of_ble_eq_true rfl)) dX10_cause_5 ⟨(Nat.le_of_ble_eq_true rfl), (Nat.le_of_ble_eq_true rfl)⟩) hP hD hS hA (fun zi_1 u_3 H locs hw_2 hP hD hS => ?_)
  have hw_2 : zi_1 = if (-30) ≤ zia.toInt ∧ zia.toInt ≤ 30 then 1 else 0 := hw_2
  have b_zi_1 : 0 ≤ zi_1.toInt ∧ zi_1.toInt ≤ 1 := bz_b hw_2
  refine lv_if_eq (tgt := 21) hx hb dX10_cause_8 (by decide) (fun c_4 => ?_) (fun c_4 => ?_)
  · have f_5 : ¬ ((-30) ≤ zia.toInt ∧ zia.toInt ≤ 30) := bz_0 hw_2 c_4
    refine lv_iconst (v := (-1)) hx hb dX10_cause_21 (by decide) ?_
    subst hQ
    have qc_m1 : (-1 : Int32).toInt = -1 := by decide
    exact W.iret (v := (-1 : Int32)) hx hb hr (fun t ht hW => ⟨⟨(-1 : Int32), zI, rfl, ⟨h_zI, (show (-3) ≤ (-1 : Int32).toInt ∧ (-1 : Int32).toInt ≤ 4 from by omega), (show JX zR zI zx from hj), (show ¬ (CSok zia.toInt zib.toInt) → ((-1 : Int32).toInt = -1 ∧ zI = zI) from (fun _ => ⟨by decide, rfl⟩)), (show CSok zia.toInt zib.toInt → (zI (zR zx 0) 8).toInt = 5 → ((-1 : Int32).toInt = -3 ∧ zI = zI) from (fun h9 => absurd h9 (by unfold CSok; omega))), (show CSok zia.toInt zib.toInt → ¬ (zI (zR zx 0) 8).toInt = 5 → ((-1 : Int32).toInt = (zI (zR zx 0) 8).toInt ∧ (zI (zR zx 0) 8).toInt = (zI (zR zx 0) 8).toInt + 1) from (fun h9 => absurd h9 (by unfold CSok; omega)))⟩, ⟨by rw [ht]; exact hP, va_K.moved hW.alike hK, hD⟩⟩, hS.F ht⟩) hS.2.2 dX10_cause_22
  · have f_5 : (-30) ≤ zia.toInt ∧ zia.toInt ≤ 30 := bz_1 hw_2 c_4
    refine lv_iload_n hx hb dX10_cause_11 rfl (lv_at hl 2 rfl) ?_
    refine lv_iload_n hx hb dX10_cause_12 rfl (lv_at hl 1 rfl) ?_
    refine lv_bipush (v := 30) hx hb dX10_cause_13 (by decide) ?_
    refine hj0_i (ws := (WL cy zL zT zR zI zJ)) (va_runS (As := [.int zib, .int zia, .int 30]) (rest := []) ⟨hx, hb, hml, hown, hts⟩ (c_X10_isWithin l dC dI cy H.size zib zia 30 zia.toInt 30 (by first | rfl | decide | omega | exact Int32.toInt_toInt64 _) (by first | rfl | decide | omega | exact Int32.toInt_toInt64 _)) (va_cwS 3 hts gX10_cause_X10_isWithin rfl rfl rfl (by decide +kernel) ⟨(Nat.le_of_ble_eq_true rfl), (Nat.le_of_ble_eq_true rfl)⟩) (PRE.s (hP.sub [] rfl) hK (hD.sub [] (by decide) rfl) hN) rfl rfl hl.1 rfl (lv_room (Nat.le_of_ble_eq_true rfl)) dX10_cause_15 ⟨(Nat.le_of_ble_eq_true rfl), (Nat.le_of_ble_eq_true rfl)⟩) hP hD hS hA (fun zi_6 u_8 H locs hw_7 hP hD hS => ?_)
    have hw_7 : zi_6 = if zia.toInt ≤ zib.toInt ∧ zib.toInt ≤ 30 then 1 else 0 := hw_7
    have b_zi_6 : 0 ≤ zi_6.toInt ∧ zi_6.toInt ≤ 1 := bz_b hw_7
    refine lv_if_ne (tgt := 23) hx hb dX10_cause_18 (by decide) (fun c_9 => ?_) (fun c_9 => ?_)
    · have f_10 : zia.toInt ≤ zib.toInt ∧ zib.toInt ≤ 30 := bz_1 hw_7 c_9
      refine lv_aload_n hx hb dX10_cause_23 rfl (lv_at hl 0 rfl) ?_
      refine ht_getr (C := RX10) (T := TX10) (N := 10) hx hb hts (by decide +kernel) hown hK hP hs t_zx (by decide) rfl rfl 0 (by decide) (hts (.fieldLink RX10 12 "DripStone" "now" "LDripStone$State;") (by decide +kernel)) (fun _ h9 => h9) rfl dX10_cause_24 ?_
      have t_11 : zT (zR zx 0) = 9 := sk_f hs t_zx (by decide) rfl (by decide)
      refine ht_geti (C := RX8) (T := TX8) (N := 9) hx hb hts (by decide +kernel) hown hK hP hs t_11 (by decide) rfl rfl 8 (by decide) (hts (.fieldLink RX10 228 "DripStone$State" "caused" "I") (by decide +kernel)) (fun _ h9 => h9) rfl dX10_cause_27 ?_
      refine lv_topi (fun zi_12 ezi_12 => ?_)
      have tzi_12 : 0 ≤ zi_12.toInt ∧ zi_12.toInt ≤ 5 := by rw [ezi_12]; exact h_zI.at t_11 _ rfl
      have lzi_12 : (zI (zR zx 0) 8).toInt = zi_12.toInt := by rw [ezi_12]
      refine lv_iconst (v := 5) hx hb dX10_cause_30 (by decide) ?_
      refine lv_icmp_ne (tgt := 37) hx hb dX10_cause_31 (by decide) (fun c_13 => ?_) (fun c_13 => ?_)
      · have f_14 : zi_12.toInt ≠ (5 : Int) := ic_ne (rfl) (show (5 : Int32).toInt = 5 by decide) c_13
        refine lv_aload_n hx hb dX10_cause_37 rfl (lv_at hl 0 rfl) ?_
        refine ht_getr (C := RX10) (T := TX10) (N := 10) hx hb hts (by decide +kernel) hown hK hP hs t_zx (by decide) rfl rfl 0 (by decide) (hts (.fieldLink RX10 12 "DripStone" "now" "LDripStone$State;") (by decide +kernel)) (fun _ h9 => h9) rfl dX10_cause_38 ?_
        refine ht_getr (C := RX8) (T := TX8) (N := 9) hx hb hts (by decide +kernel) hown hK hP hs t_11 (by decide) rfl rfl 5 (by decide) (hts (.fieldLink RX10 355 "DripStone$State" "lows" "[I") (by decide +kernel)) (fun _ h9 => h9) rfl dX10_cause_41 ?_
        have t_15 : zT (zR (zR zx 0) 5) = 48 := sk_f hs t_11 (by decide) rfl (by decide)
        refine lv_aload_n hx hb dX10_cause_44 rfl (lv_at hl 0 rfl) ?_
        refine ht_getr (C := RX10) (T := TX10) (N := 10) hx hb hts (by decide +kernel) hown hK hP hs t_zx (by decide) rfl rfl 0 (by decide) (hts (.fieldLink RX10 12 "DripStone" "now" "LDripStone$State;") (by decide +kernel)) (fun _ h9 => h9) rfl dX10_cause_45 ?_
        refine ht_geti (C := RX8) (T := TX8) (N := 9) hx hb hts (by decide +kernel) hown hK hP hs t_11 (by decide) rfl rfl 8 (by decide) (hts (.fieldLink RX10 228 "DripStone$State" "caused" "I") (by decide +kernel)) (fun _ h9 => h9) rfl dX10_cause_48 ?_
        refine lv_topi (fun zi_16 ezi_16 => ?_)
        obtain rfl : zi_12 = zi_16 := (ezi_16.trans ezi_12.symm).symm
        refine lv_iload_n hx hb dX10_cause_51 rfl (lv_at hl 1 rfl) ?_
        refine ht_iast (v := zia) (n := 5) (q := 0) hx hb hK hP hD hS hs t_15 (by decide) rfl rfl ⟨by omega, by omega⟩ dX10_cause_52 (fun H locs hP hD hS => ?_)
        have h_zI_17 : WM [908, 4800] AL zT zR zI (u2 zI (zR (zR zx 0) 5) zi_12.toNatClampNeg zia) := h_zI.putA hs t_15 rfl (rgF _) (by decide) (fun h => absurd h (by decide)) (by decide) trivial
        generalize uzI_17 : u2 zI (zR (zR zx 0) 5) zi_12.toNatClampNeg zia = zI_17 at hP hD h_zI_17
        refine lv_aload_n hx hb dX10_cause_53 rfl (lv_at hl 0 rfl) ?_
        refine ht_getr (C := RX10) (T := TX10) (N := 10) hx hb hts (by decide +kernel) hown hK hP hs t_zx (by decide) rfl rfl 0 (by decide) (hts (.fieldLink RX10 12 "DripStone" "now" "LDripStone$State;") (by decide +kernel)) (fun _ h9 => h9) rfl dX10_cause_54 ?_
        refine ht_getr (C := RX8) (T := TX8) (N := 9) hx hb hts (by decide +kernel) hown hK hP hs t_11 (by decide) rfl rfl 6 (by decide) (hts (.fieldLink RX10 358 "DripStone$State" "highs" "[I") (by decide +kernel)) (fun _ h9 => h9) rfl dX10_cause_57 ?_
        have t_18 : zT (zR (zR zx 0) 6) = 48 := sk_f hs t_11 (by decide) rfl (by decide)
        refine lv_aload_n hx hb dX10_cause_60 rfl (lv_at hl 0 rfl) ?_
        refine ht_getr (C := RX10) (T := TX10) (N := 10) hx hb hts (by decide +kernel) hown hK hP hs t_zx (by decide) rfl rfl 0 (by decide) (hts (.fieldLink RX10 12 "DripStone" "now" "LDripStone$State;") (by decide +kernel)) (fun _ h9 => h9) rfl dX10_cause_61 ?_
        refine ht_geti (C := RX8) (T := TX8) (N := 9) hx hb hts (by decide +kernel) hown hK hP hs t_11 (by decide) rfl rfl 8 (by decide) (hts (.fieldLink RX10 228 "DripStone$State" "caused" "I") (by decide +kernel)) (fun _ h9 => h9) rfl dX10_cause_64 ?_
        refine lv_topi (fun zi_19 ezi_19 => ?_)
        obtain rfl : zi_12 = zi_19 := (ezi_19.trans ((show zI_17 (zR zx 0) 8 = zI (zR zx 0) 8 from by rw [← uzI_17]; exact u2_n (tne t_11 t_15 (by decide))).trans ezi_12.symm)).symm
        refine lv_iload_n hx hb dX10_cause_67 rfl (lv_at hl 2 rfl) ?_
        refine ht_iast (v := zib) (n := 5) (q := 0) hx hb hK hP hD hS hs t_18 (by decide) rfl rfl ⟨by omega, by omega⟩ dX10_cause_68 (fun H locs hP hD hS => ?_)
        have h_zI_20 : WM [908, 4800] AL zT zR zI (u2 zI_17 (zR (zR zx 0) 6) zi_12.toNatClampNeg zib) := h_zI_17.putA hs t_18 rfl (rgF _) (by decide) (fun h => absurd h (by decide)) (by decide) trivial
        generalize uzI_20 : u2 zI_17 (zR (zR zx 0) 6) zi_12.toNatClampNeg zib = zI_20 at hP hD h_zI_20
        refine lv_aload_n hx hb dX10_cause_69 rfl (lv_at hl 0 rfl) ?_
        refine ht_getr (C := RX10) (T := TX10) (N := 10) hx hb hts (by decide +kernel) hown hK hP hs t_zx (by decide) rfl rfl 0 (by decide) (hts (.fieldLink RX10 12 "DripStone" "now" "LDripStone$State;") (by decide +kernel)) (fun _ h9 => h9) rfl dX10_cause_70 ?_
        refine lv_dup hx hb dX10_cause_73 rfl ?_
        refine ht_geti (C := RX8) (T := TX8) (N := 9) hx hb hts (by decide +kernel) hown hK hP hs t_11 (by decide) rfl rfl 8 (by decide) (hts (.fieldLink RX10 228 "DripStone$State" "caused" "I") (by decide +kernel)) (fun _ h9 => h9) rfl dX10_cause_74 ?_
        refine lv_topi (fun zi_21 ezi_21 => ?_)
        obtain rfl : zi_12 = zi_21 := (ezi_21.trans ((show zI_20 (zR zx 0) 8 = zI_17 (zR zx 0) 8 from by rw [← uzI_20]; exact u2_n (tne t_11 t_18 (by decide))).trans ((show zI_17 (zR zx 0) 8 = zI (zR zx 0) 8 from by rw [← uzI_17]; exact u2_n (tne t_11 t_15 (by decide))).trans ezi_12.symm))).symm
        refine lv_iconst (v := 1) hx hb dX10_cause_77 (by decide) ?_
        refine lv_iadd hx hb dX10_cause_78 ?_
        refine lv_topi (fun zi_22 ezi_22 => ?_)
        have tzi_22 : zi_22.toInt = zi_12.toInt + (1 : Int) := by rw [ezi_22]; exact tiadd (rfl) (show (1 : Int32).toInt = 1 by decide) (by omega) (by omega)
        refine ht_puti (v := zi_22) (ty := .int) (C := RX8) (T := TX8) (N := 9) hx hb hts (by decide +kernel) tyX8 tyX8_ok nmX8 hown hK hP hD hS hs t_11 (by decide) rfl rfl 8 (by decide) (hts (.fieldLink RX10 228 "DripStone$State" "caused" "I") (by decide +kernel)) (fun _ h9 => h9) rfl (by decide +kernel) rfl rfl rfl dX10_cause_79 (fun H locs hP hD hS => ?_)
        have h_zI_23 : WM [908, 4800] AL zT zR zI (u2 zI_20 (zR zx 0) 8 zi_22) := h_zI_20.put hs t_11 rfl (by omega) (by decide) (fun h => absurd h (by decide)) (by decide) trivial
        generalize uzI_23 : u2 zI_20 (zR zx 0) 8 zi_22 = zI_23 at hP hD h_zI_23
        refine lv_aload_n hx hb dX10_cause_82 rfl (lv_at hl 0 rfl) ?_
        refine ht_getr (C := RX10) (T := TX10) (N := 10) hx hb hts (by decide +kernel) hown hK hP hs t_zx (by decide) rfl rfl 0 (by decide) (hts (.fieldLink RX10 12 "DripStone" "now" "LDripStone$State;") (by decide +kernel)) (fun _ h9 => h9) rfl dX10_cause_83 ?_
        refine ht_geti (C := RX8) (T := TX8) (N := 9) hx hb hts (by decide +kernel) hown hK hP hs t_11 (by decide) rfl rfl 8 (by decide) (hts (.fieldLink RX10 228 "DripStone$State" "caused" "I") (by decide +kernel)) (fun _ h9 => h9) rfl dX10_cause_86 ?_
        refine lv_topi (fun zi_24 ezi_24 => ?_)
        obtain rfl : zi_22 = zi_24 := (ezi_24.trans (by rw [← uzI_23]; exact u2_s)).symm
        refine lv_iconst (v := 1) hx hb dX10_cause_89 (by decide) ?_
        refine lv_isub hx hb dX10_cause_90 ?_
        refine lv_topi (fun zi_25 ezi_25 => ?_)
        have tzi_25 : zi_25.toInt = zi_22.toInt - (1 : Int) := by rw [ezi_25]; exact tisub (rfl) (show (1 : Int32).toInt = 1 by decide) (by omega) (by omega)
        subst hQ
        exact W.iret (v := zi_25) hx hb hr (fun t ht hW => ⟨⟨zi_25, zI_23, rfl, ⟨h_zI_23, (show (-3) ≤ zi_25.toInt ∧ zi_25.toInt ≤ 4 from by omega), (show JX zR zI_23 zx from (JX.sm hj hs t_zx h_zI_23.2 (by decide) (by decide))), (show ¬ (CSok zia.toInt zib.toInt) → (zi_25.toInt = -1 ∧ zI_23 = zI) from (fun h9 => absurd (show CSok zia.toInt zib.toInt from by unfold CSok; omega) h9)), (show CSok zia.toInt zib.toInt → (zI (zR zx 0) 8).toInt = 5 → (zi_25.toInt = -3 ∧ zI_23 = zI) from (fun _ h9 => by omega)), (show CSok zia.toInt zib.toInt → ¬ (zI (zR zx 0) 8).toInt = 5 → (zi_25.toInt = (zI (zR zx 0) 8).toInt ∧ (zI_23 (zR zx 0) 8).toInt = (zI (zR zx 0) 8).toInt + 1) from (fun _ _ => ⟨by omega, by rw [show zI_23 (zR zx 0) 8 = zi_22 from (by rw [← uzI_23]; exact u2_s)]; omega⟩))⟩, ⟨by rw [ht]; exact hP, va_K.moved hW.alike hK, hD⟩⟩, hS.F ht⟩) hS.2.2 dX10_cause_91
      · have f_14 : ¬ (zi_12.toInt ≠ (5 : Int)) := ic_nne (rfl) (show (5 : Int32).toInt = 5 by decide) c_13
        refine lv_bipush (v := (-3)) hx hb dX10_cause_34 (by decide) ?_
        subst hQ
        have qc_m3 : (-3 : Int32).toInt = -3 := by decide
        have lk_26 : (zI (zR zx 0) 8).toInt = zi_12.toInt := congrArg Int32.toInt ezi_12.symm
        exact W.iret (v := (-3 : Int32)) hx hb hr (fun t ht hW => ⟨⟨(-3 : Int32), zI, rfl, ⟨h_zI, (show (-3) ≤ (-3 : Int32).toInt ∧ (-3 : Int32).toInt ≤ 4 from by omega), (show JX zR zI zx from hj), (show ¬ (CSok zia.toInt zib.toInt) → ((-3 : Int32).toInt = -1 ∧ zI = zI) from (fun h9 => absurd (show CSok zia.toInt zib.toInt from by unfold CSok; omega) h9)), (show CSok zia.toInt zib.toInt → (zI (zR zx 0) 8).toInt = 5 → ((-3 : Int32).toInt = -3 ∧ zI = zI) from (fun _ _ => ⟨by decide, rfl⟩)), (show CSok zia.toInt zib.toInt → ¬ (zI (zR zx 0) 8).toInt = 5 → ((-3 : Int32).toInt = (zI (zR zx 0) 8).toInt ∧ (zI (zR zx 0) 8).toInt = (zI (zR zx 0) 8).toInt + 1) from (fun _ h9 => absurd (by omega) h9))⟩, ⟨by rw [ht]; exact hP, va_K.moved hW.alike hK, hD⟩⟩, hS.F ht⟩) hS.2.2 dX10_cause_36
    · have f_10 : ¬ (zia.toInt ≤ zib.toInt ∧ zib.toInt ≤ 30) := bz_0 hw_7 c_9
      refine lv_iconst (v := (-1)) hx hb dX10_cause_21 (by decide) ?_
      subst hQ
      have qc_m1 : (-1 : Int32).toInt = -1 := by decide
      exact W.iret (v := (-1 : Int32)) hx hb hr (fun t ht hW => ⟨⟨(-1 : Int32), zI, rfl, ⟨h_zI, (show (-3) ≤ (-1 : Int32).toInt ∧ (-1 : Int32).toInt ≤ 4 from by omega), (show JX zR zI zx from hj), (show ¬ (CSok zia.toInt zib.toInt) → ((-1 : Int32).toInt = -1 ∧ zI = zI) from (fun _ => ⟨by decide, rfl⟩)), (show CSok zia.toInt zib.toInt → (zI (zR zx 0) 8).toInt = 5 → ((-1 : Int32).toInt = -3 ∧ zI = zI) from (fun h9 => absurd h9 (by unfold CSok; omega))), (show CSok zia.toInt zib.toInt → ¬ (zI (zR zx 0) 8).toInt = 5 → ((-1 : Int32).toInt = (zI (zR zx 0) 8).toInt ∧ (zI (zR zx 0) 8).toInt = (zI (zR zx 0) 8).toInt + 1) from (fun h9 => absurd h9 (by unfold CSok; omega)))⟩, ⟨by rw [ht]; exact hP, va_K.moved hW.alike hK, hD⟩⟩, hS.F ht⟩) hS.2.2 dX10_cause_22
set_option maxHeartbeats 8000000 in
set_option maxRecDepth 100000 in
theorem t_X10_says (l : Launch) (dC : Nat → ClassId) (dI : Nat → Nat → Nat) (cy : Nat → ClassId) (sz : Nat) (zL : List Nat) (zT : Nat → Nat) (zR : Nat → Nat → Nat) (zI : Nat → Nat → Int32) (zJ : Nat → Nat → Int64) (zx : Nat) (zia : Int32) (zib : Int32) (zic : Int32) (zid : Int32) (hs : SKP zL zT zR) (hw : WT zT zR zI) (t_zx : zT zx = 11) (hj : JX zR zI zx) : Met l yX10_says wsX10_says ({ frames := 4, cells := 0, slots := 0, locals := 87 } : Room) (va_Pc [.ref zx, .int zia, .int zib, .int zic, .int zid] (PRE dC dI cy (WL cy zL zT zR zI zJ) sz)) (va_Qi (fun (r : Int32) (u : Unit) => (JX zR zI zx)) (fun u t => POST dC dI cy (va_A (WL cy zL zT zR zI zJ) sz) (WL cy zL zT zR zI zJ) t) (va_A (WL cy zL zT zR zI zJ) sz)) 0 0 (va_A (WL cy zL zT zR zI zJ) sz) := by
  refine Met.ofW (cc := cX10_says) (maxL := 11) (ret := (some .int)) (by decide) rfl ?_
  intro p e s m args below meth c s₁ B hml hv
  obtain ⟨rfl, hsz, hP, hK, hD0, hN⟩ := hv
  have hx := B.exec
  have hb := B.bytes
  have hr := B.returns
  have hts := atoms_spec (ws := wsX10_says) B.pre
  have hown : s.vm.findClass RX10 = some m.cls := findClass_of_methodNamed B.named
  have hlocks := B.notSynchronized
  subst hsz
  have hD := hD0.self (sz := s.heap.size)
  generalize hAe : va_A (WL cy zL zT zR zI zJ) s.heap.size = A at hD ⊢
  have hA : ∀ q : Nat, s.heap.size ≤ q → A q := fun q h => by rw [← hAe]; exact Or.inr h
  have hS : va_S A s.heap s.heap [] := va_S.rf
  have hP : va_P (dC, dI) vwCl (WL cy zL zT zR zI zJ) s.heap := hP
  have hl := lv_entry ([.ref zx, .int zia, .int zib, .int zic, .int zid] : List Value) (n := 11) (Nat.le_of_ble_eq_true rfl)
  rw [lg_entry_eq]
  generalize (lg_sl ([.ref zx, .int zia, .int zib, .int zic, .int zid] : List Value) ++ List.replicate (11 - (lg_sl ([.ref zx, .int zia, .int zib, .int zic, .int zid] : List Value)).length) Slot.unset).toArray = ls at hl ⊢
  have hl : lv_has ls 11 [(0, .ref zx), (1, .int zia), (2, .int zib), (3, .int zic), (4, .int zid)] := hl
  refine w_q (fun Q hQ => ?_)
  have h_zI : WM [] AL zT zR zI zI := WM.rf hw
  refine lv_aload_n hx hb dX10_says_0 rfl (lv_at hl 0 rfl) ?_
  refine lv_iload_n hx hb dX10_says_1 rfl (lv_at hl 1 rfl) ?_
  refine lv_iload_n hx hb dX10_says_2 rfl (lv_at hl 2 rfl) ?_
  refine lv_iload_n hx hb dX10_says_3 rfl (lv_at hl 3 rfl) ?_
  refine hj_i (ws := (WL cy zL zT zR zI zJ)) (w1 := fun (u : Unit) => (WL cy zL zT zR zI zJ)) (va_runV (As := [.int zia, .int zib, .int zic]) (rest := []) ⟨hx, hb, hml, hown, hts⟩ (t_X10_isPair l dC dI cy s.heap.size zL zT zR zI zJ zx zia zib zic hs h_zI.1 t_zx) (cwV 3 hts gX10_says_X10_isPair rfl rfl rfl (by decide +kernel) ⟨(Nat.le_of_ble_eq_true rfl), (Nat.le_of_ble_eq_true rfl)⟩) (PRE.v hP hK hD hN (ht_recv hK hP hs t_zx (by decide) rfl rfl)) rfl rfl hl.1 rfl (lv_room (Nat.le_of_ble_eq_true rfl)) dX10_says_4 ⟨(Nat.le_of_ble_eq_true rfl), (Nat.le_of_ble_eq_true rfl)⟩) hP hD hS hA (fun zi_1 u_3 H locs hw_2 hP hD hS => ?_)
  obtain ⟨b_zi_1, ps_4, ps_5⟩ : (0 ≤ zi_1.toInt ∧ zi_1.toInt ≤ 1) ∧ (zi_1.toInt = 0 ∨ (0 ≤ zia.toInt ∧ zia.toInt ≤ 1 ∧ 0 ≤ zib.toInt ∧ zib.toInt ≤ 11 ∧ 0 ≤ zic.toInt ∧ zic.toInt ≤ 11)) ∧ (zi_1.toInt = 0 ∨ zic.toInt < (zI (zR (zR (zR zx 0) 2) zia.toNatClampNeg) 7).toInt) := hw_2
  refine lv_if_eq (tgt := 20) hx hb dX10_says_7 (by decide) (fun c_6 => ?_) (fun c_6 => ?_)
  · have f_7 : zi_1.toInt = 0 := ic_eq (rfl) (by decide) c_6
    refine lv_iconst (v := (-1)) hx hb dX10_says_20 (by decide) ?_
    subst hQ
    exact W.iret (v := (-1 : Int32)) hx hb hr (fun t ht hW => ⟨⟨(-1 : Int32), (), rfl, (show JX zR zI zx from hj), ⟨by rw [ht]; exact hP, va_K.moved hW.alike hK, hD⟩⟩, hS.F ht⟩) hS.2.2 dX10_says_21
  · have f_7 : ¬ (zi_1.toInt = 0) := ic_neq (rfl) (by decide) c_6
    have b9_zia : 0 ≤ zia.toInt ∧ zia.toInt ≤ 1 := by omega
    have b9_zib : 0 ≤ zib.toInt ∧ zib.toInt ≤ 11 := by omega
    have b9_zic : 0 ≤ zic.toInt ∧ zic.toInt ≤ 11 := by omega
    refine lv_iload hx hb dX10_says_10 (lv_at hl 4 rfl) ?_
    refine lv_iconst (v := 0) hx hb dX10_says_12 (by decide) ?_
    refine lv_iconst (v := 2) hx hb dX10_says_13 (by decide) ?_
    refine hj0_i (ws := (WL cy zL zT zR zI zJ)) (va_runS (As := [.int zid, .int 0, .int 2]) (rest := []) ⟨hx, hb, hml, hown, hts⟩ (c_X10_isWithin l dC dI cy H.size zid 0 2 0 2 (by first | rfl | decide | omega | exact Int32.toInt_toInt64 _) (by first | rfl | decide | omega | exact Int32.toInt_toInt64 _)) (va_cwS 3 hts gX10_says_X10_isWithin rfl rfl rfl (by decide +kernel) ⟨(Nat.le_of_ble_eq_true rfl), (Nat.le_of_ble_eq_true rfl)⟩) (PRE.s (hP.sub [] rfl) hK (hD.sub [] (by decide) rfl) hN) rfl rfl hl.1 rfl (lv_room (Nat.le_of_ble_eq_true rfl)) dX10_says_14 ⟨(Nat.le_of_ble_eq_true rfl), (Nat.le_of_ble_eq_true rfl)⟩) hP hD hS hA (fun zi_8 u_10 H locs hw_9 hP hD hS => ?_)
    have hw_9 : zi_8 = if 0 ≤ zid.toInt ∧ zid.toInt ≤ 2 then 1 else 0 := hw_9
    have b_zi_8 : 0 ≤ zi_8.toInt ∧ zi_8.toInt ≤ 1 := bz_b hw_9
    refine lv_if_ne (tgt := 22) hx hb dX10_says_17 (by decide) (fun c_11 => ?_) (fun c_11 => ?_)
    · have f_12 : 0 ≤ zid.toInt ∧ zid.toInt ≤ 2 := bz_1 hw_9 c_11
      refine lv_aload_n hx hb dX10_says_22 rfl (lv_at hl 0 rfl) ?_
      refine ht_getr (C := RX10) (T := TX10) (N := 10) hx hb hts (by decide +kernel) hown hK hP hs t_zx (by decide) rfl rfl 0 (by decide) (hts (.fieldLink RX10 12 "DripStone" "now" "LDripStone$State;") (by decide +kernel)) (fun _ h9 => h9) rfl dX10_says_23 ?_
      have t_13 : zT (zR zx 0) = 9 := sk_f hs t_zx (by decide) rfl (by decide)
      refine ht_getr (C := RX8) (T := TX8) (N := 9) hx hb hts (by decide +kernel) hown hK hP hs t_13 (by decide) rfl rfl 2 (by decide) (hts (.fieldLink RX10 147 "DripStone$State" "candles" "[LDripStone$Candle;") (by decide +kernel)) (fun _ h9 => h9) rfl dX10_says_26 ?_
      have t_14 : zT (zR (zR zx 0) 2) = 61 := sk_f hs t_13 (by decide) rfl (by decide)
      refine lv_iload_n hx hb dX10_says_29 rfl (lv_at hl 1 rfl) ?_
      refine ht_aald (n := 2) (q := 3) hx hb hK hP hs t_14 (by decide) rfl rfl ⟨by omega, by omega⟩ dX10_says_30 ?_
      have t_15 : zT (zR (zR (zR zx 0) 2) zia.toNatClampNeg) = 1 := sk_a (n := 2) hs t_14 rfl rfl (by decide) (cl_lt (by omega) (by omega))
      refine lv_astore (lv' := [(5, .ref (zR (zR (zR zx 0) 2) zia.toNatClampNeg)), (0, .ref zx), (1, .int zia), (2, .int zib), (3, .int zic), (4, .int zid)]) hx hb dX10_says_31 hl (by decide) rfl (fun ls hl => ?_)
      refine lv_aload hx hb dX10_says_33 (lv_at hl 0 rfl) ?_
      refine ht_getr (C := RX0) (T := TX0) (N := 11) hx hb hts (by decide +kernel) hown hK hP hs t_15 (by decide) rfl rfl 0 (by decide) (hts (.fieldLink RX10 191 "DripStone$Candle" "kinds" "[I") (by decide +kernel)) (fun _ h9 => h9) rfl dX10_says_35 ?_
      have t_16 : zT (zR (zR (zR (zR zx 0) 2) zia.toNatClampNeg) 0) = 20 := sk_f hs t_15 (by decide) rfl (by decide)
      refine lv_iload_n hx hb dX10_says_38 rfl (lv_at hl 3 rfl) ?_
      refine ht_iald (n := 12) (q := 0) hx hb hK hP hs t_16 (by decide) rfl rfl ⟨by omega, by omega⟩ dX10_says_39 ?_
      refine lv_topi (fun zi_17 ezi_17 => ?_)
      refine lv_if_ne (tgt := 53) hx hb dX10_says_40 (by decide) (fun c_18 => ?_) (fun c_18 => ?_)
      · have f_19 : zi_17.toInt ≠ 0 := ic_ne (rfl) (by decide) c_18
        refine lv_bipush (v := (-12)) hx hb dX10_says_53 (by decide) ?_
        subst hQ
        exact W.iret (v := (-12 : Int32)) hx hb hr (fun t ht hW => ⟨⟨(-12 : Int32), (), rfl, (show JX zR zI zx from hj), ⟨by rw [ht]; exact hP, va_K.moved hW.alike hK, hD⟩⟩, hS.F ht⟩) hS.2.2 dX10_says_55
      · have f_19 : ¬ (zi_17.toInt ≠ 0) := ic_nne (rfl) (by decide) c_18
        refine lv_aload hx hb dX10_says_43 (lv_at hl 0 rfl) ?_
        refine ht_getr (C := RX0) (T := TX0) (N := 11) hx hb hts (by decide +kernel) hown hK hP hs t_15 (by decide) rfl rfl 0 (by decide) (hts (.fieldLink RX10 191 "DripStone$Candle" "kinds" "[I") (by decide +kernel)) (fun _ h9 => h9) rfl dX10_says_45 ?_
        refine lv_iload_n hx hb dX10_says_48 rfl (lv_at hl 4 rfl) ?_
        refine ht_iald (n := 12) (q := 0) hx hb hK hP hs t_16 (by decide) rfl rfl ⟨by omega, by omega⟩ dX10_says_49 ?_
        refine lv_topi (fun zi_20 ezi_20 => ?_)
        refine lv_if_eq (tgt := 56) hx hb dX10_says_50 (by decide) (fun c_21 => ?_) (fun c_21 => ?_)
        · have f_22 : zi_20.toInt = 0 := ic_eq (rfl) (by decide) c_21
          refine lv_aload hx hb dX10_says_56 (lv_at hl 0 rfl) ?_
          refine ht_getr (C := RX0) (T := TX0) (N := 11) hx hb hts (by decide +kernel) hown hK hP hs t_15 (by decide) rfl rfl 1 (by decide) (hts (.fieldLink RX10 194 "DripStone$Candle" "weights" "[I") (by decide +kernel)) (fun _ h9 => h9) rfl dX10_says_58 ?_
          have t_23 : zT (zR (zR (zR (zR zx 0) 2) zia.toNatClampNeg) 1) = 21 := sk_f hs t_15 (by decide) rfl (by decide)
          refine lv_iload_n hx hb dX10_says_61 rfl (lv_at hl 4 rfl) ?_
          refine ht_iald (n := 12) (q := 0) hx hb hK hP hs t_23 (by decide) rfl rfl ⟨by omega, by omega⟩ dX10_says_62 ?_
          refine lv_topi (fun zi_24 ezi_24 => ?_)
          refine lv_aload hx hb dX10_says_63 (lv_at hl 0 rfl) ?_
          refine ht_getr (C := RX0) (T := TX0) (N := 11) hx hb hts (by decide +kernel) hown hK hP hs t_15 (by decide) rfl rfl 1 (by decide) (hts (.fieldLink RX10 194 "DripStone$Candle" "weights" "[I") (by decide +kernel)) (fun _ h9 => h9) rfl dX10_says_65 ?_
          refine lv_iload_n hx hb dX10_says_68 rfl (lv_at hl 3 rfl) ?_
          refine ht_iald (n := 12) (q := 0) hx hb hK hP hs t_23 (by decide) rfl rfl ⟨by omega, by omega⟩ dX10_says_69 ?_
          refine lv_topi (fun zi_25 ezi_25 => ?_)
          refine lv_isub hx hb dX10_says_70 ?_
          refine lv_topi (fun zi_26 ezi_26 => ?_)
          refine lv_istore (lv' := [(6, .int zi_26), (5, .ref (zR (zR (zR zx 0) 2) zia.toNatClampNeg)), (0, .ref zx), (1, .int zia), (2, .int zib), (3, .int zic), (4, .int zid)]) hx hb dX10_says_71 hl (by decide) rfl (fun ls hl => ?_)
          refine lv_iconst (v := 0) hx hb dX10_says_73 (by decide) ?_
          refine lv_istore (lv' := [(7, .int 0), (6, .int zi_26), (5, .ref (zR (zR (zR zx 0) 2) zia.toNatClampNeg)), (0, .ref zx), (1, .int zia), (2, .int zib), (3, .int zic), (4, .int zid)]) hx hb dX10_says_74 hl (by decide) rfl (fun ls hl => ?_)
          refine lv_iconst (v := 0) hx hb dX10_says_76 (by decide) ?_
          refine lv_istore (lv' := [(8, .int 0), (7, .int 0), (6, .int zi_26), (5, .ref (zR (zR (zR zx 0) 2) zia.toNatClampNeg)), (0, .ref zx), (1, .int zia), (2, .int zib), (3, .int zic), (4, .int zid)]) hx hb dX10_says_77 hl (by decide) rfl (fun ls hl => ?_)
          refine lv_iconst (v := 1) hx hb dX10_says_79 (by decide) ?_
          refine lv_aload_n hx hb dX10_says_80 rfl (lv_at hl 4 rfl) ?_
          refine ht_getr (C := RX10) (T := TX10) (N := 10) hx hb hts (by decide +kernel) hown hK hP hs t_zx (by decide) rfl rfl 0 (by decide) (hts (.fieldLink RX10 12 "DripStone" "now" "LDripStone$State;") (by decide +kernel)) (fun _ h9 => h9) rfl dX10_says_81 ?_
          refine ht_geti (C := RX8) (T := TX8) (N := 9) hx hb hts (by decide +kernel) hown hK hP hs t_13 (by decide) rfl rfl 8 (by decide) (hts (.fieldLink RX10 228 "DripStone$State" "caused" "I") (by decide +kernel)) (fun _ h9 => h9) rfl dX10_says_84 ?_
          refine lv_topi (fun zi_27 ezi_27 => ?_)
          have tzi_27 : 0 ≤ zi_27.toInt ∧ zi_27.toInt ≤ 5 := by rw [ezi_27]; exact h_zI.at t_13 _ rfl
          refine lv_ishl hx hb dX10_says_87 ?_
          refine lv_topi (fun zi_28 ezi_28 => ?_)
          have rzi_28 := rng zi_28
          refine lv_iconst (v := 1) hx hb dX10_says_88 (by decide) ?_
          refine lv_isub hx hb dX10_says_89 ?_
          refine lv_topi (fun zi_29 ezi_29 => ?_)
          refine lv_istore (lv' := [(9, .int zi_29), (8, .int 0), (7, .int 0), (6, .int zi_26), (5, .ref (zR (zR (zR zx 0) 2) zia.toNatClampNeg)), (0, .ref zx), (1, .int zia), (2, .int zib), (3, .int zic), (4, .int zid)]) hx hb dX10_says_90 hl (by decide) rfl (fun ls hl => ?_)
          refine lv_iconst (v := 1) hx hb dX10_says_92 (by decide) ?_
          refine lv_istore (lv' := [(10, .int 1), (9, .int zi_29), (8, .int 0), (7, .int 0), (6, .int zi_26), (5, .ref (zR (zR (zR zx 0) 2) zia.toNatClampNeg)), (0, .ref zx), (1, .int zia), (2, .int zib), (3, .int zic), (4, .int zid)]) hx hb dX10_says_93 hl (by decide) rfl (fun ls hl => ?_)
          have lp_2816 : ∀ (n : Nat) (zi_174 : Int32) (zi_175 : Int32) (zi_176 : Int32) (zi_177 : Int32) (H : Heap) (locs : List Loc) (ls : Array Slot), (2147483647 - zi_177.toInt).toNat = n → (0 ≤ zi_175.toInt) → (1 ≤ zi_177.toInt) → va_P (dC, dI) vwCl (WL cy zL zT zR zI zJ) H → va_D A (WL cy zL zT zR zI zJ) → va_S A s.heap H locs → lv_has ls 11 [(0, .ref zx), (1, .int zia), (2, .int zib), (3, .int zic), (4, .int zid), (5, .ref (zR (zR (zR zx 0) 2) zia.toNatClampNeg)), (6, .int zi_26), (7, .int zi_174), (8, .int zi_175), (9, .int zi_176), (10, .int zi_177)] → W p l e ({ frames := 4, cells := 0, slots := 0, locals := 87 } : Room) s m ([.ref zx, .int zia, .int zib, .int zic, .int zid] : List Value).toArray below meth c H locs 0 0 Q (F0 m 95 ls []) := by
            intro n
            induction n using Nat.strongRecOn with
            | _ n ih_2816 =>
              intro zi_174 zi_175 zi_176 zi_177 H locs ls hn b_zi_175 b_zi_177 hP hD hS hl
              refine lv_iload hx hb dX10_says_95 (lv_at hl 10 rfl) ?_
              refine lv_iconst (v := 1) hx hb dX10_says_97 (by decide) ?_
              refine lv_aload_n hx hb dX10_says_98 rfl (lv_at hl 0 rfl) ?_
              refine ht_getr (C := RX10) (T := TX10) (N := 10) hx hb hts (by decide +kernel) hown hK hP hs t_zx (by decide) rfl rfl 0 (by decide) (hts (.fieldLink RX10 12 "DripStone" "now" "LDripStone$State;") (by decide +kernel)) (fun _ h9 => h9) rfl dX10_says_99 ?_
              refine ht_geti (C := RX8) (T := TX8) (N := 9) hx hb hts (by decide +kernel) hown hK hP hs t_13 (by decide) rfl rfl 8 (by decide) (hts (.fieldLink RX10 228 "DripStone$State" "caused" "I") (by decide +kernel)) (fun _ h9 => h9) rfl dX10_says_102 ?_
              refine lv_topi (fun zi_2817 ezi_2817 => ?_)
              obtain rfl : zi_27 = zi_2817 := (ezi_2817.trans ezi_27.symm).symm
              refine lv_ishl hx hb dX10_says_105 ?_
              refine lv_topi (fun zi_2818 ezi_2818 => ?_)
              have rzi_2818 := rng zi_2818
              refine lv_icmp_ge (tgt := 161) hx hb dX10_says_106 (by decide) (fun c_2819 => ?_) (fun c_2819 => ?_)
              · have f_2820 : zi_177.toInt ≥ zi_2818.toInt := ic_ge (rfl) (rfl) c_2819
                refine lv_iload hx hb dX10_says_161 (lv_at hl 4 rfl) ?_
                refine lv_if_ne (tgt := 169) hx hb dX10_says_163 (by decide) (fun c_2821 => ?_) (fun c_2821 => ?_)
                · have f_2822 : zid.toInt ≠ 0 := ic_ne (rfl) (by decide) c_2821
                  refine lv_iload hx hb dX10_says_169 (lv_at hl 7 rfl) ?_
                  refine lv_if_ne (tgt := 179) hx hb dX10_says_171 (by decide) (fun c_2823 => ?_) (fun c_2823 => ?_)
                  · have f_2824 : zi_174.toInt ≠ 0 := ic_ne (rfl) (by decide) c_2823
                    refine lv_iload hx hb dX10_says_179 (lv_at hl 4 rfl) ?_
                    refine lv_iconst (v := 1) hx hb dX10_says_181 (by decide) ?_
                    refine lv_icmp_ne (tgt := 190) hx hb dX10_says_182 (by decide) (fun c_2825 => ?_) (fun c_2825 => ?_)
                    · have f_2826 : zid.toInt ≠ (1 : Int) := ic_ne (rfl) (show (1 : Int32).toInt = 1 by decide) c_2825
                      refine lv_iload hx hb dX10_says_190 (lv_at hl 9 rfl) ?_
                      subst hQ
                      exact W.iret (v := zi_176) hx hb hr (fun t ht hW => ⟨⟨zi_176, (), rfl, (show JX zR zI zx from hj), ⟨by rw [ht]; exact hP, va_K.moved hW.alike hK, hD⟩⟩, hS.F ht⟩) hS.2.2 dX10_says_192
                    · have f_2826 : ¬ (zid.toInt ≠ (1 : Int)) := ic_nne (rfl) (show (1 : Int32).toInt = 1 by decide) c_2825
                      refine lv_iload hx hb dX10_says_185 (lv_at hl 8 rfl) ?_
                      refine lv_goto (tgt := 192) hx hb dX10_says_187 (by decide) ?_
                      subst hQ
                      exact W.iret (v := zi_175) hx hb hr (fun t ht hW => ⟨⟨zi_175, (), rfl, (show JX zR zI zx from hj), ⟨by rw [ht]; exact hP, va_K.moved hW.alike hK, hD⟩⟩, hS.F ht⟩) hS.2.2 dX10_says_192
                  · have f_2824 : ¬ (zi_174.toInt ≠ 0) := ic_nne (rfl) (by decide) c_2823
                    refine lv_bipush (v := (-4)) hx hb dX10_says_174 (by decide) ?_
                    refine lv_goto (tgt := 192) hx hb dX10_says_176 (by decide) ?_
                    subst hQ
                    exact W.iret (v := (-4 : Int32)) hx hb hr (fun t ht hW => ⟨⟨(-4 : Int32), (), rfl, (show JX zR zI zx from hj), ⟨by rw [ht]; exact hP, va_K.moved hW.alike hK, hD⟩⟩, hS.F ht⟩) hS.2.2 dX10_says_192
                · have f_2822 : ¬ (zid.toInt ≠ 0) := ic_nne (rfl) (by decide) c_2821
                  refine lv_iload hx hb dX10_says_166 (lv_at hl 7 rfl) ?_
                  subst hQ
                  exact W.iret (v := zi_174) hx hb hr (fun t ht hW => ⟨⟨zi_174, (), rfl, (show JX zR zI zx from hj), ⟨by rw [ht]; exact hP, va_K.moved hW.alike hK, hD⟩⟩, hS.F ht⟩) hS.2.2 dX10_says_168
              · have f_2820 : ¬ (zi_177.toInt ≥ zi_2818.toInt) := ic_nge (rfl) (rfl) c_2819
                refine lv_aload_n hx hb dX10_says_109 rfl (lv_at hl 0 rfl) ?_
                refine ht_getr (C := RX10) (T := TX10) (N := 10) hx hb hts (by decide +kernel) hown hK hP hs t_zx (by decide) rfl rfl 0 (by decide) (hts (.fieldLink RX10 12 "DripStone" "now" "LDripStone$State;") (by decide +kernel)) (fun _ h9 => h9) rfl dX10_says_110 ?_
                refine lv_iload hx hb dX10_says_113 (lv_at hl 10 rfl) ?_
                refine lv_iload hx hb dX10_says_115 (lv_at hl 6 rfl) ?_
                refine hj_i (ws := (WL cy zL zT zR zI zJ)) (w1 := fun (u : Unit) => (WL cy zL zT zR zI zJ)) (va_runV (As := [.int zi_177, .int zi_26]) (rest := []) ⟨hx, hb, hml, hown, hts⟩ (t_X8_canSay l dC dI cy H.size zL zT zR zI zJ (zR zx 0) zi_177 zi_26 hs h_zI.1 t_13) (cwV 2 hts gX10_says_X8_canSay rfl rfl rfl (by decide +kernel) ⟨(Nat.le_of_ble_eq_true rfl), (Nat.le_of_ble_eq_true rfl)⟩) (PRE.v hP hK hD hN (ht_recv hK hP hs t_13 (by decide) rfl rfl)) rfl rfl hl.1 rfl (lv_room (Nat.le_of_ble_eq_true rfl)) dX10_says_117 ⟨(Nat.le_of_ble_eq_true rfl), (Nat.le_of_ble_eq_true rfl)⟩) hP hD hS hA (fun zi_2827 u_2829 H locs hw_2828 hP hD hS => ?_)
                have b_zi_2827 : 0 ≤ zi_2827.toInt ∧ zi_2827.toInt ≤ 1 := hw_2828
                have jn_2857 : ∀ (zi_2854 : Int32) (zi_2855 : Int32) (zi_2856 : Int32) (H : Heap) (locs : List Loc) (ls : Array Slot), (0 ≤ zi_2855.toInt) → va_P (dC, dI) vwCl (WL cy zL zT zR zI zJ) H → va_D A (WL cy zL zT zR zI zJ) → va_S A s.heap H locs → lv_has ls 11 [(0, .ref zx), (1, .int zia), (2, .int zib), (3, .int zic), (4, .int zid), (5, .ref (zR (zR (zR zx 0) 2) zia.toNatClampNeg)), (6, .int zi_26), (7, .int zi_2854), (8, .int zi_2855), (9, .int zi_2856), (10, .int zi_177)] → W p l e ({ frames := 4, cells := 0, slots := 0, locals := 87 } : Room) s m ([.ref zx, .int zia, .int zib, .int zic, .int zid] : List Value).toArray below meth c H locs 0 0 Q (F0 m 155 ls []) := by
                  intro zi_2854 zi_2855 zi_2856 H locs ls b_zi_2855 hP hD hS hl
                  obtain ⟨zi_2858, ezi_2858⟩ : ∃ y : Int32, y = zi_177 + 1 := ⟨_, rfl⟩
                  have tzi_2858 : zi_2858.toInt = zi_177.toInt + 1 := by rw [ezi_2858]; exact tadd rfl (show (1 : Int32).toInt = 1 by decide) (by omega) (by omega)
                  refine lv_iinc (v := zi_2858) (lv' := [(10, .int zi_2858), (0, .ref zx), (1, .int zia), (2, .int zib), (3, .int zic), (4, .int zid), (5, .ref (zR (zR (zR zx 0) 2) zia.toNatClampNeg)), (6, .int zi_26), (7, .int zi_2854), (8, .int zi_2855), (9, .int zi_2856)]) hx hb dX10_says_155 hl (k := 10) rfl (by rw [ezi_2858]; rfl) (by decide) rfl (fun ls hl => ?_)
                  refine lv_goto (tgt := 95) hx hb dX10_says_158 (by decide) ?_
                  exact ih_2816 (2147483647 - zi_2858.toInt).toNat (by omega) zi_2854 zi_2855 zi_2856 zi_2858 _ _ _ rfl (by omega) (by omega) hP hD hS (lv_sub hl [1, 2, 3, 4, 5, 6, 7, 8, 9, 10, 0] rfl)
                refine lv_if_eq (tgt := 155) hx hb dX10_says_120 (by decide) (fun c_2859 => ?_) (fun c_2859 => ?_)
                · have f_2860 : zi_2827.toInt = 0 := ic_eq (rfl) (by decide) c_2859
                  exact jn_2857 zi_174 zi_175 zi_176 _ _ _ (by omega) hP hD hS (lv_sub hl [0, 1, 2, 3, 4, 5, 6, 7, 8, 9, 10] rfl)
                · have f_2860 : ¬ (zi_2827.toInt = 0) := ic_neq (rfl) (by decide) c_2859
                  obtain ⟨zi_2861, ezi_2861⟩ : ∃ y : Int32, y = zi_174 + 1 := ⟨_, rfl⟩
                  refine lv_iinc (v := zi_2861) (lv' := [(7, .int zi_2861), (0, .ref zx), (1, .int zia), (2, .int zib), (3, .int zic), (4, .int zid), (5, .ref (zR (zR (zR zx 0) 2) zia.toNatClampNeg)), (6, .int zi_26), (8, .int zi_175), (9, .int zi_176), (10, .int zi_177)]) hx hb dX10_says_123 hl (k := 7) rfl (by rw [ezi_2861]; rfl) (by decide) rfl (fun ls hl => ?_)
                  refine lv_iload hx hb dX10_says_126 (lv_at hl 9 rfl) ?_
                  refine lv_iload hx hb dX10_says_128 (lv_at hl 10 rfl) ?_
                  refine lv_iand hx hb dX10_says_130 ?_
                  refine lv_topi (fun zi_2862 ezi_2862 => ?_)
                  have rzi_2862 := rng zi_2862
                  refine lv_istore (lv' := [(9, .int zi_2862), (7, .int zi_2861), (0, .ref zx), (1, .int zia), (2, .int zib), (3, .int zic), (4, .int zid), (5, .ref (zR (zR (zR zx 0) 2) zia.toNatClampNeg)), (6, .int zi_26), (8, .int zi_175), (10, .int zi_177)]) hx hb dX10_says_131 hl (by decide) rfl (fun ls hl => ?_)
                  refine lv_iload hx hb dX10_says_133 (lv_at hl 9 rfl) ?_
                  have jn_2873 : ∀  (H : Heap) (locs : List Loc) (ls : Array Slot), va_P (dC, dI) vwCl (WL cy zL zT zR zI zJ) H → va_D A (WL cy zL zT zR zI zJ) → va_S A s.heap H locs → lv_has ls 11 [(0, .ref zx), (1, .int zia), (2, .int zib), (3, .int zic), (4, .int zid), (5, .ref (zR (zR (zR zx 0) 2) zia.toNatClampNeg)), (6, .int zi_26), (7, .int zi_2861), (8, .int zi_175), (9, .int zi_2862), (10, .int zi_177)] → W p l e ({ frames := 4, cells := 0, slots := 0, locals := 87 } : Room) s m ([.ref zx, .int zia, .int zib, .int zic, .int zid] : List Value).toArray below meth c H locs 0 0 Q (F0 m 151 ls []) := by
                    intro  H locs ls  hP hD hS hl
                    refine lv_iload hx hb dX10_says_151 (lv_at hl 10 rfl) ?_
                    refine lv_istore (lv' := [(8, .int zi_177), (0, .ref zx), (1, .int zia), (2, .int zib), (3, .int zic), (4, .int zid), (5, .ref (zR (zR (zR zx 0) 2) zia.toNatClampNeg)), (6, .int zi_26), (7, .int zi_2861), (9, .int zi_2862), (10, .int zi_177)]) hx hb dX10_says_153 hl (by decide) rfl (fun ls hl => ?_)
                    exact jn_2857 zi_2861 zi_177 zi_2862 _ _ _ (by omega) hP hD hS (lv_sub hl [1, 2, 3, 4, 5, 6, 7, 8, 0, 9, 10] rfl)
                  refine lv_if_eq (tgt := 151) hx hb dX10_says_135 (by decide) (fun c_2874 => ?_) (fun c_2874 => ?_)
                  · have f_2875 : zi_175.toInt = 0 := ic_eq (rfl) (by decide) c_2874
                    exact jn_2873  _ _ _  hP hD hS (lv_sub hl [2, 3, 4, 5, 6, 7, 8, 1, 9, 0, 10] rfl)
                  · have f_2875 : ¬ (zi_175.toInt = 0) := ic_neq (rfl) (by decide) c_2874
                    refine lv_iload hx hb dX10_says_138 (lv_at hl 10 rfl) ?_
                    refine hj0_i (ws := (WL cy zL zT zR zI zJ)) (va_runS (As := [.int zi_177]) (rest := []) ⟨hx, hb, hml, hown, hts⟩ (c_J6_bitCount_0f7a4 l dC dI cy H.size zi_177) (va_cwS 1 hts gX10_says_J6_bitCount_0f7a4 rfl rfl rfl (by decide +kernel) ⟨(Nat.le_of_ble_eq_true rfl), (Nat.le_of_ble_eq_true rfl)⟩) (PRE.s (hP.sub [] rfl) hK (hD.sub [] (by decide) rfl) hN) rfl rfl hl.1 rfl (lv_room (Nat.le_of_ble_eq_true rfl)) dX10_says_140 ⟨(Nat.le_of_ble_eq_true rfl), (Nat.le_of_ble_eq_true rfl)⟩) hP hD hS hA (fun zi_2876 u_2878 H locs hw_2877 hP hD hS => ?_)
                    have b_zi_2876 : 0 ≤ zi_2876.toInt ∧ zi_2876.toInt ≤ 63 := hw_2877
                    refine lv_iload hx hb dX10_says_143 (lv_at hl 9 rfl) ?_
                    refine hj0_i (ws := (WL cy zL zT zR zI zJ)) (va_runS (As := [.int zi_175]) (rest := [.int zi_2876]) ⟨hx, hb, hml, hown, hts⟩ (c_J6_bitCount_0f7a4 l dC dI cy H.size zi_175) (va_cwS 1 hts gX10_says_J6_bitCount_0f7a4 rfl rfl rfl (by decide +kernel) ⟨(Nat.le_of_ble_eq_true rfl), (Nat.le_of_ble_eq_true rfl)⟩) (PRE.s (hP.sub [] rfl) hK (hD.sub [] (by decide) rfl) hN) rfl rfl hl.1 rfl (lv_room (Nat.le_of_ble_eq_true rfl)) dX10_says_145 ⟨(Nat.le_of_ble_eq_true rfl), (Nat.le_of_ble_eq_true rfl)⟩) hP hD hS hA (fun zi_2879 u_2881 H locs hw_2880 hP hD hS => ?_)
                    have b_zi_2879 : 0 ≤ zi_2879.toInt ∧ zi_2879.toInt ≤ 63 := hw_2880
                    refine lv_icmp_ge (tgt := 155) hx hb dX10_says_148 (by decide) (fun c_2882 => ?_) (fun c_2882 => ?_)
                    · have f_2883 : zi_2876.toInt ≥ zi_2879.toInt := ic_ge (rfl) (rfl) c_2882
                      exact jn_2857 zi_2861 zi_175 zi_2862 _ _ _ (by omega) hP hD hS (lv_sub hl [2, 3, 4, 5, 6, 7, 8, 1, 9, 0, 10] rfl)
                    · have f_2883 : ¬ (zi_2876.toInt ≥ zi_2879.toInt) := ic_nge (rfl) (rfl) c_2882
                      exact jn_2873  _ _ _  hP hD hS (lv_sub hl [2, 3, 4, 5, 6, 7, 8, 1, 9, 0, 10] rfl)
          exact lp_2816 _ (0 : Int32) (0 : Int32) zi_29 (1 : Int32) _ _ _ rfl (by decide) (by decide) hP hD hS (lv_sub hl [6, 7, 8, 9, 10, 5, 4, 3, 2, 1, 0] rfl)
        · have f_22 : ¬ (zi_20.toInt = 0) := ic_neq (rfl) (by decide) c_21
          refine lv_bipush (v := (-12)) hx hb dX10_says_53 (by decide) ?_
          subst hQ
          exact W.iret (v := (-12 : Int32)) hx hb hr (fun t ht hW => ⟨⟨(-12 : Int32), (), rfl, (show JX zR zI zx from hj), ⟨by rw [ht]; exact hP, va_K.moved hW.alike hK, hD⟩⟩, hS.F ht⟩) hS.2.2 dX10_says_55
    · have f_12 : ¬ (0 ≤ zid.toInt ∧ zid.toInt ≤ 2) := bz_0 hw_9 c_11
      refine lv_iconst (v := (-1)) hx hb dX10_says_20 (by decide) ?_
      subst hQ
      exact W.iret (v := (-1 : Int32)) hx hb hr (fun t ht hW => ⟨⟨(-1 : Int32), (), rfl, (show JX zR zI zx from hj), ⟨by rw [ht]; exact hP, va_K.moved hW.alike hK, hD⟩⟩, hS.F ht⟩) hS.2.2 dX10_says_21
