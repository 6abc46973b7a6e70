set_option maxHeartbeats 8000000 in
set_option maxRecDepth 100000 in
theorem t_X10_make (l : Launch) (dC : Nat → ClassId) (dI : Nat → Nat → Nat) (cy : Nat → ClassId) (sz : Nat) (zL : List Nat) (zT : Nat → Nat) (zR : Nat → Nat → Nat) (zI : Nat → Nat → Int32) (zJ : Nat → Nat → Int64) (zx : Nat) (zia : Int32) (hs : SKP zL zT zR) (hw : WT zT zR zI) (t_zx : zT zx = 11) (hj : JX zR zI zx) : Met l yX10_make wsX10_make ({ frames := 4, cells := 0, slots := 0, locals := 105 } : Room) (va_Pc [.ref zx, .int zia] (PRE dC dI cy (WL cy zL zT zR zI zJ) sz)) (va_Qi (fun (r : Int32) (u : (Nat → Nat → Int32)) => (WM [107, 108, 110, 306, 2000, 2100, 2400, 2500, 2600, 2700, 4700] AL zT zR zI u) ∧ ((-2) ≤ r.toInt ∧ r.toInt ≤ 12) ∧ (JX zR u zx)) (fun u t => POST dC dI cy (va_A (WL cy zL zT zR zI zJ) sz) (WL cy zL zT zR u zJ) t) (va_A (WL cy zL zT zR zI zJ) sz)) 0 0 (va_A (WL cy zL zT zR zI zJ) sz) := by
  refine Met.ofW (cc := cX10_make) (maxL := 2) (ret := (some .int)) (by decide) rfl ?_
  intro p e s m args below meth c s₁ B hml hv
  obtain ⟨rfl, hsz, hP, hK, hD0, hN⟩ := hv
  have hx := B.exec
  have hb := B.bytes
  have hr := B.returns
  have hts := atoms_spec (ws := wsX10_make) B.pre
  have hown : s.vm.findClass RX10 = some m.cls := findClass_of_methodNamed B.named
  have hlocks := B.notSynchronized
  subst hsz
  have hD := hD0.self (sz := s.heap.size)
  generalize hAe : va_A (WL cy zL zT zR zI zJ) s.heap.size = A at hD ⊢
  have hA : ∀ q : Nat, s.heap.size ≤ q → A q := fun q h => by rw [← hAe]; exact Or.inr h
  have hS : va_S A s.heap s.heap [] := va_S.rf
  have hP : va_P (dC, dI) vwCl (WL cy zL zT zR zI zJ) s.heap := hP
  have hl := lv_entry ([.ref zx, .int zia] : List Value) (n := 2) (Nat.le_of_ble_eq_true rfl)
  rw [lg_entry_eq]
  generalize (lg_sl ([.ref zx, .int zia] : List Value) ++ List.replicate (2 - (lg_sl ([.ref zx, .int zia] : List Value)).length) Slot.unset).toArray = ls at hl ⊢
  have hl : lv_has ls 2 [(0, .ref zx), (1, .int zia)] := hl
  refine w_q (fun Q hQ => ?_)
  have h_zI : WM [107, 108, 110, 306, 2000, 2100, 2400, 2500, 2600, 2700, 4700] AL zT zR zI zI := WM.rf hw
  refine lv_iload_n hx hb dX10_make_0 rfl (lv_at hl 1 rfl) ?_
  refine hj0_i (ws := (WL cy zL zT zR zI zJ)) (va_runS (As := [.int zia]) (rest := []) ⟨hx, hb, hml, hown, hts⟩ (c_X10_isCandle l dC dI cy s.heap.size zia) (va_cwS 1 hts gX10_make_X10_isCandle rfl rfl rfl (by decide +kernel) ⟨(Nat.le_of_ble_eq_true rfl), (Nat.le_of_ble_eq_true rfl)⟩) (PRE.s (hP.sub [] rfl) hK (hD.sub [] (by decide) rfl) hN) rfl rfl hl.1 rfl (lv_room (Nat.le_of_ble_eq_true rfl)) dX10_make_1 ⟨(Nat.le_of_ble_eq_true rfl), (Nat.le_of_ble_eq_true rfl)⟩) hP hD hS hA (fun zi_1 u_3 H locs hw_2 hP hD hS => ?_)
  have hw_2 : zi_1 = if 0 ≤ zia.toInt ∧ zia.toInt ≤ 1 then 1 else 0 := hw_2
  have b_zi_1 : 0 ≤ zi_1.toInt ∧ zi_1.toInt ≤ 1 := bz_b hw_2
  refine lv_if_ne (tgt := 9) hx hb dX10_make_4 (by decide) (fun c_4 => ?_) (fun c_4 => ?_)
  · have f_5 : 0 ≤ zia.toInt ∧ zia.toInt ≤ 1 := bz_1 hw_2 c_4
    refine lv_aload_n hx hb dX10_make_9 rfl (lv_at hl 0 rfl) ?_
    refine ht_getr (C := RX10) (T := TX10) (N := 10) hx hb hts (by decide +kernel) hown hK hP hs t_zx (by decide) rfl rfl 0 (by decide) (hts (.fieldLink RX10 12 "DripStone" "now" "LDripStone$State;") (by decide +kernel)) (fun _ h9 => h9) rfl dX10_make_10 ?_
    have t_6 : zT (zR zx 0) = 9 := sk_f hs t_zx (by decide) rfl (by decide)
    refine ht_getr (C := RX8) (T := TX8) (N := 9) hx hb hts (by decide +kernel) hown hK hP hs t_6 (by decide) rfl rfl 1 (by decide) (hts (.fieldLink RX10 126 "DripStone$State" "law" "LDripStone$Law;") (by decide +kernel)) (fun _ h9 => h9) rfl dX10_make_13 ?_
    have t_7 : zT (zR (zR zx 0) 1) = 5 := sk_f hs t_6 (by decide) rfl (by decide)
    refine ht_geti (C := RX4) (T := TX4) (N := 6) hx hb hts (by decide +kernel) hown hK hP hs t_7 (by decide) rfl rfl 5 (by decide) (hts (.fieldLink RX10 133 "DripStone$Law" "clauses" "I") (by decide +kernel)) (fun _ h9 => h9) rfl dX10_make_16 ?_
    refine lv_topi (fun zi_8 ezi_8 => ?_)
    have tzi_8 : 0 ≤ zi_8.toInt ∧ zi_8.toInt ≤ 6 := by rw [ezi_8]; exact h_zI.at t_7 _ rfl
    refine lv_if_ne (tgt := 25) hx hb dX10_make_19 (by decide) (fun c_9 => ?_) (fun c_9 => ?_)
    · have f_10 : zi_8.toInt ≠ 0 := ic_ne (rfl) (by decide) c_9
      refine lv_aload_n hx hb dX10_make_25 rfl (lv_at hl 0 rfl) ?_
      refine ht_getr (C := RX10) (T := TX10) (N := 10) hx hb hts (by decide +kernel) hown hK hP hs t_zx (by decide) rfl rfl 0 (by decide) (hts (.fieldLink RX10 12 "DripStone" "now" "LDripStone$State;") (by decide +kernel)) (fun _ h9 => h9) rfl dX10_make_26 ?_
      refine ht_getr (C := RX8) (T := TX8) (N := 9) hx hb hts (by decide +kernel) hown hK hP hs t_6 (by decide) rfl rfl 2 (by decide) (hts (.fieldLink RX10 147 "DripStone$State" "candles" "[LDripStone$Candle;") (by decide +kernel)) (fun _ h9 => h9) rfl dX10_make_29 ?_
      have t_11 : zT (zR (zR zx 0) 2) = 61 := sk_f hs t_6 (by decide) rfl (by decide)
      refine lv_iload_n hx hb dX10_make_32 rfl (lv_at hl 1 rfl) ?_
      refine ht_aald (n := 2) (q := 3) hx hb hK hP hs t_11 (by decide) rfl rfl ⟨by omega, by omega⟩ dX10_make_33 ?_
      have t_12 : zT (zR (zR (zR zx 0) 2) zia.toNatClampNeg) = 1 := sk_a (n := 2) hs t_11 rfl rfl (by decide) (cl_lt (by omega) (by omega))
      refine lv_aload_n hx hb dX10_make_34 rfl (lv_at hl 0 rfl) ?_
      refine ht_getr (C := RX10) (T := TX10) (N := 10) hx hb hts (by decide +kernel) hown hK hP hs t_zx (by decide) rfl rfl 0 (by decide) (hts (.fieldLink RX10 12 "DripStone" "now" "LDripStone$State;") (by decide +kernel)) (fun _ h9 => h9) rfl dX10_make_35 ?_
      refine ht_getr (C := RX8) (T := TX8) (N := 9) hx hb hts (by decide +kernel) hown hK hP hs t_6 (by decide) rfl rfl 0 (by decide) (hts (.fieldLink RX10 79 "DripStone$State" "hill" "LDripStone$Hill;") (by decide +kernel)) (fun _ h9 => h9) rfl dX10_make_38 ?_
      have t_13 : zT (zR (zR zx 0) 0) = 4 := sk_f hs t_6 (by decide) rfl (by decide)
      refine lv_aload_n hx hb dX10_make_41 rfl (lv_at hl 0 rfl) ?_
      refine ht_getr (C := RX10) (T := TX10) (N := 10) hx hb hts (by decide +kernel) hown hK hP hs t_zx (by decide) rfl rfl 0 (by decide) (hts (.fieldLink RX10 12 "DripStone" "now" "LDripStone$State;") (by decide +kernel)) (fun _ h9 => h9) rfl dX10_make_42 ?_
      refine ht_getr (C := RX8) (T := TX8) (N := 9) hx hb hts (by decide +kernel) hown hK hP hs t_6 (by decide) rfl rfl 1 (by decide) (hts (.fieldLink RX10 126 "DripStone$State" "law" "LDripStone$Law;") (by decide +kernel)) (fun _ h9 => h9) rfl dX10_make_45 ?_
      refine hj_v (ws := (WL cy zL zT zR zI zJ)) (w1 := fun (u : (Nat → Nat → Int32)) => (WL cy zL zT zR u zJ)) (va_runV (As := [.ref (zR (zR zx 0) 0), .ref (zR (zR zx 0) 1)]) (rest := []) ⟨hx, hb, hml, hown, hts⟩ (t_X0_grow l dC dI cy H.size zL zT zR zI zJ (zR (zR (zR zx 0) 2) zia.toNatClampNeg) (zR (zR zx 0) 0) (zR (zR zx 0) 1) hs h_zI.1 t_12 t_13 t_7) (cwV 2 hts gX10_make_X0_grow rfl rfl rfl (by decide +kernel) ⟨(Nat.le_of_ble_eq_true rfl), (Nat.le_of_ble_eq_true rfl)⟩) (PRE.v hP hK hD hN (ht_recv hK hP hs t_12 (by decide) rfl rfl)) rfl rfl hl.1 rfl (lv_room (Nat.le_of_ble_eq_true rfl)) dX10_make_48 ⟨(Nat.le_of_ble_eq_true rfl), (Nat.le_of_ble_eq_true rfl)⟩) hP hD hS hA (fun zI_17 H locs hw_15 hP hD hS => ?_)
      have k_zI_17 : WM [107, 108, 110, 2000, 2100] (OW zT zR (zR (zR (zR zx 0) 2) zia.toNatClampNeg)) zT zR zI zI_17 := hw_15
      have h_zI_17 : WM [107, 108, 110, 306, 2000, 2100, 2400, 2500, 2600, 2700, 4700] AL zT zR zI zI_17 := h_zI.tr k_zI_17 (by decide) (fun _ _ => trivial)
      have j_zI_17 : JE zR zI_17 zx zia.toNatClampNeg := JE.o1 (JX.e (c0 := zia.toNatClampNeg) hj) hs t_zx (cl_lt (by omega) (by omega)) k_zI_17.2 (by decide)
      refine lv_aload_n hx hb dX10_make_51 rfl (lv_at hl 0 rfl) ?_
      refine ht_getr (C := RX10) (T := TX10) (N := 10) hx hb hts (by decide +kernel) hown hK hP hs t_zx (by decide) rfl rfl 0 (by decide) (hts (.fieldLink RX10 12 "DripStone" "now" "LDripStone$State;") (by decide +kernel)) (fun _ h9 => h9) rfl dX10_make_52 ?_
      refine ht_getr (C := RX8) (T := TX8) (N := 9) hx hb hts (by decide +kernel) hown hK hP hs t_6 (by decide) rfl rfl 3 (by decide) (hts (.fieldLink RX10 157 "DripStone$State" "dates" "LDripStone$Dates;") (by decide +kernel)) (fun _ h9 => h9) rfl dX10_make_55 ?_
      have t_18 : zT (zR (zR zx 0) 3) = 3 := sk_f hs t_6 (by decide) rfl (by decide)
      refine lv_iload_n hx hb dX10_make_58 rfl (lv_at hl 1 rfl) ?_
      refine lv_iconst (v := 0) hx hb dX10_make_59 (by decide) ?_
      have qc_0 : (0 : Int32).toInt = 0 := by decide
      refine hj_v (ws := (WL cy zL zT zR zI_17 zJ)) (w1 := fun (u : (Nat → Nat → Int32)) => (WL cy zL zT zR u zJ)) (va_runV (As := [.int zia, .int 0]) (rest := []) ⟨hx, hb, hml, hown, hts⟩ (t_X2_removeFrom l dC dI cy H.size zL zT zR zI_17 zJ (zR (zR zx 0) 3) zia (0 : Int32) hs h_zI_17.1 t_18) (cwV 2 hts gX10_make_X2_removeFrom rfl rfl rfl (by decide +kernel) ⟨(Nat.le_of_ble_eq_true rfl), (Nat.le_of_ble_eq_true rfl)⟩) (PRE.v hP hK hD hN (ht_recv hK hP hs t_18 (by decide) rfl rfl)) rfl rfl hl.1 rfl (lv_room (Nat.le_of_ble_eq_true rfl)) dX10_make_60 ⟨(Nat.le_of_ble_eq_true rfl), (Nat.le_of_ble_eq_true rfl)⟩) hP hD hS hA (fun zI_22 H locs hw_20 hP hD hS => ?_)
      have k_zI_22 : WM [306, 2400, 2500, 2600, 2700] AL zT zR zI_17 zI_22 := hw_20
      have h_zI_22 : WM [107, 108, 110, 306, 2000, 2100, 2400, 2500, 2600, 2700, 4700] AL zT zR zI zI_22 := h_zI_17.tr k_zI_22 (by decide) (fun _ _ => trivial)
      have j_zI_22 : JE zR zI_22 zx zia.toNatClampNeg := j_zI_17.sm hs t_zx k_zI_22.2 (by decide) (by decide)
      refine lv_aload_n hx hb dX10_make_63 rfl (lv_at hl 0 rfl) ?_
      refine ht_getr (C := RX10) (T := TX10) (N := 10) hx hb hts (by decide +kernel) hown hK hP hs t_zx (by decide) rfl rfl 7 (by decide) (hts (.fieldLink RX10 54 "DripStone" "counted" "[Z") (by decide +kernel)) (fun _ h9 => h9) rfl dX10_make_64 ?_
      have t_23 : zT (zR zx 7) = 47 := sk_f hs t_zx (by decide) rfl (by decide)
      refine lv_iload_n hx hb dX10_make_67 rfl (lv_at hl 1 rfl) ?_
      refine lv_iconst (v := 0) hx hb dX10_make_68 (by decide) ?_
      refine ht_zast (v := (0 : Int32)) (n := 2) (q := 2) hx hb hK hP hD hS hs t_23 (by decide) rfl rfl ⟨by omega, by omega⟩ dX10_make_69 (fun H locs hP hD hS => ?_)
      have h_zI_24 : WM [107, 108, 110, 306, 2000, 2100, 2400, 2500, 2600, 2700, 4700] AL zT zR zI (u2 zI_22 (zR zx 7) zia.toNatClampNeg (vp_nar .boolean (0 : Int32))) := h_zI_22.putA hs t_23 rfl (rgF _) (by decide) (fun h => absurd h (by decide)) (by decide) trivial
      generalize uzI_24 : u2 zI_22 (zR zx 7) zia.toNatClampNeg (vp_nar .boolean (0 : Int32)) = zI_24 at hP hD h_zI_24
      have j_zI_24 : JX zR zI_24 zx := by rw [← uzI_24]; exact j_zI_22.c0 hs t_zx bn0
      refine lv_aload_n hx hb dX10_make_70 rfl (lv_at hl 0 rfl) ?_
      refine ht_getr (C := RX10) (T := TX10) (N := 10) hx hb hts (by decide +kernel) hown hK hP hs t_zx (by decide) rfl rfl 0 (by decide) (hts (.fieldLink RX10 12 "DripStone" "now" "LDripStone$State;") (by decide +kernel)) (fun _ h9 => h9) rfl dX10_make_71 ?_
      refine ht_getr (C := RX8) (T := TX8) (N := 9) hx hb hts (by decide +kernel) hown hK hP hs t_6 (by decide) rfl rfl 2 (by decide) (hts (.fieldLink RX10 147 "DripStone$State" "candles" "[LDripStone$Candle;") (by decide +kernel)) (fun _ h9 => h9) rfl dX10_make_74 ?_
      refine lv_iload_n hx hb dX10_make_77 rfl (lv_at hl 1 rfl) ?_
      refine ht_aald (n := 2) (q := 3) hx hb hK hP hs t_11 (by decide) rfl rfl ⟨by omega, by omega⟩ dX10_make_78 ?_
      refine ht_geti (C := RX0) (T := TX0) (N := 11) hx hb hts (by decide +kernel) hown hK hP hs t_12 (by decide) rfl rfl 7 (by decide) (hts (.fieldLink RX10 167 "DripStone$Candle" "things" "I") (by decide +kernel)) (fun _ h9 => h9) rfl dX10_make_79 ?_
      refine lv_topi (fun zi_25 ezi_25 => ?_)
      have tzi_25 : 0 ≤ zi_25.toInt ∧ zi_25.toInt ≤ 12 := by rw [ezi_25]; exact h_zI_24.at t_12 _ rfl
      subst hQ
      exact W.iret (v := zi_25) hx hb hr (fun t ht hW => ⟨⟨zi_25, zI_24, rfl, ⟨h_zI_24, (show (-2) ≤ zi_25.toInt ∧ zi_25.toInt ≤ 12 from by omega), (show JX zR zI_24 zx from j_zI_24)⟩, ⟨by rw [ht]; exact hP, va_K.moved hW.alike hK, hD⟩⟩, hS.F ht⟩) hS.2.2 dX10_make_82
    · have f_10 : ¬ (zi_8.toInt ≠ 0) := ic_nne (rfl) (by decide) c_9
      refine lv_bipush (v := (-2)) hx hb dX10_make_22 (by decide) ?_
      subst hQ
      have qc_m2 : (-2 : Int32).toInt = -2 := by decide
      exact W.iret (v := (-2 : Int32)) hx hb hr (fun t ht hW => ⟨⟨(-2 : Int32), zI, rfl, ⟨h_zI, (show (-2) ≤ (-2 : Int32).toInt ∧ (-2 : Int32).toInt ≤ 12 from by omega), (show JX zR zI zx from hj)⟩, ⟨by rw [ht]; exact hP, va_K.moved hW.alike hK, hD⟩⟩, hS.F ht⟩) hS.2.2 dX10_make_24
  · have f_5 : ¬ (0 ≤ zia.toInt ∧ zia.toInt ≤ 1) := bz_0 hw_2 c_4
    refine lv_iconst (v := (-1)) hx hb dX10_make_7 (by decide) ?_
    subst hQ
    have qc_m1 : (-1 : Int32).toInt = -1 := by decide
    exact W.iret (v := (-1 : Int32)) hx hb hr (fun t ht hW => ⟨⟨(-1 : Int32), zI, rfl, ⟨h_zI, (show (-2) ≤ (-1 : Int32).toInt ∧ (-1 : Int32).toInt ≤ 12 from by omega), (show JX zR zI zx from hj)⟩, ⟨by rw [ht]; exact hP, va_K.moved hW.alike hK, hD⟩⟩, hS.F ht⟩) hS.2.2 dX10_make_8
set_option maxHeartbeats 8000000 in
set_option maxRecDepth 100000 in
theorem t_X10_truth (l : Launch) (dC : Nat → ClassId) (dI : Nat → Nat → Nat) (cy : Nat → ClassId) (sz : Nat) (zL : List Nat) (zT : Nat → Nat) (zR : Nat → Nat → Nat) (zI : Nat → Nat → Int32) (zJ : Nat → Nat → Int64) (zx : Nat) (zia : Int32) (zib : Int32) (hs : SKP zL zT zR) (hw : WT zT zR zI) (t_zx : zT zx = 11) (hj : JX zR zI zx) : Met l yX10_truth wsX10_truth ({ frames := 3, cells := 0, slots := 0, locals := 64 } : Room) (va_Pc [.ref zx, .int zia, .int zib] (PRE dC dI cy (WL cy zL zT zR zI zJ) sz)) (va_Qi (fun (r : Int32) (u : Unit) => (JX zR zI zx)) (fun u t => POST dC dI cy (va_A (WL cy zL zT zR zI zJ) sz) (WL cy zL zT zR zI zJ) t) (va_A (WL cy zL zT zR zI zJ) sz)) 0 0 (va_A (WL cy zL zT zR zI zJ) sz) := by
  refine Met.ofW (cc := cX10_truth) (maxL := 4) (ret := (some .int)) (by decide) rfl ?_
  intro p e s m args below meth c s₁ B hml hv
  obtain ⟨rfl, hsz, hP, hK, hD0, hN⟩ := hv
  have hx := B.exec
  have hb := B.bytes
  have hr := B.returns
  have hts := atoms_spec (ws := wsX10_truth) B.pre
  have hown : s.vm.findClass RX10 = some m.cls := findClass_of_methodNamed B.named
  have hlocks := B.notSynchronized
  subst hsz
  have hD := hD0.self (sz := s.heap.size)
  generalize hAe : va_A (WL cy zL zT zR zI zJ) s.heap.size = A at hD ⊢
  have hA : ∀ q : Nat, s.heap.size ≤ q → A q := fun q h => by rw [← hAe]; exact Or.inr h
  have hS : va_S A s.heap s.heap [] := va_S.rf
  have hP : va_P (dC, dI) vwCl (WL cy zL zT zR zI zJ) s.heap := hP
  have hl := lv_entry ([.ref zx, .int zia, .int zib] : List Value) (n := 4) (Nat.le_of_ble_eq_true rfl)
  rw [lg_entry_eq]
  generalize (lg_sl ([.ref zx, .int zia, .int zib] : List Value) ++ List.replicate (4 - (lg_sl ([.ref zx, .int zia, .int zib] : List Value)).length) Slot.unset).toArray = ls at hl ⊢
  have hl : lv_has ls 4 [(0, .ref zx), (1, .int zia), (2, .int zib)] := hl
  refine w_q (fun Q hQ => ?_)
  have h_zI : WM [] AL zT zR zI zI := WM.rf hw
  refine lv_aload_n hx hb dX10_truth_0 rfl (lv_at hl 0 rfl) ?_
  refine lv_iload_n hx hb dX10_truth_1 rfl (lv_at hl 1 rfl) ?_
  refine lv_iload_n hx hb dX10_truth_2 rfl (lv_at hl 2 rfl) ?_
  refine hj_i (ws := (WL cy zL zT zR zI zJ)) (w1 := fun (u : Unit) => (WL cy zL zT zR zI zJ)) (va_runV (As := [.int zia, .int zib]) (rest := []) ⟨hx, hb, hml, hown, hts⟩ (t_X10_isThing l dC dI cy s.heap.size zL zT zR zI zJ zx zia zib hs h_zI.1 t_zx) (cwV 2 hts gX10_truth_X10_isThing rfl rfl rfl (by decide +kernel) ⟨(Nat.le_of_ble_eq_true rfl), (Nat.le_of_ble_eq_true rfl)⟩) (PRE.v hP hK hD hN (ht_recv hK hP hs t_zx (by decide) rfl rfl)) rfl rfl hl.1 rfl (lv_room (Nat.le_of_ble_eq_true rfl)) dX10_truth_3 ⟨(Nat.le_of_ble_eq_true rfl), (Nat.le_of_ble_eq_true rfl)⟩) hP hD hS hA (fun zi_1 u_3 H locs hw_2 hP hD hS => ?_)
  obtain ⟨b_zi_1, ps_4, ps_5⟩ : (0 ≤ zi_1.toInt ∧ zi_1.toInt ≤ 1) ∧ (zi_1.toInt = 0 ∨ (0 ≤ zia.toInt ∧ zia.toInt ≤ 1 ∧ 0 ≤ zib.toInt ∧ zib.toInt ≤ 11)) ∧ (zi_1.toInt = 0 ∨ zib.toInt < (zI (zR (zR (zR zx 0) 2) zia.toNatClampNeg) 7).toInt) := hw_2
  refine lv_if_ne (tgt := 11) hx hb dX10_truth_6 (by decide) (fun c_6 => ?_) (fun c_6 => ?_)
  · have f_7 : zi_1.toInt ≠ 0 := ic_ne (rfl) (by decide) c_6
    have b9_zia : 0 ≤ zia.toInt ∧ zia.toInt ≤ 1 := by omega
    have b9_zib : 0 ≤ zib.toInt ∧ zib.toInt ≤ 11 := by omega
    refine lv_aload_n hx hb dX10_truth_11 rfl (lv_at hl 0 rfl) ?_
    refine ht_getr (C := RX10) (T := TX10) (N := 10) hx hb hts (by decide +kernel) hown hK hP hs t_zx (by decide) rfl rfl 0 (by decide) (hts (.fieldLink RX10 12 "DripStone" "now" "LDripStone$State;") (by decide +kernel)) (fun _ h9 => h9) rfl dX10_truth_12 ?_
    have t_8 : zT (zR zx 0) = 9 := sk_f hs t_zx (by decide) rfl (by decide)
    refine ht_getr (C := RX8) (T := TX8) (N := 9) hx hb hts (by decide +kernel) hown hK hP hs t_8 (by decide) rfl rfl 2 (by decide) (hts (.fieldLink RX10 147 "DripStone$State" "candles" "[LDripStone$Candle;") (by decide +kernel)) (fun _ h9 => h9) rfl dX10_truth_15 ?_
    have t_9 : zT (zR (zR zx 0) 2) = 61 := sk_f hs t_8 (by decide) rfl (by decide)
    refine lv_iload_n hx hb dX10_truth_18 rfl (lv_at hl 1 rfl) ?_
    refine ht_aald (n := 2) (q := 3) hx hb hK hP hs t_9 (by decide) rfl rfl ⟨by omega, by omega⟩ dX10_truth_19 ?_
    have t_10 : zT (zR (zR (zR zx 0) 2) zia.toNatClampNeg) = 1 := sk_a (n := 2) hs t_9 rfl rfl (by decide) (cl_lt (by omega) (by omega))
    refine lv_astore_n (lv' := [(3, .ref (zR (zR (zR zx 0) 2) zia.toNatClampNeg)), (0, .ref zx), (1, .int zia), (2, .int zib)]) hx hb dX10_truth_20 rfl hl (by decide) rfl (fun ls hl => ?_)
    refine lv_aload_n hx hb dX10_truth_21 rfl (lv_at hl 0 rfl) ?_
    refine ht_geti (C := RX0) (T := TX0) (N := 11) hx hb hts (by decide +kernel) hown hK hP hs t_10 (by decide) rfl rfl 10 (by decide) (hts (.fieldLink RX10 173 "DripStone$Candle" "made" "Z") (by decide +kernel)) (fun _ h9 => h9) rfl dX10_truth_22 ?_
    refine lv_topi (fun zi_11 ezi_11 => ?_)
    have tzi_11 : 0 ≤ zi_11.toInt ∧ zi_11.toInt ≤ 1 := by rw [ezi_11]; exact h_zI.at t_10 _ rfl
    refine lv_if_ne (tgt := 31) hx hb dX10_truth_25 (by decide) (fun c_12 => ?_) (fun c_12 => ?_)
    · have f_13 : zi_11.toInt ≠ 0 := ic_ne (rfl) (by decide) c_12
      refine lv_aload_n hx hb dX10_truth_31 rfl (lv_at hl 0 rfl) ?_
      refine lv_iload_n hx hb dX10_truth_32 rfl (lv_at hl 3 rfl) ?_
      refine hj_i (ws := (WL cy zL zT zR zI zJ)) (w1 := fun (u : Unit) => (WL cy zL zT zR zI zJ)) (va_runV (As := [.int zib]) (rest := []) ⟨hx, hb, hml, hown, hts⟩ (t_X0_isPlace l dC dI cy H.size zL zT zR zI zJ (zR (zR (zR zx 0) 2) zia.toNatClampNeg) zib hs h_zI.1 t_10 (by omega)) (cwV 1 hts gX10_truth_X0_isPlace rfl rfl rfl (by decide +kernel) ⟨(Nat.le_of_ble_eq_true rfl), (Nat.le_of_ble_eq_true rfl)⟩) (PRE.v hP hK hD hN (ht_recv hK hP hs t_10 (by decide) rfl rfl)) rfl rfl hl.1 rfl (lv_room (Nat.le_of_ble_eq_true rfl)) dX10_truth_33 ⟨(Nat.le_of_ble_eq_true rfl), (Nat.le_of_ble_eq_true rfl)⟩) hP hD hS hA (fun zi_14 u_16 H locs hw_15 hP hD hS => ?_)
      obtain ⟨b_zi_14, ps_17⟩ : (0 ≤ zi_14.toInt ∧ zi_14.toInt ≤ 1) ∧ ((zi_14.toInt = 0 ∧ (zI (zR (zR (zR (zR zx 0) 2) zia.toNatClampNeg) 0) zib.toNatClampNeg).toInt = 2) ∨ (zi_14.toInt = 1 ∧ ¬ (zI (zR (zR (zR (zR zx 0) 2) zia.toNatClampNeg) 0) zib.toNatClampNeg).toInt = 2)) := hw_15
      refine lv_if_eq (tgt := 48) hx hb dX10_truth_36 (by decide) (fun c_18 => ?_) (fun c_18 => ?_)
      · have f_19 : zi_14.toInt = 0 := ic_eq (rfl) (by decide) c_18
        refine lv_bipush (v := (-12)) hx hb dX10_truth_48 (by decide) ?_
        subst hQ
        exact W.iret (v := (-12 : Int32)) hx hb hr (fun t ht hW => ⟨⟨(-12 : Int32), (), rfl, (show JX zR zI zx from hj), ⟨by rw [ht]; exact hP, va_K.moved hW.alike hK, hD⟩⟩, hS.F ht⟩) hS.2.2 dX10_truth_50
      · have f_19 : ¬ (zi_14.toInt = 0) := ic_neq (rfl) (by decide) c_18
        refine lv_aload_n hx hb dX10_truth_39 rfl (lv_at hl 0 rfl) ?_
        refine ht_getr (C := RX0) (T := TX0) (N := 11) hx hb hts (by decide +kernel) hown hK hP hs t_10 (by decide) rfl rfl 2 (by decide) (hts (.fieldLink RX10 180 "DripStone$Candle" "years" "[I") (by decide +kernel)) (fun _ h9 => h9) rfl dX10_truth_40 ?_
        have t_20 : zT (zR (zR (zR (zR zx 0) 2) zia.toNatClampNeg) 2) = 21 := sk_f hs t_10 (by decide) rfl (by decide)
        refine lv_iload_n hx hb dX10_truth_43 rfl (lv_at hl 3 rfl) ?_
        refine ht_iald (n := 12) (q := 0) hx hb hK hP hs t_20 (by decide) rfl rfl ⟨by omega, by omega⟩ dX10_truth_44 ?_
        refine lv_topi (fun zi_21 ezi_21 => ?_)
        refine lv_goto (tgt := 50) hx hb dX10_truth_45 (by decide) ?_
        subst hQ
        exact W.iret (v := zi_21) hx hb hr (fun t ht hW => ⟨⟨zi_21, (), rfl, (show JX zR zI zx from hj), ⟨by rw [ht]; exact hP, va_K.moved hW.alike hK, hD⟩⟩, hS.F ht⟩) hS.2.2 dX10_truth_50
    · have f_13 : ¬ (zi_11.toInt ≠ 0) := ic_nne (rfl) (by decide) c_12
      refine lv_bipush (v := (-2)) hx hb dX10_truth_28 (by decide) ?_
      subst hQ
      exact W.iret (v := (-2 : Int32)) hx hb hr (fun t ht hW => ⟨⟨(-2 : Int32), (), rfl, (show JX zR zI zx from hj), ⟨by rw [ht]; exact hP, va_K.moved hW.alike hK, hD⟩⟩, hS.F ht⟩) hS.2.2 dX10_truth_30
  · have f_7 : ¬ (zi_1.toInt ≠ 0) := ic_nne (rfl) (by decide) c_6
    refine lv_iconst (v := (-1)) hx hb dX10_truth_9 (by decide) ?_
    subst hQ
    exact W.iret (v := (-1 : Int32)) hx hb hr (fun t ht hW => ⟨⟨(-1 : Int32), (), rfl, (show JX zR zI zx from hj), ⟨by rw [ht]; exact hP, va_K.moved hW.alike hK, hD⟩⟩, hS.F ht⟩) hS.2.2 dX10_truth_10
set_option maxHeartbeats 8000000 in
set_option maxRecDepth 100000 in
theorem t_X10_put (l : Launch) (dC : Nat → ClassId) (dI : Nat → Nat → Nat) (cy : Nat → ClassId) (sz : Nat) (zL : List Nat) (zT : Nat → Nat) (zR : Nat → Nat → Nat) (zI : Nat → Nat → Int32) (zJ : Nat → Nat → Int64) (zx : Nat) (zia : Int32) (zib : Int32) (zic : Int32) (hs : SKP zL zT zR) (hw : WT zT zR zI) (t_zx : zT zx = 11) (hj : JX zR zI zx) : Met l yX10_put wsX10_put ({ frames := 2, cells := 0, slots := 0, locals := 42 } : Room) (va_Pc [.ref zx, .int zia, .int zib, .int zic] (PRE dC dI cy (WL cy zL zT zR zI zJ) sz)) (va_Qi (fun (r : Int32) (u : (Nat → Nat → Int32)) => (WM [107, 110, 2000, 2100, 4700] AL zT zR zI u) ∧ ((-3) ≤ r.toInt ∧ r.toInt ≤ 11) ∧ (JX zR u zx)) (fun u t => POST dC dI cy (va_A (WL cy zL zT zR zI zJ) sz) (WL cy zL zT zR u zJ) t) (va_A (WL cy zL zT zR zI zJ) sz)) 0 0 (va_A (WL cy zL zT zR zI zJ) sz) := by
  refine Met.ofW (cc := cX10_put) (maxL := 5) (ret := (some .int)) (by decide) rfl ?_
  intro p e s m args below meth c s₁ B hml hv
  obtain ⟨rfl, hsz, hP, hK, hD0, hN⟩ := hv
  have hx := B.exec
  have hb := B.bytes
  have hr := B.returns
  have hts := atoms_spec (ws := wsX10_put) B.pre
  have hown : s.vm.findClass RX10 = some m.cls := findClass_of_methodNamed B.named
  have hlocks := B.notSynchronized
  subst hsz
  have hD := hD0.self (sz := s.heap.size)
  generalize hAe : va_A (WL cy zL zT zR zI zJ) s.heap.size = A at hD ⊢
  have hA : ∀ q : Nat, s.heap.size ≤ q → A q := fun q h => by rw [← hAe]; exact Or.inr h
  have hS : va_S A s.heap s.heap [] := va_S.rf
  have hP : va_P (dC, dI) vwCl (WL cy zL zT zR zI zJ) s.heap := hP
  have hl := lv_entry ([.ref zx, .int zia, .int zib, .int zic] : List Value) (n := 5) (Nat.le_of_ble_eq_true rfl)
  rw [lg_entry_eq]
  generalize (lg_sl ([.ref zx, .int zia, .int zib, .int zic] : List Value) ++ List.replicate (5 - (lg_sl ([.ref zx, .int zia, .int zib, .int zic] : List Value)).length) Slot.unset).toArray = ls at hl ⊢
  have hl : lv_has ls 5 [(0, .ref zx), (1, .int zia), (2, .int zib), (3, .int zic)] := hl
  refine w_q (fun Q hQ => ?_)
  have h_zI : WM [107, 110, 2000, 2100, 4700] AL zT zR zI zI := WM.rf hw
  refine lv_iload_n hx hb dX10_put_0 rfl (lv_at hl 1 rfl) ?_
  refine hj0_i (ws := (WL cy zL zT zR zI zJ)) (va_runS (As := [.int zia]) (rest := []) ⟨hx, hb, hml, hown, hts⟩ (c_X10_isCandle l dC dI cy s.heap.size zia) (va_cwS 1 hts gX10_put_X10_isCandle rfl rfl rfl (by decide +kernel) ⟨(Nat.le_of_ble_eq_true rfl), (Nat.le_of_ble_eq_true rfl)⟩) (PRE.s (hP.sub [] rfl) hK (hD.sub [] (by decide) rfl) hN) rfl rfl hl.1 rfl (lv_room (Nat.le_of_ble_eq_true rfl)) dX10_put_1 ⟨(Nat.le_of_ble_eq_true rfl), (Nat.le_of_ble_eq_true rfl)⟩) hP hD hS hA (fun zi_1 u_3 H locs hw_2 hP hD hS => ?_)
  have hw_2 : zi_1 = if 0 ≤ zia.toInt ∧ zia.toInt ≤ 1 then 1 else 0 := hw_2
  have b_zi_1 : 0 ≤ zi_1.toInt ∧ zi_1.toInt ≤ 1 := bz_b hw_2
  refine lv_if_eq (tgt := 16) hx hb dX10_put_4 (by decide) (fun c_4 => ?_) (fun c_4 => ?_)
  · have f_5 : ¬ (0 ≤ zia.toInt ∧ zia.toInt ≤ 1) := bz_0 hw_2 c_4
    refine lv_iconst (v := (-1)) hx hb dX10_put_16 (by decide) ?_
    subst hQ
    have qc_m1 : (-1 : Int32).toInt = -1 := by decide
    exact W.iret (v := (-1 : Int32)) hx hb hr (fun t ht hW => ⟨⟨(-1 : Int32), zI, rfl, ⟨h_zI, (show (-3) ≤ (-1 : Int32).toInt ∧ (-1 : Int32).toInt ≤ 11 from by omega), (show JX zR zI zx from hj)⟩, ⟨by rw [ht]; exact hP, va_K.moved hW.alike hK, hD⟩⟩, hS.F ht⟩) hS.2.2 dX10_put_17
  · have f_5 : 0 ≤ zia.toInt ∧ zia.toInt ≤ 1 := bz_1 hw_2 c_4
    refine lv_iload_n hx hb dX10_put_7 rfl (lv_at hl 2 rfl) ?_
    refine lv_iconst (v := 0) hx hb dX10_put_8 (by decide) ?_
    refine lv_iconst (v := 2) hx hb dX10_put_9 (by decide) ?_
    refine hj0_i (ws := (WL cy zL zT zR zI zJ)) (va_runS (As := [.int zib, .int 0, .int 2]) (rest := []) ⟨hx, hb, hml, hown, hts⟩ (c_X10_isWithin l dC dI cy H.size zib 0 2 0 2 (by first | rfl | decide | omega | exact Int32.toInt_toInt64 _) (by first | rfl | decide | omega | exact Int32.toInt_toInt64 _)) (va_cwS 3 hts gX10_put_X10_isWithin rfl rfl rfl (by decide +kernel) ⟨(Nat.le_of_ble_eq_true rfl), (Nat.le_of_ble_eq_true rfl)⟩) (PRE.s (hP.sub [] rfl) hK (hD.sub [] (by decide) rfl) hN) rfl rfl hl.1 rfl (lv_room (Nat.le_of_ble_eq_true rfl)) dX10_put_10 ⟨(Nat.le_of_ble_eq_true rfl), (Nat.le_of_ble_eq_true rfl)⟩) hP hD hS hA (fun zi_6 u_8 H locs hw_7 hP hD hS => ?_)
    have hw_7 : zi_6 = if 0 ≤ zib.toInt ∧ zib.toInt ≤ 2 then 1 else 0 := hw_7
    have b_zi_6 : 0 ≤ zi_6.toInt ∧ zi_6.toInt ≤ 1 := bz_b hw_7
    refine lv_if_ne (tgt := 18) hx hb dX10_put_13 (by decide) (fun c_9 => ?_) (fun c_9 => ?_)
    · have f_10 : 0 ≤ zib.toInt ∧ zib.toInt ≤ 2 := bz_1 hw_7 c_9
      refine lv_iload_n hx hb dX10_put_18 rfl (lv_at hl 2 rfl) ?_
      refine lv_if_ne (tgt := 36) hx hb dX10_put_19 (by decide) (fun c_11 => ?_) (fun c_11 => ?_)
      · have f_12 : zib.toInt ≠ 0 := ic_ne (rfl) (by decide) c_11
        refine lv_iload_n hx hb dX10_put_36 rfl (lv_at hl 3 rfl) ?_
        refine lv_if_eq (tgt := 42) hx hb dX10_put_37 (by decide) (fun c_13 => ?_) (fun c_13 => ?_)
        · have f_14 : zic.toInt = 0 := ic_eq (rfl) (by decide) c_13
          refine lv_aload_n hx hb dX10_put_42 rfl (lv_at hl 0 rfl) ?_
          refine ht_getr (C := RX10) (T := TX10) (N := 10) hx hb hts (by decide +kernel) hown hK hP hs t_zx (by decide) rfl rfl 0 (by decide) (hts (.fieldLink RX10 12 "DripStone" "now" "LDripStone$State;") (by decide +kernel)) (fun _ h9 => h9) rfl dX10_put_43 ?_
          have t_15 : zT (zR zx 0) = 9 := sk_f hs t_zx (by decide) rfl (by decide)
          refine ht_getr (C := RX8) (T := TX8) (N := 9) hx hb hts (by decide +kernel) hown hK hP hs t_15 (by decide) rfl rfl 2 (by decide) (hts (.fieldLink RX10 147 "DripStone$State" "candles" "[LDripStone$Candle;") (by decide +kernel)) (fun _ h9 => h9) rfl dX10_put_46 ?_
          have t_16 : zT (zR (zR zx 0) 2) = 61 := sk_f hs t_15 (by decide) rfl (by decide)
          refine lv_iload_n hx hb dX10_put_49 rfl (lv_at hl 1 rfl) ?_
          refine ht_aald (n := 2) (q := 3) hx hb hK hP hs t_16 (by decide) rfl rfl ⟨by omega, by omega⟩ dX10_put_50 ?_
          have t_17 : zT (zR (zR (zR zx 0) 2) zia.toNatClampNeg) = 1 := sk_a (n := 2) hs t_16 rfl rfl (by decide) (cl_lt (by omega) (by omega))
          refine lv_astore (lv' := [(4, .ref (zR (zR (zR zx 0) 2) zia.toNatClampNeg)), (0, .ref zx), (1, .int zia), (2, .int zib), (3, .int zic)]) hx hb dX10_put_51 hl (by decide) rfl (fun ls hl => ?_)
          refine lv_aload hx hb dX10_put_53 (lv_at hl 0 rfl) ?_
          refine ht_geti (C := RX0) (T := TX0) (N := 11) hx hb hts (by decide +kernel) hown hK hP hs t_17 (by decide) rfl rfl 7 (by decide) (hts (.fieldLink RX10 167 "DripStone$Candle" "things" "I") (by decide +kernel)) (fun _ h9 => h9) rfl dX10_put_55 ?_
          refine lv_topi (fun zi_18 ezi_18 => ?_)
          have tzi_18 : 0 ≤ zi_18.toInt ∧ zi_18.toInt ≤ 12 := by rw [ezi_18]; exact h_zI.at t_17 _ rfl
          refine lv_bipush (v := 12) hx hb dX10_put_58 (by decide) ?_
          refine lv_icmp_ne (tgt := 66) hx hb dX10_put_60 (by decide) (fun c_19 => ?_) (fun c_19 => ?_)
          · have f_20 : zi_18.toInt ≠ (12 : Int) := ic_ne (rfl) (show (12 : Int32).toInt = 12 by decide) c_19
            refine lv_aload hx hb dX10_put_66 (lv_at hl 0 rfl) ?_
            refine lv_iload_n hx hb dX10_put_68 rfl (lv_at hl 3 rfl) ?_
            refine lv_iload_n hx hb dX10_put_69 rfl (lv_at hl 4 rfl) ?_
            refine lv_iconst (v := 0) hx hb dX10_put_70 (by decide) ?_
            have qc_0 : (0 : Int32).toInt = 0 := by decide
            refine hj_v (ws := (WL cy zL zT zR zI zJ)) (w1 := fun (u : (Nat → Nat → Int32)) => (WL cy zL zT zR u zJ)) (va_runV (As := [.int zib, .int zic, .int 0]) (rest := []) ⟨hx, hb, hml, hown, hts⟩ (t_X0_add l dC dI cy H.size zL zT zR zI zJ (zR (zR (zR zx 0) 2) zia.toNatClampNeg) zib zic (0 : Int32) hs h_zI.1 t_17) (cwV 3 hts gX10_put_X0_add rfl rfl rfl (by decide +kernel) ⟨(Nat.le_of_ble_eq_true rfl), (Nat.le_of_ble_eq_true rfl)⟩) (PRE.v hP hK hD hN (ht_recv hK hP hs t_17 (by decide) rfl rfl)) rfl rfl hl.1 rfl (lv_room (Nat.le_of_ble_eq_true rfl)) dX10_put_71 ⟨(Nat.le_of_ble_eq_true rfl), (Nat.le_of_ble_eq_true rfl)⟩) hP hD hS hA (fun zI_24 H locs hw_22 hP hD hS => ?_)
            have k_zI_24 : WM [107, 2000, 2100] (OW zT zR (zR (zR (zR zx 0) 2) zia.toNatClampNeg)) zT zR zI zI_24 := hw_22
            have h_zI_24 : WM [107, 110, 2000, 2100, 4700] AL zT zR zI zI_24 := h_zI.tr k_zI_24 (by decide) (fun _ _ => trivial)
            have j_zI_24 : JE zR zI_24 zx zia.toNatClampNeg := JE.o1 (JX.e (c0 := zia.toNatClampNeg) hj) hs t_zx (cl_lt (by omega) (by omega)) k_zI_24.2 (by decide)
            refine lv_aload hx hb dX10_put_74 (lv_at hl 0 rfl) ?_
            refine lv_iconst (v := 0) hx hb dX10_put_76 (by decide) ?_
            refine ht_puti (v := (0 : Int32)) (ty := .boolean) (C := RX0) (T := TX0) (N := 11) hx hb hts (by decide +kernel) tyX0 tyX0_ok nmX0 hown hK hP hD hS hs t_17 (by decide) rfl rfl 10 (by decide) (hts (.fieldLink RX10 173 "DripStone$Candle" "made" "Z") (by decide +kernel)) (fun _ h9 => h9) rfl (by decide +kernel) rfl rfl rfl dX10_put_77 (fun H locs hP hD hS => ?_)
            have h_zI_25 : WM [107, 110, 2000, 2100, 4700] AL zT zR zI (u2 zI_24 (zR (zR (zR zx 0) 2) zia.toNatClampNeg) 10 (0 : Int32)) := h_zI_24.put hs t_17 rfl (by decide) (by decide) (fun h => absurd h (by decide)) (by decide) trivial
            generalize uzI_25 : u2 zI_24 (zR (zR (zR zx 0) 2) zia.toNatClampNeg) 10 (0 : Int32) = zI_25 at hP hD h_zI_25
            have j_zI_25 : JE zR zI_25 zx zia.toNatClampNeg := by rw [← uzI_25]; exact j_zI_24.sm hs t_zx (SM.one t_17) (by decide) (by decide)
            refine lv_aload_n hx hb dX10_put_80 rfl (lv_at hl 1 rfl) ?_
            refine ht_getr (C := RX10) (T := TX10) (N := 10) hx hb hts (by decide +kernel) hown hK hP hs t_zx (by decide) rfl rfl 7 (by decide) (hts (.fieldLink RX10 54 "DripStone" "counted" "[Z") (by decide +kernel)) (fun _ h9 => h9) rfl dX10_put_81 ?_
            have t_26 : zT (zR zx 7) = 47 := sk_f hs t_zx (by decide) rfl (by decide)
            refine lv_iload_n hx hb dX10_put_84 rfl (lv_at hl 2 rfl) ?_
            refine lv_iconst (v := 0) hx hb dX10_put_85 (by decide) ?_
            refine ht_zast (v := (0 : Int32)) (n := 2) (q := 2) hx hb hK hP hD hS hs t_26 (by decide) rfl rfl ⟨by omega, by omega⟩ dX10_put_86 (fun H locs hP hD hS => ?_)
            have h_zI_27 : WM [107, 110, 2000, 2100, 4700] AL zT zR zI (u2 zI_25 (zR zx 7) zia.toNatClampNeg (vp_nar .boolean (0 : Int32))) := h_zI_25.putA hs t_26 rfl (rgF _) (by decide) (fun h => absurd h (by decide)) (by decide) trivial
            generalize uzI_27 : u2 zI_25 (zR zx 7) zia.toNatClampNeg (vp_nar .boolean (0 : Int32)) = zI_27 at hP hD h_zI_27
            have j_zI_27 : JX zR zI_27 zx := by rw [← uzI_27]; exact j_zI_25.c0 hs t_zx bn0
            refine lv_aload hx hb dX10_put_87 (lv_at hl 0 rfl) ?_
            refine ht_geti (C := RX0) (T := TX0) (N := 11) hx hb hts (by decide +kernel) hown hK hP hs t_17 (by decide) rfl rfl 7 (by decide) (hts (.fieldLink RX10 167 "DripStone$Candle" "things" "I") (by decide +kernel)) (fun _ h9 => h9) rfl dX10_put_89 ?_
            refine lv_topi (fun zi_28 ezi_28 => ?_)
            have tzi_28 : 0 ≤ zi_28.toInt ∧ zi_28.toInt ≤ 12 := by rw [ezi_28]; exact h_zI_27.at t_17 _ rfl
            refine lv_iconst (v := 1) hx hb dX10_put_92 (by decide) ?_
            refine lv_isub hx hb dX10_put_93 ?_
            refine lv_topi (fun zi_29 ezi_29 => ?_)
            have tzi_29 : zi_29.toInt = zi_28.toInt - (1 : Int) := by rw [ezi_29]; exact tisub (rfl) (show (1 : Int32).toInt = 1 by decide) (by omega) (by omega)
            subst hQ
            exact W.iret (v := zi_29) hx hb hr (fun t ht hW => ⟨⟨zi_29, zI_27, rfl, ⟨h_zI_27, (show (-3) ≤ zi_29.toInt ∧ zi_29.toInt ≤ 11 from by omega), (show JX zR zI_27 zx from j_zI_27)⟩, ⟨by rw [ht]; exact hP, va_K.moved hW.alike hK, hD⟩⟩, hS.F ht⟩) hS.2.2 dX10_put_94
          · have f_20 : ¬ (zi_18.toInt ≠ (12 : Int)) := ic_nne (rfl) (show (12 : Int32).toInt = 12 by decide) c_19
            refine lv_bipush (v := (-3)) hx hb dX10_put_63 (by decide) ?_
            subst hQ
            have qc_m3 : (-3 : Int32).toInt = -3 := by decide
            exact W.iret (v := (-3 : Int32)) hx hb hr (fun t ht hW => ⟨⟨(-3 : Int32), zI, rfl, ⟨h_zI, (show (-3) ≤ (-3 : Int32).toInt ∧ (-3 : Int32).toInt ≤ 11 from by omega), (show JX zR zI zx from hj)⟩, ⟨by rw [ht]; exact hP, va_K.moved hW.alike hK, hD⟩⟩, hS.F ht⟩) hS.2.2 dX10_put_65
        · have f_14 : ¬ (zic.toInt = 0) := ic_neq (rfl) (by decide) c_13
          refine lv_iconst (v := (-1)) hx hb dX10_put_40 (by decide) ?_
          subst hQ
          have qc_m1 : (-1 : Int32).toInt = -1 := by decide
          exact W.iret (v := (-1 : Int32)) hx hb hr (fun t ht hW => ⟨⟨(-1 : Int32), zI, rfl, ⟨h_zI, (show (-3) ≤ (-1 : Int32).toInt ∧ (-1 : Int32).toInt ≤ 11 from by omega), (show JX zR zI zx from hj)⟩, ⟨by rw [ht]; exact hP, va_K.moved hW.alike hK, hD⟩⟩, hS.F ht⟩) hS.2.2 dX10_put_41
      · have f_12 : ¬ (zib.toInt ≠ 0) := ic_nne (rfl) (by decide) c_11
        refine lv_iload_n hx hb dX10_put_22 rfl (lv_at hl 3 rfl) ?_
        refine lv_bipush (v := (-50)) hx hb dX10_put_23 (by decide) ?_
        refine lv_bipush (v := 50) hx hb dX10_put_25 (by decide) ?_
        refine hj0_i (ws := (WL cy zL zT zR zI zJ)) (va_runS (As := [.int zic, .int (-50), .int 50]) (rest := []) ⟨hx, hb, hml, hown, hts⟩ (c_X10_isWithin l dC dI cy H.size zic (-50) 50 (-50) 50 (by first | rfl | decide | omega | exact Int32.toInt_toInt64 _) (by first | rfl | decide | omega | exact Int32.toInt_toInt64 _)) (va_cwS 3 hts gX10_put_X10_isWithin rfl rfl rfl (by decide +kernel) ⟨(Nat.le_of_ble_eq_true rfl), (Nat.le_of_ble_eq_true rfl)⟩) (PRE.s (hP.sub [] rfl) hK (hD.sub [] (by decide) rfl) hN) rfl rfl hl.1 rfl (lv_room (Nat.le_of_ble_eq_true rfl)) dX10_put_27 ⟨(Nat.le_of_ble_eq_true rfl), (Nat.le_of_ble_eq_true rfl)⟩) hP hD hS hA (fun zi_30 u_32 H locs hw_31 hP hD hS => ?_)
        have hw_31 : zi_30 = if (-50) ≤ zic.toInt ∧ zic.toInt ≤ 50 then 1 else 0 := hw_31
        have b_zi_30 : 0 ≤ zi_30.toInt ∧ zi_30.toInt ≤ 1 := bz_b hw_31
        refine lv_if_ne (tgt := 42) hx hb dX10_put_30 (by decide) (fun c_33 => ?_) (fun c_33 => ?_)
        · have f_34 : (-50) ≤ zic.toInt ∧ zic.toInt ≤ 50 := bz_1 hw_31 c_33
          refine lv_aload_n hx hb dX10_put_42 rfl (lv_at hl 0 rfl) ?_
          refine ht_getr (C := RX10) (T := TX10) (N := 10) hx hb hts (by decide +kernel) hown hK hP hs t_zx (by decide) rfl rfl 0 (by decide) (hts (.fieldLink RX10 12 "DripStone" "now" "LDripStone$State;") (by decide +kernel)) (fun _ h9 => h9) rfl dX10_put_43 ?_
          have t_35 : zT (zR zx 0) = 9 := sk_f hs t_zx (by decide) rfl (by decide)
          refine ht_getr (C := RX8) (T := TX8) (N := 9) hx hb hts (by decide +kernel) hown hK hP hs t_35 (by decide) rfl rfl 2 (by decide) (hts (.fieldLink RX10 147 "DripStone$State" "candles" "[LDripStone$Candle;") (by decide +kernel)) (fun _ h9 => h9) rfl dX10_put_46 ?_
          have t_36 : zT (zR (zR zx 0) 2) = 61 := sk_f hs t_35 (by decide) rfl (by decide)
          refine lv_iload_n hx hb dX10_put_49 rfl (lv_at hl 1 rfl) ?_
          refine ht_aald (n := 2) (q := 3) hx hb hK hP hs t_36 (by decide) rfl rfl ⟨by omega, by omega⟩ dX10_put_50 ?_
          have t_37 : zT (zR (zR (zR zx 0) 2) zia.toNatClampNeg) = 1 := sk_a (n := 2) hs t_36 rfl rfl (by decide) (cl_lt (by omega) (by omega))
          refine lv_astore (lv' := [(4, .ref (zR (zR (zR zx 0) 2) zia.toNatClampNeg)), (0, .ref zx), (1, .int zia), (2, .int zib), (3, .int zic)]) hx hb dX10_put_51 hl (by decide) rfl (fun ls hl => ?_)
          refine lv_aload hx hb dX10_put_53 (lv_at hl 0 rfl) ?_
          refine ht_geti (C := RX0) (T := TX0) (N := 11) hx hb hts (by decide +kernel) hown hK hP hs t_37 (by decide) rfl rfl 7 (by decide) (hts (.fieldLink RX10 167 "DripStone$Candle" "things" "I") (by decide +kernel)) (fun _ h9 => h9) rfl dX10_put_55 ?_
          refine lv_topi (fun zi_38 ezi_38 => ?_)
          have tzi_38 : 0 ≤ zi_38.toInt ∧ zi_38.toInt ≤ 12 := by rw [ezi_38]; exact h_zI.at t_37 _ rfl
          refine lv_bipush (v := 12) hx hb dX10_put_58 (by decide) ?_
          refine lv_icmp_ne (tgt := 66) hx hb dX10_put_60 (by decide) (fun c_39 => ?_) (fun c_39 => ?_)
          · have f_40 : zi_38.toInt ≠ (12 : Int) := ic_ne (rfl) (show (12 : Int32).toInt = 12 by decide) c_39
            refine lv_aload hx hb dX10_put_66 (lv_at hl 0 rfl) ?_
            refine lv_iload_n hx hb dX10_put_68 rfl (lv_at hl 3 rfl) ?_
            refine lv_iload_n hx hb dX10_put_69 rfl (lv_at hl 4 rfl) ?_
            refine lv_iconst (v := 0) hx hb dX10_put_70 (by decide) ?_
            have qc_0 : (0 : Int32).toInt = 0 := by decide
            refine hj_v (ws := (WL cy zL zT zR zI zJ)) (w1 := fun (u : (Nat → Nat → Int32)) => (WL cy zL zT zR u zJ)) (va_runV (As := [.int zib, .int zic, .int 0]) (rest := []) ⟨hx, hb, hml, hown, hts⟩ (t_X0_add l dC dI cy H.size zL zT zR zI zJ (zR (zR (zR zx 0) 2) zia.toNatClampNeg) zib zic (0 : Int32) hs h_zI.1 t_37) (cwV 3 hts gX10_put_X0_add rfl rfl rfl (by decide +kernel) ⟨(Nat.le_of_ble_eq_true rfl), (Nat.le_of_ble_eq_true rfl)⟩) (PRE.v hP hK hD hN (ht_recv hK hP hs t_37 (by decide) rfl rfl)) rfl rfl hl.1 rfl (lv_room (Nat.le_of_ble_eq_true rfl)) dX10_put_71 ⟨(Nat.le_of_ble_eq_true rfl), (Nat.le_of_ble_eq_true rfl)⟩) hP hD hS hA (fun zI_44 H locs hw_42 hP hD hS => ?_)
            have k_zI_44 : WM [107, 2000, 2100] (OW zT zR (zR (zR (zR zx 0) 2) zia.toNatClampNeg)) zT zR zI zI_44 := hw_42
            have h_zI_44 : WM [107, 110, 2000, 2100, 4700] AL zT zR zI zI_44 := h_zI.tr k_zI_44 (by decide) (fun _ _ => trivial)
            have j_zI_44 : JE zR zI_44 zx zia.toNatClampNeg := JE.o1 (JX.e (c0 := zia.toNatClampNeg) hj) hs t_zx (cl_lt (by omega) (by omega)) k_zI_44.2 (by decide)
            refine lv_aload hx hb dX10_put_74 (lv_at hl 0 rfl) ?_
            refine lv_iconst (v := 0) hx hb dX10_put_76 (by decide) ?_
            refine ht_puti (v := (0 : Int32)) (ty := .boolean) (C := RX0) (T := TX0) (N := 11) hx hb hts (by decide +kernel) tyX0 tyX0_ok nmX0 hown hK hP hD hS hs t_37 (by decide) rfl rfl 10 (by decide) (hts (.fieldLink RX10 173 "DripStone$Candle" "made" "Z") (by decide +kernel)) (fun _ h9 => h9) rfl (by decide +kernel) rfl rfl rfl dX10_put_77 (fun H locs hP hD hS => ?_)
            have h_zI_45 : WM [107, 110, 2000, 2100, 4700] AL zT zR zI (u2 zI_44 (zR (zR (zR zx 0) 2) zia.toNatClampNeg) 10 (0 : Int32)) := h_zI_44.put hs t_37 rfl (by decide) (by decide) (fun h => absurd h (by decide)) (by decide) trivial
            generalize uzI_45 : u2 zI_44 (zR (zR (zR zx 0) 2) zia.toNatClampNeg) 10 (0 : Int32) = zI_45 at hP hD h_zI_45
            have j_zI_45 : JE zR zI_45 zx zia.toNatClampNeg := by rw [← uzI_45]; exact j_zI_44.sm hs t_zx (SM.one t_37) (by decide) (by decide)
            refine lv_aload_n hx hb dX10_put_80 rfl (lv_at hl 1 rfl) ?_
            refine ht_getr (C := RX10) (T := TX10) (N := 10) hx hb hts (by decide +kernel) hown hK hP hs t_zx (by decide) rfl rfl 7 (by decide) (hts (.fieldLink RX10 54 "DripStone" "counted" "[Z") (by decide +kernel)) (fun _ h9 => h9) rfl dX10_put_81 ?_
            have t_46 : zT (zR zx 7) = 47 := sk_f hs t_zx (by decide) rfl (by decide)
            refine lv_iload_n hx hb dX10_put_84 rfl (lv_at hl 2 rfl) ?_
            refine lv_iconst (v := 0) hx hb dX10_put_85 (by decide) ?_
            refine ht_zast (v := (0 : Int32)) (n := 2) (q := 2) hx hb hK hP hD hS hs t_46 (by decide) rfl rfl ⟨by omega, by omega⟩ dX10_put_86 (fun H locs hP hD hS => ?_)
            have h_zI_47 : WM [107, 110, 2000, 2100, 4700] AL zT zR zI (u2 zI_45 (zR zx 7) zia.toNatClampNeg (vp_nar .boolean (0 : Int32))) := h_zI_45.putA hs t_46 rfl (rgF _) (by decide) (fun h => absurd h (by decide)) (by decide) trivial
            generalize uzI_47 : u2 zI_45 (zR zx 7) zia.toNatClampNeg (vp_nar .boolean (0 : Int32)) = zI_47 at hP hD h_zI_47
            have j_zI_47 : JX zR zI_47 zx := by rw [← uzI_47]; exact j_zI_45.c0 hs t_zx bn0
            refine lv_aload hx hb dX10_put_87 (lv_at hl 0 rfl) ?_
            refine ht_geti (C := RX0) (T := TX0) (N := 11) hx hb hts (by decide +kernel) hown hK hP hs t_37 (by decide) rfl rfl 7 (by decide) (hts (.fieldLink RX10 167 "DripStone$Candle" "things" "I") (by decide +kernel)) (fun _ h9 => h9) rfl dX10_put_89 ?_
            refine lv_topi (fun zi_48 ezi_48 => ?_)
            have tzi_48 : 0 ≤ zi_48.toInt ∧ zi_48.toInt ≤ 12 := by rw [ezi_48]; exact h_zI_47.at t_37 _ rfl
            refine lv_iconst (v := 1) hx hb dX10_put_92 (by decide) ?_
            refine lv_isub hx hb dX10_put_93 ?_
            refine lv_topi (fun zi_49 ezi_49 => ?_)
            have tzi_49 : zi_49.toInt = zi_48.toInt - (1 : Int) := by rw [ezi_49]; exact tisub (rfl) (show (1 : Int32).toInt = 1 by decide) (by omega) (by omega)
            subst hQ
            exact W.iret (v := zi_49) hx hb hr (fun t ht hW => ⟨⟨zi_49, zI_47, rfl, ⟨h_zI_47, (show (-3) ≤ zi_49.toInt ∧ zi_49.toInt ≤ 11 from by omega), (show JX zR zI_47 zx from j_zI_47)⟩, ⟨by rw [ht]; exact hP, va_K.moved hW.alike hK, hD⟩⟩, hS.F ht⟩) hS.2.2 dX10_put_94
          · have f_40 : ¬ (zi_38.toInt ≠ (12 : Int)) := ic_nne (rfl) (show (12 : Int32).toInt = 12 by decide) c_39
            refine lv_bipush (v := (-3)) hx hb dX10_put_63 (by decide) ?_
            subst hQ
            have qc_m3 : (-3 : Int32).toInt = -3 := by decide
            exact W.iret (v := (-3 : Int32)) hx hb hr (fun t ht hW => ⟨⟨(-3 : Int32), zI, rfl, ⟨h_zI, (show (-3) ≤ (-3 : Int32).toInt ∧ (-3 : Int32).toInt ≤ 11 from by omega), (show JX zR zI zx from hj)⟩, ⟨by rw [ht]; exact hP, va_K.moved hW.alike hK, hD⟩⟩, hS.F ht⟩) hS.2.2 dX10_put_65
        · have f_34 : ¬ ((-50) ≤ zic.toInt ∧ zic.toInt ≤ 50) := bz_0 hw_31 c_33
          refine lv_goto (tgt := 40) hx hb dX10_put_33 (by decide) ?_
          refine lv_iconst (v := (-1)) hx hb dX10_put_40 (by decide) ?_
          subst hQ
          have qc_m1 : (-1 : Int32).toInt = -1 := by decide
          exact W.iret (v := (-1 : Int32)) hx hb hr (fun t ht hW => ⟨⟨(-1 : Int32), zI, rfl, ⟨h_zI, (show (-3) ≤ (-1 : Int32).toInt ∧ (-1 : Int32).toInt ≤ 11 from by omega), (show JX zR zI zx from hj)⟩, ⟨by rw [ht]; exact hP, va_K.moved hW.alike hK, hD⟩⟩, hS.F ht⟩) hS.2.2 dX10_put_41
    · have f_10 : ¬ (0 ≤ zib.toInt ∧ zib.toInt ≤ 2) := bz_0 hw_7 c_9
      refine lv_iconst (v := (-1)) hx hb dX10_put_16 (by decide) ?_
      subst hQ
      have qc_m1 : (-1 : Int32).toInt = -1 := by decide
      exact W.iret (v := (-1 : Int32)) hx hb hr (fun t ht hW => ⟨⟨(-1 : Int32), zI, rfl, ⟨h_zI, (show (-3) ≤ (-1 : Int32).toInt ∧ (-1 : Int32).toInt ≤ 11 from by omega), (show JX zR zI zx from hj)⟩, ⟨by rw [ht]; exact hP, va_K.moved hW.alike hK, hD⟩⟩, hS.F ht⟩) hS.2.2 dX10_put_17
set_option maxHeartbeats 8000000 in
set_option maxRecDepth 100000 in
theorem t_X10_cut (l : Launch) (dC : Nat → ClassId) (dI : Nat → Nat → Nat) (cy : Nat → ClassId) (sz : Nat) (zL : List Nat) (zT : Nat → Nat) (zR : Nat → Nat → Nat) (zI : Nat → Nat → Int32) (zJ : Nat → Nat → Int64) (zx : Nat) (zia : Int32) (zib : Int32) (hs : SKP zL zT zR) (hw : WT zT zR zI) (t_zx : zT zx = 11) (hj : JX zR zI zx) : Met l yX10_cut wsX10_cut ({ frames := 3, cells := 0, slots := 0, locals := 64 } : Room) (va_Pc [.ref zx, .int zia, .int zib] (PRE dC dI cy (WL cy zL zT zR zI zJ) sz)) (va_Qi (fun (r : Int32) (u : (Nat → Nat → Int32)) => (WM [107, 108, 110, 306, 2200, 2300, 2400, 2500, 2600, 2700, 4700] AL zT zR zI u) ∧ ((-1) ≤ r.toInt ∧ r.toInt ≤ 11) ∧ (JX zR u zx)) (fun u t => POST dC dI cy (va_A (WL cy zL zT zR zI zJ) sz) (WL cy zL zT zR u zJ) t) (va_A (WL cy zL zT zR zI zJ) sz)) 0 0 (va_A (WL cy zL zT zR zI zJ) sz) := by
  refine Met.ofW (cc := cX10_cut) (maxL := 3) (ret := (some .int)) (by decide) rfl ?_
  intro p e s m args below meth c s₁ B hml hv
  obtain ⟨rfl, hsz, hP, hK, hD0, hN⟩ := hv
  have hx := B.exec
  have hb := B.bytes
  have hr := B.returns
  have hts := atoms_spec (ws := wsX10_cut) B.pre
  have hown : s.vm.findClass RX10 = some m.cls := findClass_of_methodNamed B.named
  have hlocks := B.notSynchronized
  subst hsz
  have hD := hD0.self (sz := s.heap.size)
  generalize hAe : va_A (WL cy zL zT zR zI zJ) s.heap.size = A at hD ⊢
  have hA : ∀ q : Nat, s.heap.size ≤ q → A q := fun q h => by rw [← hAe]; exact Or.inr h
  have hS : va_S A s.heap s.heap [] := va_S.rf
  have hP : va_P (dC, dI) vwCl (WL cy zL zT zR zI zJ) s.heap := hP
  have hl := lv_entry ([.ref zx, .int zia, .int zib] : List Value) (n := 3) (Nat.le_of_ble_eq_true rfl)
  rw [lg_entry_eq]
  generalize (lg_sl ([.ref zx, .int zia, .int zib] : List Value) ++ List.replicate (3 - (lg_sl ([.ref zx, .int zia, .int zib] : List Value)).length) Slot.unset).toArray = ls at hl ⊢
  have hl : lv_has ls 3 [(0, .ref zx), (1, .int zia), (2, .int zib)] := hl
  refine w_q (fun Q hQ => ?_)
  have h_zI : WM [107, 108, 110, 306, 2200, 2300, 2400, 2500, 2600, 2700, 4700] AL zT zR zI zI := WM.rf hw
  refine lv_aload_n hx hb dX10_cut_0 rfl (lv_at hl 0 rfl) ?_
  refine lv_iload_n hx hb dX10_cut_1 rfl (lv_at hl 1 rfl) ?_
  refine lv_iload_n hx hb dX10_cut_2 rfl (lv_at hl 2 rfl) ?_
  refine hj_i (ws := (WL cy zL zT zR zI zJ)) (w1 := fun (u : Unit) => (WL cy zL zT zR zI zJ)) (va_runV (As := [.int zia, .int zib]) (rest := []) ⟨hx, hb, hml, hown, hts⟩ (t_X10_isThing l dC dI cy s.heap.size zL zT zR zI zJ zx zia zib hs h_zI.1 t_zx) (cwV 2 hts gX10_cut_X10_isThing rfl rfl rfl (by decide +kernel) ⟨(Nat.le_of_ble_eq_true rfl), (Nat.le_of_ble_eq_true rfl)⟩) (PRE.v hP hK hD hN (ht_recv hK hP hs t_zx (by decide) rfl rfl)) rfl rfl hl.1 rfl (lv_room (Nat.le_of_ble_eq_true rfl)) dX10_cut_3 ⟨(Nat.le_of_ble_eq_true rfl), (Nat.le_of_ble_eq_true rfl)⟩) hP hD hS hA (fun zi_1 u_3 H locs hw_2 hP hD hS => ?_)
  obtain ⟨b_zi_1, ps_4, ps_5⟩ : (0 ≤ zi_1.toInt ∧ zi_1.toInt ≤ 1) ∧ (zi_1.toInt = 0 ∨ (0 ≤ zia.toInt ∧ zia.toInt ≤ 1 ∧ 0 ≤ zib.toInt ∧ zib.toInt ≤ 11)) ∧ (zi_1.toInt = 0 ∨ zib.toInt < (zI (zR (zR (zR zx 0) 2) zia.toNatClampNeg) 7).toInt) := hw_2
  refine lv_if_ne (tgt := 11) hx hb dX10_cut_6 (by decide) (fun c_6 => ?_) (fun c_6 => ?_)
  · have f_7 : zi_1.toInt ≠ 0 := ic_ne (rfl) (by decide) c_6
    have b9_zia : 0 ≤ zia.toInt ∧ zia.toInt ≤ 1 := by omega
    have b9_zib : 0 ≤ zib.toInt ∧ zib.toInt ≤ 11 := by omega
    refine lv_aload_n hx hb dX10_cut_11 rfl (lv_at hl 0 rfl) ?_
    refine ht_getr (C := RX10) (T := TX10) (N := 10) hx hb hts (by decide +kernel) hown hK hP hs t_zx (by decide) rfl rfl 0 (by decide) (hts (.fieldLink RX10 12 "DripStone" "now" "LDripStone$State;") (by decide +kernel)) (fun _ h9 => h9) rfl dX10_cut_12 ?_
    have t_8 : zT (zR zx 0) = 9 := sk_f hs t_zx (by decide) rfl (by decide)
    refine ht_getr (C := RX8) (T := TX8) (N := 9) hx hb hts (by decide +kernel) hown hK hP hs t_8 (by decide) rfl rfl 2 (by decide) (hts (.fieldLink RX10 147 "DripStone$State" "candles" "[LDripStone$Candle;") (by decide +kernel)) (fun _ h9 => h9) rfl dX10_cut_15 ?_
    have t_9 : zT (zR (zR zx 0) 2) = 61 := sk_f hs t_8 (by decide) rfl (by decide)
    refine lv_iload_n hx hb dX10_cut_18 rfl (lv_at hl 1 rfl) ?_
    refine ht_aald (n := 2) (q := 3) hx hb hK hP hs t_9 (by decide) rfl rfl ⟨by omega, by omega⟩ dX10_cut_19 ?_
    have t_10 : zT (zR (zR (zR zx 0) 2) zia.toNatClampNeg) = 1 := sk_a (n := 2) hs t_9 rfl rfl (by decide) (cl_lt (by omega) (by omega))
    refine lv_iload_n hx hb dX10_cut_20 rfl (lv_at hl 2 rfl) ?_
    refine hj_v (ws := (WL cy zL zT zR zI zJ)) (w1 := fun (u : (Nat → Nat → Int32)) => (WL cy zL zT zR u zJ)) (va_runV (As := [.int zib]) (rest := []) ⟨hx, hb, hml, hown, hts⟩ (t_X0_cutFrom l dC dI cy H.size zL zT zR zI zJ (zR (zR (zR zx 0) 2) zia.toNatClampNeg) zib hs h_zI.1 t_10 (by omega)) (cwV 1 hts gX10_cut_X0_cutFrom rfl rfl rfl (by decide +kernel) ⟨(Nat.le_of_ble_eq_true rfl), (Nat.le_of_ble_eq_true rfl)⟩) (PRE.v hP hK hD hN (ht_recv hK hP hs t_10 (by decide) rfl rfl)) rfl rfl hl.1 rfl (lv_room (Nat.le_of_ble_eq_true rfl)) dX10_cut_21 ⟨(Nat.le_of_ble_eq_true rfl), (Nat.le_of_ble_eq_true rfl)⟩) hP hD hS hA (fun zI_14 H locs hw_12 hP hD hS => ?_)
    have k_zI_14 : WM [107, 108, 110, 2200, 2300] (OW zT zR (zR (zR (zR zx 0) 2) zia.toNatClampNeg)) zT zR zI zI_14 := hw_12
    have h_zI_14 : WM [107, 108, 110, 306, 2200, 2300, 2400, 2500, 2600, 2700, 4700] AL zT zR zI zI_14 := h_zI.tr k_zI_14 (by decide) (fun _ _ => trivial)
    have j_zI_14 : JE zR zI_14 zx zia.toNatClampNeg := JE.o1 (JX.e (c0 := zia.toNatClampNeg) hj) hs t_zx (cl_lt (by omega) (by omega)) k_zI_14.2 (by decide)
    refine lv_aload_n hx hb dX10_cut_24 rfl (lv_at hl 0 rfl) ?_
    refine ht_getr (C := RX10) (T := TX10) (N := 10) hx hb hts (by decide +kernel) hown hK hP hs t_zx (by decide) rfl rfl 0 (by decide) (hts (.fieldLink RX10 12 "DripStone" "now" "LDripStone$State;") (by decide +kernel)) (fun _ h9 => h9) rfl dX10_cut_25 ?_
    refine ht_getr (C := RX8) (T := TX8) (N := 9) hx hb hts (by decide +kernel) hown hK hP hs t_8 (by decide) rfl rfl 3 (by decide) (hts (.fieldLink RX10 157 "DripStone$State" "dates" "LDripStone$Dates;") (by decide +kernel)) (fun _ h9 => h9) rfl dX10_cut_28 ?_
    have t_15 : zT (zR (zR zx 0) 3) = 3 := sk_f hs t_8 (by decide) rfl (by decide)
    refine lv_iload_n hx hb dX10_cut_31 rfl (lv_at hl 1 rfl) ?_
    refine lv_iload_n hx hb dX10_cut_32 rfl (lv_at hl 2 rfl) ?_
    refine hj_v (ws := (WL cy zL zT zR zI_14 zJ)) (w1 := fun (u : (Nat → Nat → Int32)) => (WL cy zL zT zR u zJ)) (va_runV (As := [.int zia, .int zib]) (rest := []) ⟨hx, hb, hml, hown, hts⟩ (t_X2_removeFrom l dC dI cy H.size zL zT zR zI_14 zJ (zR (zR zx 0) 3) zia zib hs h_zI_14.1 t_15) (cwV 2 hts gX10_cut_X2_removeFrom rfl rfl rfl (by decide +kernel) ⟨(Nat.le_of_ble_eq_true rfl), (Nat.le_of_ble_eq_true rfl)⟩) (PRE.v hP hK hD hN (ht_recv hK hP hs t_15 (by decide) rfl rfl)) rfl rfl hl.1 rfl (lv_room (Nat.le_of_ble_eq_true rfl)) dX10_cut_33 ⟨(Nat.le_of_ble_eq_true rfl), (Nat.le_of_ble_eq_true rfl)⟩) hP hD hS hA (fun zI_19 H locs hw_17 hP hD hS => ?_)
    have k_zI_19 : WM [306, 2400, 2500, 2600, 2700] AL zT zR zI_14 zI_19 := hw_17
    have h_zI_19 : WM [107, 108, 110, 306, 2200, 2300, 2400, 2500, 2600, 2700, 4700] AL zT zR zI zI_19 := h_zI_14.tr k_zI_19 (by decide) (fun _ _ => trivial)
    have j_zI_19 : JE zR zI_19 zx zia.toNatClampNeg := j_zI_14.sm hs t_zx k_zI_19.2 (by decide) (by decide)
    refine lv_aload_n hx hb dX10_cut_36 rfl (lv_at hl 0 rfl) ?_
    refine ht_getr (C := RX10) (T := TX10) (N := 10) hx hb hts (by decide +kernel) hown hK hP hs t_zx (by decide) rfl rfl 7 (by decide) (hts (.fieldLink RX10 54 "DripStone" "counted" "[Z") (by decide +kernel)) (fun _ h9 => h9) rfl dX10_cut_37 ?_
    have t_20 : zT (zR zx 7) = 47 := sk_f hs t_zx (by decide) rfl (by decide)
    refine lv_iload_n hx hb dX10_cut_40 rfl (lv_at hl 1 rfl) ?_
    refine lv_iconst (v := 0) hx hb dX10_cut_41 (by decide) ?_
    refine ht_zast (v := (0 : Int32)) (n := 2) (q := 2) hx hb hK hP hD hS hs t_20 (by decide) rfl rfl ⟨by omega, by omega⟩ dX10_cut_42 (fun H locs hP hD hS => ?_)
    have h_zI_21 : WM [107, 108, 110, 306, 2200, 2300, 2400, 2500, 2600, 2700, 4700] AL zT zR zI (u2 zI_19 (zR zx 7) zia.toNatClampNeg (vp_nar .boolean (0 : Int32))) := h_zI_19.putA hs t_20 rfl (rgF _) (by decide) (fun h => absurd h (by decide)) (by decide) trivial
    generalize uzI_21 : u2 zI_19 (zR zx 7) zia.toNatClampNeg (vp_nar .boolean (0 : Int32)) = zI_21 at hP hD h_zI_21
    have j_zI_21 : JX zR zI_21 zx := by rw [← uzI_21]; exact j_zI_19.c0 hs t_zx bn0
    refine lv_iload_n hx hb dX10_cut_43 rfl (lv_at hl 2 rfl) ?_
    subst hQ
    exact W.iret (v := zib) hx hb hr (fun t ht hW => ⟨⟨zib, zI_21, rfl, ⟨h_zI_21, (show (-1) ≤ zib.toInt ∧ zib.toInt ≤ 11 from by omega), (show JX zR zI_21 zx from j_zI_21)⟩, ⟨by rw [ht]; exact hP, va_K.moved hW.alike hK, hD⟩⟩, hS.F ht⟩) hS.2.2 dX10_cut_44
  · have f_7 : ¬ (zi_1.toInt ≠ 0) := ic_nne (rfl) (by decide) c_6
    refine lv_iconst (v := (-1)) hx hb dX10_cut_9 (by decide) ?_
    subst hQ
    have qc_m1 : (-1 : Int32).toInt = -1 := by decide
    exact W.iret (v := (-1 : Int32)) hx hb hr (fun t ht hW => ⟨⟨(-1 : Int32), zI, rfl, ⟨h_zI, (show (-1) ≤ (-1 : Int32).toInt ∧ (-1 : Int32).toInt ≤ 11 from by omega), (show JX zR zI zx from hj)⟩, ⟨by rw [ht]; exact hP, va_K.moved hW.alike hK, hD⟩⟩, hS.F ht⟩) hS.2.2 dX10_cut_10
set_option maxHeartbeats 8000000 in
set_option maxRecDepth 100000 in
theorem t_X10_thing (l : Launch) (dC : Nat → ClassId) (dI : Nat → Nat → Nat) (cy : Nat → ClassId) (sz : Nat) (zL : List Nat) (zT : Nat → Nat) (zR : Nat → Nat → Nat) (zI : Nat → Nat → Int32) (zJ : Nat → Nat → Int64) (zx : Nat) (zia : Int32) (zib : Int32) (zic : Int32) (hs : SKP zL zT zR) (hw : WT zT zR zI) (t_zx : zT zx = 11) (hj : JX zR zI zx) : Met l yX10_thing wsX10_thing ({ frames := 3, cells := 0, slots := 0, locals := 64 } : Room) (va_Pc [.ref zx, .int zia, .int zib, .int zic] (PRE dC dI cy (WL cy zL zT zR zI zJ) sz)) (va_Qi (fun (r : Int32) (u : Unit) => (JX zR zI zx)) (fun u t => POST dC dI cy (va_A (WL cy zL zT zR zI zJ) sz) (WL cy zL zT zR zI zJ) t) (va_A (WL cy zL zT zR zI zJ) sz)) 0 0 (va_A (WL cy zL zT zR zI zJ) sz) := by
  refine Met.ofW (cc := cX10_thing) (maxL := 5) (ret := (some .int)) (by decide) rfl ?_
  intro p e s m args below meth c s₁ B hml hv
  obtain ⟨rfl, hsz, hP, hK, hD0, hN⟩ := hv
  have hx := B.exec
  have hb := B.bytes
  have hr := B.returns
  have hts := atoms_spec (ws := wsX10_thing) B.pre
  have hown : s.vm.findClass RX10 = some m.cls := findClass_of_methodNamed B.named
  have hlocks := B.notSynchronized
  subst hsz
  have hD := hD0.self (sz := s.heap.size)
  generalize hAe : va_A (WL cy zL zT zR zI zJ) s.heap.size = A at hD ⊢
  have hA : ∀ q : Nat, s.heap.size ≤ q → A q := fun q h => by rw [← hAe]; exact Or.inr h
  have hS : va_S A s.heap s.heap [] := va_S.rf
  have hP : va_P (dC, dI) vwCl (WL cy zL zT zR zI zJ) s.heap := hP
  have hl := lv_entry ([.ref zx, .int zia, .int zib, .int zic] : List Value) (n := 5) (Nat.le_of_ble_eq_true rfl)
  rw [lg_entry_eq]
  generalize (lg_sl ([.ref zx, .int zia, .int zib, .int zic] : List Value) ++ List.replicate (5 - (lg_sl ([.ref zx, .int zia, .int zib, .int zic] : List Value)).length) Slot.unset).toArray = ls at hl ⊢
  have hl : lv_has ls 5 [(0, .ref zx), (1, .int zia), (2, .int zib), (3, .int zic)] := hl
  refine w_q (fun Q hQ => ?_)
  have h_zI : WM [] AL zT zR zI zI := WM.rf hw
  refine lv_aload_n hx hb dX10_thing_0 rfl (lv_at hl 0 rfl) ?_
  refine lv_iload_n hx hb dX10_thing_1 rfl (lv_at hl 1 rfl) ?_
  refine lv_iload_n hx hb dX10_thing_2 rfl (lv_at hl 2 rfl) ?_
  refine hj_i (ws := (WL cy zL zT zR zI zJ)) (w1 := fun (u : Unit) => (WL cy zL zT zR zI zJ)) (va_runV (As := [.int zia, .int zib]) (rest := []) ⟨hx, hb, hml, hown, hts⟩ (t_X10_isThing l dC dI cy s.heap.size zL zT zR zI zJ zx zia zib hs h_zI.1 t_zx) (cwV 2 hts gX10_thing_X10_isThing rfl rfl rfl (by decide +kernel) ⟨(Nat.le_of_ble_eq_true rfl), (Nat.le_of_ble_eq_true rfl)⟩) (PRE.v hP hK hD hN (ht_recv hK hP hs t_zx (by decide) rfl rfl)) rfl rfl hl.1 rfl (lv_room (Nat.le_of_ble_eq_true rfl)) dX10_thing_3 ⟨(Nat.le_of_ble_eq_true rfl), (Nat.le_of_ble_eq_true rfl)⟩) hP hD hS hA (fun zi_1 u_3 H locs hw_2 hP hD hS => ?_)
  obtain ⟨b_zi_1, ps_4, ps_5⟩ : (0 ≤ zi_1.toInt ∧ zi_1.toInt ≤ 1) ∧ (zi_1.toInt = 0 ∨ (0 ≤ zia.toInt ∧ zia.toInt ≤ 1 ∧ 0 ≤ zib.toInt ∧ zib.toInt ≤ 11)) ∧ (zi_1.toInt = 0 ∨ zib.toInt < (zI (zR (zR (zR zx 0) 2) zia.toNatClampNeg) 7).toInt) := hw_2
  refine lv_if_eq (tgt := 18) hx hb dX10_thing_6 (by decide) (fun c_6 => ?_) (fun c_6 => ?_)
  · have f_7 : zi_1.toInt = 0 := ic_eq (rfl) (by decide) c_6
    refine lv_sipush (v := (-1001)) hx hb dX10_thing_18 (by decide) ?_
    subst hQ
    exact W.iret (v := (-1001 : Int32)) hx hb hr (fun t ht hW => ⟨⟨(-1001 : Int32), (), rfl, (show JX zR zI zx from hj), ⟨by rw [ht]; exact hP, va_K.moved hW.alike hK, hD⟩⟩, hS.F ht⟩) hS.2.2 dX10_thing_21
  · have f_7 : ¬ (zi_1.toInt = 0) := ic_neq (rfl) (by decide) c_6
    have b9_zia : 0 ≤ zia.toInt ∧ zia.toInt ≤ 1 := by omega
    have b9_zib : 0 ≤ zib.toInt ∧ zib.toInt ≤ 11 := by omega
    refine lv_iload_n hx hb dX10_thing_9 rfl (lv_at hl 3 rfl) ?_
    refine lv_iconst (v := 0) hx hb dX10_thing_10 (by decide) ?_
    refine lv_iconst (v := 1) hx hb dX10_thing_11 (by decide) ?_
    refine hj0_i (ws := (WL cy zL zT zR zI zJ)) (va_runS (As := [.int zic, .int 0, .int 1]) (rest := []) ⟨hx, hb, hml, hown, hts⟩ (c_X10_isWithin l dC dI cy H.size zic 0 1 0 1 (by first | rfl | decide | omega | exact Int32.toInt_toInt64 _) (by first | rfl | decide | omega | exact Int32.toInt_toInt64 _)) (va_cwS 3 hts gX10_thing_X10_isWithin rfl rfl rfl (by decide +kernel) ⟨(Nat.le_of_ble_eq_true rfl), (Nat.le_of_ble_eq_true rfl)⟩) (PRE.s (hP.sub [] rfl) hK (hD.sub [] (by decide) rfl) hN) rfl rfl hl.1 rfl (lv_room (Nat.le_of_ble_eq_true rfl)) dX10_thing_12 ⟨(Nat.le_of_ble_eq_true rfl), (Nat.le_of_ble_eq_true rfl)⟩) hP hD hS hA (fun zi_8 u_10 H locs hw_9 hP hD hS => ?_)
    have hw_9 : zi_8 = if 0 ≤ zic.toInt ∧ zic.toInt ≤ 1 then 1 else 0 := hw_9
    have b_zi_8 : 0 ≤ zi_8.toInt ∧ zi_8.toInt ≤ 1 := bz_b hw_9
    refine lv_if_ne (tgt := 22) hx hb dX10_thing_15 (by decide) (fun c_11 => ?_) (fun c_11 => ?_)
    · have f_12 : 0 ≤ zic.toInt ∧ zic.toInt ≤ 1 := bz_1 hw_9 c_11
      refine lv_aload_n hx hb dX10_thing_22 rfl (lv_at hl 0 rfl) ?_
      refine ht_getr (C := RX10) (T := TX10) (N := 10) hx hb hts (by decide +kernel) hown hK hP hs t_zx (by decide) rfl rfl 0 (by decide) (hts (.fieldLink RX10 12 "DripStone" "now" "LDripStone$State;") (by decide +kernel)) (fun _ h9 => h9) rfl dX10_thing_23 ?_
      have t_13 : zT (zR zx 0) = 9 := sk_f hs t_zx (by decide) rfl (by decide)
      refine ht_getr (C := RX8) (T := TX8) (N := 9) hx hb hts (by decide +kernel) hown hK hP hs t_13 (by decide) rfl rfl 2 (by decide) (hts (.fieldLink RX10 147 "DripStone$State" "candles" "[LDripStone$Candle;") (by decide +kernel)) (fun _ h9 => h9) rfl dX10_thing_26 ?_
      have t_14 : zT (zR (zR zx 0) 2) = 61 := sk_f hs t_13 (by decide) rfl (by decide)
      refine lv_iload_n hx hb dX10_thing_29 rfl (lv_at hl 1 rfl) ?_
      refine ht_aald (n := 2) (q := 3) hx hb hK hP hs t_14 (by decide) rfl rfl ⟨by omega, by omega⟩ dX10_thing_30 ?_
      have t_15 : zT (zR (zR (zR zx 0) 2) zia.toNatClampNeg) = 1 := sk_a (n := 2) hs t_14 rfl rfl (by decide) (cl_lt (by omega) (by omega))
      refine lv_astore (lv' := [(4, .ref (zR (zR (zR zx 0) 2) zia.toNatClampNeg)), (0, .ref zx), (1, .int zia), (2, .int zib), (3, .int zic)]) hx hb dX10_thing_31 hl (by decide) rfl (fun ls hl => ?_)
      refine lv_iload_n hx hb dX10_thing_33 rfl (lv_at hl 4 rfl) ?_
      refine lv_if_ne (tgt := 45) hx hb dX10_thing_34 (by decide) (fun c_16 => ?_) (fun c_16 => ?_)
      · have f_17 : zic.toInt ≠ 0 := ic_ne (rfl) (by decide) c_16
        refine lv_aload hx hb dX10_thing_45 (lv_at hl 0 rfl) ?_
        refine ht_getr (C := RX0) (T := TX0) (N := 11) hx hb hts (by decide +kernel) hown hK hP hs t_15 (by decide) rfl rfl 0 (by decide) (hts (.fieldLink RX10 191 "DripStone$Candle" "kinds" "[I") (by decide +kernel)) (fun _ h9 => h9) rfl dX10_thing_47 ?_
        have t_18 : zT (zR (zR (zR (zR zx 0) 2) zia.toNatClampNeg) 0) = 20 := sk_f hs t_15 (by decide) rfl (by decide)
        refine lv_iload_n hx hb dX10_thing_50 rfl (lv_at hl 3 rfl) ?_
        refine ht_iald (n := 12) (q := 0) hx hb hK hP hs t_18 (by decide) rfl rfl ⟨by omega, by omega⟩ dX10_thing_51 ?_
        refine lv_topi (fun zi_19 ezi_19 => ?_)
        refine lv_if_ne (tgt := 65) hx hb dX10_thing_52 (by decide) (fun c_20 => ?_) (fun c_20 => ?_)
        · have f_21 : zi_19.toInt ≠ 0 := ic_ne (rfl) (by decide) c_20
          refine lv_sipush (v := (-1012)) hx hb dX10_thing_65 (by decide) ?_
          subst hQ
          exact W.iret (v := (-1012 : Int32)) hx hb hr (fun t ht hW => ⟨⟨(-1012 : Int32), (), rfl, (show JX zR zI zx from hj), ⟨by rw [ht]; exact hP, va_K.moved hW.alike hK, hD⟩⟩, hS.F ht⟩) hS.2.2 dX10_thing_68
        · have f_21 : ¬ (zi_19.toInt ≠ 0) := ic_nne (rfl) (by decide) c_20
          refine lv_aload hx hb dX10_thing_55 (lv_at hl 0 rfl) ?_
          refine ht_getr (C := RX0) (T := TX0) (N := 11) hx hb hts (by decide +kernel) hown hK hP hs t_15 (by decide) rfl rfl 1 (by decide) (hts (.fieldLink RX10 194 "DripStone$Candle" "weights" "[I") (by decide +kernel)) (fun _ h9 => h9) rfl dX10_thing_57 ?_
          have t_22 : zT (zR (zR (zR (zR zx 0) 2) zia.toNatClampNeg) 1) = 21 := sk_f hs t_15 (by decide) rfl (by decide)
          refine lv_iload_n hx hb dX10_thing_60 rfl (lv_at hl 3 rfl) ?_
          refine ht_iald (n := 12) (q := 0) hx hb hK hP hs t_22 (by decide) rfl rfl ⟨by omega, by omega⟩ dX10_thing_61 ?_
          refine lv_topi (fun zi_23 ezi_23 => ?_)
          refine lv_goto (tgt := 68) hx hb dX10_thing_62 (by decide) ?_
          subst hQ
          exact W.iret (v := zi_23) hx hb hr (fun t ht hW => ⟨⟨zi_23, (), rfl, (show JX zR zI zx from hj), ⟨by rw [ht]; exact hP, va_K.moved hW.alike hK, hD⟩⟩, hS.F ht⟩) hS.2.2 dX10_thing_68
      · have f_17 : ¬ (zic.toInt ≠ 0) := ic_nne (rfl) (by decide) c_16
        refine lv_aload hx hb dX10_thing_37 (lv_at hl 0 rfl) ?_
        refine ht_getr (C := RX0) (T := TX0) (N := 11) hx hb hts (by decide +kernel) hown hK hP hs t_15 (by decide) rfl rfl 0 (by decide) (hts (.fieldLink RX10 191 "DripStone$Candle" "kinds" "[I") (by decide +kernel)) (fun _ h9 => h9) rfl dX10_thing_39 ?_
        have t_24 : zT (zR (zR (zR (zR zx 0) 2) zia.toNatClampNeg) 0) = 20 := sk_f hs t_15 (by decide) rfl (by decide)
        refine lv_iload_n hx hb dX10_thing_42 rfl (lv_at hl 3 rfl) ?_
        refine ht_iald (n := 12) (q := 0) hx hb hK hP hs t_24 (by decide) rfl rfl ⟨by omega, by omega⟩ dX10_thing_43 ?_
        refine lv_topi (fun zi_25 ezi_25 => ?_)
        subst hQ
        exact W.iret (v := zi_25) hx hb hr (fun t ht hW => ⟨⟨zi_25, (), rfl, (show JX zR zI zx from hj), ⟨by rw [ht]; exact hP, va_K.moved hW.alike hK, hD⟩⟩, hS.F ht⟩) hS.2.2 dX10_thing_44
    · have f_12 : ¬ (0 ≤ zic.toInt ∧ zic.toInt ≤ 1) := bz_0 hw_9 c_11
      refine lv_sipush (v := (-1001)) hx hb dX10_thing_18 (by decide) ?_
      subst hQ
      exact W.iret (v := (-1001 : Int32)) hx hb hr (fun t ht hW => ⟨⟨(-1001 : Int32), (), rfl, (show JX zR zI zx from hj), ⟨by rw [ht]; exact hP, va_K.moved hW.alike hK, hD⟩⟩, hS.F ht⟩) hS.2.2 dX10_thing_21
set_option maxHeartbeats 8000000 in
set_option maxRecDepth 100000 in
theorem t_X10_most (l : Launch) (dC : Nat → ClassId) (dI : Nat → Nat → Nat) (cy : Nat → ClassId) (sz : Nat) (zL : List Nat) (zT : Nat → Nat) (zR : Nat → Nat → Nat) (zI : Nat → Nat → Int32) (zJ : Nat → Nat → Int64) (zx : Nat) (zia : Int32) (zib : Int32) (hs : SKP zL zT zR) (hw : WT zT zR zI) (t_zx : zT zx = 11) (hj : JX zR zI zx) : Met l yX10_most wsX10_most ({ frames := 2, cells := 0, slots := 0, locals := 42 } : Room) (va_Pc [.ref zx, .int zia, .int zib] (PRE dC dI cy (WL cy zL zT zR zI zJ) sz)) (va_Qi (fun (r : Int32) (u : (Nat → Nat → Int32)) => (WM [109, 4700] AL zT zR zI u) ∧ ((-1) ≤ r.toInt ∧ r.toInt ≤ 4) ∧ (JX zR u zx) ∧ (MSok zia.toInt zib.toInt → (r.toInt = (zI (zR (zR (zR zx 0) 2) zia.toNatClampNeg) 9).toInt ∧ (u (zR (zR (zR zx 0) 2) zia.toNatClampNeg) 9).toInt = zib.toInt ∧ (∀ a : Nat, zT a = 1 → ¬ a = (zR (zR (zR zx 0) 2) zia.toNatClampNeg) → u a 9 = zI a 9))) ∧ (¬ (MSok zia.toInt zib.toInt) → (r.toInt = -1 ∧ u = zI))) (fun u t => POST dC dI cy (va_A (WL cy zL zT zR zI zJ) sz) (WL cy zL zT zR u zJ) t) (va_A (WL cy zL zT zR zI zJ) sz)) 0 0 (va_A (WL cy zL zT zR zI zJ) sz) := by
  refine Met.ofW (cc := cX10_most) (maxL := 4) (ret := (some .int)) (by decide) rfl ?_
  intro p e s m args below meth c s₁ B hml hv
  obtain ⟨rfl, hsz, hP, hK, hD0, hN⟩ := hv
  have hx := B.exec
  have hb := B.bytes
  have hr := B.returns
  have hts := atoms_spec (ws := wsX10_most) B.pre
  have hown : s.vm.findClass RX10 = some m.cls := findClass_of_methodNamed B.named
  have hlocks := B.notSynchronized
  subst hsz
  have hD := hD0.self (sz := s.heap.size)
  generalize hAe : va_A (WL cy zL zT zR zI zJ) s.heap.size = A at hD ⊢
  have hA : ∀ q : Nat, s.heap.size ≤ q → A q := fun q h => by rw [← hAe]; exact Or.inr h
  have hS : va_S A s.heap s.heap [] := va_S.rf
  have hP : va_P (dC, dI) vwCl (WL cy zL zT zR zI zJ) s.heap := hP
  have hl := lv_entry ([.ref zx, .int zia, .int zib] : List Value) (n := 4) (Nat.le_of_ble_eq_true rfl)
  rw [lg_entry_eq]
  generalize (lg_sl ([.ref zx, .int zia, .int zib] : List Value) ++ List.replicate (4 - (lg_sl ([.ref zx, .int zia, .int zib] : List Value)).length) Slot.unset).toArray = ls at hl ⊢
  have hl : lv_has ls 4 [(0, .ref zx), (1, .int zia), (2, .int zib)] := hl
  refine w_q (fun Q hQ => ?_)
  have h_zI : WM [109, 4700] AL zT zR zI zI := WM.rf hw
  refine lv_iload_n hx hb dX10_most_0 rfl (lv_at hl 1 rfl) ?_
  refine hj0_i (ws := (WL cy zL zT zR zI zJ)) (va_runS (As := [.int zia]) (rest := []) ⟨hx, hb, hml, hown, hts⟩ (c_X10_isCandle l dC dI cy s.heap.size zia) (va_cwS 1 hts gX10_most_X10_isCandle rfl rfl rfl (by decide +kernel) ⟨(Nat.le_of_ble_eq_true rfl), (Nat.le_of_ble_eq_true rfl)⟩) (PRE.s (hP.sub [] rfl) hK (hD.sub [] (by decide) rfl) hN) rfl rfl hl.1 rfl (lv_room (Nat.le_of_ble_eq_true rfl)) dX10_most_1 ⟨(Nat.le_of_ble_eq_true rfl), (Nat.le_of_ble_eq_true rfl)⟩) hP hD hS hA (fun zi_1 u_3 H locs hw_2 hP hD hS => ?_)
  have hw_2 : zi_1 = if 0 ≤ zia.toInt ∧ zia.toInt ≤ 1 then 1 else 0 := hw_2
  have b_zi_1 : 0 ≤ zi_1.toInt ∧ zi_1.toInt ≤ 1 := bz_b hw_2
  refine lv_if_eq (tgt := 16) hx hb dX10_most_4 (by decide) (fun c_4 => ?_) (fun c_4 => ?_)
  · have f_5 : ¬ (0 ≤ zia.toInt ∧ zia.toInt ≤ 1) := bz_0 hw_2 c_4
    refine lv_iconst (v := (-1)) hx hb dX10_most_16 (by decide) ?_
    subst hQ
    have qc_m1 : (-1 : Int32).toInt = -1 := by decide
    exact W.iret (v := (-1 : Int32)) hx hb hr (fun t ht hW => ⟨⟨(-1 : Int32), zI, rfl, ⟨h_zI, (show (-1) ≤ (-1 : Int32).toInt ∧ (-1 : Int32).toInt ≤ 4 from by omega), (show JX zR zI zx from hj), (show MSok zia.toInt zib.toInt → ((-1 : Int32).toInt = (zI (zR (zR (zR zx 0) 2) zia.toNatClampNeg) 9).toInt ∧ (zI (zR (zR (zR zx 0) 2) zia.toNatClampNeg) 9).toInt = zib.toInt ∧ (∀ a : Nat, zT a = 1 → ¬ a = (zR (zR (zR zx 0) 2) zia.toNatClampNeg) → zI a 9 = zI a 9)) from (fun h9 => absurd h9 (by unfold MSok; omega))), (show ¬ (MSok zia.toInt zib.toInt) → ((-1 : Int32).toInt = -1 ∧ zI = zI) from (fun _ => ⟨by decide, rfl⟩))⟩, ⟨by rw [ht]; exact hP, va_K.moved hW.alike hK, hD⟩⟩, hS.F ht⟩) hS.2.2 dX10_most_17
  · have f_5 : 0 ≤ zia.toInt ∧ zia.toInt ≤ 1 := bz_1 hw_2 c_4
    refine lv_iload_n hx hb dX10_most_7 rfl (lv_at hl 2 rfl) ?_
    refine lv_iconst (v := 1) hx hb dX10_most_8 (by decide) ?_
    refine lv_iconst (v := 4) hx hb dX10_most_9 (by decide) ?_
    refine hj0_i (ws := (WL cy zL zT zR zI zJ)) (va_runS (As := [.int zib, .int 1, .int 4]) (rest := []) ⟨hx, hb, hml, hown, hts⟩ (c_X10_isWithin l dC dI cy H.size zib 1 4 1 4 (by first | rfl | decide | omega | exact Int32.toInt_toInt64 _) (by first | rfl | decide | omega | exact Int32.toInt_toInt64 _)) (va_cwS 3 hts gX10_most_X10_isWithin rfl rfl rfl (by decide +kernel) ⟨(Nat.le_of_ble_eq_true rfl), (Nat.le_of_ble_eq_true rfl)⟩) (PRE.s (hP.sub [] rfl) hK (hD.sub [] (by decide) rfl) hN) rfl rfl hl.1 rfl (lv_room (Nat.le_of_ble_eq_true rfl)) dX10_most_10 ⟨(Nat.le_of_ble_eq_true rfl), (Nat.le_of_ble_eq_true rfl)⟩) hP hD hS hA (fun zi_6 u_8 H locs hw_7 hP hD hS => ?_)
    have hw_7 : zi_6 = if 1 ≤ zib.toInt ∧ zib.toInt ≤ 4 then 1 else 0 := hw_7
    have b_zi_6 : 0 ≤ zi_6.toInt ∧ zi_6.toInt ≤ 1 := bz_b hw_7
    refine lv_if_ne (tgt := 18) hx hb dX10_most_13 (by decide) (fun c_9 => ?_) (fun c_9 => ?_)
    · have f_10 : 1 ≤ zib.toInt ∧ zib.toInt ≤ 4 := bz_1 hw_7 c_9
      refine lv_aload_n hx hb dX10_most_18 rfl (lv_at hl 0 rfl) ?_
      refine ht_getr (C := RX10) (T := TX10) (N := 10) hx hb hts (by decide +kernel) hown hK hP hs t_zx (by decide) rfl rfl 0 (by decide) (hts (.fieldLink RX10 12 "DripStone" "now" "LDripStone$State;") (by decide +kernel)) (fun _ h9 => h9) rfl dX10_most_19 ?_
      have t_11 : zT (zR zx 0) = 9 := sk_f hs t_zx (by decide) rfl (by decide)
      refine ht_getr (C := RX8) (T := TX8) (N := 9) hx hb hts (by decide +kernel) hown hK hP hs t_11 (by decide) rfl rfl 2 (by decide) (hts (.fieldLink RX10 147 "DripStone$State" "candles" "[LDripStone$Candle;") (by decide +kernel)) (fun _ h9 => h9) rfl dX10_most_22 ?_
      have t_12 : zT (zR (zR zx 0) 2) = 61 := sk_f hs t_11 (by decide) rfl (by decide)
      refine lv_iload_n hx hb dX10_most_25 rfl (lv_at hl 1 rfl) ?_
      refine ht_aald (n := 2) (q := 3) hx hb hK hP hs t_12 (by decide) rfl rfl ⟨by omega, by omega⟩ dX10_most_26 ?_
      have t_13 : zT (zR (zR (zR zx 0) 2) zia.toNatClampNeg) = 1 := sk_a (n := 2) hs t_12 rfl rfl (by decide) (cl_lt (by omega) (by omega))
      refine ht_geti (C := RX0) (T := TX0) (N := 11) hx hb hts (by decide +kernel) hown hK hP hs t_13 (by decide) rfl rfl 9 (by decide) (hts (.fieldLink RX10 197 "DripStone$Candle" "most" "I") (by decide +kernel)) (fun _ h9 => h9) rfl dX10_most_27 ?_
      refine lv_topi (fun zi_14 ezi_14 => ?_)
      have tzi_14 : 1 ≤ zi_14.toInt ∧ zi_14.toInt ≤ 4 := by rw [ezi_14]; exact h_zI.at t_13 _ rfl
      have lzi_14 : (zI (zR (zR (zR zx 0) 2) zia.toNatClampNeg) 9).toInt = zi_14.toInt := by rw [ezi_14]
      refine lv_istore_n (lv' := [(3, .int zi_14), (0, .ref zx), (1, .int zia), (2, .int zib)]) hx hb dX10_most_30 rfl hl (by decide) rfl (fun ls hl => ?_)
      refine lv_aload_n hx hb dX10_most_31 rfl (lv_at hl 1 rfl) ?_
      refine ht_getr (C := RX10) (T := TX10) (N := 10) hx hb hts (by decide +kernel) hown hK hP hs t_zx (by decide) rfl rfl 0 (by decide) (hts (.fieldLink RX10 12 "DripStone" "now" "LDripStone$State;") (by decide +kernel)) (fun _ h9 => h9) rfl dX10_most_32 ?_
      refine ht_getr (C := RX8) (T := TX8) (N := 9) hx hb hts (by decide +kernel) hown hK hP hs t_11 (by decide) rfl rfl 2 (by decide) (hts (.fieldLink RX10 147 "DripStone$State" "candles" "[LDripStone$Candle;") (by decide +kernel)) (fun _ h9 => h9) rfl dX10_most_35 ?_
      refine lv_iload_n hx hb dX10_most_38 rfl (lv_at hl 2 rfl) ?_
      refine ht_aald (n := 2) (q := 3) hx hb hK hP hs t_12 (by decide) rfl rfl ⟨by omega, by omega⟩ dX10_most_39 ?_
      refine lv_iload_n hx hb dX10_most_40 rfl (lv_at hl 3 rfl) ?_
      refine ht_puti (v := zib) (ty := .int) (C := RX0) (T := TX0) (N := 11) hx hb hts (by decide +kernel) tyX0 tyX0_ok nmX0 hown hK hP hD hS hs t_13 (by decide) rfl rfl 9 (by decide) (hts (.fieldLink RX10 197 "DripStone$Candle" "most" "I") (by decide +kernel)) (fun _ h9 => h9) rfl (by decide +kernel) rfl rfl rfl dX10_most_41 (fun H locs hP hD hS => ?_)
      have h_zI_15 : WM [109, 4700] AL zT zR zI (u2 zI (zR (zR (zR zx 0) 2) zia.toNatClampNeg) 9 zib) := h_zI.put hs t_13 rfl (by omega) (by decide) (fun h => absurd h (by decide)) (by decide) trivial
      generalize uzI_15 : u2 zI (zR (zR (zR zx 0) 2) zia.toNatClampNeg) 9 zib = zI_15 at hP hD h_zI_15
      have j_zI_15 : JX zR zI_15 zx := by rw [← uzI_15]; exact hj.sm hs t_zx (SM.one t_13) (by decide) (by decide)
      refine lv_aload_n hx hb dX10_most_44 rfl (lv_at hl 1 rfl) ?_
      refine ht_getr (C := RX10) (T := TX10) (N := 10) hx hb hts (by decide +kernel) hown hK hP hs t_zx (by decide) rfl rfl 7 (by decide) (hts (.fieldLink RX10 54 "DripStone" "counted" "[Z") (by decide +kernel)) (fun _ h9 => h9) rfl dX10_most_45 ?_
      have t_16 : zT (zR zx 7) = 47 := sk_f hs t_zx (by decide) rfl (by decide)
      refine lv_iload_n hx hb dX10_most_48 rfl (lv_at hl 2 rfl) ?_
      refine lv_iconst (v := 0) hx hb dX10_most_49 (by decide) ?_
      refine ht_zast (v := (0 : Int32)) (n := 2) (q := 2) hx hb hK hP hD hS hs t_16 (by decide) rfl rfl ⟨by omega, by omega⟩ dX10_most_50 (fun H locs hP hD hS => ?_)
      have h_zI_17 : WM [109, 4700] AL zT zR zI (u2 zI_15 (zR zx 7) zia.toNatClampNeg (vp_nar .boolean (0 : Int32))) := h_zI_15.putA hs t_16 rfl (rgF _) (by decide) (fun h => absurd h (by decide)) (by decide) trivial
      generalize uzI_17 : u2 zI_15 (zR zx 7) zia.toNatClampNeg (vp_nar .boolean (0 : Int32)) = zI_17 at hP hD h_zI_17
      have j_zI_17 : JX zR zI_17 zx := by rw [← uzI_17]; exact j_zI_15.c0 hs t_zx bn0
      refine lv_iload_n hx hb dX10_most_51 rfl (lv_at hl 0 rfl) ?_
      subst hQ
      exact W.iret (v := zi_14) hx hb hr (fun t ht hW => ⟨⟨zi_14, zI_17, rfl, ⟨h_zI_17, (show (-1) ≤ zi_14.toInt ∧ zi_14.toInt ≤ 4 from by omega), (show JX zR zI_17 zx from j_zI_17), (show MSok zia.toInt zib.toInt → (zi_14.toInt = (zI (zR (zR (zR zx 0) 2) zia.toNatClampNeg) 9).toInt ∧ (zI_17 (zR (zR (zR zx 0) 2) zia.toNatClampNeg) 9).toInt = zib.toInt ∧ (∀ a : Nat, zT a = 1 → ¬ a = (zR (zR (zR zx 0) 2) zia.toNatClampNeg) → zI_17 a 9 = zI a 9)) from (fun _ => ⟨by omega, by rw [show zI_17 (zR (zR (zR zx 0) 2) zia.toNatClampNeg) 9 = zib from ((show zI_17 (zR (zR (zR zx 0) 2) zia.toNatClampNeg) 9 = zI_15 (zR (zR (zR zx 0) 2) zia.toNatClampNeg) 9 from by rw [← uzI_17]; exact u2_n (tne t_13 t_16 (by decide))).trans (by rw [← uzI_15]; exact u2_s))], fun a9 ta9 ha9 => ((show zI_17 a9 9 = zI_15 a9 9 from by rw [← uzI_17]; exact u2_n (tne ta9 t_16 (by decide))).trans ((show zI_15 a9 9 = zI a9 9 from by rw [← uzI_15]; exact u2_n ha9).trans rfl))⟩)), (show ¬ (MSok zia.toInt zib.toInt) → (zi_14.toInt = -1 ∧ zI_17 = zI) from (fun h9 => absurd (show MSok zia.toInt zib.toInt from by unfold MSok; omega) h9))⟩, ⟨by rw [ht]; exact hP, va_K.moved hW.alike hK, hD⟩⟩, hS.F ht⟩) hS.2.2 dX10_most_52
    · have f_10 : ¬ (1 ≤ zib.toInt ∧ zib.toInt ≤ 4) := bz_0 hw_7 c_9
      refine lv_iconst (v := (-1)) hx hb dX10_most_16 (by decide) ?_
      subst hQ
      have qc_m1 : (-1 : Int32).toInt = -1 := by decide
      exact W.iret (v := (-1 : Int32)) hx hb hr (fun t ht hW => ⟨⟨(-1 : Int32), zI, rfl, ⟨h_zI, (show (-1) ≤ (-1 : Int32).toInt ∧ (-1 : Int32).toInt ≤ 4 from by omega), (show JX zR zI zx from hj), (show MSok zia.toInt zib.toInt → ((-1 : Int32).toInt = (zI (zR (zR (zR zx 0) 2) zia.toNatClampNeg) 9).toInt ∧ (zI (zR (zR (zR zx 0) 2) zia.toNatClampNeg) 9).toInt = zib.toInt ∧ (∀ a : Nat, zT a = 1 → ¬ a = (zR (zR (zR zx 0) 2) zia.toNatClampNeg) → zI a 9 = zI a 9)) from (fun h9 => absurd h9 (by unfold MSok; omega))), (show ¬ (MSok zia.toInt zib.toInt) → ((-1 : Int32).toInt = -1 ∧ zI = zI) from (fun _ => ⟨by decide, rfl⟩))⟩, ⟨by rw [ht]; exact hP, va_K.moved hW.alike hK, hD⟩⟩, hS.F ht⟩) hS.2.2 dX10_most_17
set_option maxHeartbeats 8000000 in
set_option maxRecDepth 100000 in
theorem t_X10_stretch (l : Launch) (dC : Nat → ClassId) (dI : Nat → Nat → Nat) (cy : Nat → ClassId) (sz : Nat) (zL : List Nat) (zT : Nat → Nat) (zR : Nat → Nat → Nat) (zI : Nat → Nat → Int32) (zJ : Nat → Nat → Int64) (zx : Nat) (zia : Int32) (zib : Int32) (zic : Int32) (zid : Int32) (zie : Int32) (hs : SKP zL zT zR) (hw : WT zT zR zI) (t_zx : zT zx = 11) (hj : JX zR zI zx) : Met l yX10_stretch wsX10_stretch ({ frames := 3, cells := 0, slots := 0, locals := 64 } : Room) (va_Pc [.ref zx, .int zia, .int zib, .int zic, .int zid, .int zie] (PRE dC dI cy (WL cy zL zT zR zI zJ) sz)) (va_Qi (fun (r : Int32) (u : (Nat → Nat → Int32)) => (WM [108, 2200, 2300, 4700] AL zT zR zI u) ∧ ((-12) ≤ r.toInt ∧ r.toInt ≤ 6) ∧ (JX zR u zx)) (fun u t => POST dC dI cy (va_A (WL cy zL zT zR zI zJ) sz) (WL cy zL zT zR u zJ) t) (va_A (WL cy zL zT zR zI zJ) sz)) 0 0 (va_A (WL cy zL zT zR zI zJ) sz) := by
  refine Met.ofW (cc := cX10_stretch) (maxL := 7) (ret := (some .int)) (by decide) rfl ?_
  intro p e s m args below meth c s₁ B hml hv
  obtain ⟨rfl, hsz, hP, hK, hD0, hN⟩ := hv
  have hx := B.exec
  have hb := B.bytes
  have hr := B.returns
  have hts := atoms_spec (ws := wsX10_stretch) B.pre
  have hown : s.vm.findClass RX10 = some m.cls := findClass_of_methodNamed B.named
  have hlocks := B.notSynchronized
  subst hsz
  have hD := hD0.self (sz := s.heap.size)
  generalize hAe : va_A (WL cy zL zT zR zI zJ) s.heap.size = A at hD ⊢
  have hA : ∀ q : Nat, s.heap.size ≤ q → A q := fun q h => by rw [← hAe]; exact Or.inr h
  have hS : va_S A s.heap s.heap [] := va_S.rf
  have hP : va_P (dC, dI) vwCl (WL cy zL zT zR zI zJ) s.heap := hP
  have hl := lv_entry ([.ref zx, .int zia, .int zib, .int zic, .int zid, .int zie] : List Value) (n := 7) (Nat.le_of_ble_eq_true rfl)
  rw [lg_entry_eq]
  generalize (lg_sl ([.ref zx, .int zia, .int zib, .int zic, .int zid, .int zie] : List Value) ++ List.replicate (7 - (lg_sl ([.ref zx, .int zia, .int zib, .int zic, .int zid, .int zie] : List Value)).length) Slot.unset).toArray = ls at hl ⊢
  have hl : lv_has ls 7 [(0, .ref zx), (1, .int zia), (2, .int zib), (3, .int zic), (4, .int zid), (5, .int zie)] := hl
  refine w_q (fun Q hQ => ?_)
  have h_zI : WM [108, 2200, 2300, 4700] AL zT zR zI zI := WM.rf hw
  refine lv_aload_n hx hb dX10_stretch_0 rfl (lv_at hl 0 rfl) ?_
  refine lv_iload_n hx hb dX10_stretch_1 rfl (lv_at hl 1 rfl) ?_
  refine lv_iload_n hx hb dX10_stretch_2 rfl (lv_at hl 3 rfl) ?_
  refine hj_i (ws := (WL cy zL zT zR zI zJ)) (w1 := fun (u : Unit) => (WL cy zL zT zR zI zJ)) (va_runV (As := [.int zia, .int zic]) (rest := []) ⟨hx, hb, hml, hown, hts⟩ (t_X10_isThing l dC dI cy s.heap.size zL zT zR zI zJ zx zia zic hs h_zI.1 t_zx) (cwV 2 hts gX10_stretch_X10_isThing rfl rfl rfl (by decide +kernel) ⟨(Nat.le_of_ble_eq_true rfl), (Nat.le_of_ble_eq_true rfl)⟩) (PRE.v hP hK hD hN (ht_recv hK hP hs t_zx (by decide) rfl rfl)) rfl rfl hl.1 rfl (lv_room (Nat.le_of_ble_eq_true rfl)) dX10_stretch_3 ⟨(Nat.le_of_ble_eq_true rfl), (Nat.le_of_ble_eq_true rfl)⟩) hP hD hS hA (fun zi_1 u_3 H locs hw_2 hP hD hS => ?_)
  obtain ⟨b_zi_1, ps_4, ps_5⟩ : (0 ≤ zi_1.toInt ∧ zi_1.toInt ≤ 1) ∧ (zi_1.toInt = 0 ∨ (0 ≤ zia.toInt ∧ zia.toInt ≤ 1 ∧ 0 ≤ zic.toInt ∧ zic.toInt ≤ 11)) ∧ (zi_1.toInt = 0 ∨ zic.toInt < (zI (zR (zR (zR zx 0) 2) zia.toNatClampNeg) 7).toInt) := hw_2
  refine lv_if_eq (tgt := 34) hx hb dX10_stretch_6 (by decide) (fun c_6 => ?_) (fun c_6 => ?_)
  · have f_7 : zi_1.toInt = 0 := ic_eq (rfl) (by decide) c_6
    refine lv_iconst (v := (-1)) hx hb dX10_stretch_34 (by decide) ?_
    subst hQ
    have qc_m1 : (-1 : Int32).toInt = -1 := by decide
    exact W.iret (v := (-1 : Int32)) hx hb hr (fun t ht hW => ⟨⟨(-1 : Int32), zI, rfl, ⟨h_zI, (show (-12) ≤ (-1 : Int32).toInt ∧ (-1 : Int32).toInt ≤ 6 from by omega), (show JX zR zI zx from hj)⟩, ⟨by rw [ht]; exact hP, va_K.moved hW.alike hK, hD⟩⟩, hS.F ht⟩) hS.2.2 dX10_stretch_35
  · have f_7 : ¬ (zi_1.toInt = 0) := ic_neq (rfl) (by decide) c_6
    have b9_zia : 0 ≤ zia.toInt ∧ zia.toInt ≤ 1 := by omega
    have b9_zic : 0 ≤ zic.toInt ∧ zic.toInt ≤ 11 := by omega
    refine lv_aload_n hx hb dX10_stretch_9 rfl (lv_at hl 0 rfl) ?_
    refine lv_iload_n hx hb dX10_stretch_10 rfl (lv_at hl 1 rfl) ?_
    refine lv_iload hx hb dX10_stretch_11 (lv_at hl 4 rfl) ?_
    refine hj_i (ws := (WL cy zL zT zR zI zJ)) (w1 := fun (u : Unit) => (WL cy zL zT zR zI zJ)) (va_runV (As := [.int zia, .int zid]) (rest := []) ⟨hx, hb, hml, hown, hts⟩ (t_X10_isThing l dC dI cy H.size zL zT zR zI zJ zx zia zid hs h_zI.1 t_zx) (cwV 2 hts gX10_stretch_X10_isThing rfl rfl rfl (by decide +kernel) ⟨(Nat.le_of_ble_eq_true rfl), (Nat.le_of_ble_eq_true rfl)⟩) (PRE.v hP hK hD hN (ht_recv hK hP hs t_zx (by decide) rfl rfl)) rfl rfl hl.1 rfl (lv_room (Nat.le_of_ble_eq_true rfl)) dX10_stretch_13 ⟨(Nat.le_of_ble_eq_true rfl), (Nat.le_of_ble_eq_true rfl)⟩) hP hD hS hA (fun zi_8 u_10 H locs hw_9 hP hD hS => ?_)
    obtain ⟨b_zi_8, ps_11, ps_12⟩ : (0 ≤ zi_8.toInt ∧ zi_8.toInt ≤ 1) ∧ (zi_8.toInt = 0 ∨ (0 ≤ zia.toInt ∧ zia.toInt ≤ 1 ∧ 0 ≤ zid.toInt ∧ zid.toInt ≤ 11)) ∧ (zi_8.toInt = 0 ∨ zid.toInt < (zI (zR (zR (zR zx 0) 2) zia.toNatClampNeg) 7).toInt) := hw_9
    refine lv_if_eq (tgt := 34) hx hb dX10_stretch_16 (by decide) (fun c_13 => ?_) (fun c_13 => ?_)
    · have f_14 : zi_8.toInt = 0 := ic_eq (rfl) (by decide) c_13
      refine lv_iconst (v := (-1)) hx hb dX10_stretch_34 (by decide) ?_
      subst hQ
      have qc_m1 : (-1 : Int32).toInt = -1 := by decide
      exact W.iret (v := (-1 : Int32)) hx hb hr (fun t ht hW => ⟨⟨(-1 : Int32), zI, rfl, ⟨h_zI, (show (-12) ≤ (-1 : Int32).toInt ∧ (-1 : Int32).toInt ≤ 6 from by omega), (show JX zR zI zx from hj)⟩, ⟨by rw [ht]; exact hP, va_K.moved hW.alike hK, hD⟩⟩, hS.F ht⟩) hS.2.2 dX10_stretch_35
    · have f_14 : ¬ (zi_8.toInt = 0) := ic_neq (rfl) (by decide) c_13
      have b9_zia : 0 ≤ zia.toInt ∧ zia.toInt ≤ 1 := by omega
      have b9_zid : 0 ≤ zid.toInt ∧ zid.toInt ≤ 11 := by omega
      refine lv_iload_n hx hb dX10_stretch_19 rfl (lv_at hl 3 rfl) ?_
      refine lv_iload hx hb dX10_stretch_20 (lv_at hl 4 rfl) ?_
      refine lv_icmp_gt (tgt := 34) hx hb dX10_stretch_22 (by decide) (fun c_15 => ?_) (fun c_15 => ?_)
      · have f_16 : zic.toInt > zid.toInt := ic_gt (rfl) (rfl) c_15
        refine lv_iconst (v := (-1)) hx hb dX10_stretch_34 (by decide) ?_
        subst hQ
        have qc_m1 : (-1 : Int32).toInt = -1 := by decide
        exact W.iret (v := (-1 : Int32)) hx hb hr (fun t ht hW => ⟨⟨(-1 : Int32), zI, rfl, ⟨h_zI, (show (-12) ≤ (-1 : Int32).toInt ∧ (-1 : Int32).toInt ≤ 6 from by omega), (show JX zR zI zx from hj)⟩, ⟨by rw [ht]; exact hP, va_K.moved hW.alike hK, hD⟩⟩, hS.F ht⟩) hS.2.2 dX10_stretch_35
      · have f_16 : ¬ (zic.toInt > zid.toInt) := ic_ngt (rfl) (rfl) c_15
        refine lv_iload_n hx hb dX10_stretch_25 rfl (lv_at hl 2 rfl) ?_
        refine lv_iload hx hb dX10_stretch_26 (lv_at hl 5 rfl) ?_
        refine hj0_i (ws := (WL cy zL zT zR zI zJ)) (va_runS (As := [.int zib, .int zie]) (rest := []) ⟨hx, hb, hml, hown, hts⟩ (c_X10_fitsStretch l dC dI cy H.size zib zie) (va_cwS 2 hts gX10_stretch_X10_fitsStretch rfl rfl rfl (by decide +kernel) ⟨(Nat.le_of_ble_eq_true rfl), (Nat.le_of_ble_eq_true rfl)⟩) (PRE.s (hP.sub [] rfl) hK (hD.sub [] (by decide) rfl) hN) rfl rfl hl.1 rfl (lv_room (Nat.le_of_ble_eq_true rfl)) dX10_stretch_28 ⟨(Nat.le_of_ble_eq_true rfl), (Nat.le_of_ble_eq_true rfl)⟩) hP hD hS hA (fun zi_17 u_19 H locs hw_18 hP hD hS => ?_)
        obtain ⟨b_zi_17, ps_20⟩ : (0 ≤ zi_17.toInt ∧ zi_17.toInt ≤ 1) ∧ (zi_17.toInt = 0 ∨ (0 ≤ zie.toInt ∧ zie.toInt ≤ 20)) := hw_18
        refine lv_if_ne (tgt := 36) hx hb dX10_stretch_31 (by decide) (fun c_21 => ?_) (fun c_21 => ?_)
        · have f_22 : zi_17.toInt ≠ 0 := ic_ne (rfl) (by decide) c_21
          have b9_zie : 0 ≤ zie.toInt ∧ zie.toInt ≤ 20 := by omega
          refine lv_aload_n hx hb dX10_stretch_36 rfl (lv_at hl 0 rfl) ?_
          refine ht_getr (C := RX10) (T := TX10) (N := 10) hx hb hts (by decide +kernel) hown hK hP hs t_zx (by decide) rfl rfl 0 (by decide) (hts (.fieldLink RX10 12 "DripStone" "now" "LDripStone$State;") (by decide +kernel)) (fun _ h9 => h9) rfl dX10_stretch_37 ?_
          have t_23 : zT (zR zx 0) = 9 := sk_f hs t_zx (by decide) rfl (by decide)
          refine ht_getr (C := RX8) (T := TX8) (N := 9) hx hb hts (by decide +kernel) hown hK hP hs t_23 (by decide) rfl rfl 2 (by decide) (hts (.fieldLink RX10 147 "DripStone$State" "candles" "[LDripStone$Candle;") (by decide +kernel)) (fun _ h9 => h9) rfl dX10_stretch_40 ?_
          have t_24 : zT (zR (zR zx 0) 2) = 61 := sk_f hs t_23 (by decide) rfl (by decide)
          refine lv_iload_n hx hb dX10_stretch_43 rfl (lv_at hl 1 rfl) ?_
          refine ht_aald (n := 2) (q := 3) hx hb hK hP hs t_24 (by decide) rfl rfl ⟨by omega, by omega⟩ dX10_stretch_44 ?_
          have t_25 : zT (zR (zR (zR zx 0) 2) zia.toNatClampNeg) = 1 := sk_a (n := 2) hs t_24 rfl rfl (by decide) (cl_lt (by omega) (by omega))
          refine lv_astore (lv' := [(6, .ref (zR (zR (zR zx 0) 2) zia.toNatClampNeg)), (0, .ref zx), (1, .int zia), (2, .int zib), (3, .int zic), (4, .int zid), (5, .int zie)]) hx hb dX10_stretch_45 hl (by decide) rfl (fun ls hl => ?_)
          refine lv_aload hx hb dX10_stretch_47 (lv_at hl 0 rfl) ?_
          refine lv_iload_n hx hb dX10_stretch_49 rfl (lv_at hl 4 rfl) ?_
          refine hj_i (ws := (WL cy zL zT zR zI zJ)) (w1 := fun (u : Unit) => (WL cy zL zT zR zI zJ)) (va_runV (As := [.int zic]) (rest := []) ⟨hx, hb, hml, hown, hts⟩ (t_X0_isPlace l dC dI cy H.size zL zT zR zI zJ (zR (zR (zR zx 0) 2) zia.toNatClampNeg) zic hs h_zI.1 t_25 (by omega)) (cwV 1 hts gX10_stretch_X0_isPlace rfl rfl rfl (by decide +kernel) ⟨(Nat.le_of_ble_eq_true rfl), (Nat.le_of_ble_eq_true rfl)⟩) (PRE.v hP hK hD hN (ht_recv hK hP hs t_25 (by decide) rfl rfl)) rfl rfl hl.1 rfl (lv_room (Nat.le_of_ble_eq_true rfl)) dX10_stretch_50 ⟨(Nat.le_of_ble_eq_true rfl), (Nat.le_of_ble_eq_true rfl)⟩) hP hD hS hA (fun zi_26 u_28 H locs hw_27 hP hD hS => ?_)
          obtain ⟨b_zi_26, ps_29⟩ : (0 ≤ zi_26.toInt ∧ zi_26.toInt ≤ 1) ∧ ((zi_26.toInt = 0 ∧ (zI (zR (zR (zR (zR zx 0) 2) zia.toNatClampNeg) 0) zic.toNatClampNeg).toInt = 2) ∨ (zi_26.toInt = 1 ∧ ¬ (zI (zR (zR (zR (zR zx 0) 2) zia.toNatClampNeg) 0) zic.toNatClampNeg).toInt = 2)) := hw_27
          refine lv_if_eq (tgt := 66) hx hb dX10_stretch_53 (by decide) (fun c_30 => ?_) (fun c_30 => ?_)
          · have f_31 : zi_26.toInt = 0 := ic_eq (rfl) (by decide) c_30
            refine lv_bipush (v := (-12)) hx hb dX10_stretch_66 (by decide) ?_
            subst hQ
            have qc_m12 : (-12 : Int32).toInt = -12 := by decide
            exact W.iret (v := (-12 : Int32)) hx hb hr (fun t ht hW => ⟨⟨(-12 : Int32), zI, rfl, ⟨h_zI, (show (-12) ≤ (-12 : Int32).toInt ∧ (-12 : Int32).toInt ≤ 6 from by omega), (show JX zR zI zx from hj)⟩, ⟨by rw [ht]; exact hP, va_K.moved hW.alike hK, hD⟩⟩, hS.F ht⟩) hS.2.2 dX10_stretch_68
          · have f_31 : ¬ (zi_26.toInt = 0) := ic_neq (rfl) (by decide) c_30
            refine lv_aload hx hb dX10_stretch_56 (lv_at hl 0 rfl) ?_
            refine lv_iload hx hb dX10_stretch_58 (lv_at hl 5 rfl) ?_
            refine hj_i (ws := (WL cy zL zT zR zI zJ)) (w1 := fun (u : Unit) => (WL cy zL zT zR zI zJ)) (va_runV (As := [.int zid]) (rest := []) ⟨hx, hb, hml, hown, hts⟩ (t_X0_isPlace l dC dI cy H.size zL zT zR zI zJ (zR (zR (zR zx 0) 2) zia.toNatClampNeg) zid hs h_zI.1 t_25 (by omega)) (cwV 1 hts gX10_stretch_X0_isPlace rfl rfl rfl (by decide +kernel) ⟨(Nat.le_of_ble_eq_true rfl), (Nat.le_of_ble_eq_true rfl)⟩) (PRE.v hP hK hD hN (ht_recv hK hP hs t_25 (by decide) rfl rfl)) rfl rfl hl.1 rfl (lv_room (Nat.le_of_ble_eq_true rfl)) dX10_stretch_60 ⟨(Nat.le_of_ble_eq_true rfl), (Nat.le_of_ble_eq_true rfl)⟩) hP hD hS hA (fun zi_32 u_34 H locs hw_33 hP hD hS => ?_)
            obtain ⟨b_zi_32, ps_35⟩ : (0 ≤ zi_32.toInt ∧ zi_32.toInt ≤ 1) ∧ ((zi_32.toInt = 0 ∧ (zI (zR (zR (zR (zR zx 0) 2) zia.toNatClampNeg) 0) zid.toNatClampNeg).toInt = 2) ∨ (zi_32.toInt = 1 ∧ ¬ (zI (zR (zR (zR (zR zx 0) 2) zia.toNatClampNeg) 0) zid.toNatClampNeg).toInt = 2)) := hw_33
            refine lv_if_ne (tgt := 69) hx hb dX10_stretch_63 (by decide) (fun c_36 => ?_) (fun c_36 => ?_)
            · have f_37 : zi_32.toInt ≠ 0 := ic_ne (rfl) (by decide) c_36
              refine lv_aload hx hb dX10_stretch_69 (lv_at hl 0 rfl) ?_
              refine ht_geti (C := RX0) (T := TX0) (N := 11) hx hb hts (by decide +kernel) hown hK hP hs t_25 (by decide) rfl rfl 8 (by decide) (hts (.fieldLink RX10 203 "DripStone$Candle" "stretches" "I") (by decide +kernel)) (fun _ h9 => h9) rfl dX10_stretch_71 ?_
              refine lv_topi (fun zi_38 ezi_38 => ?_)
              have tzi_38 : 0 ≤ zi_38.toInt ∧ zi_38.toInt ≤ 6 := by rw [ezi_38]; exact h_zI.at t_25 _ rfl
              refine lv_bipush (v := 6) hx hb dX10_stretch_74 (by decide) ?_
              refine lv_icmp_ne (tgt := 82) hx hb dX10_stretch_76 (by decide) (fun c_39 => ?_) (fun c_39 => ?_)
              · have f_40 : zi_38.toInt ≠ (6 : Int) := ic_ne (rfl) (show (6 : Int32).toInt = 6 by decide) c_39
                refine lv_aload hx hb dX10_stretch_82 (lv_at hl 0 rfl) ?_
                refine lv_iload_n hx hb dX10_stretch_84 rfl (lv_at hl 3 rfl) ?_
                refine lv_iload_n hx hb dX10_stretch_85 rfl (lv_at hl 4 rfl) ?_
                refine lv_iload hx hb dX10_stretch_86 (lv_at hl 5 rfl) ?_
                refine lv_iload hx hb dX10_stretch_88 (lv_at hl 6 rfl) ?_
                have lk_41 : (zI (zR (zR (zR zx 0) 2) zia.toNatClampNeg) 8).toInt = zi_38.toInt := congrArg Int32.toInt ezi_38.symm
                refine hj_v (ws := (WL cy zL zT zR zI zJ)) (w1 := fun (u : (Nat → Nat → Int32)) => (WL cy zL zT zR u zJ)) (va_runV (As := [.int zib, .int zic, .int zid, .int zie]) (rest := []) ⟨hx, hb, hml, hown, hts⟩ (t_X0_addStretch l dC dI cy H.size zL zT zR zI zJ (zR (zR (zR zx 0) 2) zia.toNatClampNeg) zib zic zid zie hs h_zI.1 t_25 (by omega) (by omega)) (cwV 4 hts gX10_stretch_X0_addStretch rfl rfl rfl (by decide +kernel) ⟨(Nat.le_of_ble_eq_true rfl), (Nat.le_of_ble_eq_true rfl)⟩) (PRE.v hP hK hD hN (ht_recv hK hP hs t_25 (by decide) rfl rfl)) rfl rfl hl.1 rfl (lv_room (Nat.le_of_ble_eq_true rfl)) dX10_stretch_90 ⟨(Nat.le_of_ble_eq_true rfl), (Nat.le_of_ble_eq_true rfl)⟩) hP hD hS hA (fun zI_45 H locs hw_43 hP hD hS => ?_)
                obtain ⟨k_zI_45, ps_46⟩ : (WM [108, 2200, 2300] (OW zT zR (zR (zR (zR zx 0) 2) zia.toNatClampNeg)) zT zR zI zI_45) ∧ ((zI_45 (zR (zR (zR zx 0) 2) zia.toNatClampNeg) 8).toInt = (zI (zR (zR (zR zx 0) 2) zia.toNatClampNeg) 8).toInt + 1) := hw_43
                have h_zI_45 : WM [108, 2200, 2300, 4700] AL zT zR zI zI_45 := h_zI.tr k_zI_45 (by decide) (fun _ _ => trivial)
                obtain ⟨zi_47, ezi_47⟩ : ∃ y : Int32, y = zI_45 (zR (zR (zR zx 0) 2) zia.toNatClampNeg) 8 := ⟨_, rfl⟩
                have tzi_47 : 0 ≤ zi_47.toInt ∧ zi_47.toInt ≤ 6 := by rw [ezi_47]; exact h_zI_45.at t_25 _ rfl
                have lk_48 : (zI_45 (zR (zR (zR zx 0) 2) zia.toNatClampNeg) 8).toInt = zi_47.toInt := congrArg Int32.toInt ezi_47.symm
                have j_zI_45 : JX zR zI_45 zx := hj.sm hs t_zx k_zI_45.2 (by decide) (by decide)
                refine lv_aload_n hx hb dX10_stretch_93 rfl (lv_at hl 1 rfl) ?_
                refine ht_getr (C := RX10) (T := TX10) (N := 10) hx hb hts (by decide +kernel) hown hK hP hs t_zx (by decide) rfl rfl 7 (by decide) (hts (.fieldLink RX10 54 "DripStone" "counted" "[Z") (by decide +kernel)) (fun _ h9 => h9) rfl dX10_stretch_94 ?_
                have t_49 : zT (zR zx 7) = 47 := sk_f hs t_zx (by decide) rfl (by decide)
                refine lv_iload_n hx hb dX10_stretch_97 rfl (lv_at hl 2 rfl) ?_
                refine lv_iconst (v := 0) hx hb dX10_stretch_98 (by decide) ?_
                refine ht_zast (v := (0 : Int32)) (n := 2) (q := 2) hx hb hK hP hD hS hs t_49 (by decide) rfl rfl ⟨by omega, by omega⟩ dX10_stretch_99 (fun H locs hP hD hS => ?_)
                have h_zI_50 : WM [108, 2200, 2300, 4700] AL zT zR zI (u2 zI_45 (zR zx 7) zia.toNatClampNeg (vp_nar .boolean (0 : Int32))) := h_zI_45.putA hs t_49 rfl (rgF _) (by decide) (fun h => absurd h (by decide)) (by decide) trivial
                generalize uzI_50 : u2 zI_45 (zR zx 7) zia.toNatClampNeg (vp_nar .boolean (0 : Int32)) = zI_50 at hP hD h_zI_50
                have j_zI_50 : JX zR zI_50 zx := by rw [← uzI_50]; exact j_zI_45.c0 hs t_zx bn0
                refine lv_aload hx hb dX10_stretch_100 (lv_at hl 0 rfl) ?_
                refine ht_geti (C := RX0) (T := TX0) (N := 11) hx hb hts (by decide +kernel) hown hK hP hs t_25 (by decide) rfl rfl 8 (by decide) (hts (.fieldLink RX10 203 "DripStone$Candle" "stretches" "I") (by decide +kernel)) (fun _ h9 => h9) rfl dX10_stretch_102 ?_
                refine lv_topi (fun zi_51 ezi_51 => ?_)
                obtain rfl : zi_47 = zi_51 := (ezi_51.trans ((show zI_50 (zR (zR (zR zx 0) 2) zia.toNatClampNeg) 8 = zI_45 (zR (zR (zR zx 0) 2) zia.toNatClampNeg) 8 from by rw [← uzI_50]; exact u2_n (tne t_25 t_49 (by decide))).trans ezi_47.symm)).symm
                subst hQ
                exact W.iret (v := zi_47) hx hb hr (fun t ht hW => ⟨⟨zi_47, zI_50, rfl, ⟨h_zI_50, (show (-12) ≤ zi_47.toInt ∧ zi_47.toInt ≤ 6 from by omega), (show JX zR zI_50 zx from j_zI_50)⟩, ⟨by rw [ht]; exact hP, va_K.moved hW.alike hK, hD⟩⟩, hS.F ht⟩) hS.2.2 dX10_stretch_105
              · have f_40 : ¬ (zi_38.toInt ≠ (6 : Int)) := ic_nne (rfl) (show (6 : Int32).toInt = 6 by decide) c_39
                refine lv_bipush (v := (-3)) hx hb dX10_stretch_79 (by decide) ?_
                subst hQ
                have qc_m3 : (-3 : Int32).toInt = -3 := by decide
                exact W.iret (v := (-3 : Int32)) hx hb hr (fun t ht hW => ⟨⟨(-3 : Int32), zI, rfl, ⟨h_zI, (show (-12) ≤ (-3 : Int32).toInt ∧ (-3 : Int32).toInt ≤ 6 from by omega), (show JX zR zI zx from hj)⟩, ⟨by rw [ht]; exact hP, va_K.moved hW.alike hK, hD⟩⟩, hS.F ht⟩) hS.2.2 dX10_stretch_81
            · have f_37 : ¬ (zi_32.toInt ≠ 0) := ic_nne (rfl) (by decide) c_36
              refine lv_bipush (v := (-12)) hx hb dX10_stretch_66 (by decide) ?_
              subst hQ
              have qc_m12 : (-12 : Int32).toInt = -12 := by decide
              exact W.iret (v := (-12 : Int32)) hx hb hr (fun t ht hW => ⟨⟨(-12 : Int32), zI, rfl, ⟨h_zI, (show (-12) ≤ (-12 : Int32).toInt ∧ (-12 : Int32).toInt ≤ 6 from by omega), (show JX zR zI zx from hj)⟩, ⟨by rw [ht]; exact hP, va_K.moved hW.alike hK, hD⟩⟩, hS.F ht⟩) hS.2.2 dX10_stretch_68
        · have f_22 : ¬ (zi_17.toInt ≠ 0) := ic_nne (rfl) (by decide) c_21
          refine lv_iconst (v := (-1)) hx hb dX10_stretch_34 (by decide) ?_
          subst hQ
          have qc_m1 : (-1 : Int32).toInt = -1 := by decide
          exact W.iret (v := (-1 : Int32)) hx hb hr (fun t ht hW => ⟨⟨(-1 : Int32), zI, rfl, ⟨h_zI, (show (-12) ≤ (-1 : Int32).toInt ∧ (-1 : Int32).toInt ≤ 6 from by omega), (show JX zR zI zx from hj)⟩, ⟨by rw [ht]; exact hP, va_K.moved hW.alike hK, hD⟩⟩, hS.F ht⟩) hS.2.2 dX10_stretch_35
set_option maxHeartbeats 8000000 in
set_option maxRecDepth 100000 in
theorem t_X10_date (l : Launch) (dC : Nat → ClassId) (dI : Nat → Nat → Nat) (cy : Nat → ClassId) (sz : Nat) (zL : List Nat) (zT : Nat → Nat) (zR : Nat → Nat → Nat) (zI : Nat → Nat → Int32) (zJ : Nat → Nat → Int64) (zx : Nat) (zia : Int32) (zib : Int32) (zic : Int32) (zid : Int32) (zie : Int32) (hs : SKP zL zT zR) (hw : WT zT zR zI) (t_zx : zT zx = 11) (hj : JX zR zI zx) : Met l yX10_date wsX10_date ({ frames := 3, cells := 0, slots := 0, locals := 64 } : Room) (va_Pc [.ref zx, .int zia, .int zib, .int zic, .int zid, .int zie] (PRE dC dI cy (WL cy zL zT zR zI zJ) sz)) (va_Qi (fun (r : Int32) (u : (Nat → Nat → Int32)) => (WM [306, 2400, 2500, 2600, 2700, 4700] AL zT zR zI u) ∧ ((-12) ≤ r.toInt ∧ r.toInt ≤ 7) ∧ (JX zR u zx)) (fun u t => POST dC dI cy (va_A (WL cy zL zT zR zI zJ) sz) (WL cy zL zT zR u zJ) t) (va_A (WL cy zL zT zR zI zJ) sz)) 0 0 (va_A (WL cy zL zT zR zI zJ) sz) := by
  refine Met.ofW (cc := cX10_date) (maxL := 6) (ret := (some .int)) (by decide) rfl ?_
  intro p e s m args below meth c s₁ B hml hv
  obtain ⟨rfl, hsz, hP, hK, hD0, hN⟩ := hv
  have hx := B.exec
  have hb := B.bytes
  have hr := B.returns
  have hts := atoms_spec (ws := wsX10_date) B.pre
  have hown : s.vm.findClass RX10 = some m.cls := findClass_of_methodNamed B.named
  have hlocks := B.notSynchronized
  subst hsz
  have hD := hD0.self (sz := s.heap.size)
  generalize hAe : va_A (WL cy zL zT zR zI zJ) s.heap.size = A at hD ⊢
  have hA : ∀ q : Nat, s.heap.size ≤ q → A q := fun q h => by rw [← hAe]; exact Or.inr h
  have hS : va_S A s.heap s.heap [] := va_S.rf
  have hP : va_P (dC, dI) vwCl (WL cy zL zT zR zI zJ) s.heap := hP
  have hl := lv_entry ([.ref zx, .int zia, .int zib, .int zic, .int zid, .int zie] : List Value) (n := 6) (Nat.le_of_ble_eq_true rfl)
  rw [lg_entry_eq]
  generalize (lg_sl ([.ref zx, .int zia, .int zib, .int zic, .int zid, .int zie] : List Value) ++ List.replicate (6 - (lg_sl ([.ref zx, .int zia, .int zib, .int zic, .int zid, .int zie] : List Value)).length) Slot.unset).toArray = ls at hl ⊢
  have hl : lv_has ls 6 [(0, .ref zx), (1, .int zia), (2, .int zib), (3, .int zic), (4, .int zid), (5, .int zie)] := hl
  refine w_q (fun Q hQ => ?_)
  have h_zI : WM [306, 2400, 2500, 2600, 2700, 4700] AL zT zR zI zI := WM.rf hw
  refine lv_aload_n hx hb dX10_date_0 rfl (lv_at hl 0 rfl) ?_
  refine lv_iload_n hx hb dX10_date_1 rfl (lv_at hl 1 rfl) ?_
  refine lv_iload_n hx hb dX10_date_2 rfl (lv_at hl 2 rfl) ?_
  refine hj_i (ws := (WL cy zL zT zR zI zJ)) (w1 := fun (u : Unit) => (WL cy zL zT zR zI zJ)) (va_runV (As := [.int zia, .int zib]) (rest := []) ⟨hx, hb, hml, hown, hts⟩ (t_X10_isThing l dC dI cy s.heap.size zL zT zR zI zJ zx zia zib hs h_zI.1 t_zx) (cwV 2 hts gX10_date_X10_isThing rfl rfl rfl (by decide +kernel) ⟨(Nat.le_of_ble_eq_true rfl), (Nat.le_of_ble_eq_true rfl)⟩) (PRE.v hP hK hD hN (ht_recv hK hP hs t_zx (by decide) rfl rfl)) rfl rfl hl.1 rfl (lv_room (Nat.le_of_ble_eq_true rfl)) dX10_date_3 ⟨(Nat.le_of_ble_eq_true rfl), (Nat.le_of_ble_eq_true rfl)⟩) hP hD hS hA (fun zi_1 u_3 H locs hw_2 hP hD hS => ?_)
  obtain ⟨b_zi_1, ps_4, ps_5⟩ : (0 ≤ zi_1.toInt ∧ zi_1.toInt ≤ 1) ∧ (zi_1.toInt = 0 ∨ (0 ≤ zia.toInt ∧ zia.toInt ≤ 1 ∧ 0 ≤ zib.toInt ∧ zib.toInt ≤ 11)) ∧ (zi_1.toInt = 0 ∨ zib.toInt < (zI (zR (zR (zR zx 0) 2) zia.toNatClampNeg) 7).toInt) := hw_2
  refine lv_if_eq (tgt := 40) hx hb dX10_date_6 (by decide) (fun c_6 => ?_) (fun c_6 => ?_)
  · have f_7 : zi_1.toInt = 0 := ic_eq (rfl) (by decide) c_6
    refine lv_iconst (v := (-1)) hx hb dX10_date_40 (by decide) ?_
    subst hQ
    have qc_m1 : (-1 : Int32).toInt = -1 := by decide
    exact W.iret (v := (-1 : Int32)) hx hb hr (fun t ht hW => ⟨⟨(-1 : Int32), zI, rfl, ⟨h_zI, (show (-12) ≤ (-1 : Int32).toInt ∧ (-1 : Int32).toInt ≤ 7 from by omega), (show JX zR zI zx from hj)⟩, ⟨by rw [ht]; exact hP, va_K.moved hW.alike hK, hD⟩⟩, hS.F ht⟩) hS.2.2 dX10_date_41
  · have f_7 : ¬ (zi_1.toInt = 0) := ic_neq (rfl) (by decide) c_6
    have b9_zia : 0 ≤ zia.toInt ∧ zia.toInt ≤ 1 := by omega
    have b9_zib : 0 ≤ zib.toInt ∧ zib.toInt ≤ 11 := by omega
    refine lv_iload_n hx hb dX10_date_9 rfl (lv_at hl 3 rfl) ?_
    refine hj0_i (ws := (WL cy zL zT zR zI zJ)) (va_runS (As := [.int zic]) (rest := []) ⟨hx, hb, hml, hown, hts⟩ (c_X10_isYear l dC dI cy H.size zic) (va_cwS 1 hts gX10_date_X10_isYear rfl rfl rfl (by decide +kernel) ⟨(Nat.le_of_ble_eq_true rfl), (Nat.le_of_ble_eq_true rfl)⟩) (PRE.s (hP.sub [] rfl) hK (hD.sub [] (by decide) rfl) hN) rfl rfl hl.1 rfl (lv_room (Nat.le_of_ble_eq_true rfl)) dX10_date_10 ⟨(Nat.le_of_ble_eq_true rfl), (Nat.le_of_ble_eq_true rfl)⟩) hP hD hS hA (fun zi_8 u_10 H locs hw_9 hP hD hS => ?_)
    have hw_9 : zi_8 = if 0 ≤ zic.toInt ∧ zic.toInt ≤ 23 then 1 else 0 := hw_9
    have b_zi_8 : 0 ≤ zi_8.toInt ∧ zi_8.toInt ≤ 1 := bz_b hw_9
    refine lv_if_eq (tgt := 40) hx hb dX10_date_13 (by decide) (fun c_11 => ?_) (fun c_11 => ?_)
    · have f_12 : ¬ (0 ≤ zic.toInt ∧ zic.toInt ≤ 23) := bz_0 hw_9 c_11
      refine lv_iconst (v := (-1)) hx hb dX10_date_40 (by decide) ?_
      subst hQ
      have qc_m1 : (-1 : Int32).toInt = -1 := by decide
      exact W.iret (v := (-1 : Int32)) hx hb hr (fun t ht hW => ⟨⟨(-1 : Int32), zI, rfl, ⟨h_zI, (show (-12) ≤ (-1 : Int32).toInt ∧ (-1 : Int32).toInt ≤ 7 from by omega), (show JX zR zI zx from hj)⟩, ⟨by rw [ht]; exact hP, va_K.moved hW.alike hK, hD⟩⟩, hS.F ht⟩) hS.2.2 dX10_date_41
    · have f_12 : 0 ≤ zic.toInt ∧ zic.toInt ≤ 23 := bz_1 hw_9 c_11
      refine lv_iload hx hb dX10_date_16 (lv_at hl 4 rfl) ?_
      refine hj0_i (ws := (WL cy zL zT zR zI zJ)) (va_runS (As := [.int zid]) (rest := []) ⟨hx, hb, hml, hown, hts⟩ (c_X10_isYear l dC dI cy H.size zid) (va_cwS 1 hts gX10_date_X10_isYear rfl rfl rfl (by decide +kernel) ⟨(Nat.le_of_ble_eq_true rfl), (Nat.le_of_ble_eq_true rfl)⟩) (PRE.s (hP.sub [] rfl) hK (hD.sub [] (by decide) rfl) hN) rfl rfl hl.1 rfl (lv_room (Nat.le_of_ble_eq_true rfl)) dX10_date_18 ⟨(Nat.le_of_ble_eq_true rfl), (Nat.le_of_ble_eq_true rfl)⟩) hP hD hS hA (fun zi_13 u_15 H locs hw_14 hP hD hS => ?_)
      have hw_14 : zi_13 = if 0 ≤ zid.toInt ∧ zid.toInt ≤ 23 then 1 else 0 := hw_14
      have b_zi_13 : 0 ≤ zi_13.toInt ∧ zi_13.toInt ≤ 1 := bz_b hw_14
      refine lv_if_eq (tgt := 40) hx hb dX10_date_21 (by decide) (fun c_16 => ?_) (fun c_16 => ?_)
      · have f_17 : ¬ (0 ≤ zid.toInt ∧ zid.toInt ≤ 23) := bz_0 hw_14 c_16
        refine lv_iconst (v := (-1)) hx hb dX10_date_40 (by decide) ?_
        subst hQ
        have qc_m1 : (-1 : Int32).toInt = -1 := by decide
        exact W.iret (v := (-1 : Int32)) hx hb hr (fun t ht hW => ⟨⟨(-1 : Int32), zI, rfl, ⟨h_zI, (show (-12) ≤ (-1 : Int32).toInt ∧ (-1 : Int32).toInt ≤ 7 from by omega), (show JX zR zI zx from hj)⟩, ⟨by rw [ht]; exact hP, va_K.moved hW.alike hK, hD⟩⟩, hS.F ht⟩) hS.2.2 dX10_date_41
      · have f_17 : 0 ≤ zid.toInt ∧ zid.toInt ≤ 23 := bz_1 hw_14 c_16
        refine lv_iload_n hx hb dX10_date_24 rfl (lv_at hl 3 rfl) ?_
        refine lv_iload hx hb dX10_date_25 (lv_at hl 4 rfl) ?_
        refine lv_icmp_gt (tgt := 40) hx hb dX10_date_27 (by decide) (fun c_18 => ?_) (fun c_18 => ?_)
        · have f_19 : zic.toInt > zid.toInt := ic_gt (rfl) (rfl) c_18
          refine lv_iconst (v := (-1)) hx hb dX10_date_40 (by decide) ?_
          subst hQ
          have qc_m1 : (-1 : Int32).toInt = -1 := by decide
          exact W.iret (v := (-1 : Int32)) hx hb hr (fun t ht hW => ⟨⟨(-1 : Int32), zI, rfl, ⟨h_zI, (show (-12) ≤ (-1 : Int32).toInt ∧ (-1 : Int32).toInt ≤ 7 from by omega), (show JX zR zI zx from hj)⟩, ⟨by rw [ht]; exact hP, va_K.moved hW.alike hK, hD⟩⟩, hS.F ht⟩) hS.2.2 dX10_date_41
        · have f_19 : ¬ (zic.toInt > zid.toInt) := ic_ngt (rfl) (rfl) c_18
          refine lv_iload hx hb dX10_date_30 (lv_at hl 5 rfl) ?_
          refine lv_iconst (v := 0) hx hb dX10_date_32 (by decide) ?_
          refine lv_iconst (v := 1) hx hb dX10_date_33 (by decide) ?_
          refine hj0_i (ws := (WL cy zL zT zR zI zJ)) (va_runS (As := [.int zie, .int 0, .int 1]) (rest := []) ⟨hx, hb, hml, hown, hts⟩ (c_X10_isWithin l dC dI cy H.size zie 0 1 0 1 (by first | rfl | decide | omega | exact Int32.toInt_toInt64 _) (by first | rfl | decide | omega | exact Int32.toInt_toInt64 _)) (va_cwS 3 hts gX10_date_X10_isWithin rfl rfl rfl (by decide +kernel) ⟨(Nat.le_of_ble_eq_true rfl), (Nat.le_of_ble_eq_true rfl)⟩) (PRE.s (hP.sub [] rfl) hK (hD.sub [] (by decide) rfl) hN) rfl rfl hl.1 rfl (lv_room (Nat.le_of_ble_eq_true rfl)) dX10_date_34 ⟨(Nat.le_of_ble_eq_true rfl), (Nat.le_of_ble_eq_true rfl)⟩) hP hD hS hA (fun zi_20 u_22 H locs hw_21 hP hD hS => ?_)
          have hw_21 : zi_20 = if 0 ≤ zie.toInt ∧ zie.toInt ≤ 1 then 1 else 0 := hw_21
          have b_zi_20 : 0 ≤ zi_20.toInt ∧ zi_20.toInt ≤ 1 := bz_b hw_21
          refine lv_if_ne (tgt := 42) hx hb dX10_date_37 (by decide) (fun c_23 => ?_) (fun c_23 => ?_)
          · have f_24 : 0 ≤ zie.toInt ∧ zie.toInt ≤ 1 := bz_1 hw_21 c_23
            refine lv_aload_n hx hb dX10_date_42 rfl (lv_at hl 0 rfl) ?_
            refine ht_getr (C := RX10) (T := TX10) (N := 10) hx hb hts (by decide +kernel) hown hK hP hs t_zx (by decide) rfl rfl 0 (by decide) (hts (.fieldLink RX10 12 "DripStone" "now" "LDripStone$State;") (by decide +kernel)) (fun _ h9 => h9) rfl dX10_date_43 ?_
            have t_25 : zT (zR zx 0) = 9 := sk_f hs t_zx (by decide) rfl (by decide)
            refine ht_getr (C := RX8) (T := TX8) (N := 9) hx hb hts (by decide +kernel) hown hK hP hs t_25 (by decide) rfl rfl 2 (by decide) (hts (.fieldLink RX10 147 "DripStone$State" "candles" "[LDripStone$Candle;") (by decide +kernel)) (fun _ h9 => h9) rfl dX10_date_46 ?_
            have t_26 : zT (zR (zR zx 0) 2) = 61 := sk_f hs t_25 (by decide) rfl (by decide)
            refine lv_iload_n hx hb dX10_date_49 rfl (lv_at hl 1 rfl) ?_
            refine ht_aald (n := 2) (q := 3) hx hb hK hP hs t_26 (by decide) rfl rfl ⟨by omega, by omega⟩ dX10_date_50 ?_
            have t_27 : zT (zR (zR (zR zx 0) 2) zia.toNatClampNeg) = 1 := sk_a (n := 2) hs t_26 rfl rfl (by decide) (cl_lt (by omega) (by omega))
            refine lv_iload_n hx hb dX10_date_51 rfl (lv_at hl 2 rfl) ?_
            refine hj_i (ws := (WL cy zL zT zR zI zJ)) (w1 := fun (u : Unit) => (WL cy zL zT zR zI zJ)) (va_runV (As := [.int zib]) (rest := []) ⟨hx, hb, hml, hown, hts⟩ (t_X0_isPlace l dC dI cy H.size zL zT zR zI zJ (zR (zR (zR zx 0) 2) zia.toNatClampNeg) zib hs h_zI.1 t_27 (by omega)) (cwV 1 hts gX10_date_X0_isPlace rfl rfl rfl (by decide +kernel) ⟨(Nat.le_of_ble_eq_true rfl), (Nat.le_of_ble_eq_true rfl)⟩) (PRE.v hP hK hD hN (ht_recv hK hP hs t_27 (by decide) rfl rfl)) rfl rfl hl.1 rfl (lv_room (Nat.le_of_ble_eq_true rfl)) dX10_date_52 ⟨(Nat.le_of_ble_eq_true rfl), (Nat.le_of_ble_eq_true rfl)⟩) hP hD hS hA (fun zi_28 u_30 H locs hw_29 hP hD hS => ?_)
            obtain ⟨b_zi_28, ps_31⟩ : (0 ≤ zi_28.toInt ∧ zi_28.toInt ≤ 1) ∧ ((zi_28.toInt = 0 ∧ (zI (zR (zR (zR (zR zx 0) 2) zia.toNatClampNeg) 0) zib.toNatClampNeg).toInt = 2) ∨ (zi_28.toInt = 1 ∧ ¬ (zI (zR (zR (zR (zR zx 0) 2) zia.toNatClampNeg) 0) zib.toNatClampNeg).toInt = 2)) := hw_29
            refine lv_if_ne (tgt := 61) hx hb dX10_date_55 (by decide) (fun c_32 => ?_) (fun c_32 => ?_)
            · have f_33 : zi_28.toInt ≠ 0 := ic_ne (rfl) (by decide) c_32
              refine lv_aload_n hx hb dX10_date_61 rfl (lv_at hl 0 rfl) ?_
              refine ht_getr (C := RX10) (T := TX10) (N := 10) hx hb hts (by decide +kernel) hown hK hP hs t_zx (by decide) rfl rfl 0 (by decide) (hts (.fieldLink RX10 12 "DripStone" "now" "LDripStone$State;") (by decide +kernel)) (fun _ h9 => h9) rfl dX10_date_62 ?_
              refine ht_getr (C := RX8) (T := TX8) (N := 9) hx hb hts (by decide +kernel) hown hK hP hs t_25 (by decide) rfl rfl 3 (by decide) (hts (.fieldLink RX10 157 "DripStone$State" "dates" "LDripStone$Dates;") (by decide +kernel)) (fun _ h9 => h9) rfl dX10_date_65 ?_
              have t_34 : zT (zR (zR zx 0) 3) = 3 := sk_f hs t_25 (by decide) rfl (by decide)
              refine ht_geti (C := RX2) (T := TX2) (N := 7) hx hb hts (by decide +kernel) hown hK hP hs t_34 (by decide) rfl rfl 6 (by decide) (hts (.fieldLink RX10 210 "DripStone$Dates" "held" "I") (by decide +kernel)) (fun _ h9 => h9) rfl dX10_date_68 ?_
              refine lv_topi (fun zi_35 ezi_35 => ?_)
              have tzi_35 : 0 ≤ zi_35.toInt ∧ zi_35.toInt ≤ 8 := by rw [ezi_35]; exact h_zI.at t_34 _ rfl
              refine lv_bipush (v := 8) hx hb dX10_date_71 (by decide) ?_
              refine lv_icmp_ne (tgt := 79) hx hb dX10_date_73 (by decide) (fun c_36 => ?_) (fun c_36 => ?_)
              · have f_37 : zi_35.toInt ≠ (8 : Int) := ic_ne (rfl) (show (8 : Int32).toInt = 8 by decide) c_36
                refine lv_aload_n hx hb dX10_date_79 rfl (lv_at hl 0 rfl) ?_
                refine ht_getr (C := RX10) (T := TX10) (N := 10) hx hb hts (by decide +kernel) hown hK hP hs t_zx (by decide) rfl rfl 0 (by decide) (hts (.fieldLink RX10 12 "DripStone" "now" "LDripStone$State;") (by decide +kernel)) (fun _ h9 => h9) rfl dX10_date_80 ?_
                refine ht_getr (C := RX8) (T := TX8) (N := 9) hx hb hts (by decide +kernel) hown hK hP hs t_25 (by decide) rfl rfl 3 (by decide) (hts (.fieldLink RX10 157 "DripStone$State" "dates" "LDripStone$Dates;") (by decide +kernel)) (fun _ h9 => h9) rfl dX10_date_83 ?_
                refine lv_iload_n hx hb dX10_date_86 rfl (lv_at hl 1 rfl) ?_
                refine lv_iload_n hx hb dX10_date_87 rfl (lv_at hl 2 rfl) ?_
                refine lv_iload_n hx hb dX10_date_88 rfl (lv_at hl 3 rfl) ?_
                refine lv_iload hx hb dX10_date_89 (lv_at hl 4 rfl) ?_
                refine lv_iload hx hb dX10_date_91 (lv_at hl 5 rfl) ?_
                have lk_38 : (zI (zR (zR zx 0) 3) 6).toInt = zi_35.toInt := congrArg Int32.toInt ezi_35.symm
                refine hj_v (ws := (WL cy zL zT zR zI zJ)) (w1 := fun (u : (Nat → Nat → Int32)) => (WL cy zL zT zR u zJ)) (va_runV (As := [.int zia, .int zib, .int zic, .int zid, .int zie]) (rest := []) ⟨hx, hb, hml, hown, hts⟩ (t_X2_add l dC dI cy H.size zL zT zR zI zJ (zR (zR zx 0) 3) zia zib zic zid zie hs h_zI.1 t_34 (by omega) (by omega) (by omega) (by omega) (by omega)) (cwV 5 hts gX10_date_X2_add rfl rfl rfl (by decide +kernel) ⟨(Nat.le_of_ble_eq_true rfl), (Nat.le_of_ble_eq_true rfl)⟩) (PRE.v hP hK hD hN (ht_recv hK hP hs t_34 (by decide) rfl rfl)) rfl rfl hl.1 rfl (lv_room (Nat.le_of_ble_eq_true rfl)) dX10_date_93 ⟨(Nat.le_of_ble_eq_true rfl), (Nat.le_of_ble_eq_true rfl)⟩) hP hD hS hA (fun zI_42 H locs hw_40 hP hD hS => ?_)
                obtain ⟨k_zI_42, ps_43⟩ : (WM [306, 2400, 2500, 2600, 2700] AL zT zR zI zI_42) ∧ ((zI_42 (zR (zR zx 0) 3) 6).toInt = (zI (zR (zR zx 0) 3) 6).toInt + 1) := hw_40
                have h_zI_42 : WM [306, 2400, 2500, 2600, 2700, 4700] AL zT zR zI zI_42 := h_zI.tr k_zI_42 (by decide) (fun _ _ => trivial)
                obtain ⟨zi_44, ezi_44⟩ : ∃ y : Int32, y = zI_42 (zR (zR zx 0) 3) 6 := ⟨_, rfl⟩
                have tzi_44 : 0 ≤ zi_44.toInt ∧ zi_44.toInt ≤ 8 := by rw [ezi_44]; exact h_zI_42.at t_34 _ rfl
                have lk_45 : (zI_42 (zR (zR zx 0) 3) 6).toInt = zi_44.toInt := congrArg Int32.toInt ezi_44.symm
                have j_zI_42 : JX zR zI_42 zx := hj.sm hs t_zx k_zI_42.2 (by decide) (by decide)
                refine lv_aload_n hx hb dX10_date_96 rfl (lv_at hl 0 rfl) ?_
                refine ht_getr (C := RX10) (T := TX10) (N := 10) hx hb hts (by decide +kernel) hown hK hP hs t_zx (by decide) rfl rfl 7 (by decide) (hts (.fieldLink RX10 54 "DripStone" "counted" "[Z") (by decide +kernel)) (fun _ h9 => h9) rfl dX10_date_97 ?_
                have t_46 : zT (zR zx 7) = 47 := sk_f hs t_zx (by decide) rfl (by decide)
                refine lv_iload_n hx hb dX10_date_100 rfl (lv_at hl 1 rfl) ?_
                refine lv_iconst (v := 0) hx hb dX10_date_101 (by decide) ?_
                refine ht_zast (v := (0 : Int32)) (n := 2) (q := 2) hx hb hK hP hD hS hs t_46 (by decide) rfl rfl ⟨by omega, by omega⟩ dX10_date_102 (fun H locs hP hD hS => ?_)
                have h_zI_47 : WM [306, 2400, 2500, 2600, 2700, 4700] AL zT zR zI (u2 zI_42 (zR zx 7) zia.toNatClampNeg (vp_nar .boolean (0 : Int32))) := h_zI_42.putA hs t_46 rfl (rgF _) (by decide) (fun h => absurd h (by decide)) (by decide) trivial
                generalize uzI_47 : u2 zI_42 (zR zx 7) zia.toNatClampNeg (vp_nar .boolean (0 : Int32)) = zI_47 at hP hD h_zI_47
                have j_zI_47 : JX zR zI_47 zx := by rw [← uzI_47]; exact j_zI_42.c0 hs t_zx bn0
                refine lv_aload_n hx hb dX10_date_103 rfl (lv_at hl 0 rfl) ?_
                refine ht_getr (C := RX10) (T := TX10) (N := 10) hx hb hts (by decide +kernel) hown hK hP hs t_zx (by decide) rfl rfl 0 (by decide) (hts (.fieldLink RX10 12 "DripStone" "now" "LDripStone$State;") (by decide +kernel)) (fun _ h9 => h9) rfl dX10_date_104 ?_
                refine ht_getr (C := RX8) (T := TX8) (N := 9) hx hb hts (by decide +kernel) hown hK hP hs t_25 (by decide) rfl rfl 3 (by decide) (hts (.fieldLink RX10 157 "DripStone$State" "dates" "LDripStone$Dates;") (by decide +kernel)) (fun _ h9 => h9) rfl dX10_date_107 ?_
                refine ht_geti (C := RX2) (T := TX2) (N := 7) hx hb hts (by decide +kernel) hown hK hP hs t_34 (by decide) rfl rfl 6 (by decide) (hts (.fieldLink RX10 210 "DripStone$Dates" "held" "I") (by decide +kernel)) (fun _ h9 => h9) rfl dX10_date_110 ?_
                refine lv_topi (fun zi_48 ezi_48 => ?_)
                obtain rfl : zi_44 = zi_48 := (ezi_48.trans ((show zI_47 (zR (zR zx 0) 3) 6 = zI_42 (zR (zR zx 0) 3) 6 from by rw [← uzI_47]; exact u2_n (tne t_34 t_46 (by decide))).trans ezi_44.symm)).symm
                refine lv_iconst (v := 1) hx hb dX10_date_113 (by decide) ?_
                refine lv_isub hx hb dX10_date_114 ?_
                refine lv_topi (fun zi_49 ezi_49 => ?_)
                have tzi_49 : zi_49.toInt = zi_44.toInt - (1 : Int) := by rw [ezi_49]; exact tisub (rfl) (show (1 : Int32).toInt = 1 by decide) (by omega) (by omega)
                subst hQ
                exact W.iret (v := zi_49) hx hb hr (fun t ht hW => ⟨⟨zi_49, zI_47, rfl, ⟨h_zI_47, (show (-12) ≤ zi_49.toInt ∧ zi_49.toInt ≤ 7 from by omega), (show JX zR zI_47 zx from j_zI_47)⟩, ⟨by rw [ht]; exact hP, va_K.moved hW.alike hK, hD⟩⟩, hS.F ht⟩) hS.2.2 dX10_date_115
              · have f_37 : ¬ (zi_35.toInt ≠ (8 : Int)) := ic_nne (rfl) (show (8 : Int32).toInt = 8 by decide) c_36
                refine lv_bipush (v := (-3)) hx hb dX10_date_76 (by decide) ?_
                subst hQ
                have qc_m3 : (-3 : Int32).toInt = -3 := by decide
                exact W.iret (v := (-3 : Int32)) hx hb hr (fun t ht hW => ⟨⟨(-3 : Int32), zI, rfl, ⟨h_zI, (show (-12) ≤ (-3 : Int32).toInt ∧ (-3 : Int32).toInt ≤ 7 from by omega), (show JX zR zI zx from hj)⟩, ⟨by rw [ht]; exact hP, va_K.moved hW.alike hK, hD⟩⟩, hS.F ht⟩) hS.2.2 dX10_date_78
            · have f_33 : ¬ (zi_28.toInt ≠ 0) := ic_nne (rfl) (by decide) c_32
              refine lv_bipush (v := (-12)) hx hb dX10_date_58 (by decide) ?_
              subst hQ
              have qc_m12 : (-12 : Int32).toInt = -12 := by decide
              exact W.iret (v := (-12 : Int32)) hx hb hr (fun t ht hW => ⟨⟨(-12 : Int32), zI, rfl, ⟨h_zI, (show (-12) ≤ (-12 : Int32).toInt ∧ (-12 : Int32).toInt ≤ 7 from by omega), (show JX zR zI zx from hj)⟩, ⟨by rw [ht]; exact hP, va_K.moved hW.alike hK, hD⟩⟩, hS.F ht⟩) hS.2.2 dX10_date_60
          · have f_24 : ¬ (0 ≤ zie.toInt ∧ zie.toInt ≤ 1) := bz_0 hw_21 c_23
            refine lv_iconst (v := (-1)) hx hb dX10_date_40 (by decide) ?_
            subst hQ
            have qc_m1 : (-1 : Int32).toInt = -1 := by decide
            exact W.iret (v := (-1 : Int32)) hx hb hr (fun t ht hW => ⟨⟨(-1 : Int32), zI, rfl, ⟨h_zI, (show (-12) ≤ (-1 : Int32).toInt ∧ (-1 : Int32).toInt ≤ 7 from by omega), (show JX zR zI zx from hj)⟩, ⟨by rw [ht]; exact hP, va_K.moved hW.alike hK, hD⟩⟩, hS.F ht⟩) hS.2.2 dX10_date_41
set_option maxHeartbeats 8000000 in
set_option maxRecDepth 100000 in
theorem t_X10_throwOut (l : Launch) (dC : Nat → ClassId) (dI : Nat → Nat → Nat) (cy : Nat → ClassId) (sz : Nat) (zL : List Nat) (zT : Nat → Nat) (zR : Nat → Nat → Nat) (zI : Nat → Nat → Int32) (zJ : Nat → Nat → Int64) (zx : Nat) (zia : Int32) (zib : Int32) (hs : SKP zL zT zR) (hw : WT zT zR zI) (t_zx : zT zx = 11) (hj : JX zR zI zx) : Met l yX10_throwOut wsX10_throwOut ({ frames := 1, cells := 0, slots := 0, locals := 22 } : Room) (va_Pc [.ref zx, .int zia, .int zib] (PRE dC dI cy (WL cy zL zT zR zI zJ) sz)) (va_Qi (fun (r : Int32) (u : (Nat → Nat → Int32)) => (WM [2700, 4700] AL zT zR zI u) ∧ (JX zR u zx)) (fun u t => POST dC dI cy (va_A (WL cy zL zT zR zI zJ) sz) (WL cy zL zT zR u zJ) t) (va_A (WL cy zL zT zR zI zJ) sz)) 0 0 (va_A (WL cy zL zT zR zI zJ) sz) := by
  refine Met.ofW (cc := cX10_throwOut) (maxL := 4) (ret := (some .int)) (by decide) rfl ?_
  intro p e s m args below meth c s₁ B hml hv
  obtain ⟨rfl, hsz, hP, hK, hD0, hN⟩ := hv
  have hx := B.exec
  have hb := B.bytes
  have hr := B.returns
  have hts := atoms_spec (ws := wsX10_throwOut) B.pre
  have hown : s.vm.findClass RX10 = some m.cls := findClass_of_methodNamed B.named
  have hlocks := B.notSynchronized
  subst hsz
  have hD := hD0.self (sz := s.heap.size)
  generalize hAe : va_A (WL cy zL zT zR zI zJ) s.heap.size = A at hD ⊢
  have hA : ∀ q : Nat, s.heap.size ≤ q → A q := fun q h => by rw [← hAe]; exact Or.inr h
  have hS : va_S A s.heap s.heap [] := va_S.rf
  have hP : va_P (dC, dI) vwCl (WL cy zL zT zR zI zJ) s.heap := hP
  have hl := lv_entry ([.ref zx, .int zia, .int zib] : List Value) (n := 4) (Nat.le_of_ble_eq_true rfl)
  rw [lg_entry_eq]
  generalize (lg_sl ([.ref zx, .int zia, .int zib] : List Value) ++ List.replicate (4 - (lg_sl ([.ref zx, .int zia, .int zib] : List Value)).length) Slot.unset).toArray = ls at hl ⊢
  have hl : lv_has ls 4 [(0, .ref zx), (1, .int zia), (2, .int zib)] := hl
  refine w_q (fun Q hQ => ?_)
  have h_zI : WM [2700, 4700] AL zT zR zI zI := WM.rf hw
  refine lv_iload_n hx hb dX10_throwOut_0 rfl (lv_at hl 1 rfl) ?_
  refine lv_iconst (v := 0) hx hb dX10_throwOut_1 (by decide) ?_
  refine lv_aload_n hx hb dX10_throwOut_2 rfl (lv_at hl 0 rfl) ?_
  refine ht_getr (C := RX10) (T := TX10) (N := 10) hx hb hts (by decide +kernel) hown hK hP hs t_zx (by decide) rfl rfl 0 (by decide) (hts (.fieldLink RX10 12 "DripStone" "now" "LDripStone$State;") (by decide +kernel)) (fun _ h9 => h9) rfl dX10_throwOut_3 ?_
  have t_1 : zT (zR zx 0) = 9 := sk_f hs t_zx (by decide) rfl (by decide)
  refine ht_getr (C := RX8) (T := TX8) (N := 9) hx hb hts (by decide +kernel) hown hK hP hs t_1 (by decide) rfl rfl 3 (by decide) (hts (.fieldLink RX10 157 "DripStone$State" "dates" "LDripStone$Dates;") (by decide +kernel)) (fun _ h9 => h9) rfl dX10_throwOut_6 ?_
  have t_2 : zT (zR (zR zx 0) 3) = 3 := sk_f hs t_1 (by decide) rfl (by decide)
  refine ht_geti (C := RX2) (T := TX2) (N := 7) hx hb hts (by decide +kernel) hown hK hP hs t_2 (by decide) rfl rfl 6 (by decide) (hts (.fieldLink RX10 210 "DripStone$Dates" "held" "I") (by decide +kernel)) (fun _ h9 => h9) rfl dX10_throwOut_9 ?_
  refine lv_topi (fun zi_3 ezi_3 => ?_)
  have tzi_3 : 0 ≤ zi_3.toInt ∧ zi_3.toInt ≤ 8 := by rw [ezi_3]; exact h_zI.at t_2 _ rfl
  refine lv_iconst (v := 1) hx hb dX10_throwOut_12 (by decide) ?_
  refine lv_isub hx hb dX10_throwOut_13 ?_
  refine lv_topi (fun zi_4 ezi_4 => ?_)
  have tzi_4 : zi_4.toInt = zi_3.toInt - (1 : Int) := by rw [ezi_4]; exact tisub (rfl) (show (1 : Int32).toInt = 1 by decide) (by omega) (by omega)
  refine hj0_i (ws := (WL cy zL zT zR zI zJ)) (va_runS (As := [.int zia, .int 0, .int zi_4]) (rest := []) ⟨hx, hb, hml, hown, hts⟩ (c_X10_isWithin l dC dI cy s.heap.size zia 0 zi_4 0 zi_4.toInt (by first | rfl | decide | omega | exact Int32.toInt_toInt64 _) (by first | rfl | decide | omega | exact Int32.toInt_toInt64 _)) (va_cwS 3 hts gX10_throwOut_X10_isWithin rfl rfl rfl (by decide +kernel) ⟨(Nat.le_of_ble_eq_true rfl), (Nat.le_of_ble_eq_true rfl)⟩) (PRE.s (hP.sub [] rfl) hK (hD.sub [] (by decide) rfl) hN) rfl rfl hl.1 rfl (lv_room (Nat.le_of_ble_eq_true rfl)) dX10_throwOut_14 ⟨(Nat.le_of_ble_eq_true rfl), (Nat.le_of_ble_eq_true rfl)⟩) hP hD hS hA (fun zi_5 u_7 H locs hw_6 hP hD hS => ?_)
  have hw_6 : zi_5 = if 0 ≤ zia.toInt ∧ zia.toInt ≤ zi_4.toInt then 1 else 0 := hw_6
  have b_zi_5 : 0 ≤ zi_5.toInt ∧ zi_5.toInt ≤ 1 := bz_b hw_6
  refine lv_if_eq (tgt := 30) hx hb dX10_throwOut_17 (by decide) (fun c_8 => ?_) (fun c_8 => ?_)
  · have f_9 : ¬ (0 ≤ zia.toInt ∧ zia.toInt ≤ zi_4.toInt) := bz_0 hw_6 c_8
    refine lv_iconst (v := (-1)) hx hb dX10_throwOut_30 (by decide) ?_
    subst hQ
    exact W.iret (v := (-1 : Int32)) hx hb hr (fun t ht hW => ⟨⟨(-1 : Int32), zI, rfl, ⟨h_zI, (show JX zR zI zx from hj)⟩, ⟨by rw [ht]; exact hP, va_K.moved hW.alike hK, hD⟩⟩, hS.F ht⟩) hS.2.2 dX10_throwOut_31
  · have f_9 : 0 ≤ zia.toInt ∧ zia.toInt ≤ zi_4.toInt := bz_1 hw_6 c_8
    refine lv_iload_n hx hb dX10_throwOut_20 rfl (lv_at hl 2 rfl) ?_
    refine lv_iconst (v := 0) hx hb dX10_throwOut_21 (by decide) ?_
    refine lv_bipush (v := 9) hx hb dX10_throwOut_22 (by decide) ?_
    refine hj0_i (ws := (WL cy zL zT zR zI zJ)) (va_runS (As := [.int zib, .int 0, .int 9]) (rest := []) ⟨hx, hb, hml, hown, hts⟩ (c_X10_isWithin l dC dI cy H.size zib 0 9 0 9 (by first | rfl | decide | omega | exact Int32.toInt_toInt64 _) (by first | rfl | decide | omega | exact Int32.toInt_toInt64 _)) (va_cwS 3 hts gX10_throwOut_X10_isWithin rfl rfl rfl (by decide +kernel) ⟨(Nat.le_of_ble_eq_true rfl), (Nat.le_of_ble_eq_true rfl)⟩) (PRE.s (hP.sub [] rfl) hK (hD.sub [] (by decide) rfl) hN) rfl rfl hl.1 rfl (lv_room (Nat.le_of_ble_eq_true rfl)) dX10_throwOut_24 ⟨(Nat.le_of_ble_eq_true rfl), (Nat.le_of_ble_eq_true rfl)⟩) hP hD hS hA (fun zi_10 u_12 H locs hw_11 hP hD hS => ?_)
    have hw_11 : zi_10 = if 0 ≤ zib.toInt ∧ zib.toInt ≤ 9 then 1 else 0 := hw_11
    have b_zi_10 : 0 ≤ zi_10.toInt ∧ zi_10.toInt ≤ 1 := bz_b hw_11
    refine lv_if_ne (tgt := 32) hx hb dX10_throwOut_27 (by decide) (fun c_13 => ?_) (fun c_13 => ?_)
    · have f_14 : 0 ≤ zib.toInt ∧ zib.toInt ≤ 9 := bz_1 hw_11 c_13
      refine lv_aload_n hx hb dX10_throwOut_32 rfl (lv_at hl 0 rfl) ?_
      refine ht_getr (C := RX10) (T := TX10) (N := 10) hx hb hts (by decide +kernel) hown hK hP hs t_zx (by decide) rfl rfl 0 (by decide) (hts (.fieldLink RX10 12 "DripStone" "now" "LDripStone$State;") (by decide +kernel)) (fun _ h9 => h9) rfl dX10_throwOut_33 ?_
      refine ht_getr (C := RX8) (T := TX8) (N := 9) hx hb hts (by decide +kernel) hown hK hP hs t_1 (by decide) rfl rfl 3 (by decide) (hts (.fieldLink RX10 157 "DripStone$State" "dates" "LDripStone$Dates;") (by decide +kernel)) (fun _ h9 => h9) rfl dX10_throwOut_36 ?_
      refine ht_getr (C := RX2) (T := TX2) (N := 7) hx hb hts (by decide +kernel) hown hK hP hs t_2 (by decide) rfl rfl 5 (by decide) (hts (.fieldLink RX10 216 "DripStone$Dates" "reasons" "[I") (by decide +kernel)) (fun _ h9 => h9) rfl dX10_throwOut_39 ?_
      have t_15 : zT (zR (zR (zR zx 0) 3) 5) = 27 := sk_f hs t_2 (by decide) rfl (by decide)
      refine lv_iload_n hx hb dX10_throwOut_42 rfl (lv_at hl 1 rfl) ?_
      refine ht_iald (n := 8) (q := 0) hx hb hK hP hs t_15 (by decide) rfl rfl ⟨by omega, by omega⟩ dX10_throwOut_43 ?_
      refine lv_topi (fun zi_16 ezi_16 => ?_)
      refine lv_istore_n (lv' := [(3, .int zi_16), (0, .ref zx), (1, .int zia), (2, .int zib)]) hx hb dX10_throwOut_44 rfl hl (by decide) rfl (fun ls hl => ?_)
      refine lv_aload_n hx hb dX10_throwOut_45 rfl (lv_at hl 1 rfl) ?_
      refine ht_getr (C := RX10) (T := TX10) (N := 10) hx hb hts (by decide +kernel) hown hK hP hs t_zx (by decide) rfl rfl 0 (by decide) (hts (.fieldLink RX10 12 "DripStone" "now" "LDripStone$State;") (by decide +kernel)) (fun _ h9 => h9) rfl dX10_throwOut_46 ?_
      refine ht_getr (C := RX8) (T := TX8) (N := 9) hx hb hts (by decide +kernel) hown hK hP hs t_1 (by decide) rfl rfl 3 (by decide) (hts (.fieldLink RX10 157 "DripStone$State" "dates" "LDripStone$Dates;") (by decide +kernel)) (fun _ h9 => h9) rfl dX10_throwOut_49 ?_
      refine ht_getr (C := RX2) (T := TX2) (N := 7) hx hb hts (by decide +kernel) hown hK hP hs t_2 (by decide) rfl rfl 5 (by decide) (hts (.fieldLink RX10 216 "DripStone$Dates" "reasons" "[I") (by decide +kernel)) (fun _ h9 => h9) rfl dX10_throwOut_52 ?_
      refine lv_iload_n hx hb dX10_throwOut_55 rfl (lv_at hl 2 rfl) ?_
      refine lv_iload_n hx hb dX10_throwOut_56 rfl (lv_at hl 3 rfl) ?_
      refine ht_iast (v := zib) (n := 8) (q := 0) hx hb hK hP hD hS hs t_15 (by decide) rfl rfl ⟨by omega, by omega⟩ dX10_throwOut_57 (fun H locs hP hD hS => ?_)
      have h_zI_17 : WM [2700, 4700] AL zT zR zI (u2 zI (zR (zR (zR zx 0) 3) 5) zia.toNatClampNeg zib) := h_zI.putA hs t_15 rfl (rgF _) (by decide) (fun h => absurd h (by decide)) (by decide) trivial
      generalize uzI_17 : u2 zI (zR (zR (zR zx 0) 3) 5) zia.toNatClampNeg zib = zI_17 at hP hD h_zI_17
      have j_zI_17 : JX zR zI_17 zx := by rw [← uzI_17]; exact hj.sm hs t_zx (SM.oneA t_15 (by decide)) (by decide) (by decide)
      refine lv_aload_n hx hb dX10_throwOut_58 rfl (lv_at hl 1 rfl) ?_
      refine ht_getr (C := RX10) (T := TX10) (N := 10) hx hb hts (by decide +kernel) hown hK hP hs t_zx (by decide) rfl rfl 7 (by decide) (hts (.fieldLink RX10 54 "DripStone" "counted" "[Z") (by decide +kernel)) (fun _ h9 => h9) rfl dX10_throwOut_59 ?_
      have t_18 : zT (zR zx 7) = 47 := sk_f hs t_zx (by decide) rfl (by decide)
      refine lv_aload_n hx hb dX10_throwOut_62 rfl (lv_at hl 1 rfl) ?_
      refine ht_getr (C := RX10) (T := TX10) (N := 10) hx hb hts (by decide +kernel) hown hK hP hs t_zx (by decide) rfl rfl 0 (by decide) (hts (.fieldLink RX10 12 "DripStone" "now" "LDripStone$State;") (by decide +kernel)) (fun _ h9 => h9) rfl dX10_throwOut_63 ?_
      refine ht_getr (C := RX8) (T := TX8) (N := 9) hx hb hts (by decide +kernel) hown hK hP hs t_1 (by decide) rfl rfl 3 (by decide) (hts (.fieldLink RX10 157 "DripStone$State" "dates" "LDripStone$Dates;") (by decide +kernel)) (fun _ h9 => h9) rfl dX10_throwOut_66 ?_
      refine ht_getr (C := RX2) (T := TX2) (N := 7) hx hb hts (by decide +kernel) hown hK hP hs t_2 (by decide) rfl rfl 0 (by decide) (hts (.fieldLink RX10 219 "DripStone$Dates" "candles" "[I") (by decide +kernel)) (fun _ h9 => h9) rfl dX10_throwOut_69 ?_
      have t_19 : zT (zR (zR (zR zx 0) 3) 0) = 24 := sk_f hs t_2 (by decide) rfl (by decide)
      refine lv_iload_n hx hb dX10_throwOut_72 rfl (lv_at hl 2 rfl) ?_
      refine ht_iald (n := 8) (q := 0) hx hb hK hP hs t_19 (by decide) rfl rfl ⟨by omega, by omega⟩ dX10_throwOut_73 ?_
      refine lv_topi (fun zi_20 ezi_20 => ?_)
      have tzi_20 : 0 ≤ zi_20.toInt ∧ zi_20.toInt ≤ 1 := by rw [ezi_20]; exact h_zI_17.at t_19 _ rfl
      refine lv_iconst (v := 0) hx hb dX10_throwOut_74 (by decide) ?_
      refine ht_zast (v := (0 : Int32)) (n := 2) (q := 2) hx hb hK hP hD hS hs t_18 (by decide) rfl rfl ⟨by omega, by omega⟩ dX10_throwOut_75 (fun H locs hP hD hS => ?_)
      have h_zI_21 : WM [2700, 4700] AL zT zR zI (u2 zI_17 (zR zx 7) zi_20.toNatClampNeg (vp_nar .boolean (0 : Int32))) := h_zI_17.putA hs t_18 rfl (rgF _) (by decide) (fun h => absurd h (by decide)) (by decide) trivial
      generalize uzI_21 : u2 zI_17 (zR zx 7) zi_20.toNatClampNeg (vp_nar .boolean (0 : Int32)) = zI_21 at hP hD h_zI_21
      have j_zI_21 : JX zR zI_21 zx := by rw [← uzI_21]; exact j_zI_17.c0 hs t_zx bn0
      refine lv_iload_n hx hb dX10_throwOut_76 rfl (lv_at hl 0 rfl) ?_
      subst hQ
      exact W.iret (v := zi_16) hx hb hr (fun t ht hW => ⟨⟨zi_16, zI_21, rfl, ⟨h_zI_21, (show JX zR zI_21 zx from j_zI_21)⟩, ⟨by rw [ht]; exact hP, va_K.moved hW.alike hK, hD⟩⟩, hS.F ht⟩) hS.2.2 dX10_throwOut_77
    · have f_14 : ¬ (0 ≤ zib.toInt ∧ zib.toInt ≤ 9) := bz_0 hw_11 c_13
      refine lv_iconst (v := (-1)) hx hb dX10_throwOut_30 (by decide) ?_
      subst hQ
      exact W.iret (v := (-1 : Int32)) hx hb hr (fun t ht hW => ⟨⟨(-1 : Int32), zI, rfl, ⟨h_zI, (show JX zR zI zx from hj)⟩, ⟨by rw [ht]; exact hP, va_K.moved hW.alike hK, hD⟩⟩, hS.F ht⟩) hS.2.2 dX10_throwOut_31
set_option maxHeartbeats 8000000 in
set_option maxRecDepth 100000 in
theorem t_X10_count (l : Launch) (dC : Nat → ClassId) (dI : Nat → Nat → Nat) (cy : Nat → ClassId) (sz : Nat) (zL : List Nat) (zT : Nat → Nat) (zR : Nat → Nat → Nat) (zI : Nat → Nat → Int32) (zJ : Nat → Nat → Int64) (zx : Nat) (zia : Int32) (hs : SKP zL zT zR) (hw : WT zT zR zI) (t_zx : zT zx = 11) (hj : JX zR zI zx) : Met l yX10_count wsX10_count ({ frames := 2, cells := 0, slots := 0, locals := 43 } : Room) (va_Pc [.ref zx, .int zia] (PRE dC dI cy (WL cy zL zT zR zI zJ) sz)) (va_Qi (fun (r : Int32) (u : Unit) => (JX zR zI zx)) (fun u t => POST dC dI cy (va_A (WL cy zL zT zR zI zJ) sz) (WL cy zL zT zR zI zJ) t) (va_A (WL cy zL zT zR zI zJ) sz)) 0 0 (va_A (WL cy zL zT zR zI zJ) sz) := by
  refine Met.ofW (cc := cX10_count) (maxL := 2) (ret := (some .int)) (by decide) rfl ?_
  intro p e s m args below meth c s₁ B hml hv
  obtain ⟨rfl, hsz, hP, hK, hD0, hN⟩ := hv
  have hx := B.exec
  have hb := B.bytes
  have hr := B.returns
  have hts := atoms_spec (ws := wsX10_count) B.pre
  have hown : s.vm.findClass RX10 = some m.cls := findClass_of_methodNamed B.named
  have hlocks := B.notSynchronized
  subst hsz
  have hD := hD0.self (sz := s.heap.size)
  generalize hAe : va_A (WL cy zL zT zR zI zJ) s.heap.size = A at hD ⊢
  have hA : ∀ q : Nat, s.heap.size ≤ q → A q := fun q h => by rw [← hAe]; exact Or.inr h
  have hS : va_S A s.heap s.heap [] := va_S.rf
  have hP : va_P (dC, dI) vwCl (WL cy zL zT zR zI zJ) s.heap := hP
  have hl := lv_entry ([.ref zx, .int zia] : List Value) (n := 2) (Nat.le_of_ble_eq_true rfl)
  rw [lg_entry_eq]
  generalize (lg_sl ([.ref zx, .int zia] : List Value) ++ List.replicate (2 - (lg_sl ([.ref zx, .int zia] : List Value)).length) Slot.unset).toArray = ls at hl ⊢
  have hl : lv_has ls 2 [(0, .ref zx), (1, .int zia)] := hl
  refine w_q (fun Q hQ => ?_)
  have h_zI : WM [] AL zT zR zI zI := WM.rf hw
  refine lv_iload_n hx hb dX10_count_0 rfl (lv_at hl 1 rfl) ?_
  rcases sw_7 zia with k_1 | rfl | rfl | rfl | rfl | rfl | rfl | rfl | rfl
  · refine lv_tableOut (tgt := 138) hx hb dX10_count_1 (by omega) (by decide) ?_
    refine lv_iconst (v := (-1)) hx hb dX10_count_138 (by decide) ?_
    subst hQ
    exact W.iret (v := (-1 : Int32)) hx hb hr (fun t ht hW => ⟨⟨(-1 : Int32), (), rfl, (show JX zR zI zx from hj), ⟨by rw [ht]; exact hP, va_K.moved hW.alike hK, hD⟩⟩, hS.F ht⟩) hS.2.2 dX10_count_139
  · have zk_1_0 : (0 : Int32).toInt = 0 := by decide
    refine lv_tableIn (off := 47) (tgt := 48) hx hb dX10_count_1 (by decide) (by decide) (by decide) (by decide) ?_
    refine lv_aload_n hx hb dX10_count_48 rfl (lv_at hl 0 rfl) ?_
    refine ht_getr (C := RX10) (T := TX10) (N := 10) hx hb hts (by decide +kernel) hown hK hP hs t_zx (by decide) rfl rfl 0 (by decide) (hts (.fieldLink RX10 12 "DripStone" "now" "LDripStone$State;") (by decide +kernel)) (fun _ h9 => h9) rfl dX10_count_49 ?_
    have t_2 : zT (zR zx 0) = 9 := sk_f hs t_zx (by decide) rfl (by decide)
    refine ht_getr (C := RX8) (T := TX8) (N := 9) hx hb hts (by decide +kernel) hown hK hP hs t_2 (by decide) rfl rfl 3 (by decide) (hts (.fieldLink RX10 157 "DripStone$State" "dates" "LDripStone$Dates;") (by decide +kernel)) (fun _ h9 => h9) rfl dX10_count_52 ?_
    have t_3 : zT (zR (zR zx 0) 3) = 3 := sk_f hs t_2 (by decide) rfl (by decide)
    refine ht_geti (C := RX2) (T := TX2) (N := 7) hx hb hts (by decide +kernel) hown hK hP hs t_3 (by decide) rfl rfl 6 (by decide) (hts (.fieldLink RX10 210 "DripStone$Dates" "held" "I") (by decide +kernel)) (fun _ h9 => h9) rfl dX10_count_55 ?_
    refine lv_topi (fun zi_4 ezi_4 => ?_)
    have tzi_4 : 0 ≤ zi_4.toInt ∧ zi_4.toInt ≤ 8 := by rw [ezi_4]; exact h_zI.at t_3 _ rfl
    subst hQ
    exact W.iret (v := zi_4) hx hb hr (fun t ht hW => ⟨⟨zi_4, (), rfl, (show JX zR zI zx from hj), ⟨by rw [ht]; exact hP, va_K.moved hW.alike hK, hD⟩⟩, hS.F ht⟩) hS.2.2 dX10_count_58
  · have zk_1_1 : (1 : Int32).toInt = 1 := by decide
    refine lv_tableIn (off := 58) (tgt := 59) hx hb dX10_count_1 (by decide) (by decide) (by decide) (by decide) ?_
    refine lv_aload_n hx hb dX10_count_59 rfl (lv_at hl 0 rfl) ?_
    refine ht_getr (C := RX10) (T := TX10) (N := 10) hx hb hts (by decide +kernel) hown hK hP hs t_zx (by decide) rfl rfl 0 (by decide) (hts (.fieldLink RX10 12 "DripStone" "now" "LDripStone$State;") (by decide +kernel)) (fun _ h9 => h9) rfl dX10_count_60 ?_
    have t_5 : zT (zR zx 0) = 9 := sk_f hs t_zx (by decide) rfl (by decide)
    refine ht_getr (C := RX8) (T := TX8) (N := 9) hx hb hts (by decide +kernel) hown hK hP hs t_5 (by decide) rfl rfl 3 (by decide) (hts (.fieldLink RX10 157 "DripStone$State" "dates" "LDripStone$Dates;") (by decide +kernel)) (fun _ h9 => h9) rfl dX10_count_63 ?_
    have t_6 : zT (zR (zR zx 0) 3) = 3 := sk_f hs t_5 (by decide) rfl (by decide)
    refine hj_i (ws := (WL cy zL zT zR zI zJ)) (w1 := fun (u : Unit) => (WL cy zL zT zR zI zJ)) (va_runV (As := []) (rest := []) ⟨hx, hb, hml, hown, hts⟩ (t_X2_thrown l dC dI cy s.heap.size zL zT zR zI zJ (zR (zR zx 0) 3) hs h_zI.1 t_6) (cwV 0 hts gX10_count_X2_thrown rfl rfl rfl (by decide +kernel) ⟨(Nat.le_of_ble_eq_true rfl), (Nat.le_of_ble_eq_true rfl)⟩) (PRE.v hP hK hD hN (ht_recv hK hP hs t_6 (by decide) rfl rfl)) rfl rfl hl.1 rfl (lv_room (Nat.le_of_ble_eq_true rfl)) dX10_count_66 ⟨(Nat.le_of_ble_eq_true rfl), (Nat.le_of_ble_eq_true rfl)⟩) hP hD hS hA (fun zi_7 u_9 H locs hw_8 hP hD hS => ?_)
    have rzi_7 := rng zi_7
    subst hQ
    exact W.iret (v := zi_7) hx hb hr (fun t ht hW => ⟨⟨zi_7, (), rfl, (show JX zR zI zx from hj), ⟨by rw [ht]; exact hP, va_K.moved hW.alike hK, hD⟩⟩, hS.F ht⟩) hS.2.2 dX10_count_69
  · have zk_1_2 : (2 : Int32).toInt = 2 := by decide
    refine lv_tableIn (off := 69) (tgt := 70) hx hb dX10_count_1 (by decide) (by decide) (by decide) (by decide) ?_
    refine lv_aload_n hx hb dX10_count_70 rfl (lv_at hl 0 rfl) ?_
    refine ht_getr (C := RX10) (T := TX10) (N := 10) hx hb hts (by decide +kernel) hown hK hP hs t_zx (by decide) rfl rfl 0 (by decide) (hts (.fieldLink RX10 12 "DripStone" "now" "LDripStone$State;") (by decide +kernel)) (fun _ h9 => h9) rfl dX10_count_71 ?_
    have t_10 : zT (zR zx 0) = 9 := sk_f hs t_zx (by decide) rfl (by decide)
    refine ht_geti (C := RX8) (T := TX8) (N := 9) hx hb hts (by decide +kernel) hown hK hP hs t_10 (by decide) rfl rfl 7 (by decide) (hts (.fieldLink RX10 225 "DripStone$State" "claimed" "I") (by decide +kernel)) (fun _ h9 => h9) rfl dX10_count_74 ?_
    refine lv_topi (fun zi_11 ezi_11 => ?_)
    have tzi_11 : 0 ≤ zi_11.toInt ∧ zi_11.toInt ≤ 4 := by rw [ezi_11]; exact h_zI.at t_10 _ rfl
    subst hQ
    exact W.iret (v := zi_11) hx hb hr (fun t ht hW => ⟨⟨zi_11, (), rfl, (show JX zR zI zx from hj), ⟨by rw [ht]; exact hP, va_K.moved hW.alike hK, hD⟩⟩, hS.F ht⟩) hS.2.2 dX10_count_77
  · have zk_1_3 : (3 : Int32).toInt = 3 := by decide
    refine lv_tableIn (off := 77) (tgt := 78) hx hb dX10_count_1 (by decide) (by decide) (by decide) (by decide) ?_
    refine lv_aload_n hx hb dX10_count_78 rfl (lv_at hl 0 rfl) ?_
    refine ht_getr (C := RX10) (T := TX10) (N := 10) hx hb hts (by decide +kernel) hown hK hP hs t_zx (by decide) rfl rfl 0 (by decide) (hts (.fieldLink RX10 12 "DripStone" "now" "LDripStone$State;") (by decide +kernel)) (fun _ h9 => h9) rfl dX10_count_79 ?_
    have t_12 : zT (zR zx 0) = 9 := sk_f hs t_zx (by decide) rfl (by decide)
    refine ht_geti (C := RX8) (T := TX8) (N := 9) hx hb hts (by decide +kernel) hown hK hP hs t_12 (by decide) rfl rfl 8 (by decide) (hts (.fieldLink RX10 228 "DripStone$State" "caused" "I") (by decide +kernel)) (fun _ h9 => h9) rfl dX10_count_82 ?_
    refine lv_topi (fun zi_13 ezi_13 => ?_)
    have tzi_13 : 0 ≤ zi_13.toInt ∧ zi_13.toInt ≤ 5 := by rw [ezi_13]; exact h_zI.at t_12 _ rfl
    subst hQ
    exact W.iret (v := zi_13) hx hb hr (fun t ht hW => ⟨⟨zi_13, (), rfl, (show JX zR zI zx from hj), ⟨by rw [ht]; exact hP, va_K.moved hW.alike hK, hD⟩⟩, hS.F ht⟩) hS.2.2 dX10_count_85
  · have zk_1_4 : (4 : Int32).toInt = 4 := by decide
    refine lv_tableIn (off := 85) (tgt := 86) hx hb dX10_count_1 (by decide) (by decide) (by decide) (by decide) ?_
    refine lv_aload_n hx hb dX10_count_86 rfl (lv_at hl 0 rfl) ?_
    refine ht_getr (C := RX10) (T := TX10) (N := 10) hx hb hts (by decide +kernel) hown hK hP hs t_zx (by decide) rfl rfl 0 (by decide) (hts (.fieldLink RX10 12 "DripStone" "now" "LDripStone$State;") (by decide +kernel)) (fun _ h9 => h9) rfl dX10_count_87 ?_
    have t_14 : zT (zR zx 0) = 9 := sk_f hs t_zx (by decide) rfl (by decide)
    refine ht_getr (C := RX8) (T := TX8) (N := 9) hx hb hts (by decide +kernel) hown hK hP hs t_14 (by decide) rfl rfl 2 (by decide) (hts (.fieldLink RX10 147 "DripStone$State" "candles" "[LDripStone$Candle;") (by decide +kernel)) (fun _ h9 => h9) rfl dX10_count_90 ?_
    have t_15 : zT (zR (zR zx 0) 2) = 61 := sk_f hs t_14 (by decide) rfl (by decide)
    refine lv_iconst (v := 0) hx hb dX10_count_93 (by decide) ?_
    refine ht_aald (n := 2) (q := 3) hx hb hK hP hs t_15 (by decide) rfl rfl ⟨by decide, by decide⟩ dX10_count_94 ?_
    have t_16 : zT (zR (zR (zR zx 0) 2) (0 : Int32).toNatClampNeg) = 1 := sk_a (n := 2) hs t_15 rfl rfl (by decide) (by decide)
    refine ht_geti (C := RX0) (T := TX0) (N := 11) hx hb hts (by decide +kernel) hown hK hP hs t_16 (by decide) rfl rfl 7 (by decide) (hts (.fieldLink RX10 167 "DripStone$Candle" "things" "I") (by decide +kernel)) (fun _ h9 => h9) rfl dX10_count_95 ?_
    refine lv_topi (fun zi_17 ezi_17 => ?_)
    have tzi_17 : 0 ≤ zi_17.toInt ∧ zi_17.toInt ≤ 12 := by rw [ezi_17]; exact h_zI.at t_16 _ rfl
    subst hQ
    exact W.iret (v := zi_17) hx hb hr (fun t ht hW => ⟨⟨zi_17, (), rfl, (show JX zR zI zx from hj), ⟨by rw [ht]; exact hP, va_K.moved hW.alike hK, hD⟩⟩, hS.F ht⟩) hS.2.2 dX10_count_98
  · have zk_1_5 : (5 : Int32).toInt = 5 := by decide
    refine lv_tableIn (off := 98) (tgt := 99) hx hb dX10_count_1 (by decide) (by decide) (by decide) (by decide) ?_
    refine lv_aload_n hx hb dX10_count_99 rfl (lv_at hl 0 rfl) ?_
    refine ht_getr (C := RX10) (T := TX10) (N := 10) hx hb hts (by decide +kernel) hown hK hP hs t_zx (by decide) rfl rfl 0 (by decide) (hts (.fieldLink RX10 12 "DripStone" "now" "LDripStone$State;") (by decide +kernel)) (fun _ h9 => h9) rfl dX10_count_100 ?_
    have t_18 : zT (zR zx 0) = 9 := sk_f hs t_zx (by decide) rfl (by decide)
    refine ht_getr (C := RX8) (T := TX8) (N := 9) hx hb hts (by decide +kernel) hown hK hP hs t_18 (by decide) rfl rfl 2 (by decide) (hts (.fieldLink RX10 147 "DripStone$State" "candles" "[LDripStone$Candle;") (by decide +kernel)) (fun _ h9 => h9) rfl dX10_count_103 ?_
    have t_19 : zT (zR (zR zx 0) 2) = 61 := sk_f hs t_18 (by decide) rfl (by decide)
    refine lv_iconst (v := 1) hx hb dX10_count_106 (by decide) ?_
    refine ht_aald (n := 2) (q := 3) hx hb hK hP hs t_19 (by decide) rfl rfl ⟨by decide, by decide⟩ dX10_count_107 ?_
    have t_20 : zT (zR (zR (zR zx 0) 2) (1 : Int32).toNatClampNeg) = 1 := sk_a (n := 2) hs t_19 rfl rfl (by decide) (by decide)
    refine ht_geti (C := RX0) (T := TX0) (N := 11) hx hb hts (by decide +kernel) hown hK hP hs t_20 (by decide) rfl rfl 7 (by decide) (hts (.fieldLink RX10 167 "DripStone$Candle" "things" "I") (by decide +kernel)) (fun _ h9 => h9) rfl dX10_count_108 ?_
    refine lv_topi (fun zi_21 ezi_21 => ?_)
    have tzi_21 : 0 ≤ zi_21.toInt ∧ zi_21.toInt ≤ 12 := by rw [ezi_21]; exact h_zI.at t_20 _ rfl
    subst hQ
    exact W.iret (v := zi_21) hx hb hr (fun t ht hW => ⟨⟨zi_21, (), rfl, (show JX zR zI zx from hj), ⟨by rw [ht]; exact hP, va_K.moved hW.alike hK, hD⟩⟩, hS.F ht⟩) hS.2.2 dX10_count_111
  · have zk_1_6 : (6 : Int32).toInt = 6 := by decide
    refine lv_tableIn (off := 111) (tgt := 112) hx hb dX10_count_1 (by decide) (by decide) (by decide) (by decide) ?_
    refine lv_aload_n hx hb dX10_count_112 rfl (lv_at hl 0 rfl) ?_
    refine ht_getr (C := RX10) (T := TX10) (N := 10) hx hb hts (by decide +kernel) hown hK hP hs t_zx (by decide) rfl rfl 0 (by decide) (hts (.fieldLink RX10 12 "DripStone" "now" "LDripStone$State;") (by decide +kernel)) (fun _ h9 => h9) rfl dX10_count_113 ?_
    have t_22 : zT (zR zx 0) = 9 := sk_f hs t_zx (by decide) rfl (by decide)
    refine ht_getr (C := RX8) (T := TX8) (N := 9) hx hb hts (by decide +kernel) hown hK hP hs t_22 (by decide) rfl rfl 2 (by decide) (hts (.fieldLink RX10 147 "DripStone$State" "candles" "[LDripStone$Candle;") (by decide +kernel)) (fun _ h9 => h9) rfl dX10_count_116 ?_
    have t_23 : zT (zR (zR zx 0) 2) = 61 := sk_f hs t_22 (by decide) rfl (by decide)
    refine lv_iconst (v := 0) hx hb dX10_count_119 (by decide) ?_
    refine ht_aald (n := 2) (q := 3) hx hb hK hP hs t_23 (by decide) rfl rfl ⟨by decide, by decide⟩ dX10_count_120 ?_
    have t_24 : zT (zR (zR (zR zx 0) 2) (0 : Int32).toNatClampNeg) = 1 := sk_a (n := 2) hs t_23 rfl rfl (by decide) (by decide)
    refine hj_i (ws := (WL cy zL zT zR zI zJ)) (w1 := fun (u : Unit) => (WL cy zL zT zR zI zJ)) (va_runV (As := []) (rest := []) ⟨hx, hb, hml, hown, hts⟩ (t_X0_places l dC dI cy s.heap.size zL zT zR zI zJ (zR (zR (zR zx 0) 2) (0 : Int32).toNatClampNeg) hs h_zI.1 t_24) (cwV 0 hts gX10_count_X0_places rfl rfl rfl (by decide +kernel) ⟨(Nat.le_of_ble_eq_true rfl), (Nat.le_of_ble_eq_true rfl)⟩) (PRE.v hP hK hD hN (ht_recv hK hP hs t_24 (by decide) rfl rfl)) rfl rfl hl.1 rfl (lv_room (Nat.le_of_ble_eq_true rfl)) dX10_count_121 ⟨(Nat.le_of_ble_eq_true rfl), (Nat.le_of_ble_eq_true rfl)⟩) hP hD hS hA (fun zi_25 u_27 H locs hw_26 hP hD hS => ?_)
    obtain ⟨b_zi_25, ps_28⟩ : (0 ≤ zi_25.toInt ∧ zi_25.toInt ≤ 12) ∧ (zi_25.toInt = PL (zI (zR (zR (zR (zR zx 0) 2) (0 : Int32).toNatClampNeg) 0)) ((zI (zR (zR (zR zx 0) 2) (0 : Int32).toNatClampNeg) 7).toInt).toNat) := hw_26
    obtain ⟨zi_29, ezi_29⟩ : ∃ y : Int32, y = zI (zR (zR (zR zx 0) 2) (0 : Int32).toNatClampNeg) 7 := ⟨_, rfl⟩
    have tzi_29 : 0 ≤ zi_29.toInt ∧ zi_29.toInt ≤ 12 := by rw [ezi_29]; exact h_zI.at t_24 _ rfl
    have lk_30 : (zI (zR (zR (zR zx 0) 2) (0 : Int32).toNatClampNeg) 7).toInt = zi_29.toInt := congrArg Int32.toInt ezi_29.symm
    subst hQ
    exact W.iret (v := zi_25) hx hb hr (fun t ht hW => ⟨⟨zi_25, (), rfl, (show JX zR zI zx from hj), ⟨by rw [ht]; exact hP, va_K.moved hW.alike hK, hD⟩⟩, hS.F ht⟩) hS.2.2 dX10_count_124
  · have zk_1_7 : (7 : Int32).toInt = 7 := by decide
    refine lv_tableIn (off := 124) (tgt := 125) hx hb dX10_count_1 (by decide) (by decide) (by decide) (by decide) ?_
    refine lv_aload_n hx hb dX10_count_125 rfl (lv_at hl 0 rfl) ?_
    refine ht_getr (C := RX10) (T := TX10) (N := 10) hx hb hts (by decide +kernel) hown hK hP hs t_zx (by decide) rfl rfl 0 (by decide) (hts (.fieldLink RX10 12 "DripStone" "now" "LDripStone$State;") (by decide +kernel)) (fun _ h9 => h9) rfl dX10_count_126 ?_
    have t_31 : zT (zR zx 0) = 9 := sk_f hs t_zx (by decide) rfl (by decide)
    refine ht_getr (C := RX8) (T := TX8) (N := 9) hx hb hts (by decide +kernel) hown hK hP hs t_31 (by decide) rfl rfl 2 (by decide) (hts (.fieldLink RX10 147 "DripStone$State" "candles" "[LDripStone$Candle;") (by decide +kernel)) (fun _ h9 => h9) rfl dX10_count_129 ?_
    have t_32 : zT (zR (zR zx 0) 2) = 61 := sk_f hs t_31 (by decide) rfl (by decide)
    refine lv_iconst (v := 1) hx hb dX10_count_132 (by decide) ?_
    refine ht_aald (n := 2) (q := 3) hx hb hK hP hs t_32 (by decide) rfl rfl ⟨by decide, by decide⟩ dX10_count_133 ?_
    have t_33 : zT (zR (zR (zR zx 0) 2) (1 : Int32).toNatClampNeg) = 1 := sk_a (n := 2) hs t_32 rfl rfl (by decide) (by decide)
    refine hj_i (ws := (WL cy zL zT zR zI zJ)) (w1 := fun (u : Unit) => (WL cy zL zT zR zI zJ)) (va_runV (As := []) (rest := []) ⟨hx, hb, hml, hown, hts⟩ (t_X0_places l dC dI cy s.heap.size zL zT zR zI zJ (zR (zR (zR zx 0) 2) (1 : Int32).toNatClampNeg) hs h_zI.1 t_33) (cwV 0 hts gX10_count_X0_places rfl rfl rfl (by decide +kernel) ⟨(Nat.le_of_ble_eq_true rfl), (Nat.le_of_ble_eq_true rfl)⟩) (PRE.v hP hK hD hN (ht_recv hK hP hs t_33 (by decide) rfl rfl)) rfl rfl hl.1 rfl (lv_room (Nat.le_of_ble_eq_true rfl)) dX10_count_134 ⟨(Nat.le_of_ble_eq_true rfl), (Nat.le_of_ble_eq_true rfl)⟩) hP hD hS hA (fun zi_34 u_36 H locs hw_35 hP hD hS => ?_)
    obtain ⟨b_zi_34, ps_37⟩ : (0 ≤ zi_34.toInt ∧ zi_34.toInt ≤ 12) ∧ (zi_34.toInt = PL (zI (zR (zR (zR (zR zx 0) 2) (1 : Int32).toNatClampNeg) 0)) ((zI (zR (zR (zR zx 0) 2) (1 : Int32).toNatClampNeg) 7).toInt).toNat) := hw_35
    obtain ⟨zi_38, ezi_38⟩ : ∃ y : Int32, y = zI (zR (zR (zR zx 0) 2) (1 : Int32).toNatClampNeg) 7 := ⟨_, rfl⟩
    have tzi_38 : 0 ≤ zi_38.toInt ∧ zi_38.toInt ≤ 12 := by rw [ezi_38]; exact h_zI.at t_33 _ rfl
    have lk_39 : (zI (zR (zR (zR zx 0) 2) (1 : Int32).toNatClampNeg) 7).toInt = zi_38.toInt := congrArg Int32.toInt ezi_38.symm
    subst hQ
    exact W.iret (v := zi_34) hx hb hr (fun t ht hW => ⟨⟨zi_34, (), rfl, (show JX zR zI zx from hj), ⟨by rw [ht]; exact hP, va_K.moved hW.alike hK, hD⟩⟩, hS.F ht⟩) hS.2.2 dX10_count_137
