set_option maxHeartbeats 8000000 in
set_option maxRecDepth 100000 in
theorem t_X10_ways (l : Launch) (dC : Nat → ClassId) (dI : Nat → Nat → Nat) (cy : Nat → ClassId) (sz : Nat) (zL : List Nat) (zT : Nat → Nat) (zR : Nat → Nat → Nat) (zI : Nat → Nat → Int32) (zJ : Nat → Nat → Int64) (zx : Nat) (zia : Int32) (hs : SKP zL zT zR) (hw : WT zT zR zI) (t_zx : zT zx = 11) (hj : JX zR zI zx) : Met l yX10_ways wsX10_ways ({ frames := 5, cells := 0, slots := 0, locals := 126 } : Room) (va_Pc [.ref zx, .int zia] (PRE dC dI cy (WL cy zL zT zR zI zJ) sz)) (va_Ql (fun (r : Int64) (u : (Nat → Nat → Int32) × (Nat → Nat → Int64)) => (WM [1013, 1014, 3700, 3800, 3900, 4000, 4200, 4700] AL zT zR zI u.1) ∧ (JX zR u.1 zx)) (fun u t => POST dC dI cy (va_A (WL cy zL zT zR zI zJ) sz) (WL cy zL zT zR u.1 u.2) t) (va_A (WL cy zL zT zR zI zJ) sz)) 0 0 (va_A (WL cy zL zT zR zI zJ) sz) := by
  refine Met.ofW (cc := cX10_ways) (maxL := 2) (ret := (some .long)) (by decide) rfl ?_
  intro p e s m args below meth c s₁ B hml hv
  obtain ⟨rfl, hsz, hP, hK, hD0, hN⟩ := hv
  have hx := B.exec
  have hb := B.bytes
  have hr := B.returns
  have hts := atoms_spec (ws := wsX10_ways) B.pre
  have hown : s.vm.findClass RX10 = some m.cls := findClass_of_methodNamed B.named
  have hlocks := B.notSynchronized
  subst hsz
  have hD := hD0.self (sz := s.heap.size)
  generalize hAe : va_A (WL cy zL zT zR zI zJ) s.heap.size = A at hD ⊢
  have hA : ∀ q : Nat, s.heap.size ≤ q → A q := fun q h => by rw [← hAe]; exact Or.inr h
  have hS : va_S A s.heap s.heap [] := va_S.rf
  have hP : va_P (dC, dI) vwCl (WL cy zL zT zR zI zJ) s.heap := hP
  have hl := lv_entry ([.ref zx, .int zia] : List Value) (n := 2) (Nat.le_of_ble_eq_true rfl)
  rw [lg_entry_eq]
  generalize (lg_sl ([.ref zx, .int zia] : List Value) ++ List.replicate (2 - (lg_sl ([.ref zx, .int zia] : List Value)).length) Slot.unset).toArray = ls at hl ⊢
  have hl : lv_has ls 2 [(0, .ref zx), (1, .int zia)] := hl
  refine w_q (fun Q hQ => ?_)
  have h_zI : WM [1013, 1014, 3700, 3800, 3900, 4000, 4200, 4700] AL zT zR zI zI := WM.rf hw
  refine lv_iload_n hx hb dX10_ways_0 rfl (lv_at hl 1 rfl) ?_
  refine hj0_i (ws := (WL cy zL zT zR zI zJ)) (va_runS (As := [.int zia]) (rest := []) ⟨hx, hb, hml, hown, hts⟩ (c_X10_isCandle l dC dI cy s.heap.size zia) (va_cwS 1 hts gX10_ways_X10_isCandle rfl rfl rfl (by decide +kernel) ⟨(Nat.le_of_ble_eq_true rfl), (Nat.le_of_ble_eq_true rfl)⟩) (PRE.s (hP.sub [] rfl) hK (hD.sub [] (by decide) rfl) hN) rfl rfl hl.1 rfl (lv_room (Nat.le_of_ble_eq_true rfl)) dX10_ways_1 ⟨(Nat.le_of_ble_eq_true rfl), (Nat.le_of_ble_eq_true rfl)⟩) hP hD hS hA (fun zi_1 u_3 H locs hw_2 hP hD hS => ?_)
  have hw_2 : zi_1 = if 0 ≤ zia.toInt ∧ zia.toInt ≤ 1 then 1 else 0 := hw_2
  have b_zi_1 : 0 ≤ zi_1.toInt ∧ zi_1.toInt ≤ 1 := bz_b hw_2
  refine lv_if_ne (tgt := 11) hx hb dX10_ways_4 (by decide) (fun c_4 => ?_) (fun c_4 => ?_)
  · have f_5 : 0 ≤ zia.toInt ∧ zia.toInt ≤ 1 := bz_1 hw_2 c_4
    refine lv_aload_n hx hb dX10_ways_11 rfl (lv_at hl 0 rfl) ?_
    refine ht_getr (C := RX10) (T := TX10) (N := 10) hx hb hts (by decide +kernel) hown hK hP hs t_zx (by decide) rfl rfl 0 (by decide) (hts (.fieldLink RX10 12 "DripStone" "now" "LDripStone$State;") (by decide +kernel)) (fun _ h9 => h9) rfl dX10_ways_12 ?_
    have t_6 : zT (zR zx 0) = 9 := sk_f hs t_zx (by decide) rfl (by decide)
    refine ht_getr (C := RX8) (T := TX8) (N := 9) hx hb hts (by decide +kernel) hown hK hP hs t_6 (by decide) rfl rfl 2 (by decide) (hts (.fieldLink RX10 147 "DripStone$State" "candles" "[LDripStone$Candle;") (by decide +kernel)) (fun _ h9 => h9) rfl dX10_ways_15 ?_
    have t_7 : zT (zR (zR zx 0) 2) = 61 := sk_f hs t_6 (by decide) rfl (by decide)
    refine lv_iload_n hx hb dX10_ways_18 rfl (lv_at hl 1 rfl) ?_
    refine ht_aald (n := 2) (q := 3) hx hb hK hP hs t_7 (by decide) rfl rfl ⟨by omega, by omega⟩ dX10_ways_19 ?_
    have t_8 : zT (zR (zR (zR zx 0) 2) zia.toNatClampNeg) = 1 := sk_a (n := 2) hs t_7 rfl rfl (by decide) (cl_lt (by omega) (by omega))
    refine hj_i (ws := (WL cy zL zT zR zI zJ)) (w1 := fun (u : Unit) => (WL cy zL zT zR zI zJ)) (va_runV (As := []) (rest := []) ⟨hx, hb, hml, hown, hts⟩ (t_X0_places l dC dI cy H.size zL zT zR zI zJ (zR (zR (zR zx 0) 2) zia.toNatClampNeg) hs h_zI.1 t_8) (cwV 0 hts gX10_ways_X0_places rfl rfl rfl (by decide +kernel) ⟨(Nat.le_of_ble_eq_true rfl), (Nat.le_of_ble_eq_true rfl)⟩) (PRE.v hP hK hD hN (ht_recv hK hP hs t_8 (by decide) rfl rfl)) rfl rfl hl.1 rfl (lv_room (Nat.le_of_ble_eq_true rfl)) dX10_ways_20 ⟨(Nat.le_of_ble_eq_true rfl), (Nat.le_of_ble_eq_true rfl)⟩) hP hD hS hA (fun zi_9 u_11 H locs hw_10 hP hD hS => ?_)
    obtain ⟨b_zi_9, ps_12⟩ : (0 ≤ zi_9.toInt ∧ zi_9.toInt ≤ 12) ∧ (zi_9.toInt = PL (zI (zR (zR (zR (zR zx 0) 2) zia.toNatClampNeg) 0)) ((zI (zR (zR (zR zx 0) 2) zia.toNatClampNeg) 7).toInt).toNat) := hw_10
    obtain ⟨zi_13, ezi_13⟩ : ∃ y : Int32, y = zI (zR (zR (zR zx 0) 2) zia.toNatClampNeg) 7 := ⟨_, rfl⟩
    have tzi_13 : 0 ≤ zi_13.toInt ∧ zi_13.toInt ≤ 12 := by rw [ezi_13]; exact h_zI.at t_8 _ rfl
    have lk_14 : (zI (zR (zR (zR zx 0) 2) zia.toNatClampNeg) 7).toInt = zi_13.toInt := congrArg Int32.toInt ezi_13.symm
    refine lv_if_ne (tgt := 32) hx hb dX10_ways_23 (by decide) (fun c_15 => ?_) (fun c_15 => ?_)
    · have f_16 : zi_9.toInt ≠ 0 := ic_ne (rfl) (by decide) c_15
      refine lv_aload_n hx hb dX10_ways_32 rfl (lv_at hl 0 rfl) ?_
      refine lv_iload_n hx hb dX10_ways_33 rfl (lv_at hl 1 rfl) ?_
      refine hj_r (ws := (WL cy zL zT zR zI zJ)) (w1 := fun (u : (Nat → Nat → Int32) × (Nat → Nat → Int64)) => (WL cy zL zT zR u.1 u.2)) (va_runV (As := [.int zia]) (rest := []) ⟨hx, hb, hml, hown, hts⟩ (t_X10_lineOf l dC dI cy H.size zL zT zR zI zJ zx zia hs h_zI.1 t_zx (by omega) (by omega)) (cwV 1 hts gX10_ways_X10_lineOf rfl rfl rfl (by decide +kernel) ⟨(Nat.le_of_ble_eq_true rfl), (Nat.le_of_ble_eq_true rfl)⟩) (PRE.v hP hK hD hN (ht_recv hK hP hs t_zx (by decide) rfl rfl)) rfl rfl hl.1 rfl (lv_room (Nat.le_of_ble_eq_true rfl)) dX10_ways_34 ⟨(Nat.le_of_ble_eq_true rfl), (Nat.le_of_ble_eq_true rfl)⟩) hP hD hS hA (fun zi_17 u_19 H locs hw_18 hr0 hP hD hS => ?_)
      obtain ⟨zI_20, zJ_21⟩ := u_19
      obtain ⟨k_zI_20, ps_22, ps_23⟩ : (WM [1013, 1014, 3700, 3800, 3900, 4000, 4200, 4700] AL zT zR zI zI_20) ∧ (JX zR zI_20 zx) ∧ (LW zR zI_20 (zR (zR zx 6) zia.toNatClampNeg) (zR (zR (zR zx 0) 2) zia.toNatClampNeg)) := hw_18
      have h_zI_20 : WM [1013, 1014, 3700, 3800, 3900, 4000, 4200, 4700] AL zT zR zI zI_20 := h_zI.tr k_zI_20 (by decide) (fun _ _ => trivial)
      subst hr0
      have t_24 : zT (zR zx 6) = 64 := sk_f hs t_zx (by decide) rfl (by decide)
      have t_25 : zT (zR (zR zx 6) zia.toNatClampNeg) = 10 := sk_a (n := 2) hs t_24 rfl rfl (by decide) (cl_lt (by omega) (by omega))
      refine ht_getl (C := RX9) (T := TX9) (N := 16) hx hb hts (by decide +kernel) hown hK hP hs t_25 (by decide) rfl rfl 15 (by decide) (hts (.fieldLink RX10 242 "DripStone$Ways" "total" "J") (by decide +kernel)) (fun _ h9 => h9) rfl dX10_ways_37 ?_
      refine lv_topl (fun zj_26 ezj_26 => ?_)
      subst hQ
      exact W.lret (v := zj_26) hx hb hr (fun t ht hW => ⟨⟨zj_26, (zI_20, zJ_21), rfl, ⟨h_zI_20, (show JX zR zI_20 zx from ps_22)⟩, ⟨by rw [ht]; exact hP, va_K.moved hW.alike hK, hD⟩⟩, hS.F ht⟩) hS.2.2 dX10_ways_40
    · have f_16 : ¬ (zi_9.toInt ≠ 0) := ic_nne (rfl) (by decide) c_15
      refine lv_ldc2 (v := (-2)) hx hb hown (hts (.constantLong RX10 236 (-2)) (by decide +kernel)) dX10_ways_26 ?_
      refine lv_goto (tgt := 40) hx hb dX10_ways_29 (by decide) ?_
      subst hQ
      exact W.lret (v := (-2 : Int64)) hx hb hr (fun t ht hW => ⟨⟨(-2 : Int64), (zI, zJ), rfl, ⟨h_zI, (show JX zR zI zx from hj)⟩, ⟨by rw [ht]; exact hP, va_K.moved hW.alike hK, hD⟩⟩, hS.F ht⟩) hS.2.2 dX10_ways_40
  · have f_5 : ¬ (0 ≤ zia.toInt ∧ zia.toInt ≤ 1) := bz_0 hw_2 c_4
    refine lv_ldc2 (v := (-1)) hx hb hown (hts (.constantLong RX10 234 (-1)) (by decide +kernel)) dX10_ways_7 ?_
    subst hQ
    exact W.lret (v := (-1 : Int64)) hx hb hr (fun t ht hW => ⟨⟨(-1 : Int64), (zI, zJ), rfl, ⟨h_zI, (show JX zR zI zx from hj)⟩, ⟨by rw [ht]; exact hP, va_K.moved hW.alike hK, hD⟩⟩, hS.F ht⟩) hS.2.2 dX10_ways_10
set_option maxHeartbeats 8000000 in
set_option maxRecDepth 100000 in
theorem t_X10_ends (l : Launch) (dC : Nat → ClassId) (dI : Nat → Nat → Nat) (cy : Nat → ClassId) (sz : Nat) (zL : List Nat) (zT : Nat → Nat) (zR : Nat → Nat → Nat) (zI : Nat → Nat → Int32) (zJ : Nat → Nat → Int64) (zx : Nat) (zia : Int32) (zib : Int32) (zic : Int32) (hs : SKP zL zT zR) (hw : WT zT zR zI) (t_zx : zT zx = 11) (hj : JX zR zI zx) : Met l yX10_ends wsX10_ends ({ frames := 5, cells := 0, slots := 0, locals := 126 } : Room) (va_Pc [.ref zx, .int zia, .int zib, .int zic] (PRE dC dI cy (WL cy zL zT zR zI zJ) sz)) (va_Qi (fun (r : Int32) (u : (Nat → Nat → Int32) × (Nat → Nat → Int64)) => (WM [1013, 1014, 3700, 3800, 3900, 4000, 4200, 4700] AL zT zR zI u.1) ∧ ((-12) ≤ r.toInt ∧ r.toInt ≤ 23) ∧ (JX zR u.1 zx)) (fun u t => POST dC dI cy (va_A (WL cy zL zT zR zI zJ) sz) (WL cy zL zT zR u.1 u.2) t) (va_A (WL cy zL zT zR zI zJ) sz)) 0 0 (va_A (WL cy zL zT zR zI zJ) sz) := by
  refine Met.ofW (cc := cX10_ends) (maxL := 5) (ret := (some .int)) (by decide) rfl ?_
  intro p e s m args below meth c s₁ B hml hv
  obtain ⟨rfl, hsz, hP, hK, hD0, hN⟩ := hv
  have hx := B.exec
  have hb := B.bytes
  have hr := B.returns
  have hts := atoms_spec (ws := wsX10_ends) B.pre
  have hown : s.vm.findClass RX10 = some m.cls := findClass_of_methodNamed B.named
  have hlocks := B.notSynchronized
  subst hsz
  have hD := hD0.self (sz := s.heap.size)
  generalize hAe : va_A (WL cy zL zT zR zI zJ) s.heap.size = A at hD ⊢
  have hA : ∀ q : Nat, s.heap.size ≤ q → A q := fun q h => by rw [← hAe]; exact Or.inr h
  have hS : va_S A s.heap s.heap [] := va_S.rf
  have hP : va_P (dC, dI) vwCl (WL cy zL zT zR zI zJ) s.heap := hP
  have hl := lv_entry ([.ref zx, .int zia, .int zib, .int zic] : List Value) (n := 5) (Nat.le_of_ble_eq_true rfl)
  rw [lg_entry_eq]
  generalize (lg_sl ([.ref zx, .int zia, .int zib, .int zic] : List Value) ++ List.replicate (5 - (lg_sl ([.ref zx, .int zia, .int zib, .int zic] : List Value)).length) Slot.unset).toArray = ls at hl ⊢
  have hl : lv_has ls 5 [(0, .ref zx), (1, .int zia), (2, .int zib), (3, .int zic)] := hl
  refine w_q (fun Q hQ => ?_)
  have h_zI : WM [1013, 1014, 3700, 3800, 3900, 4000, 4200, 4700] AL zT zR zI zI := WM.rf hw
  refine lv_aload_n hx hb dX10_ends_0 rfl (lv_at hl 0 rfl) ?_
  refine lv_iload_n hx hb dX10_ends_1 rfl (lv_at hl 1 rfl) ?_
  refine lv_iload_n hx hb dX10_ends_2 rfl (lv_at hl 2 rfl) ?_
  refine hj_i (ws := (WL cy zL zT zR zI zJ)) (w1 := fun (u : Unit) => (WL cy zL zT zR zI zJ)) (va_runV (As := [.int zia, .int zib]) (rest := []) ⟨hx, hb, hml, hown, hts⟩ (t_X10_isThing l dC dI cy s.heap.size zL zT zR zI zJ zx zia zib hs h_zI.1 t_zx) (cwV 2 hts gX10_ends_X10_isThing rfl rfl rfl (by decide +kernel) ⟨(Nat.le_of_ble_eq_true rfl), (Nat.le_of_ble_eq_true rfl)⟩) (PRE.v hP hK hD hN (ht_recv hK hP hs t_zx (by decide) rfl rfl)) rfl rfl hl.1 rfl (lv_room (Nat.le_of_ble_eq_true rfl)) dX10_ends_3 ⟨(Nat.le_of_ble_eq_true rfl), (Nat.le_of_ble_eq_true rfl)⟩) hP hD hS hA (fun zi_1 u_3 H locs hw_2 hP hD hS => ?_)
  obtain ⟨b_zi_1, ps_4, ps_5⟩ : (0 ≤ zi_1.toInt ∧ zi_1.toInt ≤ 1) ∧ (zi_1.toInt = 0 ∨ (0 ≤ zia.toInt ∧ zia.toInt ≤ 1 ∧ 0 ≤ zib.toInt ∧ zib.toInt ≤ 11)) ∧ (zi_1.toInt = 0 ∨ zib.toInt < (zI (zR (zR (zR zx 0) 2) zia.toNatClampNeg) 7).toInt) := hw_2
  refine lv_if_eq (tgt := 18) hx hb dX10_ends_6 (by decide) (fun c_6 => ?_) (fun c_6 => ?_)
  · have f_7 : zi_1.toInt = 0 := ic_eq (rfl) (by decide) c_6
    refine lv_iconst (v := (-1)) hx hb dX10_ends_18 (by decide) ?_
    subst hQ
    have qc_m1 : (-1 : Int32).toInt = -1 := by decide
    exact W.iret (v := (-1 : Int32)) hx hb hr (fun t ht hW => ⟨⟨(-1 : Int32), (zI, zJ), rfl, ⟨h_zI, (show (-12) ≤ (-1 : Int32).toInt ∧ (-1 : Int32).toInt ≤ 23 from by omega), (show JX zR zI zx from hj)⟩, ⟨by rw [ht]; exact hP, va_K.moved hW.alike hK, hD⟩⟩, hS.F ht⟩) hS.2.2 dX10_ends_19
  · have f_7 : ¬ (zi_1.toInt = 0) := ic_neq (rfl) (by decide) c_6
    have b9_zia : 0 ≤ zia.toInt ∧ zia.toInt ≤ 1 := by omega
    have b9_zib : 0 ≤ zib.toInt ∧ zib.toInt ≤ 11 := by omega
    refine lv_iload_n hx hb dX10_ends_9 rfl (lv_at hl 3 rfl) ?_
    refine lv_iconst (v := 0) hx hb dX10_ends_10 (by decide) ?_
    refine lv_iconst (v := 1) hx hb dX10_ends_11 (by decide) ?_
    refine hj0_i (ws := (WL cy zL zT zR zI zJ)) (va_runS (As := [.int zic, .int 0, .int 1]) (rest := []) ⟨hx, hb, hml, hown, hts⟩ (c_X10_isWithin l dC dI cy H.size zic 0 1 0 1 (by first | rfl | decide | omega | exact Int32.toInt_toInt64 _) (by first | rfl | decide | omega | exact Int32.toInt_toInt64 _)) (va_cwS 3 hts gX10_ends_X10_isWithin rfl rfl rfl (by decide +kernel) ⟨(Nat.le_of_ble_eq_true rfl), (Nat.le_of_ble_eq_true rfl)⟩) (PRE.s (hP.sub [] rfl) hK (hD.sub [] (by decide) rfl) hN) rfl rfl hl.1 rfl (lv_room (Nat.le_of_ble_eq_true rfl)) dX10_ends_12 ⟨(Nat.le_of_ble_eq_true rfl), (Nat.le_of_ble_eq_true rfl)⟩) hP hD hS hA (fun zi_8 u_10 H locs hw_9 hP hD hS => ?_)
    have hw_9 : zi_8 = if 0 ≤ zic.toInt ∧ zic.toInt ≤ 1 then 1 else 0 := hw_9
    have b_zi_8 : 0 ≤ zi_8.toInt ∧ zi_8.toInt ≤ 1 := bz_b hw_9
    refine lv_if_ne (tgt := 20) hx hb dX10_ends_15 (by decide) (fun c_11 => ?_) (fun c_11 => ?_)
    · have f_12 : 0 ≤ zic.toInt ∧ zic.toInt ≤ 1 := bz_1 hw_9 c_11
      refine lv_aload_n hx hb dX10_ends_20 rfl (lv_at hl 0 rfl) ?_
      refine ht_getr (C := RX10) (T := TX10) (N := 10) hx hb hts (by decide +kernel) hown hK hP hs t_zx (by decide) rfl rfl 0 (by decide) (hts (.fieldLink RX10 12 "DripStone" "now" "LDripStone$State;") (by decide +kernel)) (fun _ h9 => h9) rfl dX10_ends_21 ?_
      have t_13 : zT (zR zx 0) = 9 := sk_f hs t_zx (by decide) rfl (by decide)
      refine ht_getr (C := RX8) (T := TX8) (N := 9) hx hb hts (by decide +kernel) hown hK hP hs t_13 (by decide) rfl rfl 2 (by decide) (hts (.fieldLink RX10 147 "DripStone$State" "candles" "[LDripStone$Candle;") (by decide +kernel)) (fun _ h9 => h9) rfl dX10_ends_24 ?_
      have t_14 : zT (zR (zR zx 0) 2) = 61 := sk_f hs t_13 (by decide) rfl (by decide)
      refine lv_iload_n hx hb dX10_ends_27 rfl (lv_at hl 1 rfl) ?_
      refine ht_aald (n := 2) (q := 3) hx hb hK hP hs t_14 (by decide) rfl rfl ⟨by omega, by omega⟩ dX10_ends_28 ?_
      have t_15 : zT (zR (zR (zR zx 0) 2) zia.toNatClampNeg) = 1 := sk_a (n := 2) hs t_14 rfl rfl (by decide) (cl_lt (by omega) (by omega))
      refine lv_iload_n hx hb dX10_ends_29 rfl (lv_at hl 2 rfl) ?_
      refine hj_i (ws := (WL cy zL zT zR zI zJ)) (w1 := fun (u : Unit) => (WL cy zL zT zR zI zJ)) (va_runV (As := [.int zib]) (rest := []) ⟨hx, hb, hml, hown, hts⟩ (t_X0_isPlace l dC dI cy H.size zL zT zR zI zJ (zR (zR (zR zx 0) 2) zia.toNatClampNeg) zib hs h_zI.1 t_15 (by omega)) (cwV 1 hts gX10_ends_X0_isPlace rfl rfl rfl (by decide +kernel) ⟨(Nat.le_of_ble_eq_true rfl), (Nat.le_of_ble_eq_true rfl)⟩) (PRE.v hP hK hD hN (ht_recv hK hP hs t_15 (by decide) rfl rfl)) rfl rfl hl.1 rfl (lv_room (Nat.le_of_ble_eq_true rfl)) dX10_ends_30 ⟨(Nat.le_of_ble_eq_true rfl), (Nat.le_of_ble_eq_true rfl)⟩) hP hD hS hA (fun zi_16 u_18 H locs hw_17 hP hD hS => ?_)
      obtain ⟨b_zi_16, ps_19⟩ : (0 ≤ zi_16.toInt ∧ zi_16.toInt ≤ 1) ∧ ((zi_16.toInt = 0 ∧ (zI (zR (zR (zR (zR zx 0) 2) zia.toNatClampNeg) 0) zib.toNatClampNeg).toInt = 2) ∨ (zi_16.toInt = 1 ∧ ¬ (zI (zR (zR (zR (zR zx 0) 2) zia.toNatClampNeg) 0) zib.toNatClampNeg).toInt = 2)) := hw_17
      refine lv_if_ne (tgt := 39) hx hb dX10_ends_33 (by decide) (fun c_20 => ?_) (fun c_20 => ?_)
      · have f_21 : zi_16.toInt ≠ 0 := ic_ne (rfl) (by decide) c_20
        refine lv_aload_n hx hb dX10_ends_39 rfl (lv_at hl 0 rfl) ?_
        refine lv_iload_n hx hb dX10_ends_40 rfl (lv_at hl 1 rfl) ?_
        refine hj_r (ws := (WL cy zL zT zR zI zJ)) (w1 := fun (u : (Nat → Nat → Int32) × (Nat → Nat → Int64)) => (WL cy zL zT zR u.1 u.2)) (va_runV (As := [.int zia]) (rest := []) ⟨hx, hb, hml, hown, hts⟩ (t_X10_lineOf l dC dI cy H.size zL zT zR zI zJ zx zia hs h_zI.1 t_zx (by omega) (by omega)) (cwV 1 hts gX10_ends_X10_lineOf rfl rfl rfl (by decide +kernel) ⟨(Nat.le_of_ble_eq_true rfl), (Nat.le_of_ble_eq_true rfl)⟩) (PRE.v hP hK hD hN (ht_recv hK hP hs t_zx (by decide) rfl rfl)) rfl rfl hl.1 rfl (lv_room (Nat.le_of_ble_eq_true rfl)) dX10_ends_41 ⟨(Nat.le_of_ble_eq_true rfl), (Nat.le_of_ble_eq_true rfl)⟩) hP hD hS hA (fun zi_22 u_24 H locs hw_23 hr0 hP hD hS => ?_)
        obtain ⟨zI_25, zJ_26⟩ := u_24
        obtain ⟨k_zI_25, ps_27, ps_28⟩ : (WM [1013, 1014, 3700, 3800, 3900, 4000, 4200, 4700] AL zT zR zI zI_25) ∧ (JX zR zI_25 zx) ∧ (LW zR zI_25 (zR (zR zx 6) zia.toNatClampNeg) (zR (zR (zR zx 0) 2) zia.toNatClampNeg)) := hw_23
        have h_zI_25 : WM [1013, 1014, 3700, 3800, 3900, 4000, 4200, 4700] AL zT zR zI zI_25 := h_zI.tr k_zI_25 (by decide) (fun _ _ => trivial)
        subst hr0
        have t_29 : zT (zR zx 6) = 64 := sk_f hs t_zx (by decide) rfl (by decide)
        have t_30 : zT (zR (zR zx 6) zia.toNatClampNeg) = 10 := sk_a (n := 2) hs t_29 rfl rfl (by decide) (cl_lt (by omega) (by omega))
        refine lv_astore (lv' := [(4, .ref (zR (zR zx 6) zia.toNatClampNeg)), (0, .ref zx), (1, .int zia), (2, .int zib), (3, .int zic)]) hx hb dX10_ends_44 hl (by decide) rfl (fun ls hl => ?_)
        refine lv_aload hx hb dX10_ends_46 (lv_at hl 0 rfl) ?_
        refine ht_getl (C := RX9) (T := TX9) (N := 16) hx hb hts (by decide +kernel) hown hK hP hs t_30 (by decide) rfl rfl 15 (by decide) (hts (.fieldLink RX10 242 "DripStone$Ways" "total" "J") (by decide +kernel)) (fun _ h9 => h9) rfl dX10_ends_48 ?_
        refine lv_topl (fun zj_31 ezj_31 => ?_)
        refine lv_lconst (v := 0) hx hb dX10_ends_51 (by decide) ?_
        refine W.lcmp hx hb dX10_ends_52 ?_
        refine lv_topi (fun zi_32 ezi_32 => ?_)
        refine lv_if_ne (tgt := 61) hx hb dX10_ends_53 (by decide) (fun c_33 => ?_) (fun c_33 => ?_)
        · have f_34 : ¬ (zj_31.toInt = (0 : Int)) := lk_ne ezi_32 (rfl) (show (0 : Int64).toInt = 0 by decide) c_33
          refine lv_aload hx hb dX10_ends_61 (lv_at hl 0 rfl) ?_
          refine lv_aload hx hb dX10_ends_63 (lv_at hl 0 rfl) ?_
          refine ht_getr (C := RX9) (T := TX9) (N := 16) hx hb hts (by decide +kernel) hown hK hP hs t_30 (by decide) rfl rfl 1 (by decide) (hts (.fieldLink RX10 246 "DripStone$Ways" "placeOf" "[I") (by decide +kernel)) (fun _ h9 => h9) rfl dX10_ends_65 ?_
          have t_35 : zT (zR (zR (zR zx 6) zia.toNatClampNeg) 1) = 38 := sk_f hs t_30 (by decide) rfl (by decide)
          refine lv_iload_n hx hb dX10_ends_68 rfl (lv_at hl 3 rfl) ?_
          refine ht_iald (n := 12) (q := 0) hx hb hK hP hs t_35 (by decide) rfl rfl ⟨by omega, by omega⟩ dX10_ends_69 ?_
          refine lv_topi (fun zi_36 ezi_36 => ?_)
          have tzi_36 : 0 ≤ zi_36.toInt ∧ zi_36.toInt ≤ 11 := by rw [ezi_36]; exact h_zI_25.at t_35 _ rfl
          refine lv_iload_n hx hb dX10_ends_70 rfl (lv_at hl 4 rfl) ?_
          refine hj_i (ws := (WL cy zL zT zR zI_25 zJ_26)) (w1 := fun (u : Unit) => (WL cy zL zT zR zI_25 zJ_26)) (va_runV (As := [.int zi_36, .int zic]) (rest := []) ⟨hx, hb, hml, hown, hts⟩ (t_X9_endOf l dC dI cy H.size zL zT zR zI_25 zJ_26 (zR (zR zx 6) zia.toNatClampNeg) zi_36 zic hs h_zI_25.1 t_30 (by omega)) (cwV 2 hts gX10_ends_X9_endOf rfl rfl rfl (by decide +kernel) ⟨(Nat.le_of_ble_eq_true rfl), (Nat.le_of_ble_eq_true rfl)⟩) (PRE.v hP hK hD hN (ht_recv hK hP hs t_30 (by decide) rfl rfl)) rfl rfl hl.1 rfl (lv_room (Nat.le_of_ble_eq_true rfl)) dX10_ends_71 ⟨(Nat.le_of_ble_eq_true rfl), (Nat.le_of_ble_eq_true rfl)⟩) hP hD hS hA (fun zi_37 u_39 H locs hw_38 hP hD hS => ?_)
          have b_zi_37 : 0 ≤ zi_37.toInt ∧ zi_37.toInt ≤ 23 := hw_38
          subst hQ
          exact W.iret (v := zi_37) hx hb hr (fun t ht hW => ⟨⟨zi_37, (zI_25, zJ_26), rfl, ⟨h_zI_25, (show (-12) ≤ zi_37.toInt ∧ zi_37.toInt ≤ 23 from by omega), (show JX zR zI_25 zx from ps_27)⟩, ⟨by rw [ht]; exact hP, va_K.moved hW.alike hK, hD⟩⟩, hS.F ht⟩) hS.2.2 dX10_ends_74
        · have f_34 : zj_31.toInt = (0 : Int) := lk_nne ezi_32 (rfl) (show (0 : Int64).toInt = 0 by decide) c_33
          refine lv_bipush (v := (-4)) hx hb dX10_ends_56 (by decide) ?_
          refine lv_goto (tgt := 74) hx hb dX10_ends_58 (by decide) ?_
          subst hQ
          have qc_m4 : (-4 : Int32).toInt = -4 := by decide
          exact W.iret (v := (-4 : Int32)) hx hb hr (fun t ht hW => ⟨⟨(-4 : Int32), (zI_25, zJ_26), rfl, ⟨h_zI_25, (show (-12) ≤ (-4 : Int32).toInt ∧ (-4 : Int32).toInt ≤ 23 from by omega), (show JX zR zI_25 zx from ps_27)⟩, ⟨by rw [ht]; exact hP, va_K.moved hW.alike hK, hD⟩⟩, hS.F ht⟩) hS.2.2 dX10_ends_74
      · have f_21 : ¬ (zi_16.toInt ≠ 0) := ic_nne (rfl) (by decide) c_20
        refine lv_bipush (v := (-12)) hx hb dX10_ends_36 (by decide) ?_
        subst hQ
        have qc_m12 : (-12 : Int32).toInt = -12 := by decide
        exact W.iret (v := (-12 : Int32)) hx hb hr (fun t ht hW => ⟨⟨(-12 : Int32), (zI, zJ), rfl, ⟨h_zI, (show (-12) ≤ (-12 : Int32).toInt ∧ (-12 : Int32).toInt ≤ 23 from by omega), (show JX zR zI zx from hj)⟩, ⟨by rw [ht]; exact hP, va_K.moved hW.alike hK, hD⟩⟩, hS.F ht⟩) hS.2.2 dX10_ends_38
    · have f_12 : ¬ (0 ≤ zic.toInt ∧ zic.toInt ≤ 1) := bz_0 hw_9 c_11
      refine lv_iconst (v := (-1)) hx hb dX10_ends_18 (by decide) ?_
      subst hQ
      have qc_m1 : (-1 : Int32).toInt = -1 := by decide
      exact W.iret (v := (-1 : Int32)) hx hb hr (fun t ht hW => ⟨⟨(-1 : Int32), (zI, zJ), rfl, ⟨h_zI, (show (-12) ≤ (-1 : Int32).toInt ∧ (-1 : Int32).toInt ≤ 23 from by omega), (show JX zR zI zx from hj)⟩, ⟨by rw [ht]; exact hP, va_K.moved hW.alike hK, hD⟩⟩, hS.F ht⟩) hS.2.2 dX10_ends_19
set_option maxHeartbeats 8000000 in
set_option maxRecDepth 100000 in
theorem t_X10_odds (l : Launch) (dC : Nat → ClassId) (dI : Nat → Nat → Nat) (cy : Nat → ClassId) (sz : Nat) (zL : List Nat) (zT : Nat → Nat) (zR : Nat → Nat → Nat) (zI : Nat → Nat → Int32) (zJ : Nat → Nat → Int64) (zx : Nat) (zia : Int32) (zib : Int32) (zic : Int32) (zid : Int32) (hs : SKP zL zT zR) (hw : WT zT zR zI) (t_zx : zT zx = 11) (hj : JX zR zI zx) : Met l yX10_odds wsX10_odds ({ frames := 5, cells := 0, slots := 0, locals := 126 } : Room) (va_Pc [.ref zx, .int zia, .int zib, .int zic, .int zid] (PRE dC dI cy (WL cy zL zT zR zI zJ) sz)) (va_Ql (fun (r : Int64) (u : (Nat → Nat → Int32) × (Nat → Nat → Int64)) => (WM [1013, 1014, 3700, 3800, 3900, 4000, 4200, 4700] AL zT zR zI u.1) ∧ (JX zR u.1 zx)) (fun u t => POST dC dI cy (va_A (WL cy zL zT zR zI zJ) sz) (WL cy zL zT zR u.1 u.2) t) (va_A (WL cy zL zT zR zI zJ) sz)) 0 0 (va_A (WL cy zL zT zR zI zJ) sz) := by
  refine Met.ofW (cc := cX10_odds) (maxL := 6) (ret := (some .long)) (by decide) rfl ?_
  intro p e s m args below meth c s₁ B hml hv
  obtain ⟨rfl, hsz, hP, hK, hD0, hN⟩ := hv
  have hx := B.exec
  have hb := B.bytes
  have hr := B.returns
  have hts := atoms_spec (ws := wsX10_odds) B.pre
  have hown : s.vm.findClass RX10 = some m.cls := findClass_of_methodNamed B.named
  have hlocks := B.notSynchronized
  subst hsz
  have hD := hD0.self (sz := s.heap.size)
  generalize hAe : va_A (WL cy zL zT zR zI zJ) s.heap.size = A at hD ⊢
  have hA : ∀ q : Nat, s.heap.size ≤ q → A q := fun q h => by rw [← hAe]; exact Or.inr h
  have hS : va_S A s.heap s.heap [] := va_S.rf
  have hP : va_P (dC, dI) vwCl (WL cy zL zT zR zI zJ) s.heap := hP
  have hl := lv_entry ([.ref zx, .int zia, .int zib, .int zic, .int zid] : List Value) (n := 6) (Nat.le_of_ble_eq_true rfl)
  rw [lg_entry_eq]
  generalize (lg_sl ([.ref zx, .int zia, .int zib, .int zic, .int zid] : List Value) ++ List.replicate (6 - (lg_sl ([.ref zx, .int zia, .int zib, .int zic, .int zid] : List Value)).length) Slot.unset).toArray = ls at hl ⊢
  have hl : lv_has ls 6 [(0, .ref zx), (1, .int zia), (2, .int zib), (3, .int zic), (4, .int zid)] := hl
  refine w_q (fun Q hQ => ?_)
  have h_zI : WM [1013, 1014, 3700, 3800, 3900, 4000, 4200, 4700] AL zT zR zI zI := WM.rf hw
  refine lv_aload_n hx hb dX10_odds_0 rfl (lv_at hl 0 rfl) ?_
  refine lv_iload_n hx hb dX10_odds_1 rfl (lv_at hl 1 rfl) ?_
  refine lv_iload_n hx hb dX10_odds_2 rfl (lv_at hl 2 rfl) ?_
  refine hj_i (ws := (WL cy zL zT zR zI zJ)) (w1 := fun (u : Unit) => (WL cy zL zT zR zI zJ)) (va_runV (As := [.int zia, .int zib]) (rest := []) ⟨hx, hb, hml, hown, hts⟩ (t_X10_isThing l dC dI cy s.heap.size zL zT zR zI zJ zx zia zib hs h_zI.1 t_zx) (cwV 2 hts gX10_odds_X10_isThing rfl rfl rfl (by decide +kernel) ⟨(Nat.le_of_ble_eq_true rfl), (Nat.le_of_ble_eq_true rfl)⟩) (PRE.v hP hK hD hN (ht_recv hK hP hs t_zx (by decide) rfl rfl)) rfl rfl hl.1 rfl (lv_room (Nat.le_of_ble_eq_true rfl)) dX10_odds_3 ⟨(Nat.le_of_ble_eq_true rfl), (Nat.le_of_ble_eq_true rfl)⟩) hP hD hS hA (fun zi_1 u_3 H locs hw_2 hP hD hS => ?_)
  obtain ⟨b_zi_1, ps_4, ps_5⟩ : (0 ≤ zi_1.toInt ∧ zi_1.toInt ≤ 1) ∧ (zi_1.toInt = 0 ∨ (0 ≤ zia.toInt ∧ zia.toInt ≤ 1 ∧ 0 ≤ zib.toInt ∧ zib.toInt ≤ 11)) ∧ (zi_1.toInt = 0 ∨ zib.toInt < (zI (zR (zR (zR zx 0) 2) zia.toNatClampNeg) 7).toInt) := hw_2
  refine lv_if_eq (tgt := 26) hx hb dX10_odds_6 (by decide) (fun c_6 => ?_) (fun c_6 => ?_)
  · have f_7 : zi_1.toInt = 0 := ic_eq (rfl) (by decide) c_6
    refine lv_ldc2 (v := (-1)) hx hb hown (hts (.constantLong RX10 234 (-1)) (by decide +kernel)) dX10_odds_26 ?_
    subst hQ
    exact W.lret (v := (-1 : Int64)) hx hb hr (fun t ht hW => ⟨⟨(-1 : Int64), (zI, zJ), rfl, ⟨h_zI, (show JX zR zI zx from hj)⟩, ⟨by rw [ht]; exact hP, va_K.moved hW.alike hK, hD⟩⟩, hS.F ht⟩) hS.2.2 dX10_odds_29
  · have f_7 : ¬ (zi_1.toInt = 0) := ic_neq (rfl) (by decide) c_6
    have b9_zia : 0 ≤ zia.toInt ∧ zia.toInt ≤ 1 := by omega
    have b9_zib : 0 ≤ zib.toInt ∧ zib.toInt ≤ 11 := by omega
    refine lv_iload_n hx hb dX10_odds_9 rfl (lv_at hl 3 rfl) ?_
    refine hj0_i (ws := (WL cy zL zT zR zI zJ)) (va_runS (As := [.int zic]) (rest := []) ⟨hx, hb, hml, hown, hts⟩ (c_X10_isYear l dC dI cy H.size zic) (va_cwS 1 hts gX10_odds_X10_isYear rfl rfl rfl (by decide +kernel) ⟨(Nat.le_of_ble_eq_true rfl), (Nat.le_of_ble_eq_true rfl)⟩) (PRE.s (hP.sub [] rfl) hK (hD.sub [] (by decide) rfl) hN) rfl rfl hl.1 rfl (lv_room (Nat.le_of_ble_eq_true rfl)) dX10_odds_10 ⟨(Nat.le_of_ble_eq_true rfl), (Nat.le_of_ble_eq_true rfl)⟩) hP hD hS hA (fun zi_8 u_10 H locs hw_9 hP hD hS => ?_)
    have hw_9 : zi_8 = if 0 ≤ zic.toInt ∧ zic.toInt ≤ 23 then 1 else 0 := hw_9
    have b_zi_8 : 0 ≤ zi_8.toInt ∧ zi_8.toInt ≤ 1 := bz_b hw_9
    refine lv_if_eq (tgt := 26) hx hb dX10_odds_13 (by decide) (fun c_11 => ?_) (fun c_11 => ?_)
    · have f_12 : ¬ (0 ≤ zic.toInt ∧ zic.toInt ≤ 23) := bz_0 hw_9 c_11
      refine lv_ldc2 (v := (-1)) hx hb hown (hts (.constantLong RX10 234 (-1)) (by decide +kernel)) dX10_odds_26 ?_
      subst hQ
      exact W.lret (v := (-1 : Int64)) hx hb hr (fun t ht hW => ⟨⟨(-1 : Int64), (zI, zJ), rfl, ⟨h_zI, (show JX zR zI zx from hj)⟩, ⟨by rw [ht]; exact hP, va_K.moved hW.alike hK, hD⟩⟩, hS.F ht⟩) hS.2.2 dX10_odds_29
    · have f_12 : 0 ≤ zic.toInt ∧ zic.toInt ≤ 23 := bz_1 hw_9 c_11
      refine lv_iload hx hb dX10_odds_16 (lv_at hl 4 rfl) ?_
      refine lv_iconst (v := 0) hx hb dX10_odds_18 (by decide) ?_
      refine lv_iconst (v := 1) hx hb dX10_odds_19 (by decide) ?_
      refine hj0_i (ws := (WL cy zL zT zR zI zJ)) (va_runS (As := [.int zid, .int 0, .int 1]) (rest := []) ⟨hx, hb, hml, hown, hts⟩ (c_X10_isWithin l dC dI cy H.size zid 0 1 0 1 (by first | rfl | decide | omega | exact Int32.toInt_toInt64 _) (by first | rfl | decide | omega | exact Int32.toInt_toInt64 _)) (va_cwS 3 hts gX10_odds_X10_isWithin rfl rfl rfl (by decide +kernel) ⟨(Nat.le_of_ble_eq_true rfl), (Nat.le_of_ble_eq_true rfl)⟩) (PRE.s (hP.sub [] rfl) hK (hD.sub [] (by decide) rfl) hN) rfl rfl hl.1 rfl (lv_room (Nat.le_of_ble_eq_true rfl)) dX10_odds_20 ⟨(Nat.le_of_ble_eq_true rfl), (Nat.le_of_ble_eq_true rfl)⟩) hP hD hS hA (fun zi_13 u_15 H locs hw_14 hP hD hS => ?_)
      have hw_14 : zi_13 = if 0 ≤ zid.toInt ∧ zid.toInt ≤ 1 then 1 else 0 := hw_14
      have b_zi_13 : 0 ≤ zi_13.toInt ∧ zi_13.toInt ≤ 1 := bz_b hw_14
      refine lv_if_ne (tgt := 30) hx hb dX10_odds_23 (by decide) (fun c_16 => ?_) (fun c_16 => ?_)
      · have f_17 : 0 ≤ zid.toInt ∧ zid.toInt ≤ 1 := bz_1 hw_14 c_16
        refine lv_aload_n hx hb dX10_odds_30 rfl (lv_at hl 0 rfl) ?_
        refine ht_getr (C := RX10) (T := TX10) (N := 10) hx hb hts (by decide +kernel) hown hK hP hs t_zx (by decide) rfl rfl 0 (by decide) (hts (.fieldLink RX10 12 "DripStone" "now" "LDripStone$State;") (by decide +kernel)) (fun _ h9 => h9) rfl dX10_odds_31 ?_
        have t_18 : zT (zR zx 0) = 9 := sk_f hs t_zx (by decide) rfl (by decide)
        refine ht_getr (C := RX8) (T := TX8) (N := 9) hx hb hts (by decide +kernel) hown hK hP hs t_18 (by decide) rfl rfl 2 (by decide) (hts (.fieldLink RX10 147 "DripStone$State" "candles" "[LDripStone$Candle;") (by decide +kernel)) (fun _ h9 => h9) rfl dX10_odds_34 ?_
        have t_19 : zT (zR (zR zx 0) 2) = 61 := sk_f hs t_18 (by decide) rfl (by decide)
        refine lv_iload_n hx hb dX10_odds_37 rfl (lv_at hl 1 rfl) ?_
        refine ht_aald (n := 2) (q := 3) hx hb hK hP hs t_19 (by decide) rfl rfl ⟨by omega, by omega⟩ dX10_odds_38 ?_
        have t_20 : zT (zR (zR (zR zx 0) 2) zia.toNatClampNeg) = 1 := sk_a (n := 2) hs t_19 rfl rfl (by decide) (cl_lt (by omega) (by omega))
        refine lv_iload_n hx hb dX10_odds_39 rfl (lv_at hl 2 rfl) ?_
        refine hj_i (ws := (WL cy zL zT zR zI zJ)) (w1 := fun (u : Unit) => (WL cy zL zT zR zI zJ)) (va_runV (As := [.int zib]) (rest := []) ⟨hx, hb, hml, hown, hts⟩ (t_X0_isPlace l dC dI cy H.size zL zT zR zI zJ (zR (zR (zR zx 0) 2) zia.toNatClampNeg) zib hs h_zI.1 t_20 (by omega)) (cwV 1 hts gX10_odds_X0_isPlace rfl rfl rfl (by decide +kernel) ⟨(Nat.le_of_ble_eq_true rfl), (Nat.le_of_ble_eq_true rfl)⟩) (PRE.v hP hK hD hN (ht_recv hK hP hs t_20 (by decide) rfl rfl)) rfl rfl hl.1 rfl (lv_room (Nat.le_of_ble_eq_true rfl)) dX10_odds_40 ⟨(Nat.le_of_ble_eq_true rfl), (Nat.le_of_ble_eq_true rfl)⟩) hP hD hS hA (fun zi_21 u_23 H locs hw_22 hP hD hS => ?_)
        obtain ⟨b_zi_21, ps_24⟩ : (0 ≤ zi_21.toInt ∧ zi_21.toInt ≤ 1) ∧ ((zi_21.toInt = 0 ∧ (zI (zR (zR (zR (zR zx 0) 2) zia.toNatClampNeg) 0) zib.toNatClampNeg).toInt = 2) ∨ (zi_21.toInt = 1 ∧ ¬ (zI (zR (zR (zR (zR zx 0) 2) zia.toNatClampNeg) 0) zib.toNatClampNeg).toInt = 2)) := hw_22
        refine lv_if_ne (tgt := 50) hx hb dX10_odds_43 (by decide) (fun c_25 => ?_) (fun c_25 => ?_)
        · have f_26 : zi_21.toInt ≠ 0 := ic_ne (rfl) (by decide) c_25
          refine lv_aload_n hx hb dX10_odds_50 rfl (lv_at hl 0 rfl) ?_
          refine lv_iload_n hx hb dX10_odds_51 rfl (lv_at hl 1 rfl) ?_
          refine hj_r (ws := (WL cy zL zT zR zI zJ)) (w1 := fun (u : (Nat → Nat → Int32) × (Nat → Nat → Int64)) => (WL cy zL zT zR u.1 u.2)) (va_runV (As := [.int zia]) (rest := []) ⟨hx, hb, hml, hown, hts⟩ (t_X10_lineOf l dC dI cy H.size zL zT zR zI zJ zx zia hs h_zI.1 t_zx (by omega) (by omega)) (cwV 1 hts gX10_odds_X10_lineOf rfl rfl rfl (by decide +kernel) ⟨(Nat.le_of_ble_eq_true rfl), (Nat.le_of_ble_eq_true rfl)⟩) (PRE.v hP hK hD hN (ht_recv hK hP hs t_zx (by decide) rfl rfl)) rfl rfl hl.1 rfl (lv_room (Nat.le_of_ble_eq_true rfl)) dX10_odds_52 ⟨(Nat.le_of_ble_eq_true rfl), (Nat.le_of_ble_eq_true rfl)⟩) hP hD hS hA (fun zi_27 u_29 H locs hw_28 hr0 hP hD hS => ?_)
          obtain ⟨zI_30, zJ_31⟩ := u_29
          obtain ⟨k_zI_30, ps_32, ps_33⟩ : (WM [1013, 1014, 3700, 3800, 3900, 4000, 4200, 4700] AL zT zR zI zI_30) ∧ (JX zR zI_30 zx) ∧ (LW zR zI_30 (zR (zR zx 6) zia.toNatClampNeg) (zR (zR (zR zx 0) 2) zia.toNatClampNeg)) := hw_28
          have h_zI_30 : WM [1013, 1014, 3700, 3800, 3900, 4000, 4200, 4700] AL zT zR zI zI_30 := h_zI.tr k_zI_30 (by decide) (fun _ _ => trivial)
          subst hr0
          have t_34 : zT (zR zx 6) = 64 := sk_f hs t_zx (by decide) rfl (by decide)
          have t_35 : zT (zR (zR zx 6) zia.toNatClampNeg) = 10 := sk_a (n := 2) hs t_34 rfl rfl (by decide) (cl_lt (by omega) (by omega))
          refine lv_astore (lv' := [(5, .ref (zR (zR zx 6) zia.toNatClampNeg)), (0, .ref zx), (1, .int zia), (2, .int zib), (3, .int zic), (4, .int zid)]) hx hb dX10_odds_55 hl (by decide) rfl (fun ls hl => ?_)
          refine lv_aload hx hb dX10_odds_57 (lv_at hl 0 rfl) ?_
          refine lv_aload hx hb dX10_odds_59 (lv_at hl 0 rfl) ?_
          refine ht_getr (C := RX9) (T := TX9) (N := 16) hx hb hts (by decide +kernel) hown hK hP hs t_35 (by decide) rfl rfl 1 (by decide) (hts (.fieldLink RX10 246 "DripStone$Ways" "placeOf" "[I") (by decide +kernel)) (fun _ h9 => h9) rfl dX10_odds_61 ?_
          have t_36 : zT (zR (zR (zR zx 6) zia.toNatClampNeg) 1) = 38 := sk_f hs t_35 (by decide) rfl (by decide)
          refine lv_iload_n hx hb dX10_odds_64 rfl (lv_at hl 3 rfl) ?_
          refine ht_iald (n := 12) (q := 0) hx hb hK hP hs t_36 (by decide) rfl rfl ⟨by omega, by omega⟩ dX10_odds_65 ?_
          refine lv_topi (fun zi_37 ezi_37 => ?_)
          have tzi_37 : 0 ≤ zi_37.toInt ∧ zi_37.toInt ≤ 11 := by rw [ezi_37]; exact h_zI_30.at t_36 _ rfl
          refine lv_iload_n hx hb dX10_odds_66 rfl (lv_at hl 4 rfl) ?_
          refine hj_l (ws := (WL cy zL zT zR zI_30 zJ_31)) (w1 := fun (u : Unit) => (WL cy zL zT zR zI_30 zJ_31)) (va_runV (As := [.int zi_37, .int zic]) (rest := []) ⟨hx, hb, hml, hown, hts⟩ (t_X9_tally l dC dI cy H.size zL zT zR zI_30 zJ_31 (zR (zR zx 6) zia.toNatClampNeg) zi_37 zic hs h_zI_30.1 t_35 (by omega) (by omega)) (cwV 2 hts gX10_odds_X9_tally rfl rfl rfl (by decide +kernel) ⟨(Nat.le_of_ble_eq_true rfl), (Nat.le_of_ble_eq_true rfl)⟩) (PRE.v hP hK hD hN (ht_recv hK hP hs t_35 (by decide) rfl rfl)) rfl rfl hl.1 rfl (lv_room (Nat.le_of_ble_eq_true rfl)) dX10_odds_67 ⟨(Nat.le_of_ble_eq_true rfl), (Nat.le_of_ble_eq_true rfl)⟩) hP hD hS hA (fun zj_38 u_40 H locs hw_39 hP hD hS => ?_)
          refine lv_aload hx hb dX10_odds_70 (lv_at hl 0 rfl) ?_
          refine ht_getl (C := RX9) (T := TX9) (N := 16) hx hb hts (by decide +kernel) hown hK hP hs t_35 (by decide) rfl rfl 15 (by decide) (hts (.fieldLink RX10 242 "DripStone$Ways" "total" "J") (by decide +kernel)) (fun _ h9 => h9) rfl dX10_odds_72 ?_
          refine lv_topl (fun zj_41 ezj_41 => ?_)
          refine lv_iload hx hb dX10_odds_75 (lv_at hl 5 rfl) ?_
          refine hj0_l (ws := (WL cy zL zT zR zI_30 zJ_31)) (va_runS (As := [.long zj_38, .long zj_41, .int zid]) (rest := []) ⟨hx, hb, hml, hown, hts⟩ (c_X10_oddsPart l dC dI cy H.size zj_38 zj_41 zid) (va_cwS 3 hts gX10_odds_X10_oddsPart rfl rfl rfl (by decide +kernel) ⟨(Nat.le_of_ble_eq_true rfl), (Nat.le_of_ble_eq_true rfl)⟩) (PRE.s (hP.sub [] rfl) hK (hD.sub [] (by decide) rfl) hN) rfl rfl hl.1 rfl (lv_room (Nat.le_of_ble_eq_true rfl)) dX10_odds_77 ⟨(Nat.le_of_ble_eq_true rfl), (Nat.le_of_ble_eq_true rfl)⟩) hP hD hS hA (fun zj_42 u_44 H locs hw_43 hP hD hS => ?_)
          subst hQ
          exact W.lret (v := zj_42) hx hb hr (fun t ht hW => ⟨⟨zj_42, (zI_30, zJ_31), rfl, ⟨h_zI_30, (show JX zR zI_30 zx from ps_32)⟩, ⟨by rw [ht]; exact hP, va_K.moved hW.alike hK, hD⟩⟩, hS.F ht⟩) hS.2.2 dX10_odds_80
        · have f_26 : ¬ (zi_21.toInt ≠ 0) := ic_nne (rfl) (by decide) c_25
          refine lv_ldc2 (v := (-12)) hx hb hown (hts (.constantLong RX10 252 (-12)) (by decide +kernel)) dX10_odds_46 ?_
          subst hQ
          exact W.lret (v := (-12 : Int64)) hx hb hr (fun t ht hW => ⟨⟨(-12 : Int64), (zI, zJ), rfl, ⟨h_zI, (show JX zR zI zx from hj)⟩, ⟨by rw [ht]; exact hP, va_K.moved hW.alike hK, hD⟩⟩, hS.F ht⟩) hS.2.2 dX10_odds_49
      · have f_17 : ¬ (0 ≤ zid.toInt ∧ zid.toInt ≤ 1) := bz_0 hw_14 c_16
        refine lv_ldc2 (v := (-1)) hx hb hown (hts (.constantLong RX10 234 (-1)) (by decide +kernel)) dX10_odds_26 ?_
        subst hQ
        exact W.lret (v := (-1 : Int64)) hx hb hr (fun t ht hW => ⟨⟨(-1 : Int64), (zI, zJ), rfl, ⟨h_zI, (show JX zR zI zx from hj)⟩, ⟨by rw [ht]; exact hP, va_K.moved hW.alike hK, hD⟩⟩, hS.F ht⟩) hS.2.2 dX10_odds_29
set_option maxHeartbeats 8000000 in
set_option maxRecDepth 100000 in
theorem t_X10_next (l : Launch) (dC : Nat → ClassId) (dI : Nat → Nat → Nat) (cy : Nat → ClassId) (sz : Nat) (zL : List Nat) (zT : Nat → Nat) (zR : Nat → Nat → Nat) (zI : Nat → Nat → Int32) (zJ : Nat → Nat → Int64) (zx : Nat) (zia : Int32) (zib : Int32) (hs : SKP zL zT zR) (hw : WT zT zR zI) (t_zx : zT zx = 11) (hj : JX zR zI zx) : Met l yX10_next wsX10_next ({ frames := 5, cells := 0, slots := 0, locals := 126 } : Room) (va_Pc [.ref zx, .int zia, .int zib] (PRE dC dI cy (WL cy zL zT zR zI zJ) sz)) (va_Ql (fun (r : Int64) (u : (Nat → Nat → Int32) × (Nat → Nat → Int64)) => (WM [1013, 1014, 3700, 3800, 3900, 4000, 4200, 4700] AL zT zR zI u.1) ∧ (JX zR u.1 zx)) (fun u t => POST dC dI cy (va_A (WL cy zL zT zR zI zJ) sz) (WL cy zL zT zR u.1 u.2) t) (va_A (WL cy zL zT zR zI zJ) sz)) 0 0 (va_A (WL cy zL zT zR zI zJ) sz) := by
  refine Met.ofW (cc := cX10_next) (maxL := 6) (ret := (some .long)) (by decide) rfl ?_
  intro p e s m args below meth c s₁ B hml hv
  obtain ⟨rfl, hsz, hP, hK, hD0, hN⟩ := hv
  have hx := B.exec
  have hb := B.bytes
  have hr := B.returns
  have hts := atoms_spec (ws := wsX10_next) B.pre
  have hown : s.vm.findClass RX10 = some m.cls := findClass_of_methodNamed B.named
  have hlocks := B.notSynchronized
  subst hsz
  have hD := hD0.self (sz := s.heap.size)
  generalize hAe : va_A (WL cy zL zT zR zI zJ) s.heap.size = A at hD ⊢
  have hA : ∀ q : Nat, s.heap.size ≤ q → A q := fun q h => by rw [← hAe]; exact Or.inr h
  have hS : va_S A s.heap s.heap [] := va_S.rf
  have hP : va_P (dC, dI) vwCl (WL cy zL zT zR zI zJ) s.heap := hP
  have hl := lv_entry ([.ref zx, .int zia, .int zib] : List Value) (n := 6) (Nat.le_of_ble_eq_true rfl)
  rw [lg_entry_eq]
  generalize (lg_sl ([.ref zx, .int zia, .int zib] : List Value) ++ List.replicate (6 - (lg_sl ([.ref zx, .int zia, .int zib] : List Value)).length) Slot.unset).toArray = ls at hl ⊢
  have hl : lv_has ls 6 [(0, .ref zx), (1, .int zia), (2, .int zib)] := hl
  refine w_q (fun Q hQ => ?_)
  have h_zI : WM [1013, 1014, 3700, 3800, 3900, 4000, 4200, 4700] AL zT zR zI zI := WM.rf hw
  refine lv_iload_n hx hb dX10_next_0 rfl (lv_at hl 1 rfl) ?_
  refine hj0_i (ws := (WL cy zL zT zR zI zJ)) (va_runS (As := [.int zia]) (rest := []) ⟨hx, hb, hml, hown, hts⟩ (c_X10_isCandle l dC dI cy s.heap.size zia) (va_cwS 1 hts gX10_next_X10_isCandle rfl rfl rfl (by decide +kernel) ⟨(Nat.le_of_ble_eq_true rfl), (Nat.le_of_ble_eq_true rfl)⟩) (PRE.s (hP.sub [] rfl) hK (hD.sub [] (by decide) rfl) hN) rfl rfl hl.1 rfl (lv_room (Nat.le_of_ble_eq_true rfl)) dX10_next_1 ⟨(Nat.le_of_ble_eq_true rfl), (Nat.le_of_ble_eq_true rfl)⟩) hP hD hS hA (fun zi_1 u_3 H locs hw_2 hP hD hS => ?_)
  have hw_2 : zi_1 = if 0 ≤ zia.toInt ∧ zia.toInt ≤ 1 then 1 else 0 := hw_2
  have b_zi_1 : 0 ≤ zi_1.toInt ∧ zi_1.toInt ≤ 1 := bz_b hw_2
  refine lv_if_eq (tgt := 16) hx hb dX10_next_4 (by decide) (fun c_4 => ?_) (fun c_4 => ?_)
  · have f_5 : ¬ (0 ≤ zia.toInt ∧ zia.toInt ≤ 1) := bz_0 hw_2 c_4
    refine lv_ldc2 (v := (-1)) hx hb hown (hts (.constantLong RX10 234 (-1)) (by decide +kernel)) dX10_next_16 ?_
    subst hQ
    exact W.lret (v := (-1 : Int64)) hx hb hr (fun t ht hW => ⟨⟨(-1 : Int64), (zI, zJ), rfl, ⟨h_zI, (show JX zR zI zx from hj)⟩, ⟨by rw [ht]; exact hP, va_K.moved hW.alike hK, hD⟩⟩, hS.F ht⟩) hS.2.2 dX10_next_19
  · have f_5 : 0 ≤ zia.toInt ∧ zia.toInt ≤ 1 := bz_1 hw_2 c_4
    refine lv_iload_n hx hb dX10_next_7 rfl (lv_at hl 2 rfl) ?_
    refine lv_iconst (v := 0) hx hb dX10_next_8 (by decide) ?_
    refine lv_iconst (v := 1) hx hb dX10_next_9 (by decide) ?_
    refine hj0_i (ws := (WL cy zL zT zR zI zJ)) (va_runS (As := [.int zib, .int 0, .int 1]) (rest := []) ⟨hx, hb, hml, hown, hts⟩ (c_X10_isWithin l dC dI cy H.size zib 0 1 0 1 (by first | rfl | decide | omega | exact Int32.toInt_toInt64 _) (by first | rfl | decide | omega | exact Int32.toInt_toInt64 _)) (va_cwS 3 hts gX10_next_X10_isWithin rfl rfl rfl (by decide +kernel) ⟨(Nat.le_of_ble_eq_true rfl), (Nat.le_of_ble_eq_true rfl)⟩) (PRE.s (hP.sub [] rfl) hK (hD.sub [] (by decide) rfl) hN) rfl rfl hl.1 rfl (lv_room (Nat.le_of_ble_eq_true rfl)) dX10_next_10 ⟨(Nat.le_of_ble_eq_true rfl), (Nat.le_of_ble_eq_true rfl)⟩) hP hD hS hA (fun zi_6 u_8 H locs hw_7 hP hD hS => ?_)
    have hw_7 : zi_6 = if 0 ≤ zib.toInt ∧ zib.toInt ≤ 1 then 1 else 0 := hw_7
    have b_zi_6 : 0 ≤ zi_6.toInt ∧ zi_6.toInt ≤ 1 := bz_b hw_7
    refine lv_if_ne (tgt := 20) hx hb dX10_next_13 (by decide) (fun c_9 => ?_) (fun c_9 => ?_)
    · have f_10 : 0 ≤ zib.toInt ∧ zib.toInt ≤ 1 := bz_1 hw_7 c_9
      refine lv_aload_n hx hb dX10_next_20 rfl (lv_at hl 0 rfl) ?_
      refine ht_getr (C := RX10) (T := TX10) (N := 10) hx hb hts (by decide +kernel) hown hK hP hs t_zx (by decide) rfl rfl 0 (by decide) (hts (.fieldLink RX10 12 "DripStone" "now" "LDripStone$State;") (by decide +kernel)) (fun _ h9 => h9) rfl dX10_next_21 ?_
      have t_11 : zT (zR zx 0) = 9 := sk_f hs t_zx (by decide) rfl (by decide)
      refine ht_getr (C := RX8) (T := TX8) (N := 9) hx hb hts (by decide +kernel) hown hK hP hs t_11 (by decide) rfl rfl 2 (by decide) (hts (.fieldLink RX10 147 "DripStone$State" "candles" "[LDripStone$Candle;") (by decide +kernel)) (fun _ h9 => h9) rfl dX10_next_24 ?_
      have t_12 : zT (zR (zR zx 0) 2) = 61 := sk_f hs t_11 (by decide) rfl (by decide)
      refine lv_iload_n hx hb dX10_next_27 rfl (lv_at hl 1 rfl) ?_
      refine ht_aald (n := 2) (q := 3) hx hb hK hP hs t_12 (by decide) rfl rfl ⟨by omega, by omega⟩ dX10_next_28 ?_
      have t_13 : zT (zR (zR (zR zx 0) 2) zia.toNatClampNeg) = 1 := sk_a (n := 2) hs t_12 rfl rfl (by decide) (cl_lt (by omega) (by omega))
      refine hj_i (ws := (WL cy zL zT zR zI zJ)) (w1 := fun (u : Unit) => (WL cy zL zT zR zI zJ)) (va_runV (As := []) (rest := []) ⟨hx, hb, hml, hown, hts⟩ (t_X0_places l dC dI cy H.size zL zT zR zI zJ (zR (zR (zR zx 0) 2) zia.toNatClampNeg) hs h_zI.1 t_13) (cwV 0 hts gX10_next_X0_places rfl rfl rfl (by decide +kernel) ⟨(Nat.le_of_ble_eq_true rfl), (Nat.le_of_ble_eq_true rfl)⟩) (PRE.v hP hK hD hN (ht_recv hK hP hs t_13 (by decide) rfl rfl)) rfl rfl hl.1 rfl (lv_room (Nat.le_of_ble_eq_true rfl)) dX10_next_29 ⟨(Nat.le_of_ble_eq_true rfl), (Nat.le_of_ble_eq_true rfl)⟩) hP hD hS hA (fun zi_14 u_16 H locs hw_15 hP hD hS => ?_)
      obtain ⟨b_zi_14, ps_17⟩ : (0 ≤ zi_14.toInt ∧ zi_14.toInt ≤ 12) ∧ (zi_14.toInt = PL (zI (zR (zR (zR (zR zx 0) 2) zia.toNatClampNeg) 0)) ((zI (zR (zR (zR zx 0) 2) zia.toNatClampNeg) 7).toInt).toNat) := hw_15
      obtain ⟨zi_18, ezi_18⟩ : ∃ y : Int32, y = zI (zR (zR (zR zx 0) 2) zia.toNatClampNeg) 7 := ⟨_, rfl⟩
      have tzi_18 : 0 ≤ zi_18.toInt ∧ zi_18.toInt ≤ 12 := by rw [ezi_18]; exact h_zI.at t_13 _ rfl
      have lk_19 : (zI (zR (zR (zR zx 0) 2) zia.toNatClampNeg) 7).toInt = zi_18.toInt := congrArg Int32.toInt ezi_18.symm
      refine lv_if_ne (tgt := 39) hx hb dX10_next_32 (by decide) (fun c_20 => ?_) (fun c_20 => ?_)
      · have f_21 : zi_14.toInt ≠ 0 := ic_ne (rfl) (by decide) c_20
        refine lv_aload_n hx hb dX10_next_39 rfl (lv_at hl 0 rfl) ?_
        refine lv_iload_n hx hb dX10_next_40 rfl (lv_at hl 1 rfl) ?_
        refine hj_r (ws := (WL cy zL zT zR zI zJ)) (w1 := fun (u : (Nat → Nat → Int32) × (Nat → Nat → Int64)) => (WL cy zL zT zR u.1 u.2)) (va_runV (As := [.int zia]) (rest := []) ⟨hx, hb, hml, hown, hts⟩ (t_X10_lineOf l dC dI cy H.size zL zT zR zI zJ zx zia hs h_zI.1 t_zx (by omega) (by omega)) (cwV 1 hts gX10_next_X10_lineOf rfl rfl rfl (by decide +kernel) ⟨(Nat.le_of_ble_eq_true rfl), (Nat.le_of_ble_eq_true rfl)⟩) (PRE.v hP hK hD hN (ht_recv hK hP hs t_zx (by decide) rfl rfl)) rfl rfl hl.1 rfl (lv_room (Nat.le_of_ble_eq_true rfl)) dX10_next_41 ⟨(Nat.le_of_ble_eq_true rfl), (Nat.le_of_ble_eq_true rfl)⟩) hP hD hS hA (fun zi_22 u_24 H locs hw_23 hr0 hP hD hS => ?_)
        obtain ⟨zI_25, zJ_26⟩ := u_24
        obtain ⟨k_zI_25, ps_27, ps_28⟩ : (WM [1013, 1014, 3700, 3800, 3900, 4000, 4200, 4700] AL zT zR zI zI_25) ∧ (JX zR zI_25 zx) ∧ (LW zR zI_25 (zR (zR zx 6) zia.toNatClampNeg) (zR (zR (zR zx 0) 2) zia.toNatClampNeg)) := hw_23
        have h_zI_25 : WM [1013, 1014, 3700, 3800, 3900, 4000, 4200, 4700] AL zT zR zI zI_25 := h_zI.tr k_zI_25 (by decide) (fun _ _ => trivial)
        subst hr0
        have t_29 : zT (zR zx 6) = 64 := sk_f hs t_zx (by decide) rfl (by decide)
        have t_30 : zT (zR (zR zx 6) zia.toNatClampNeg) = 10 := sk_a (n := 2) hs t_29 rfl rfl (by decide) (cl_lt (by omega) (by omega))
        refine lv_astore_n (lv' := [(3, .ref (zR (zR zx 6) zia.toNatClampNeg)), (0, .ref zx), (1, .int zia), (2, .int zib)]) hx hb dX10_next_44 rfl hl (by decide) rfl (fun ls hl => ?_)
        refine lv_aload_n hx hb dX10_next_45 rfl (lv_at hl 0 rfl) ?_
        refine ht_getl (C := RX9) (T := TX9) (N := 16) hx hb hts (by decide +kernel) hown hK hP hs t_30 (by decide) rfl rfl 15 (by decide) (hts (.fieldLink RX10 242 "DripStone$Ways" "total" "J") (by decide +kernel)) (fun _ h9 => h9) rfl dX10_next_46 ?_
        refine lv_topl (fun zj_31 ezj_31 => ?_)
        refine lv_lconst (v := 0) hx hb dX10_next_49 (by decide) ?_
        refine W.lcmp hx hb dX10_next_50 ?_
        refine lv_topi (fun zi_32 ezi_32 => ?_)
        refine lv_if_ne (tgt := 58) hx hb dX10_next_51 (by decide) (fun c_33 => ?_) (fun c_33 => ?_)
        · have f_34 : ¬ (zj_31.toInt = (0 : Int)) := lk_ne ezi_32 (rfl) (show (0 : Int64).toInt = 0 by decide) c_33
          refine lv_iconst (v := 0) hx hb dX10_next_58 (by decide) ?_
          refine lv_istore (lv' := [(4, .int 0), (3, .ref (zR (zR zx 6) zia.toNatClampNeg)), (0, .ref zx), (1, .int zia), (2, .int zib)]) hx hb dX10_next_59 hl (by decide) rfl (fun ls hl => ?_)
          refine lv_iconst (v := 1) hx hb dX10_next_61 (by decide) ?_
          refine lv_istore (lv' := [(5, .int 1), (4, .int 0), (3, .ref (zR (zR zx 6) zia.toNatClampNeg)), (0, .ref zx), (1, .int zia), (2, .int zib)]) hx hb dX10_next_62 hl (by decide) rfl (fun ls hl => ?_)
          have lp_205 : ∀ (n : Nat) (zi_189 : Int32) (zi_190 : Int32) (H : Heap) (locs : List Loc) (ls : Array Slot), (12 - zi_190.toInt).toNat = n → (0 ≤ zi_189.toInt ∧ zi_189.toInt ≤ 11) → (1 ≤ zi_190.toInt ∧ zi_190.toInt ≤ 12) → (JX zR zI_25 zx) → va_P (dC, dI) vwCl (WL cy zL zT zR zI_25 zJ_26) H → va_D A (WL cy zL zT zR zI_25 zJ_26) → va_S A s.heap H locs → lv_has ls 6 [(0, .ref zx), (1, .int zia), (2, .int zib), (3, .ref (zR (zR zx 6) zia.toNatClampNeg)), (4, .int zi_189), (5, .int zi_190)] → W p l e ({ frames := 5, cells := 0, slots := 0, locals := 126 } : Room) s m ([.ref zx, .int zia, .int zib] : List Value).toArray below meth c H locs 0 0 Q (F0 m 64 ls []) := by
            intro n
            induction n using Nat.strongRecOn with
            | _ n ih_205 =>
              intro zi_189 zi_190 H locs ls hn b_zi_189 b_zi_190 e_lp_205_0 hP hD hS hl
              refine lv_iload hx hb dX10_next_64 (lv_at hl 5 rfl) ?_
              refine lv_aload_n hx hb dX10_next_66 rfl (lv_at hl 3 rfl) ?_
              refine ht_geti (C := RX9) (T := TX9) (N := 16) hx hb hts (by decide +kernel) hown hK hP hs t_30 (by decide) rfl rfl 14 (by decide) (hts (.fieldLink RX10 278 "DripStone$Ways" "places" "I") (by decide +kernel)) (fun _ h9 => h9) rfl dX10_next_67 ?_
              refine lv_topi (fun zi_206 ezi_206 => ?_)
              have tzi_206 : 0 ≤ zi_206.toInt ∧ zi_206.toInt ≤ 12 := by rw [ezi_206]; exact h_zI_25.at t_30 _ rfl
              refine lv_icmp_ge (tgt := 99) hx hb dX10_next_70 (by decide) (fun c_207 => ?_) (fun c_207 => ?_)
              · have f_208 : zi_190.toInt ≥ zi_206.toInt := ic_ge (rfl) (rfl) c_207
                refine lv_iload_n hx hb dX10_next_99 rfl (lv_at hl 2 rfl) ?_
                refine lv_if_ne (tgt := 114) hx hb dX10_next_100 (by decide) (fun c_209 => ?_) (fun c_209 => ?_)
                · have f_210 : zib.toInt ≠ 0 := ic_ne (rfl) (by decide) c_209
                  refine lv_aload_n hx hb dX10_next_114 rfl (lv_at hl 3 rfl) ?_
                  refine lv_iload hx hb dX10_next_115 (lv_at hl 4 rfl) ?_
                  refine hj_l (ws := (WL cy zL zT zR zI_25 zJ_26)) (w1 := fun (u : Unit) => (WL cy zL zT zR zI_25 zJ_26)) (va_runV (As := [.int zi_189]) (rest := []) ⟨hx, hb, hml, hown, hts⟩ (t_X9_worst l dC dI cy H.size zL zT zR zI_25 zJ_26 (zR (zR zx 6) zia.toNatClampNeg) zi_189 hs h_zI_25.1 t_30 (by omega)) (cwV 1 hts gX10_next_X9_worst rfl rfl rfl (by decide +kernel) ⟨(Nat.le_of_ble_eq_true rfl), (Nat.le_of_ble_eq_true rfl)⟩) (PRE.v hP hK hD hN (ht_recv hK hP hs t_30 (by decide) rfl rfl)) rfl rfl hl.1 rfl (lv_room (Nat.le_of_ble_eq_true rfl)) dX10_next_117 ⟨(Nat.le_of_ble_eq_true rfl), (Nat.le_of_ble_eq_true rfl)⟩) hP hD hS hA (fun zj_211 u_213 H locs hw_212 hP hD hS => ?_)
                  subst hQ
                  exact W.lret (v := zj_211) hx hb hr (fun t ht hW => ⟨⟨zj_211, (zI_25, zJ_26), rfl, ⟨h_zI_25, (show JX zR zI_25 zx from e_lp_205_0)⟩, ⟨by rw [ht]; exact hP, va_K.moved hW.alike hK, hD⟩⟩, hS.F ht⟩) hS.2.2 dX10_next_120
                · have f_210 : ¬ (zib.toInt ≠ 0) := ic_nne (rfl) (by decide) c_209
                  refine lv_aload_n hx hb dX10_next_103 rfl (lv_at hl 3 rfl) ?_
                  refine ht_getr (C := RX9) (T := TX9) (N := 16) hx hb hts (by decide +kernel) hown hK hP hs t_30 (by decide) rfl rfl 0 (by decide) (hts (.fieldLink RX10 284 "DripStone$Ways" "things" "[I") (by decide +kernel)) (fun _ h9 => h9) rfl dX10_next_104 ?_
                  have t_214 : zT (zR (zR (zR zx 6) zia.toNatClampNeg) 0) = 37 := sk_f hs t_30 (by decide) rfl (by decide)
                  refine lv_iload hx hb dX10_next_107 (lv_at hl 4 rfl) ?_
                  refine ht_iald (n := 12) (q := 0) hx hb hK hP hs t_214 (by decide) rfl rfl ⟨by omega, by omega⟩ dX10_next_109 ?_
                  refine lv_topi (fun zi_215 ezi_215 => ?_)
                  have tzi_215 : 0 ≤ zi_215.toInt ∧ zi_215.toInt ≤ 11 := by rw [ezi_215]; exact h_zI_25.at t_214 _ rfl
                  refine lv_i2l (v := zi_215.toInt64) hx hb dX10_next_110 rfl ?_
                  refine lv_topl (fun zj_216 ezj_216 => ?_)
                  have tzj_216 : zj_216.toInt = zi_215.toInt := by rw [ezj_216]; exact Int32.toInt_toInt64 _
                  refine lv_goto (tgt := 120) hx hb dX10_next_111 (by decide) ?_
                  subst hQ
                  exact W.lret (v := zj_216) hx hb hr (fun t ht hW => ⟨⟨zj_216, (zI_25, zJ_26), rfl, ⟨h_zI_25, (show JX zR zI_25 zx from e_lp_205_0)⟩, ⟨by rw [ht]; exact hP, va_K.moved hW.alike hK, hD⟩⟩, hS.F ht⟩) hS.2.2 dX10_next_120
              · have f_208 : ¬ (zi_190.toInt ≥ zi_206.toInt) := ic_nge (rfl) (rfl) c_207
                refine lv_aload_n hx hb dX10_next_73 rfl (lv_at hl 3 rfl) ?_
                refine lv_iload hx hb dX10_next_74 (lv_at hl 5 rfl) ?_
                refine hj_l (ws := (WL cy zL zT zR zI_25 zJ_26)) (w1 := fun (u : Unit) => (WL cy zL zT zR zI_25 zJ_26)) (va_runV (As := [.int zi_190]) (rest := []) ⟨hx, hb, hml, hown, hts⟩ (t_X9_worst l dC dI cy H.size zL zT zR zI_25 zJ_26 (zR (zR zx 6) zia.toNatClampNeg) zi_190 hs h_zI_25.1 t_30 (by omega)) (cwV 1 hts gX10_next_X9_worst rfl rfl rfl (by decide +kernel) ⟨(Nat.le_of_ble_eq_true rfl), (Nat.le_of_ble_eq_true rfl)⟩) (PRE.v hP hK hD hN (ht_recv hK hP hs t_30 (by decide) rfl rfl)) rfl rfl hl.1 rfl (lv_room (Nat.le_of_ble_eq_true rfl)) dX10_next_76 ⟨(Nat.le_of_ble_eq_true rfl), (Nat.le_of_ble_eq_true rfl)⟩) hP hD hS hA (fun zj_217 u_219 H locs hw_218 hP hD hS => ?_)
                refine lv_aload_n hx hb dX10_next_79 rfl (lv_at hl 3 rfl) ?_
                refine lv_iload hx hb dX10_next_80 (lv_at hl 4 rfl) ?_
                refine hj_l (ws := (WL cy zL zT zR zI_25 zJ_26)) (w1 := fun (u : Unit) => (WL cy zL zT zR zI_25 zJ_26)) (va_runV (As := [.int zi_189]) (rest := [.long zj_217]) ⟨hx, hb, hml, hown, hts⟩ (t_X9_worst l dC dI cy H.size zL zT zR zI_25 zJ_26 (zR (zR zx 6) zia.toNatClampNeg) zi_189 hs h_zI_25.1 t_30 (by omega)) (cwV 1 hts gX10_next_X9_worst rfl rfl rfl (by decide +kernel) ⟨(Nat.le_of_ble_eq_true rfl), (Nat.le_of_ble_eq_true rfl)⟩) (PRE.v hP hK hD hN (ht_recv hK hP hs t_30 (by decide) rfl rfl)) rfl rfl hl.1 rfl (lv_room (Nat.le_of_ble_eq_true rfl)) dX10_next_82 ⟨(Nat.le_of_ble_eq_true rfl), (Nat.le_of_ble_eq_true rfl)⟩) hP hD hS hA (fun zj_220 u_222 H locs hw_221 hP hD hS => ?_)
                refine W.lcmp hx hb dX10_next_85 ?_
                refine lv_topi (fun zi_223 ezi_223 => ?_)
                refine lv_if_ge (tgt := 93) hx hb dX10_next_86 (by decide) (fun c_224 => ?_) (fun c_224 => ?_)
                · have f_225 : ¬ (zj_217.toInt < zj_220.toInt) := lk_ge ezi_223 (rfl) (rfl) c_224
                  obtain ⟨zi_226, ezi_226⟩ : ∃ y : Int32, y = zi_190 + 1 := ⟨_, rfl⟩
                  have tzi_226 : zi_226.toInt = zi_190.toInt + 1 := by rw [ezi_226]; exact tadd rfl (show (1 : Int32).toInt = 1 by decide) (by omega) (by omega)
                  refine lv_iinc (v := zi_226) (lv' := [(5, .int zi_226), (0, .ref zx), (1, .int zia), (2, .int zib), (3, .ref (zR (zR zx 6) zia.toNatClampNeg)), (4, .int zi_189)]) hx hb dX10_next_93 hl (k := 5) rfl (by rw [ezi_226]; rfl) (by decide) rfl (fun ls hl => ?_)
                  refine lv_goto (tgt := 64) hx hb dX10_next_96 (by decide) ?_
                  exact ih_205 (12 - zi_226.toInt).toNat (by omega) zi_189 zi_226 _ _ _ rfl (by omega) (by omega) e_lp_205_0 hP hD hS (lv_sub hl [1, 2, 3, 4, 5, 0] rfl)
                · have f_225 : zj_217.toInt < zj_220.toInt := lk_nge ezi_223 (rfl) (rfl) c_224
                  refine lv_iload hx hb dX10_next_89 (lv_at hl 5 rfl) ?_
                  refine lv_istore (lv' := [(4, .int zi_190), (0, .ref zx), (1, .int zia), (2, .int zib), (3, .ref (zR (zR zx 6) zia.toNatClampNeg)), (5, .int zi_190)]) hx hb dX10_next_91 hl (by decide) rfl (fun ls hl => ?_)
                  obtain ⟨zi_227, ezi_227⟩ : ∃ y : Int32, y = zi_190 + 1 := ⟨_, rfl⟩
                  have tzi_227 : zi_227.toInt = zi_190.toInt + 1 := by rw [ezi_227]; exact tadd rfl (show (1 : Int32).toInt = 1 by decide) (by omega) (by omega)
                  refine lv_iinc (v := zi_227) (lv' := [(5, .int zi_227), (4, .int zi_190), (0, .ref zx), (1, .int zia), (2, .int zib), (3, .ref (zR (zR zx 6) zia.toNatClampNeg))]) hx hb dX10_next_93 hl (k := 5) rfl (by rw [ezi_227]; rfl) (by decide) rfl (fun ls hl => ?_)
                  refine lv_goto (tgt := 64) hx hb dX10_next_96 (by decide) ?_
                  exact ih_205 (12 - zi_227.toInt).toNat (by omega) zi_190 zi_227 _ _ _ rfl (by omega) (by omega) e_lp_205_0 hP hD hS (lv_sub hl [2, 3, 4, 5, 1, 0] rfl)
          have qc_0 : (0 : Int32).toInt = 0 := by decide
          have qc_1 : (1 : Int32).toInt = 1 := by decide
          exact lp_205 _ (0 : Int32) (1 : Int32) _ _ _ rfl (by decide) (by decide) ps_27 hP hD hS (lv_sub hl [3, 4, 5, 2, 1, 0] rfl)
        · have f_34 : zj_31.toInt = (0 : Int) := lk_nne ezi_32 (rfl) (show (0 : Int64).toInt = 0 by decide) c_33
          refine lv_ldc2 (v := (-4)) hx hb hown (hts (.constantLong RX10 276 (-4)) (by decide +kernel)) dX10_next_54 ?_
          subst hQ
          exact W.lret (v := (-4 : Int64)) hx hb hr (fun t ht hW => ⟨⟨(-4 : Int64), (zI_25, zJ_26), rfl, ⟨h_zI_25, (show JX zR zI_25 zx from ps_27)⟩, ⟨by rw [ht]; exact hP, va_K.moved hW.alike hK, hD⟩⟩, hS.F ht⟩) hS.2.2 dX10_next_57
      · have f_21 : ¬ (zi_14.toInt ≠ 0) := ic_nne (rfl) (by decide) c_20
        refine lv_ldc2 (v := (-2)) hx hb hown (hts (.constantLong RX10 236 (-2)) (by decide +kernel)) dX10_next_35 ?_
        subst hQ
        exact W.lret (v := (-2 : Int64)) hx hb hr (fun t ht hW => ⟨⟨(-2 : Int64), (zI, zJ), rfl, ⟨h_zI, (show JX zR zI zx from hj)⟩, ⟨by rw [ht]; exact hP, va_K.moved hW.alike hK, hD⟩⟩, hS.F ht⟩) hS.2.2 dX10_next_38
    · have f_10 : ¬ (0 ≤ zib.toInt ∧ zib.toInt ≤ 1) := bz_0 hw_7 c_9
      refine lv_ldc2 (v := (-1)) hx hb hown (hts (.constantLong RX10 234 (-1)) (by decide +kernel)) dX10_next_16 ?_
      subst hQ
      exact W.lret (v := (-1 : Int64)) hx hb hr (fun t ht hW => ⟨⟨(-1 : Int64), (zI, zJ), rfl, ⟨h_zI, (show JX zR zI zx from hj)⟩, ⟨by rw [ht]; exact hP, va_K.moved hW.alike hK, hD⟩⟩, hS.F ht⟩) hS.2.2 dX10_next_19
set_option maxHeartbeats 8000000 in
set_option maxRecDepth 100000 in
theorem t_X10_leans (l : Launch) (dC : Nat → ClassId) (dI : Nat → Nat → Nat) (cy : Nat → ClassId) (sz : Nat) (zL : List Nat) (zT : Nat → Nat) (zR : Nat → Nat → Nat) (zI : Nat → Nat → Int32) (zJ : Nat → Nat → Int64) (zx : Nat) (zia : Int32) (zib : Int32) (zic : Int32) (hs : SKP zL zT zR) (hw : WT zT zR zI) (t_zx : zT zx = 11) (hj : JX zR zI zx) : Met l yX10_leans wsX10_leans ({ frames := 5, cells := 0, slots := 0, locals := 130 } : Room) (va_Pc [.ref zx, .int zia, .int zib, .int zic] (PRE dC dI cy (WL cy zL zT zR zI zJ) sz)) (va_Qi (fun (r : Int32) (u : (Nat → Nat → Int32) × (Nat → Nat → Int64)) => (WM [1013, 1014, 3700, 3800, 3900, 4000, 4200, 4700] AL zT zR zI u.1) ∧ ((-1012) ≤ r.toInt ∧ r.toInt ≤ 23) ∧ (JX zR u.1 zx)) (fun u t => POST dC dI cy (va_A (WL cy zL zT zR zI zJ) sz) (WL cy zL zT zR u.1 u.2) t) (va_A (WL cy zL zT zR zI zJ) sz)) 0 0 (va_A (WL cy zL zT zR zI zJ) sz) := by
  refine Met.ofW (cc := cX10_leans) (maxL := 8) (ret := (some .int)) (by decide) rfl ?_
  intro p e s m args below meth c s₁ B hml hv
  obtain ⟨rfl, hsz, hP, hK, hD0, hN⟩ := hv
  have hx := B.exec
  have hb := B.bytes
  have hr := B.returns
  have hts := atoms_spec (ws := wsX10_leans) B.pre
  have hown : s.vm.findClass RX10 = some m.cls := findClass_of_methodNamed B.named
  have hlocks := B.notSynchronized
  subst hsz
  have hD := hD0.self (sz := s.heap.size)
  generalize hAe : va_A (WL cy zL zT zR zI zJ) s.heap.size = A at hD ⊢
  have hA : ∀ q : Nat, s.heap.size ≤ q → A q := fun q h => by rw [← hAe]; exact Or.inr h
  have hS : va_S A s.heap s.heap [] := va_S.rf
  have hP : va_P (dC, dI) vwCl (WL cy zL zT zR zI zJ) s.heap := hP
  have hl := lv_entry ([.ref zx, .int zia, .int zib, .int zic] : List Value) (n := 8) (Nat.le_of_ble_eq_true rfl)
  rw [lg_entry_eq]
  generalize (lg_sl ([.ref zx, .int zia, .int zib, .int zic] : List Value) ++ List.replicate (8 - (lg_sl ([.ref zx, .int zia, .int zib, .int zic] : List Value)).length) Slot.unset).toArray = ls at hl ⊢
  have hl : lv_has ls 8 [(0, .ref zx), (1, .int zia), (2, .int zib), (3, .int zic)] := hl
  refine w_q (fun Q hQ => ?_)
  have h_zI : WM [1013, 1014, 3700, 3800, 3900, 4000, 4200, 4700] AL zT zR zI zI := WM.rf hw
  refine lv_iload_n hx hb dX10_leans_0 rfl (lv_at hl 1 rfl) ?_
  refine lv_iconst (v := 0) hx hb dX10_leans_1 (by decide) ?_
  refine lv_aload_n hx hb dX10_leans_2 rfl (lv_at hl 0 rfl) ?_
  refine ht_getr (C := RX10) (T := TX10) (N := 10) hx hb hts (by decide +kernel) hown hK hP hs t_zx (by decide) rfl rfl 0 (by decide) (hts (.fieldLink RX10 12 "DripStone" "now" "LDripStone$State;") (by decide +kernel)) (fun _ h9 => h9) rfl dX10_leans_3 ?_
  have t_1 : zT (zR zx 0) = 9 := sk_f hs t_zx (by decide) rfl (by decide)
  refine ht_getr (C := RX8) (T := TX8) (N := 9) hx hb hts (by decide +kernel) hown hK hP hs t_1 (by decide) rfl rfl 3 (by decide) (hts (.fieldLink RX10 157 "DripStone$State" "dates" "LDripStone$Dates;") (by decide +kernel)) (fun _ h9 => h9) rfl dX10_leans_6 ?_
  have t_2 : zT (zR (zR zx 0) 3) = 3 := sk_f hs t_1 (by decide) rfl (by decide)
  refine ht_geti (C := RX2) (T := TX2) (N := 7) hx hb hts (by decide +kernel) hown hK hP hs t_2 (by decide) rfl rfl 6 (by decide) (hts (.fieldLink RX10 210 "DripStone$Dates" "held" "I") (by decide +kernel)) (fun _ h9 => h9) rfl dX10_leans_9 ?_
  refine lv_topi (fun zi_3 ezi_3 => ?_)
  have tzi_3 : 0 ≤ zi_3.toInt ∧ zi_3.toInt ≤ 8 := by rw [ezi_3]; exact h_zI.at t_2 _ rfl
  refine lv_iconst (v := 1) hx hb dX10_leans_12 (by decide) ?_
  refine lv_isub hx hb dX10_leans_13 ?_
  refine lv_topi (fun zi_4 ezi_4 => ?_)
  have tzi_4 : zi_4.toInt = zi_3.toInt - (1 : Int) := by rw [ezi_4]; exact tisub (rfl) (show (1 : Int32).toInt = 1 by decide) (by omega) (by omega)
  refine hj0_i (ws := (WL cy zL zT zR zI zJ)) (va_runS (As := [.int zia, .int 0, .int zi_4]) (rest := []) ⟨hx, hb, hml, hown, hts⟩ (c_X10_isWithin l dC dI cy s.heap.size zia 0 zi_4 0 zi_4.toInt (by first | rfl | decide | omega | exact Int32.toInt_toInt64 _) (by first | rfl | decide | omega | exact Int32.toInt_toInt64 _)) (va_cwS 3 hts gX10_leans_X10_isWithin rfl rfl rfl (by decide +kernel) ⟨(Nat.le_of_ble_eq_true rfl), (Nat.le_of_ble_eq_true rfl)⟩) (PRE.s (hP.sub [] rfl) hK (hD.sub [] (by decide) rfl) hN) rfl rfl hl.1 rfl (lv_room (Nat.le_of_ble_eq_true rfl)) dX10_leans_14 ⟨(Nat.le_of_ble_eq_true rfl), (Nat.le_of_ble_eq_true rfl)⟩) hP hD hS hA (fun zi_5 u_7 H locs hw_6 hP hD hS => ?_)
  have hw_6 : zi_5 = if 0 ≤ zia.toInt ∧ zia.toInt ≤ zi_4.toInt then 1 else 0 := hw_6
  have b_zi_5 : 0 ≤ zi_5.toInt ∧ zi_5.toInt ≤ 1 := bz_b hw_6
  refine lv_if_eq (tgt := 29) hx hb dX10_leans_17 (by decide) (fun c_8 => ?_) (fun c_8 => ?_)
  · have f_9 : ¬ (0 ≤ zia.toInt ∧ zia.toInt ≤ zi_4.toInt) := bz_0 hw_6 c_8
    refine lv_sipush (v := (-1001)) hx hb dX10_leans_29 (by decide) ?_
    subst hQ
    have qc_m1001 : (-1001 : Int32).toInt = -1001 := by decide
    exact W.iret (v := (-1001 : Int32)) hx hb hr (fun t ht hW => ⟨⟨(-1001 : Int32), (zI, zJ), rfl, ⟨h_zI, (show (-1012) ≤ (-1001 : Int32).toInt ∧ (-1001 : Int32).toInt ≤ 23 from by omega), (show JX zR zI zx from hj)⟩, ⟨by rw [ht]; exact hP, va_K.moved hW.alike hK, hD⟩⟩, hS.F ht⟩) hS.2.2 dX10_leans_32
  · have f_9 : 0 ≤ zia.toInt ∧ zia.toInt ≤ zi_4.toInt := bz_1 hw_6 c_8
    refine lv_iload_n hx hb dX10_leans_20 rfl (lv_at hl 3 rfl) ?_
    refine lv_iconst (v := 0) hx hb dX10_leans_21 (by decide) ?_
    refine lv_iconst (v := 1) hx hb dX10_leans_22 (by decide) ?_
    refine hj0_i (ws := (WL cy zL zT zR zI zJ)) (va_runS (As := [.int zic, .int 0, .int 1]) (rest := []) ⟨hx, hb, hml, hown, hts⟩ (c_X10_isWithin l dC dI cy H.size zic 0 1 0 1 (by first | rfl | decide | omega | exact Int32.toInt_toInt64 _) (by first | rfl | decide | omega | exact Int32.toInt_toInt64 _)) (va_cwS 3 hts gX10_leans_X10_isWithin rfl rfl rfl (by decide +kernel) ⟨(Nat.le_of_ble_eq_true rfl), (Nat.le_of_ble_eq_true rfl)⟩) (PRE.s (hP.sub [] rfl) hK (hD.sub [] (by decide) rfl) hN) rfl rfl hl.1 rfl (lv_room (Nat.le_of_ble_eq_true rfl)) dX10_leans_23 ⟨(Nat.le_of_ble_eq_true rfl), (Nat.le_of_ble_eq_true rfl)⟩) hP hD hS hA (fun zi_10 u_12 H locs hw_11 hP hD hS => ?_)
    have hw_11 : zi_10 = if 0 ≤ zic.toInt ∧ zic.toInt ≤ 1 then 1 else 0 := hw_11
    have b_zi_10 : 0 ≤ zi_10.toInt ∧ zi_10.toInt ≤ 1 := bz_b hw_11
    refine lv_if_ne (tgt := 33) hx hb dX10_leans_26 (by decide) (fun c_13 => ?_) (fun c_13 => ?_)
    · have f_14 : 0 ≤ zic.toInt ∧ zic.toInt ≤ 1 := bz_1 hw_11 c_13
      refine lv_aload_n hx hb dX10_leans_33 rfl (lv_at hl 0 rfl) ?_
      refine ht_getr (C := RX10) (T := TX10) (N := 10) hx hb hts (by decide +kernel) hown hK hP hs t_zx (by decide) rfl rfl 0 (by decide) (hts (.fieldLink RX10 12 "DripStone" "now" "LDripStone$State;") (by decide +kernel)) (fun _ h9 => h9) rfl dX10_leans_34 ?_
      refine ht_getr (C := RX8) (T := TX8) (N := 9) hx hb hts (by decide +kernel) hown hK hP hs t_1 (by decide) rfl rfl 3 (by decide) (hts (.fieldLink RX10 157 "DripStone$State" "dates" "LDripStone$Dates;") (by decide +kernel)) (fun _ h9 => h9) rfl dX10_leans_37 ?_
      refine ht_getr (C := RX2) (T := TX2) (N := 7) hx hb hts (by decide +kernel) hown hK hP hs t_2 (by decide) rfl rfl 0 (by decide) (hts (.fieldLink RX10 219 "DripStone$Dates" "candles" "[I") (by decide +kernel)) (fun _ h9 => h9) rfl dX10_leans_40 ?_
      have t_15 : zT (zR (zR (zR zx 0) 3) 0) = 24 := sk_f hs t_2 (by decide) rfl (by decide)
      refine lv_iload_n hx hb dX10_leans_43 rfl (lv_at hl 1 rfl) ?_
      refine ht_iald (n := 8) (q := 0) hx hb hK hP hs t_15 (by decide) rfl rfl ⟨by omega, by omega⟩ dX10_leans_44 ?_
      refine lv_topi (fun zi_16 ezi_16 => ?_)
      have tzi_16 : 0 ≤ zi_16.toInt ∧ zi_16.toInt ≤ 1 := by rw [ezi_16]; exact h_zI.at t_15 _ rfl
      refine lv_istore (lv' := [(4, .int zi_16), (0, .ref zx), (1, .int zia), (2, .int zib), (3, .int zic)]) hx hb dX10_leans_45 hl (by decide) rfl (fun ls hl => ?_)
      refine lv_aload_n hx hb dX10_leans_47 rfl (lv_at hl 1 rfl) ?_
      refine lv_iload hx hb dX10_leans_48 (lv_at hl 0 rfl) ?_
      refine lv_iload_n hx hb dX10_leans_50 rfl (lv_at hl 3 rfl) ?_
      refine hj_i (ws := (WL cy zL zT zR zI zJ)) (w1 := fun (u : Unit) => (WL cy zL zT zR zI zJ)) (va_runV (As := [.int zi_16, .int zib]) (rest := []) ⟨hx, hb, hml, hown, hts⟩ (t_X10_isThing l dC dI cy H.size zL zT zR zI zJ zx zi_16 zib hs h_zI.1 t_zx) (cwV 2 hts gX10_leans_X10_isThing rfl rfl rfl (by decide +kernel) ⟨(Nat.le_of_ble_eq_true rfl), (Nat.le_of_ble_eq_true rfl)⟩) (PRE.v hP hK hD hN (ht_recv hK hP hs t_zx (by decide) rfl rfl)) rfl rfl hl.1 rfl (lv_room (Nat.le_of_ble_eq_true rfl)) dX10_leans_51 ⟨(Nat.le_of_ble_eq_true rfl), (Nat.le_of_ble_eq_true rfl)⟩) hP hD hS hA (fun zi_17 u_19 H locs hw_18 hP hD hS => ?_)
      obtain ⟨b_zi_17, ps_20, ps_21⟩ : (0 ≤ zi_17.toInt ∧ zi_17.toInt ≤ 1) ∧ (zi_17.toInt = 0 ∨ (0 ≤ zi_16.toInt ∧ zi_16.toInt ≤ 1 ∧ 0 ≤ zib.toInt ∧ zib.toInt ≤ 11)) ∧ (zi_17.toInt = 0 ∨ zib.toInt < (zI (zR (zR (zR zx 0) 2) zi_16.toNatClampNeg) 7).toInt) := hw_18
      refine lv_if_ne (tgt := 61) hx hb dX10_leans_54 (by decide) (fun c_22 => ?_) (fun c_22 => ?_)
      · have f_23 : zi_17.toInt ≠ 0 := ic_ne (rfl) (by decide) c_22
        have b9_zi_16 : 0 ≤ zi_16.toInt ∧ zi_16.toInt ≤ 1 := by omega
        have b9_zib : 0 ≤ zib.toInt ∧ zib.toInt ≤ 11 := by omega
        refine lv_aload_n hx hb dX10_leans_61 rfl (lv_at hl 1 rfl) ?_
        refine ht_getr (C := RX10) (T := TX10) (N := 10) hx hb hts (by decide +kernel) hown hK hP hs t_zx (by decide) rfl rfl 0 (by decide) (hts (.fieldLink RX10 12 "DripStone" "now" "LDripStone$State;") (by decide +kernel)) (fun _ h9 => h9) rfl dX10_leans_62 ?_
        refine ht_getr (C := RX8) (T := TX8) (N := 9) hx hb hts (by decide +kernel) hown hK hP hs t_1 (by decide) rfl rfl 2 (by decide) (hts (.fieldLink RX10 147 "DripStone$State" "candles" "[LDripStone$Candle;") (by decide +kernel)) (fun _ h9 => h9) rfl dX10_leans_65 ?_
        have t_24 : zT (zR (zR zx 0) 2) = 61 := sk_f hs t_1 (by decide) rfl (by decide)
        refine lv_iload hx hb dX10_leans_68 (lv_at hl 0 rfl) ?_
        refine ht_aald (n := 2) (q := 3) hx hb hK hP hs t_24 (by decide) rfl rfl ⟨by omega, by omega⟩ dX10_leans_70 ?_
        have t_25 : zT (zR (zR (zR zx 0) 2) zi_16.toNatClampNeg) = 1 := sk_a (n := 2) hs t_24 rfl rfl (by decide) (cl_lt (by omega) (by omega))
        refine lv_iload_n hx hb dX10_leans_71 rfl (lv_at hl 3 rfl) ?_
        refine hj_i (ws := (WL cy zL zT zR zI zJ)) (w1 := fun (u : Unit) => (WL cy zL zT zR zI zJ)) (va_runV (As := [.int zib]) (rest := []) ⟨hx, hb, hml, hown, hts⟩ (t_X0_isPlace l dC dI cy H.size zL zT zR zI zJ (zR (zR (zR zx 0) 2) zi_16.toNatClampNeg) zib hs h_zI.1 t_25 (by omega)) (cwV 1 hts gX10_leans_X0_isPlace rfl rfl rfl (by decide +kernel) ⟨(Nat.le_of_ble_eq_true rfl), (Nat.le_of_ble_eq_true rfl)⟩) (PRE.v hP hK hD hN (ht_recv hK hP hs t_25 (by decide) rfl rfl)) rfl rfl hl.1 rfl (lv_room (Nat.le_of_ble_eq_true rfl)) dX10_leans_72 ⟨(Nat.le_of_ble_eq_true rfl), (Nat.le_of_ble_eq_true rfl)⟩) hP hD hS hA (fun zi_26 u_28 H locs hw_27 hP hD hS => ?_)
        obtain ⟨b_zi_26, ps_29⟩ : (0 ≤ zi_26.toInt ∧ zi_26.toInt ≤ 1) ∧ ((zi_26.toInt = 0 ∧ (zI (zR (zR (zR (zR zx 0) 2) zi_16.toNatClampNeg) 0) zib.toNatClampNeg).toInt = 2) ∨ (zi_26.toInt = 1 ∧ ¬ (zI (zR (zR (zR (zR zx 0) 2) zi_16.toNatClampNeg) 0) zib.toNatClampNeg).toInt = 2)) := hw_27
        refine lv_if_ne (tgt := 82) hx hb dX10_leans_75 (by decide) (fun c_30 => ?_) (fun c_30 => ?_)
        · have f_31 : zi_26.toInt ≠ 0 := ic_ne (rfl) (by decide) c_30
          refine lv_aload_n hx hb dX10_leans_82 rfl (lv_at hl 1 rfl) ?_
          refine ht_getr (C := RX10) (T := TX10) (N := 10) hx hb hts (by decide +kernel) hown hK hP hs t_zx (by decide) rfl rfl 0 (by decide) (hts (.fieldLink RX10 12 "DripStone" "now" "LDripStone$State;") (by decide +kernel)) (fun _ h9 => h9) rfl dX10_leans_83 ?_
          refine ht_getr (C := RX8) (T := TX8) (N := 9) hx hb hts (by decide +kernel) hown hK hP hs t_1 (by decide) rfl rfl 3 (by decide) (hts (.fieldLink RX10 157 "DripStone$State" "dates" "LDripStone$Dates;") (by decide +kernel)) (fun _ h9 => h9) rfl dX10_leans_86 ?_
          refine lv_iload hx hb dX10_leans_89 (lv_at hl 0 rfl) ?_
          refine hj_i (ws := (WL cy zL zT zR zI zJ)) (w1 := fun (u : Unit) => (WL cy zL zT zR zI zJ)) (va_runV (As := [.int zi_16]) (rest := []) ⟨hx, hb, hml, hown, hts⟩ (t_X2_binding l dC dI cy H.size zL zT zR zI zJ (zR (zR zx 0) 3) zi_16 hs h_zI.1 t_2) (cwV 1 hts gX10_leans_X2_binding rfl rfl rfl (by decide +kernel) ⟨(Nat.le_of_ble_eq_true rfl), (Nat.le_of_ble_eq_true rfl)⟩) (PRE.v hP hK hD hN (ht_recv hK hP hs t_2 (by decide) rfl rfl)) rfl rfl hl.1 rfl (lv_room (Nat.le_of_ble_eq_true rfl)) dX10_leans_91 ⟨(Nat.le_of_ble_eq_true rfl), (Nat.le_of_ble_eq_true rfl)⟩) hP hD hS hA (fun zi_32 u_34 H locs hw_33 hP hD hS => ?_)
          have rzi_32 := rng zi_32
          refine lv_iconst (v := 1) hx hb dX10_leans_94 (by decide) ?_
          refine lv_iload_n hx hb dX10_leans_95 rfl (lv_at hl 2 rfl) ?_
          refine lv_ishl hx hb dX10_leans_96 ?_
          refine lv_topi (fun zi_35 ezi_35 => ?_)
          have rzi_35 := rng zi_35
          refine lv_iconst (v := (-1)) hx hb dX10_leans_97 (by decide) ?_
          refine lv_ixor hx hb dX10_leans_98 ?_
          refine lv_topi (fun zi_36 ezi_36 => ?_)
          have rzi_36 := rng zi_36
          refine lv_iand hx hb dX10_leans_99 ?_
          refine lv_topi (fun zi_37 ezi_37 => ?_)
          have rzi_37 := rng zi_37
          refine lv_istore (lv' := [(5, .int zi_37), (4, .int zi_16), (0, .ref zx), (1, .int zia), (2, .int zib), (3, .int zic)]) hx hb dX10_leans_100 hl (by decide) rfl (fun ls hl => ?_)
          refine lv_aload_n hx hb dX10_leans_102 rfl (lv_at hl 2 rfl) ?_
          refine lv_iload hx hb dX10_leans_103 (lv_at hl 1 rfl) ?_
          refine lv_iload_n hx hb dX10_leans_105 rfl (lv_at hl 4 rfl) ?_
          refine lv_iload_n hx hb dX10_leans_106 rfl (lv_at hl 5 rfl) ?_
          refine lv_iload hx hb dX10_leans_107 (lv_at hl 0 rfl) ?_
          refine lv_iconst (v := 1) hx hb dX10_leans_109 (by decide) ?_
          refine lv_iload_n hx hb dX10_leans_110 rfl (lv_at hl 3 rfl) ?_
          refine lv_ishl hx hb dX10_leans_111 ?_
          refine lv_topi (fun zi_38 ezi_38 => ?_)
          have rzi_38 := rng zi_38
          refine lv_ior hx hb dX10_leans_112 ?_
          refine lv_topi (fun zi_39 ezi_39 => ?_)
          have rzi_39 := rng zi_39
          refine hj_i (ws := (WL cy zL zT zR zI zJ)) (w1 := fun (u : (Nat → Nat → Int32) × (Nat → Nat → Int64)) => (WL cy zL zT zR u.1 u.2)) (va_runV (As := [.int zi_16, .int zib, .int zic, .int zi_39]) (rest := []) ⟨hx, hb, hml, hown, hts⟩ (t_X10_endWith l dC dI cy H.size zL zT zR zI zJ zx zi_16 zib zic zi_39 hs h_zI.1 t_zx (by omega) (by omega) (by omega)) (cwV 4 hts gX10_leans_X10_endWith rfl rfl rfl (by decide +kernel) ⟨(Nat.le_of_ble_eq_true rfl), (Nat.le_of_ble_eq_true rfl)⟩) (PRE.v hP hK hD hN (ht_recv hK hP hs t_zx (by decide) rfl rfl)) rfl rfl hl.1 rfl (lv_room (Nat.le_of_ble_eq_true rfl)) dX10_leans_113 ⟨(Nat.le_of_ble_eq_true rfl), (Nat.le_of_ble_eq_true rfl)⟩) hP hD hS hA (fun zi_40 u_42 H locs hw_41 hP hD hS => ?_)
          obtain ⟨zI_43, zJ_44⟩ := u_42
          obtain ⟨k_zI_43, b_zi_40, ps_45⟩ : (WM [1013, 1014, 3700, 3800, 3900, 4000, 4200, 4700] AL zT zR zI zI_43) ∧ ((-4) ≤ zi_40.toInt ∧ zi_40.toInt ≤ 23) ∧ (JX zR zI_43 zx) := hw_41
          have h_zI_43 : WM [1013, 1014, 3700, 3800, 3900, 4000, 4200, 4700] AL zT zR zI zI_43 := h_zI.tr k_zI_43 (by decide) (fun _ _ => trivial)
          refine lv_istore (lv' := [(6, .int zi_40), (5, .int zi_37), (4, .int zi_16), (0, .ref zx), (1, .int zia), (2, .int zib), (3, .int zic)]) hx hb dX10_leans_116 hl (by decide) rfl (fun ls hl => ?_)
          refine lv_aload_n hx hb dX10_leans_118 rfl (lv_at hl 3 rfl) ?_
          refine lv_iload hx hb dX10_leans_119 (lv_at hl 2 rfl) ?_
          refine lv_iload_n hx hb dX10_leans_121 rfl (lv_at hl 5 rfl) ?_
          refine lv_iload_n hx hb dX10_leans_122 rfl (lv_at hl 6 rfl) ?_
          refine lv_iload hx hb dX10_leans_123 (lv_at hl 1 rfl) ?_
          refine hj_i (ws := (WL cy zL zT zR zI_43 zJ_44)) (w1 := fun (u : (Nat → Nat → Int32) × (Nat → Nat → Int64)) => (WL cy zL zT zR u.1 u.2)) (va_runV (As := [.int zi_16, .int zib, .int zic, .int zi_37]) (rest := []) ⟨hx, hb, hml, hown, hts⟩ (t_X10_endWith l dC dI cy H.size zL zT zR zI_43 zJ_44 zx zi_16 zib zic zi_37 hs h_zI_43.1 t_zx (by omega) (by omega) (by omega)) (cwV 4 hts gX10_leans_X10_endWith rfl rfl rfl (by decide +kernel) ⟨(Nat.le_of_ble_eq_true rfl), (Nat.le_of_ble_eq_true rfl)⟩) (PRE.v hP hK hD hN (ht_recv hK hP hs t_zx (by decide) rfl rfl)) rfl rfl hl.1 rfl (lv_room (Nat.le_of_ble_eq_true rfl)) dX10_leans_125 ⟨(Nat.le_of_ble_eq_true rfl), (Nat.le_of_ble_eq_true rfl)⟩) hP hD hS hA (fun zi_46 u_48 H locs hw_47 hP hD hS => ?_)
          obtain ⟨zI_49, zJ_50⟩ := u_48
          obtain ⟨k_zI_49, b_zi_46, ps_51⟩ : (WM [1013, 1014, 3700, 3800, 3900, 4000, 4200, 4700] AL zT zR zI_43 zI_49) ∧ ((-4) ≤ zi_46.toInt ∧ zi_46.toInt ≤ 23) ∧ (JX zR zI_49 zx) := hw_47
          have h_zI_49 : WM [1013, 1014, 3700, 3800, 3900, 4000, 4200, 4700] AL zT zR zI zI_49 := h_zI_43.tr k_zI_49 (by decide) (fun _ _ => trivial)
          refine lv_istore (lv' := [(7, .int zi_46), (6, .int zi_40), (5, .int zi_37), (4, .int zi_16), (0, .ref zx), (1, .int zia), (2, .int zib), (3, .int zic)]) hx hb dX10_leans_128 hl (by decide) rfl (fun ls hl => ?_)
          refine lv_iload hx hb dX10_leans_130 (lv_at hl 1 rfl) ?_
          refine lv_if_lt (tgt := 140) hx hb dX10_leans_132 (by decide) (fun c_52 => ?_) (fun c_52 => ?_)
          · have f_53 : zi_40.toInt < 0 := ic_lt (rfl) (by decide) c_52
            refine lv_sipush (v := (-1004)) hx hb dX10_leans_140 (by decide) ?_
            refine lv_goto (tgt := 151) hx hb dX10_leans_143 (by decide) ?_
            subst hQ
            have qc_m1004 : (-1004 : Int32).toInt = -1004 := by decide
            exact W.iret (v := (-1004 : Int32)) hx hb hr (fun t ht hW => ⟨⟨(-1004 : Int32), (zI_49, zJ_50), rfl, ⟨h_zI_49, (show (-1012) ≤ (-1004 : Int32).toInt ∧ (-1004 : Int32).toInt ≤ 23 from by omega), (show JX zR zI_49 zx from ps_51)⟩, ⟨by rw [ht]; exact hP, va_K.moved hW.alike hK, hD⟩⟩, hS.F ht⟩) hS.2.2 dX10_leans_151
          · have f_53 : ¬ (zi_40.toInt < 0) := ic_nlt (rfl) (by decide) c_52
            refine lv_iload hx hb dX10_leans_135 (lv_at hl 0 rfl) ?_
            refine lv_if_ge (tgt := 146) hx hb dX10_leans_137 (by decide) (fun c_54 => ?_) (fun c_54 => ?_)
            · have f_55 : zi_46.toInt ≥ 0 := ic_ge (rfl) (by decide) c_54
              refine lv_iload hx hb dX10_leans_146 (lv_at hl 0 rfl) ?_
              refine lv_iload hx hb dX10_leans_148 (lv_at hl 1 rfl) ?_
              refine lv_isub hx hb dX10_leans_150 ?_
              refine lv_topi (fun zi_56 ezi_56 => ?_)
              have tzi_56 : zi_56.toInt = zi_46.toInt - zi_40.toInt := by rw [ezi_56]; exact tisub (rfl) (rfl) (by omega) (by omega)
              subst hQ
              exact W.iret (v := zi_56) hx hb hr (fun t ht hW => ⟨⟨zi_56, (zI_49, zJ_50), rfl, ⟨h_zI_49, (show (-1012) ≤ zi_56.toInt ∧ zi_56.toInt ≤ 23 from by omega), (show JX zR zI_49 zx from ps_51)⟩, ⟨by rw [ht]; exact hP, va_K.moved hW.alike hK, hD⟩⟩, hS.F ht⟩) hS.2.2 dX10_leans_151
            · have f_55 : ¬ (zi_46.toInt ≥ 0) := ic_nge (rfl) (by decide) c_54
              refine lv_sipush (v := (-1004)) hx hb dX10_leans_140 (by decide) ?_
              refine lv_goto (tgt := 151) hx hb dX10_leans_143 (by decide) ?_
              subst hQ
              have qc_m1004 : (-1004 : Int32).toInt = -1004 := by decide
              exact W.iret (v := (-1004 : Int32)) hx hb hr (fun t ht hW => ⟨⟨(-1004 : Int32), (zI_49, zJ_50), rfl, ⟨h_zI_49, (show (-1012) ≤ (-1004 : Int32).toInt ∧ (-1004 : Int32).toInt ≤ 23 from by omega), (show JX zR zI_49 zx from ps_51)⟩, ⟨by rw [ht]; exact hP, va_K.moved hW.alike hK, hD⟩⟩, hS.F ht⟩) hS.2.2 dX10_leans_151
        · have f_31 : ¬ (zi_26.toInt ≠ 0) := ic_nne (rfl) (by decide) c_30
          refine lv_sipush (v := (-1012)) hx hb dX10_leans_78 (by decide) ?_
          subst hQ
          have qc_m1012 : (-1012 : Int32).toInt = -1012 := by decide
          exact W.iret (v := (-1012 : Int32)) hx hb hr (fun t ht hW => ⟨⟨(-1012 : Int32), (zI, zJ), rfl, ⟨h_zI, (show (-1012) ≤ (-1012 : Int32).toInt ∧ (-1012 : Int32).toInt ≤ 23 from by omega), (show JX zR zI zx from hj)⟩, ⟨by rw [ht]; exact hP, va_K.moved hW.alike hK, hD⟩⟩, hS.F ht⟩) hS.2.2 dX10_leans_81
      · have f_23 : ¬ (zi_17.toInt ≠ 0) := ic_nne (rfl) (by decide) c_22
        refine lv_sipush (v := (-1001)) hx hb dX10_leans_57 (by decide) ?_
        subst hQ
        have qc_m1001 : (-1001 : Int32).toInt = -1001 := by decide
        exact W.iret (v := (-1001 : Int32)) hx hb hr (fun t ht hW => ⟨⟨(-1001 : Int32), (zI, zJ), rfl, ⟨h_zI, (show (-1012) ≤ (-1001 : Int32).toInt ∧ (-1001 : Int32).toInt ≤ 23 from by omega), (show JX zR zI zx from hj)⟩, ⟨by rw [ht]; exact hP, va_K.moved hW.alike hK, hD⟩⟩, hS.F ht⟩) hS.2.2 dX10_leans_60
    · have f_14 : ¬ (0 ≤ zic.toInt ∧ zic.toInt ≤ 1) := bz_0 hw_11 c_13
      refine lv_sipush (v := (-1001)) hx hb dX10_leans_29 (by decide) ?_
      subst hQ
      have qc_m1001 : (-1001 : Int32).toInt = -1001 := by decide
      exact W.iret (v := (-1001 : Int32)) hx hb hr (fun t ht hW => ⟨⟨(-1001 : Int32), (zI, zJ), rfl, ⟨h_zI, (show (-1012) ≤ (-1001 : Int32).toInt ∧ (-1001 : Int32).toInt ≤ 23 from by omega), (show JX zR zI zx from hj)⟩, ⟨by rw [ht]; exact hP, va_K.moved hW.alike hK, hD⟩⟩, hS.F ht⟩) hS.2.2 dX10_leans_32
set_option maxHeartbeats 8000000 in
set_option maxRecDepth 100000 in
theorem t_X10_span (l : Launch) (dC : Nat → ClassId) (dI : Nat → Nat → Nat) (cy : Nat → ClassId) (sz : Nat) (zL : List Nat) (zT : Nat → Nat) (zR : Nat → Nat → Nat) (zI : Nat → Nat → Int32) (zJ : Nat → Nat → Int64) (zx : Nat) (zia : Int32) (zib : Int32) (zic : Int32) (zid : Int32) (hs : SKP zL zT zR) (hw : WT zT zR zI) (t_zx : zT zx = 11) (hj : JX zR zI zx) : Met l yX10_span wsX10_span ({ frames := 5, cells := 0, slots := 0, locals := 126 } : Room) (va_Pc [.ref zx, .int zia, .int zib, .int zic, .int zid] (PRE dC dI cy (WL cy zL zT zR zI zJ) sz)) (va_Qi (fun (r : Int32) (u : (Nat → Nat → Int32) × (Nat → Nat → Int64)) => (WM [1013, 1014, 3700, 3800, 3900, 4000, 4200, 4700] AL zT zR zI u.1) ∧ ((-12) ≤ r.toInt ∧ r.toInt ≤ 23) ∧ (JX zR u.1 zx)) (fun u t => POST dC dI cy (va_A (WL cy zL zT zR zI zJ) sz) (WL cy zL zT zR u.1 u.2) t) (va_A (WL cy zL zT zR zI zJ) sz)) 0 0 (va_A (WL cy zL zT zR zI zJ) sz) := by
  refine Met.ofW (cc := cX10_span) (maxL := 7) (ret := (some .int)) (by decide) rfl ?_
  intro p e s m args below meth c s₁ B hml hv
  obtain ⟨rfl, hsz, hP, hK, hD0, hN⟩ := hv
  have hx := B.exec
  have hb := B.bytes
  have hr := B.returns
  have hts := atoms_spec (ws := wsX10_span) B.pre
  have hown : s.vm.findClass RX10 = some m.cls := findClass_of_methodNamed B.named
  have hlocks := B.notSynchronized
  subst hsz
  have hD := hD0.self (sz := s.heap.size)
  generalize hAe : va_A (WL cy zL zT zR zI zJ) s.heap.size = A at hD ⊢
  have hA : ∀ q : Nat, s.heap.size ≤ q → A q := fun q h => by rw [← hAe]; exact Or.inr h
  have hS : va_S A s.heap s.heap [] := va_S.rf
  have hP : va_P (dC, dI) vwCl (WL cy zL zT zR zI zJ) s.heap := hP
  have hl := lv_entry ([.ref zx, .int zia, .int zib, .int zic, .int zid] : List Value) (n := 7) (Nat.le_of_ble_eq_true rfl)
  rw [lg_entry_eq]
  generalize (lg_sl ([.ref zx, .int zia, .int zib, .int zic, .int zid] : List Value) ++ List.replicate (7 - (lg_sl ([.ref zx, .int zia, .int zib, .int zic, .int zid] : List Value)).length) Slot.unset).toArray = ls at hl ⊢
  have hl : lv_has ls 7 [(0, .ref zx), (1, .int zia), (2, .int zib), (3, .int zic), (4, .int zid)] := hl
  refine w_q (fun Q hQ => ?_)
  have h_zI : WM [1013, 1014, 3700, 3800, 3900, 4000, 4200, 4700] AL zT zR zI zI := WM.rf hw
  refine lv_aload_n hx hb dX10_span_0 rfl (lv_at hl 0 rfl) ?_
  refine lv_iload_n hx hb dX10_span_1 rfl (lv_at hl 1 rfl) ?_
  refine lv_iload_n hx hb dX10_span_2 rfl (lv_at hl 2 rfl) ?_
  refine lv_iload_n hx hb dX10_span_3 rfl (lv_at hl 3 rfl) ?_
  refine hj_i (ws := (WL cy zL zT zR zI zJ)) (w1 := fun (u : Unit) => (WL cy zL zT zR zI zJ)) (va_runV (As := [.int zia, .int zib, .int zic]) (rest := []) ⟨hx, hb, hml, hown, hts⟩ (t_X10_isPair l dC dI cy s.heap.size zL zT zR zI zJ zx zia zib zic hs h_zI.1 t_zx) (cwV 3 hts gX10_span_X10_isPair rfl rfl rfl (by decide +kernel) ⟨(Nat.le_of_ble_eq_true rfl), (Nat.le_of_ble_eq_true rfl)⟩) (PRE.v hP hK hD hN (ht_recv hK hP hs t_zx (by decide) rfl rfl)) rfl rfl hl.1 rfl (lv_room (Nat.le_of_ble_eq_true rfl)) dX10_span_4 ⟨(Nat.le_of_ble_eq_true rfl), (Nat.le_of_ble_eq_true rfl)⟩) hP hD hS hA (fun zi_1 u_3 H locs hw_2 hP hD hS => ?_)
  obtain ⟨b_zi_1, ps_4, ps_5⟩ : (0 ≤ zi_1.toInt ∧ zi_1.toInt ≤ 1) ∧ (zi_1.toInt = 0 ∨ (0 ≤ zia.toInt ∧ zia.toInt ≤ 1 ∧ 0 ≤ zib.toInt ∧ zib.toInt ≤ 11 ∧ 0 ≤ zic.toInt ∧ zic.toInt ≤ 11)) ∧ (zi_1.toInt = 0 ∨ zic.toInt < (zI (zR (zR (zR zx 0) 2) zia.toNatClampNeg) 7).toInt) := hw_2
  refine lv_if_eq (tgt := 20) hx hb dX10_span_7 (by decide) (fun c_6 => ?_) (fun c_6 => ?_)
  · have f_7 : zi_1.toInt = 0 := ic_eq (rfl) (by decide) c_6
    refine lv_iconst (v := (-1)) hx hb dX10_span_20 (by decide) ?_
    subst hQ
    have qc_m1 : (-1 : Int32).toInt = -1 := by decide
    exact W.iret (v := (-1 : Int32)) hx hb hr (fun t ht hW => ⟨⟨(-1 : Int32), (zI, zJ), rfl, ⟨h_zI, (show (-12) ≤ (-1 : Int32).toInt ∧ (-1 : Int32).toInt ≤ 23 from by omega), (show JX zR zI zx from hj)⟩, ⟨by rw [ht]; exact hP, va_K.moved hW.alike hK, hD⟩⟩, hS.F ht⟩) hS.2.2 dX10_span_21
  · have f_7 : ¬ (zi_1.toInt = 0) := ic_neq (rfl) (by decide) c_6
    have b9_zia : 0 ≤ zia.toInt ∧ zia.toInt ≤ 1 := by omega
    have b9_zib : 0 ≤ zib.toInt ∧ zib.toInt ≤ 11 := by omega
    have b9_zic : 0 ≤ zic.toInt ∧ zic.toInt ≤ 11 := by omega
    refine lv_iload hx hb dX10_span_10 (lv_at hl 4 rfl) ?_
    refine lv_iconst (v := 0) hx hb dX10_span_12 (by decide) ?_
    refine lv_iconst (v := 1) hx hb dX10_span_13 (by decide) ?_
    refine hj0_i (ws := (WL cy zL zT zR zI zJ)) (va_runS (As := [.int zid, .int 0, .int 1]) (rest := []) ⟨hx, hb, hml, hown, hts⟩ (c_X10_isWithin l dC dI cy H.size zid 0 1 0 1 (by first | rfl | decide | omega | exact Int32.toInt_toInt64 _) (by first | rfl | decide | omega | exact Int32.toInt_toInt64 _)) (va_cwS 3 hts gX10_span_X10_isWithin rfl rfl rfl (by decide +kernel) ⟨(Nat.le_of_ble_eq_true rfl), (Nat.le_of_ble_eq_true rfl)⟩) (PRE.s (hP.sub [] rfl) hK (hD.sub [] (by decide) rfl) hN) rfl rfl hl.1 rfl (lv_room (Nat.le_of_ble_eq_true rfl)) dX10_span_14 ⟨(Nat.le_of_ble_eq_true rfl), (Nat.le_of_ble_eq_true rfl)⟩) hP hD hS hA (fun zi_8 u_10 H locs hw_9 hP hD hS => ?_)
    have hw_9 : zi_8 = if 0 ≤ zid.toInt ∧ zid.toInt ≤ 1 then 1 else 0 := hw_9
    have b_zi_8 : 0 ≤ zi_8.toInt ∧ zi_8.toInt ≤ 1 := bz_b hw_9
    refine lv_if_ne (tgt := 22) hx hb dX10_span_17 (by decide) (fun c_11 => ?_) (fun c_11 => ?_)
    · have f_12 : 0 ≤ zid.toInt ∧ zid.toInt ≤ 1 := bz_1 hw_9 c_11
      refine lv_aload_n hx hb dX10_span_22 rfl (lv_at hl 0 rfl) ?_
      refine ht_getr (C := RX10) (T := TX10) (N := 10) hx hb hts (by decide +kernel) hown hK hP hs t_zx (by decide) rfl rfl 0 (by decide) (hts (.fieldLink RX10 12 "DripStone" "now" "LDripStone$State;") (by decide +kernel)) (fun _ h9 => h9) rfl dX10_span_23 ?_
      have t_13 : zT (zR zx 0) = 9 := sk_f hs t_zx (by decide) rfl (by decide)
      refine ht_getr (C := RX8) (T := TX8) (N := 9) hx hb hts (by decide +kernel) hown hK hP hs t_13 (by decide) rfl rfl 2 (by decide) (hts (.fieldLink RX10 147 "DripStone$State" "candles" "[LDripStone$Candle;") (by decide +kernel)) (fun _ h9 => h9) rfl dX10_span_26 ?_
      have t_14 : zT (zR (zR zx 0) 2) = 61 := sk_f hs t_13 (by decide) rfl (by decide)
      refine lv_iload_n hx hb dX10_span_29 rfl (lv_at hl 1 rfl) ?_
      refine ht_aald (n := 2) (q := 3) hx hb hK hP hs t_14 (by decide) rfl rfl ⟨by omega, by omega⟩ dX10_span_30 ?_
      have t_15 : zT (zR (zR (zR zx 0) 2) zia.toNatClampNeg) = 1 := sk_a (n := 2) hs t_14 rfl rfl (by decide) (cl_lt (by omega) (by omega))
      refine lv_astore (lv' := [(5, .ref (zR (zR (zR zx 0) 2) zia.toNatClampNeg)), (0, .ref zx), (1, .int zia), (2, .int zib), (3, .int zic), (4, .int zid)]) hx hb dX10_span_31 hl (by decide) rfl (fun ls hl => ?_)
      refine lv_aload hx hb dX10_span_33 (lv_at hl 0 rfl) ?_
      refine lv_iload_n hx hb dX10_span_35 rfl (lv_at hl 3 rfl) ?_
      refine hj_i (ws := (WL cy zL zT zR zI zJ)) (w1 := fun (u : Unit) => (WL cy zL zT zR zI zJ)) (va_runV (As := [.int zib]) (rest := []) ⟨hx, hb, hml, hown, hts⟩ (t_X0_isPlace l dC dI cy H.size zL zT zR zI zJ (zR (zR (zR zx 0) 2) zia.toNatClampNeg) zib hs h_zI.1 t_15 (by omega)) (cwV 1 hts gX10_span_X0_isPlace rfl rfl rfl (by decide +kernel) ⟨(Nat.le_of_ble_eq_true rfl), (Nat.le_of_ble_eq_true rfl)⟩) (PRE.v hP hK hD hN (ht_recv hK hP hs t_15 (by decide) rfl rfl)) rfl rfl hl.1 rfl (lv_room (Nat.le_of_ble_eq_true rfl)) dX10_span_36 ⟨(Nat.le_of_ble_eq_true rfl), (Nat.le_of_ble_eq_true rfl)⟩) hP hD hS hA (fun zi_16 u_18 H locs hw_17 hP hD hS => ?_)
      obtain ⟨b_zi_16, ps_19⟩ : (0 ≤ zi_16.toInt ∧ zi_16.toInt ≤ 1) ∧ ((zi_16.toInt = 0 ∧ (zI (zR (zR (zR (zR zx 0) 2) zia.toNatClampNeg) 0) zib.toNatClampNeg).toInt = 2) ∨ (zi_16.toInt = 1 ∧ ¬ (zI (zR (zR (zR (zR zx 0) 2) zia.toNatClampNeg) 0) zib.toNatClampNeg).toInt = 2)) := hw_17
      refine lv_if_eq (tgt := 51) hx hb dX10_span_39 (by decide) (fun c_20 => ?_) (fun c_20 => ?_)
      · have f_21 : zi_16.toInt = 0 := ic_eq (rfl) (by decide) c_20
        refine lv_bipush (v := (-12)) hx hb dX10_span_51 (by decide) ?_
        subst hQ
        have qc_m12 : (-12 : Int32).toInt = -12 := by decide
        exact W.iret (v := (-12 : Int32)) hx hb hr (fun t ht hW => ⟨⟨(-12 : Int32), (zI, zJ), rfl, ⟨h_zI, (show (-12) ≤ (-12 : Int32).toInt ∧ (-12 : Int32).toInt ≤ 23 from by omega), (show JX zR zI zx from hj)⟩, ⟨by rw [ht]; exact hP, va_K.moved hW.alike hK, hD⟩⟩, hS.F ht⟩) hS.2.2 dX10_span_53
      · have f_21 : ¬ (zi_16.toInt = 0) := ic_neq (rfl) (by decide) c_20
        refine lv_aload hx hb dX10_span_42 (lv_at hl 0 rfl) ?_
        refine lv_iload_n hx hb dX10_span_44 rfl (lv_at hl 4 rfl) ?_
        refine hj_i (ws := (WL cy zL zT zR zI zJ)) (w1 := fun (u : Unit) => (WL cy zL zT zR zI zJ)) (va_runV (As := [.int zic]) (rest := []) ⟨hx, hb, hml, hown, hts⟩ (t_X0_isPlace l dC dI cy H.size zL zT zR zI zJ (zR (zR (zR zx 0) 2) zia.toNatClampNeg) zic hs h_zI.1 t_15 (by omega)) (cwV 1 hts gX10_span_X0_isPlace rfl rfl rfl (by decide +kernel) ⟨(Nat.le_of_ble_eq_true rfl), (Nat.le_of_ble_eq_true rfl)⟩) (PRE.v hP hK hD hN (ht_recv hK hP hs t_15 (by decide) rfl rfl)) rfl rfl hl.1 rfl (lv_room (Nat.le_of_ble_eq_true rfl)) dX10_span_45 ⟨(Nat.le_of_ble_eq_true rfl), (Nat.le_of_ble_eq_true rfl)⟩) hP hD hS hA (fun zi_22 u_24 H locs hw_23 hP hD hS => ?_)
        obtain ⟨b_zi_22, ps_25⟩ : (0 ≤ zi_22.toInt ∧ zi_22.toInt ≤ 1) ∧ ((zi_22.toInt = 0 ∧ (zI (zR (zR (zR (zR zx 0) 2) zia.toNatClampNeg) 0) zic.toNatClampNeg).toInt = 2) ∨ (zi_22.toInt = 1 ∧ ¬ (zI (zR (zR (zR (zR zx 0) 2) zia.toNatClampNeg) 0) zic.toNatClampNeg).toInt = 2)) := hw_23
        refine lv_if_ne (tgt := 54) hx hb dX10_span_48 (by decide) (fun c_26 => ?_) (fun c_26 => ?_)
        · have f_27 : zi_22.toInt ≠ 0 := ic_ne (rfl) (by decide) c_26
          refine lv_aload_n hx hb dX10_span_54 rfl (lv_at hl 1 rfl) ?_
          refine lv_iload_n hx hb dX10_span_55 rfl (lv_at hl 2 rfl) ?_
          refine hj_r (ws := (WL cy zL zT zR zI zJ)) (w1 := fun (u : (Nat → Nat → Int32) × (Nat → Nat → Int64)) => (WL cy zL zT zR u.1 u.2)) (va_runV (As := [.int zia]) (rest := []) ⟨hx, hb, hml, hown, hts⟩ (t_X10_lineOf l dC dI cy H.size zL zT zR zI zJ zx zia hs h_zI.1 t_zx (by omega) (by omega)) (cwV 1 hts gX10_span_X10_lineOf rfl rfl rfl (by decide +kernel) ⟨(Nat.le_of_ble_eq_true rfl), (Nat.le_of_ble_eq_true rfl)⟩) (PRE.v hP hK hD hN (ht_recv hK hP hs t_zx (by decide) rfl rfl)) rfl rfl hl.1 rfl (lv_room (Nat.le_of_ble_eq_true rfl)) dX10_span_56 ⟨(Nat.le_of_ble_eq_true rfl), (Nat.le_of_ble_eq_true rfl)⟩) hP hD hS hA (fun zi_28 u_30 H locs hw_29 hr0 hP hD hS => ?_)
          obtain ⟨zI_31, zJ_32⟩ := u_30
          obtain ⟨k_zI_31, ps_33, ps_34⟩ : (WM [1013, 1014, 3700, 3800, 3900, 4000, 4200, 4700] AL zT zR zI zI_31) ∧ (JX zR zI_31 zx) ∧ (LW zR zI_31 (zR (zR zx 6) zia.toNatClampNeg) (zR (zR (zR zx 0) 2) zia.toNatClampNeg)) := hw_29
          have h_zI_31 : WM [1013, 1014, 3700, 3800, 3900, 4000, 4200, 4700] AL zT zR zI zI_31 := h_zI.tr k_zI_31 (by decide) (fun _ _ => trivial)
          subst hr0
          have t_35 : zT (zR zx 6) = 64 := sk_f hs t_zx (by decide) rfl (by decide)
          have t_36 : zT (zR (zR zx 6) zia.toNatClampNeg) = 10 := sk_a (n := 2) hs t_35 rfl rfl (by decide) (cl_lt (by omega) (by omega))
          refine lv_astore (lv' := [(6, .ref (zR (zR zx 6) zia.toNatClampNeg)), (5, .ref (zR (zR (zR zx 0) 2) zia.toNatClampNeg)), (0, .ref zx), (1, .int zia), (2, .int zib), (3, .int zic), (4, .int zid)]) hx hb dX10_span_59 hl (by decide) rfl (fun ls hl => ?_)
          refine lv_aload hx hb dX10_span_61 (lv_at hl 0 rfl) ?_
          refine lv_aload hx hb dX10_span_63 (lv_at hl 0 rfl) ?_
          refine ht_getr (C := RX9) (T := TX9) (N := 16) hx hb hts (by decide +kernel) hown hK hP hs t_36 (by decide) rfl rfl 1 (by decide) (hts (.fieldLink RX10 246 "DripStone$Ways" "placeOf" "[I") (by decide +kernel)) (fun _ h9 => h9) rfl dX10_span_65 ?_
          have t_37 : zT (zR (zR (zR zx 6) zia.toNatClampNeg) 1) = 38 := sk_f hs t_36 (by decide) rfl (by decide)
          refine lv_iload_n hx hb dX10_span_68 rfl (lv_at hl 4 rfl) ?_
          refine ht_iald (n := 12) (q := 0) hx hb hK hP hs t_37 (by decide) rfl rfl ⟨by omega, by omega⟩ dX10_span_69 ?_
          refine lv_topi (fun zi_38 ezi_38 => ?_)
          have tzi_38 : 0 ≤ zi_38.toInt ∧ zi_38.toInt ≤ 11 := by rw [ezi_38]; exact h_zI_31.at t_37 _ rfl
          refine lv_aload hx hb dX10_span_70 (lv_at hl 0 rfl) ?_
          refine ht_getr (C := RX9) (T := TX9) (N := 16) hx hb hts (by decide +kernel) hown hK hP hs t_36 (by decide) rfl rfl 1 (by decide) (hts (.fieldLink RX10 246 "DripStone$Ways" "placeOf" "[I") (by decide +kernel)) (fun _ h9 => h9) rfl dX10_span_72 ?_
          refine lv_iload_n hx hb dX10_span_75 rfl (lv_at hl 5 rfl) ?_
          refine ht_iald (n := 12) (q := 0) hx hb hK hP hs t_37 (by decide) rfl rfl ⟨by omega, by omega⟩ dX10_span_76 ?_
          refine lv_topi (fun zi_39 ezi_39 => ?_)
          have tzi_39 : 0 ≤ zi_39.toInt ∧ zi_39.toInt ≤ 11 := by rw [ezi_39]; exact h_zI_31.at t_37 _ rfl
          have t_40 : zT (zR (zR (zR (zR zx 0) 2) zia.toNatClampNeg) 0) = 20 := sk_f hs t_15 (by decide) rfl (by decide)
          have q_41 : zi_39.toInt < (zI_31 (zR (zR zx 6) zia.toNatClampNeg) 14).toInt := by rw [← ezi_39.symm]; exact ps_34.2 _ (by rw [show zI_31 (zR (zR (zR zx 0) 2) zia.toNatClampNeg) 7 = zI (zR (zR (zR zx 0) 2) zia.toNatClampNeg) 7 from (k_zI_31.2 (zR (zR (zR zx 0) 2) zia.toNatClampNeg) 7 (Or.inl (by rw [t_15]; decide))), cl_i (by omega)]; omega) (by rw [show zI_31 (zR (zR (zR (zR zx 0) 2) zia.toNatClampNeg) 0) = zI (zR (zR (zR (zR zx 0) 2) zia.toNatClampNeg) 0) from (k_zI_31.2.row t_40 (by decide) (by decide))]; omega)
          refine hj_v (ws := (WL cy zL zT zR zI_31 zJ_32)) (w1 := fun (u : (Nat → Nat → Int64)) => (WL cy zL zT zR zI_31 u)) (va_runV (As := [.int zi_38, .int zi_39]) (rest := []) ⟨hx, hb, hml, hown, hts⟩ (t_X9_measure l dC dI cy H.size zL zT zR zI_31 zJ_32 (zR (zR zx 6) zia.toNatClampNeg) zi_38 zi_39 hs h_zI_31.1 t_36 (by omega) (by omega) (by omega)) (cwV 2 hts gX10_span_X9_measure rfl rfl rfl (by decide +kernel) ⟨(Nat.le_of_ble_eq_true rfl), (Nat.le_of_ble_eq_true rfl)⟩) (PRE.v hP hK hD hN (ht_recv hK hP hs t_36 (by decide) rfl rfl)) rfl rfl hl.1 rfl (lv_room (Nat.le_of_ble_eq_true rfl)) dX10_span_77 ⟨(Nat.le_of_ble_eq_true rfl), (Nat.le_of_ble_eq_true rfl)⟩) hP hD hS hA (fun zJ_45 H locs hw_43 hP hD hS => ?_)
          refine lv_aload hx hb dX10_span_80 (lv_at hl 0 rfl) ?_
          refine ht_getl (C := RX9) (T := TX9) (N := 16) hx hb hts (by decide +kernel) hown hK hP hs t_36 (by decide) rfl rfl 15 (by decide) (hts (.fieldLink RX10 242 "DripStone$Ways" "total" "J") (by decide +kernel)) (fun _ h9 => h9) rfl dX10_span_82 ?_
          refine lv_topl (fun zj_46 ezj_46 => ?_)
          refine lv_lconst (v := 0) hx hb dX10_span_85 (by decide) ?_
          refine W.lcmp hx hb dX10_span_86 ?_
          refine lv_topi (fun zi_47 ezi_47 => ?_)
          refine lv_if_ne (tgt := 95) hx hb dX10_span_87 (by decide) (fun c_48 => ?_) (fun c_48 => ?_)
          · have f_49 : ¬ (zj_46.toInt = (0 : Int)) := lk_ne ezi_47 (rfl) (show (0 : Int64).toInt = 0 by decide) c_48
            refine lv_aload hx hb dX10_span_95 (lv_at hl 0 rfl) ?_
            refine lv_iload hx hb dX10_span_97 (lv_at hl 6 rfl) ?_
            refine hj_i (ws := (WL cy zL zT zR zI_31 zJ_45)) (w1 := fun (u : Unit) => (WL cy zL zT zR zI_31 zJ_45)) (va_runV (As := [.int zid]) (rest := []) ⟨hx, hb, hml, hown, hts⟩ (t_X9_distanceEnd l dC dI cy H.size zL zT zR zI_31 zJ_45 (zR (zR zx 6) zia.toNatClampNeg) zid hs h_zI_31.1 t_36) (cwV 1 hts gX10_span_X9_distanceEnd rfl rfl rfl (by decide +kernel) ⟨(Nat.le_of_ble_eq_true rfl), (Nat.le_of_ble_eq_true rfl)⟩) (PRE.v hP hK hD hN (ht_recv hK hP hs t_36 (by decide) rfl rfl)) rfl rfl hl.1 rfl (lv_room (Nat.le_of_ble_eq_true rfl)) dX10_span_99 ⟨(Nat.le_of_ble_eq_true rfl), (Nat.le_of_ble_eq_true rfl)⟩) hP hD hS hA (fun zi_50 u_52 H locs hw_51 hP hD hS => ?_)
            have b_zi_50 : 0 ≤ zi_50.toInt ∧ zi_50.toInt ≤ 23 := hw_51
            subst hQ
            exact W.iret (v := zi_50) hx hb hr (fun t ht hW => ⟨⟨zi_50, (zI_31, zJ_45), rfl, ⟨h_zI_31, (show (-12) ≤ zi_50.toInt ∧ zi_50.toInt ≤ 23 from by omega), (show JX zR zI_31 zx from ps_33)⟩, ⟨by rw [ht]; exact hP, va_K.moved hW.alike hK, hD⟩⟩, hS.F ht⟩) hS.2.2 dX10_span_102
          · have f_49 : zj_46.toInt = (0 : Int) := lk_nne ezi_47 (rfl) (show (0 : Int64).toInt = 0 by decide) c_48
            refine lv_bipush (v := (-4)) hx hb dX10_span_90 (by decide) ?_
            refine lv_goto (tgt := 102) hx hb dX10_span_92 (by decide) ?_
            subst hQ
            have qc_m4 : (-4 : Int32).toInt = -4 := by decide
            exact W.iret (v := (-4 : Int32)) hx hb hr (fun t ht hW => ⟨⟨(-4 : Int32), (zI_31, zJ_45), rfl, ⟨h_zI_31, (show (-12) ≤ (-4 : Int32).toInt ∧ (-4 : Int32).toInt ≤ 23 from by omega), (show JX zR zI_31 zx from ps_33)⟩, ⟨by rw [ht]; exact hP, va_K.moved hW.alike hK, hD⟩⟩, hS.F ht⟩) hS.2.2 dX10_span_102
        · have f_27 : ¬ (zi_22.toInt ≠ 0) := ic_nne (rfl) (by decide) c_26
          refine lv_bipush (v := (-12)) hx hb dX10_span_51 (by decide) ?_
          subst hQ
          have qc_m12 : (-12 : Int32).toInt = -12 := by decide
          exact W.iret (v := (-12 : Int32)) hx hb hr (fun t ht hW => ⟨⟨(-12 : Int32), (zI, zJ), rfl, ⟨h_zI, (show (-12) ≤ (-12 : Int32).toInt ∧ (-12 : Int32).toInt ≤ 23 from by omega), (show JX zR zI zx from hj)⟩, ⟨by rw [ht]; exact hP, va_K.moved hW.alike hK, hD⟩⟩, hS.F ht⟩) hS.2.2 dX10_span_53
    · have f_12 : ¬ (0 ≤ zid.toInt ∧ zid.toInt ≤ 1) := bz_0 hw_9 c_11
      refine lv_iconst (v := (-1)) hx hb dX10_span_20 (by decide) ?_
      subst hQ
      have qc_m1 : (-1 : Int32).toInt = -1 := by decide
      exact W.iret (v := (-1 : Int32)) hx hb hr (fun t ht hW => ⟨⟨(-1 : Int32), (zI, zJ), rfl, ⟨h_zI, (show (-12) ≤ (-1 : Int32).toInt ∧ (-1 : Int32).toInt ≤ 23 from by omega), (show JX zR zI zx from hj)⟩, ⟨by rw [ht]; exact hP, va_K.moved hW.alike hK, hD⟩⟩, hS.F ht⟩) hS.2.2 dX10_span_21
set_option maxHeartbeats 8000000 in
set_option maxRecDepth 100000 in
theorem t_X10_apart (l : Launch) (dC : Nat → ClassId) (dI : Nat → Nat → Nat) (cy : Nat → ClassId) (sz : Nat) (zL : List Nat) (zT : Nat → Nat) (zR : Nat → Nat → Nat) (zI : Nat → Nat → Int32) (zJ : Nat → Nat → Int64) (zx : Nat) (zia : Int32) (zib : Int32) (zic : Int32) (zid : Int32) (zie : Int32) (hs : SKP zL zT zR) (hw : WT zT zR zI) (t_zx : zT zx = 11) (hj : JX zR zI zx) : Met l yX10_apart wsX10_apart ({ frames := 5, cells := 0, slots := 0, locals := 126 } : Room) (va_Pc [.ref zx, .int zia, .int zib, .int zic, .int zid, .int zie] (PRE dC dI cy (WL cy zL zT zR zI zJ) sz)) (va_Ql (fun (r : Int64) (u : (Nat → Nat → Int32) × (Nat → Nat → Int64)) => (WM [1013, 1014, 3700, 3800, 3900, 4000, 4200, 4700] AL zT zR zI u.1) ∧ (JX zR u.1 zx)) (fun u t => POST dC dI cy (va_A (WL cy zL zT zR zI zJ) sz) (WL cy zL zT zR u.1 u.2) t) (va_A (WL cy zL zT zR zI zJ) sz)) 0 0 (va_A (WL cy zL zT zR zI zJ) sz) := by
  refine Met.ofW (cc := cX10_apart) (maxL := 11) (ret := (some .long)) (by decide) rfl ?_
  intro p e s m args below meth c s₁ B hml hv
  obtain ⟨rfl, hsz, hP, hK, hD0, hN⟩ := hv
  have hx := B.exec
  have hb := B.bytes
  have hr := B.returns
  have hts := atoms_spec (ws := wsX10_apart) B.pre
  have hown : s.vm.findClass RX10 = some m.cls := findClass_of_methodNamed B.named
  have hlocks := B.notSynchronized
  subst hsz
  have hD := hD0.self (sz := s.heap.size)
  generalize hAe : va_A (WL cy zL zT zR zI zJ) s.heap.size = A at hD ⊢
  have hA : ∀ q : Nat, s.heap.size ≤ q → A q := fun q h => by rw [← hAe]; exact Or.inr h
  have hS : va_S A s.heap s.heap [] := va_S.rf
  have hP : va_P (dC, dI) vwCl (WL cy zL zT zR zI zJ) s.heap := hP
  have hl := lv_entry ([.ref zx, .int zia, .int zib, .int zic, .int zid, .int zie] : List Value) (n := 11) (Nat.le_of_ble_eq_true rfl)
  rw [lg_entry_eq]
  generalize (lg_sl ([.ref zx, .int zia, .int zib, .int zic, .int zid, .int zie] : List Value) ++ List.replicate (11 - (lg_sl ([.ref zx, .int zia, .int zib, .int zic, .int zid, .int zie] : List Value)).length) Slot.unset).toArray = ls at hl ⊢
  have hl : lv_has ls 11 [(0, .ref zx), (1, .int zia), (2, .int zib), (3, .int zic), (4, .int zid), (5, .int zie)] := hl
  refine w_q (fun Q hQ => ?_)
  have h_zI : WM [1013, 1014, 3700, 3800, 3900, 4000, 4200, 4700] AL zT zR zI zI := WM.rf hw
  refine lv_aload_n hx hb dX10_apart_0 rfl (lv_at hl 0 rfl) ?_
  refine lv_iload_n hx hb dX10_apart_1 rfl (lv_at hl 1 rfl) ?_
  refine lv_iload_n hx hb dX10_apart_2 rfl (lv_at hl 2 rfl) ?_
  refine lv_iload_n hx hb dX10_apart_3 rfl (lv_at hl 3 rfl) ?_
  refine hj_i (ws := (WL cy zL zT zR zI zJ)) (w1 := fun (u : Unit) => (WL cy zL zT zR zI zJ)) (va_runV (As := [.int zia, .int zib, .int zic]) (rest := []) ⟨hx, hb, hml, hown, hts⟩ (t_X10_isPair l dC dI cy s.heap.size zL zT zR zI zJ zx zia zib zic hs h_zI.1 t_zx) (cwV 3 hts gX10_apart_X10_isPair rfl rfl rfl (by decide +kernel) ⟨(Nat.le_of_ble_eq_true rfl), (Nat.le_of_ble_eq_true rfl)⟩) (PRE.v hP hK hD hN (ht_recv hK hP hs t_zx (by decide) rfl rfl)) rfl rfl hl.1 rfl (lv_room (Nat.le_of_ble_eq_true rfl)) dX10_apart_4 ⟨(Nat.le_of_ble_eq_true rfl), (Nat.le_of_ble_eq_true rfl)⟩) hP hD hS hA (fun zi_1 u_3 H locs hw_2 hP hD hS => ?_)
  obtain ⟨b_zi_1, ps_4, ps_5⟩ : (0 ≤ zi_1.toInt ∧ zi_1.toInt ≤ 1) ∧ (zi_1.toInt = 0 ∨ (0 ≤ zia.toInt ∧ zia.toInt ≤ 1 ∧ 0 ≤ zib.toInt ∧ zib.toInt ≤ 11 ∧ 0 ≤ zic.toInt ∧ zic.toInt ≤ 11)) ∧ (zi_1.toInt = 0 ∨ zic.toInt < (zI (zR (zR (zR zx 0) 2) zia.toNatClampNeg) 7).toInt) := hw_2
  refine lv_if_eq (tgt := 28) hx hb dX10_apart_7 (by decide) (fun c_6 => ?_) (fun c_6 => ?_)
  · have f_7 : zi_1.toInt = 0 := ic_eq (rfl) (by decide) c_6
    refine lv_ldc2 (v := (-1)) hx hb hown (hts (.constantLong RX10 234 (-1)) (by decide +kernel)) dX10_apart_28 ?_
    subst hQ
    exact W.lret (v := (-1 : Int64)) hx hb hr (fun t ht hW => ⟨⟨(-1 : Int64), (zI, zJ), rfl, ⟨h_zI, (show JX zR zI zx from hj)⟩, ⟨by rw [ht]; exact hP, va_K.moved hW.alike hK, hD⟩⟩, hS.F ht⟩) hS.2.2 dX10_apart_31
  · have f_7 : ¬ (zi_1.toInt = 0) := ic_neq (rfl) (by decide) c_6
    have b9_zia : 0 ≤ zia.toInt ∧ zia.toInt ≤ 1 := by omega
    have b9_zib : 0 ≤ zib.toInt ∧ zib.toInt ≤ 11 := by omega
    have b9_zic : 0 ≤ zic.toInt ∧ zic.toInt ≤ 11 := by omega
    refine lv_iload hx hb dX10_apart_10 (lv_at hl 4 rfl) ?_
    refine hj0_i (ws := (WL cy zL zT zR zI zJ)) (va_runS (As := [.int zid]) (rest := []) ⟨hx, hb, hml, hown, hts⟩ (c_X10_isYear l dC dI cy H.size zid) (va_cwS 1 hts gX10_apart_X10_isYear rfl rfl rfl (by decide +kernel) ⟨(Nat.le_of_ble_eq_true rfl), (Nat.le_of_ble_eq_true rfl)⟩) (PRE.s (hP.sub [] rfl) hK (hD.sub [] (by decide) rfl) hN) rfl rfl hl.1 rfl (lv_room (Nat.le_of_ble_eq_true rfl)) dX10_apart_12 ⟨(Nat.le_of_ble_eq_true rfl), (Nat.le_of_ble_eq_true rfl)⟩) hP hD hS hA (fun zi_8 u_10 H locs hw_9 hP hD hS => ?_)
    have hw_9 : zi_8 = if 0 ≤ zid.toInt ∧ zid.toInt ≤ 23 then 1 else 0 := hw_9
    have b_zi_8 : 0 ≤ zi_8.toInt ∧ zi_8.toInt ≤ 1 := bz_b hw_9
    refine lv_if_eq (tgt := 28) hx hb dX10_apart_15 (by decide) (fun c_11 => ?_) (fun c_11 => ?_)
    · have f_12 : ¬ (0 ≤ zid.toInt ∧ zid.toInt ≤ 23) := bz_0 hw_9 c_11
      refine lv_ldc2 (v := (-1)) hx hb hown (hts (.constantLong RX10 234 (-1)) (by decide +kernel)) dX10_apart_28 ?_
      subst hQ
      exact W.lret (v := (-1 : Int64)) hx hb hr (fun t ht hW => ⟨⟨(-1 : Int64), (zI, zJ), rfl, ⟨h_zI, (show JX zR zI zx from hj)⟩, ⟨by rw [ht]; exact hP, va_K.moved hW.alike hK, hD⟩⟩, hS.F ht⟩) hS.2.2 dX10_apart_31
    · have f_12 : 0 ≤ zid.toInt ∧ zid.toInt ≤ 23 := bz_1 hw_9 c_11
      refine lv_iload hx hb dX10_apart_18 (lv_at hl 5 rfl) ?_
      refine lv_iconst (v := 0) hx hb dX10_apart_20 (by decide) ?_
      refine lv_iconst (v := 1) hx hb dX10_apart_21 (by decide) ?_
      refine hj0_i (ws := (WL cy zL zT zR zI zJ)) (va_runS (As := [.int zie, .int 0, .int 1]) (rest := []) ⟨hx, hb, hml, hown, hts⟩ (c_X10_isWithin l dC dI cy H.size zie 0 1 0 1 (by first | rfl | decide | omega | exact Int32.toInt_toInt64 _) (by first | rfl | decide | omega | exact Int32.toInt_toInt64 _)) (va_cwS 3 hts gX10_apart_X10_isWithin rfl rfl rfl (by decide +kernel) ⟨(Nat.le_of_ble_eq_true rfl), (Nat.le_of_ble_eq_true rfl)⟩) (PRE.s (hP.sub [] rfl) hK (hD.sub [] (by decide) rfl) hN) rfl rfl hl.1 rfl (lv_room (Nat.le_of_ble_eq_true rfl)) dX10_apart_22 ⟨(Nat.le_of_ble_eq_true rfl), (Nat.le_of_ble_eq_true rfl)⟩) hP hD hS hA (fun zi_13 u_15 H locs hw_14 hP hD hS => ?_)
      have hw_14 : zi_13 = if 0 ≤ zie.toInt ∧ zie.toInt ≤ 1 then 1 else 0 := hw_14
      have b_zi_13 : 0 ≤ zi_13.toInt ∧ zi_13.toInt ≤ 1 := bz_b hw_14
      refine lv_if_ne (tgt := 32) hx hb dX10_apart_25 (by decide) (fun c_16 => ?_) (fun c_16 => ?_)
      · have f_17 : 0 ≤ zie.toInt ∧ zie.toInt ≤ 1 := bz_1 hw_14 c_16
        refine lv_aload_n hx hb dX10_apart_32 rfl (lv_at hl 0 rfl) ?_
        refine ht_getr (C := RX10) (T := TX10) (N := 10) hx hb hts (by decide +kernel) hown hK hP hs t_zx (by decide) rfl rfl 0 (by decide) (hts (.fieldLink RX10 12 "DripStone" "now" "LDripStone$State;") (by decide +kernel)) (fun _ h9 => h9) rfl dX10_apart_33 ?_
        have t_18 : zT (zR zx 0) = 9 := sk_f hs t_zx (by decide) rfl (by decide)
        refine ht_getr (C := RX8) (T := TX8) (N := 9) hx hb hts (by decide +kernel) hown hK hP hs t_18 (by decide) rfl rfl 2 (by decide) (hts (.fieldLink RX10 147 "DripStone$State" "candles" "[LDripStone$Candle;") (by decide +kernel)) (fun _ h9 => h9) rfl dX10_apart_36 ?_
        have t_19 : zT (zR (zR zx 0) 2) = 61 := sk_f hs t_18 (by decide) rfl (by decide)
        refine lv_iload_n hx hb dX10_apart_39 rfl (lv_at hl 1 rfl) ?_
        refine ht_aald (n := 2) (q := 3) hx hb hK hP hs t_19 (by decide) rfl rfl ⟨by omega, by omega⟩ dX10_apart_40 ?_
        have t_20 : zT (zR (zR (zR zx 0) 2) zia.toNatClampNeg) = 1 := sk_a (n := 2) hs t_19 rfl rfl (by decide) (cl_lt (by omega) (by omega))
        refine lv_astore (lv' := [(6, .ref (zR (zR (zR zx 0) 2) zia.toNatClampNeg)), (0, .ref zx), (1, .int zia), (2, .int zib), (3, .int zic), (4, .int zid), (5, .int zie)]) hx hb dX10_apart_41 hl (by decide) rfl (fun ls hl => ?_)
        refine lv_aload hx hb dX10_apart_43 (lv_at hl 0 rfl) ?_
        refine lv_iload_n hx hb dX10_apart_45 rfl (lv_at hl 3 rfl) ?_
        refine hj_i (ws := (WL cy zL zT zR zI zJ)) (w1 := fun (u : Unit) => (WL cy zL zT zR zI zJ)) (va_runV (As := [.int zib]) (rest := []) ⟨hx, hb, hml, hown, hts⟩ (t_X0_isPlace l dC dI cy H.size zL zT zR zI zJ (zR (zR (zR zx 0) 2) zia.toNatClampNeg) zib hs h_zI.1 t_20 (by omega)) (cwV 1 hts gX10_apart_X0_isPlace rfl rfl rfl (by decide +kernel) ⟨(Nat.le_of_ble_eq_true rfl), (Nat.le_of_ble_eq_true rfl)⟩) (PRE.v hP hK hD hN (ht_recv hK hP hs t_20 (by decide) rfl rfl)) rfl rfl hl.1 rfl (lv_room (Nat.le_of_ble_eq_true rfl)) dX10_apart_46 ⟨(Nat.le_of_ble_eq_true rfl), (Nat.le_of_ble_eq_true rfl)⟩) hP hD hS hA (fun zi_21 u_23 H locs hw_22 hP hD hS => ?_)
        obtain ⟨b_zi_21, ps_24⟩ : (0 ≤ zi_21.toInt ∧ zi_21.toInt ≤ 1) ∧ ((zi_21.toInt = 0 ∧ (zI (zR (zR (zR (zR zx 0) 2) zia.toNatClampNeg) 0) zib.toNatClampNeg).toInt = 2) ∨ (zi_21.toInt = 1 ∧ ¬ (zI (zR (zR (zR (zR zx 0) 2) zia.toNatClampNeg) 0) zib.toNatClampNeg).toInt = 2)) := hw_22
        refine lv_if_eq (tgt := 61) hx hb dX10_apart_49 (by decide) (fun c_25 => ?_) (fun c_25 => ?_)
        · have f_26 : zi_21.toInt = 0 := ic_eq (rfl) (by decide) c_25
          refine lv_ldc2 (v := (-12)) hx hb hown (hts (.constantLong RX10 252 (-12)) (by decide +kernel)) dX10_apart_61 ?_
          subst hQ
          exact W.lret (v := (-12 : Int64)) hx hb hr (fun t ht hW => ⟨⟨(-12 : Int64), (zI, zJ), rfl, ⟨h_zI, (show JX zR zI zx from hj)⟩, ⟨by rw [ht]; exact hP, va_K.moved hW.alike hK, hD⟩⟩, hS.F ht⟩) hS.2.2 dX10_apart_64
        · have f_26 : ¬ (zi_21.toInt = 0) := ic_neq (rfl) (by decide) c_25
          refine lv_aload hx hb dX10_apart_52 (lv_at hl 0 rfl) ?_
          refine lv_iload_n hx hb dX10_apart_54 rfl (lv_at hl 4 rfl) ?_
          refine hj_i (ws := (WL cy zL zT zR zI zJ)) (w1 := fun (u : Unit) => (WL cy zL zT zR zI zJ)) (va_runV (As := [.int zic]) (rest := []) ⟨hx, hb, hml, hown, hts⟩ (t_X0_isPlace l dC dI cy H.size zL zT zR zI zJ (zR (zR (zR zx 0) 2) zia.toNatClampNeg) zic hs h_zI.1 t_20 (by omega)) (cwV 1 hts gX10_apart_X0_isPlace rfl rfl rfl (by decide +kernel) ⟨(Nat.le_of_ble_eq_true rfl), (Nat.le_of_ble_eq_true rfl)⟩) (PRE.v hP hK hD hN (ht_recv hK hP hs t_20 (by decide) rfl rfl)) rfl rfl hl.1 rfl (lv_room (Nat.le_of_ble_eq_true rfl)) dX10_apart_55 ⟨(Nat.le_of_ble_eq_true rfl), (Nat.le_of_ble_eq_true rfl)⟩) hP hD hS hA (fun zi_27 u_29 H locs hw_28 hP hD hS => ?_)
          obtain ⟨b_zi_27, ps_30⟩ : (0 ≤ zi_27.toInt ∧ zi_27.toInt ≤ 1) ∧ ((zi_27.toInt = 0 ∧ (zI (zR (zR (zR (zR zx 0) 2) zia.toNatClampNeg) 0) zic.toNatClampNeg).toInt = 2) ∨ (zi_27.toInt = 1 ∧ ¬ (zI (zR (zR (zR (zR zx 0) 2) zia.toNatClampNeg) 0) zic.toNatClampNeg).toInt = 2)) := hw_28
          refine lv_if_ne (tgt := 65) hx hb dX10_apart_58 (by decide) (fun c_31 => ?_) (fun c_31 => ?_)
          · have f_32 : zi_27.toInt ≠ 0 := ic_ne (rfl) (by decide) c_31
            refine lv_aload_n hx hb dX10_apart_65 rfl (lv_at hl 1 rfl) ?_
            refine lv_iload_n hx hb dX10_apart_66 rfl (lv_at hl 2 rfl) ?_
            refine hj_r (ws := (WL cy zL zT zR zI zJ)) (w1 := fun (u : (Nat → Nat → Int32) × (Nat → Nat → Int64)) => (WL cy zL zT zR u.1 u.2)) (va_runV (As := [.int zia]) (rest := []) ⟨hx, hb, hml, hown, hts⟩ (t_X10_lineOf l dC dI cy H.size zL zT zR zI zJ zx zia hs h_zI.1 t_zx (by omega) (by omega)) (cwV 1 hts gX10_apart_X10_lineOf rfl rfl rfl (by decide +kernel) ⟨(Nat.le_of_ble_eq_true rfl), (Nat.le_of_ble_eq_true rfl)⟩) (PRE.v hP hK hD hN (ht_recv hK hP hs t_zx (by decide) rfl rfl)) rfl rfl hl.1 rfl (lv_room (Nat.le_of_ble_eq_true rfl)) dX10_apart_67 ⟨(Nat.le_of_ble_eq_true rfl), (Nat.le_of_ble_eq_true rfl)⟩) hP hD hS hA (fun zi_33 u_35 H locs hw_34 hr0 hP hD hS => ?_)
            obtain ⟨zI_36, zJ_37⟩ := u_35
            obtain ⟨k_zI_36, ps_38, ps_39⟩ : (WM [1013, 1014, 3700, 3800, 3900, 4000, 4200, 4700] AL zT zR zI zI_36) ∧ (JX zR zI_36 zx) ∧ (LW zR zI_36 (zR (zR zx 6) zia.toNatClampNeg) (zR (zR (zR zx 0) 2) zia.toNatClampNeg)) := hw_34
            have h_zI_36 : WM [1013, 1014, 3700, 3800, 3900, 4000, 4200, 4700] AL zT zR zI zI_36 := h_zI.tr k_zI_36 (by decide) (fun _ _ => trivial)
            subst hr0
            have t_40 : zT (zR zx 6) = 64 := sk_f hs t_zx (by decide) rfl (by decide)
            have t_41 : zT (zR (zR zx 6) zia.toNatClampNeg) = 10 := sk_a (n := 2) hs t_40 rfl rfl (by decide) (cl_lt (by omega) (by omega))
            refine lv_astore (lv' := [(7, .ref (zR (zR zx 6) zia.toNatClampNeg)), (6, .ref (zR (zR (zR zx 0) 2) zia.toNatClampNeg)), (0, .ref zx), (1, .int zia), (2, .int zib), (3, .int zic), (4, .int zid), (5, .int zie)]) hx hb dX10_apart_70 hl (by decide) rfl (fun ls hl => ?_)
            refine lv_aload hx hb dX10_apart_72 (lv_at hl 0 rfl) ?_
            refine lv_aload hx hb dX10_apart_74 (lv_at hl 0 rfl) ?_
            refine ht_getr (C := RX9) (T := TX9) (N := 16) hx hb hts (by decide +kernel) hown hK hP hs t_41 (by decide) rfl rfl 1 (by decide) (hts (.fieldLink RX10 246 "DripStone$Ways" "placeOf" "[I") (by decide +kernel)) (fun _ h9 => h9) rfl dX10_apart_76 ?_
            have t_42 : zT (zR (zR (zR zx 6) zia.toNatClampNeg) 1) = 38 := sk_f hs t_41 (by decide) rfl (by decide)
            refine lv_iload_n hx hb dX10_apart_79 rfl (lv_at hl 4 rfl) ?_
            refine ht_iald (n := 12) (q := 0) hx hb hK hP hs t_42 (by decide) rfl rfl ⟨by omega, by omega⟩ dX10_apart_80 ?_
            refine lv_topi (fun zi_43 ezi_43 => ?_)
            have tzi_43 : 0 ≤ zi_43.toInt ∧ zi_43.toInt ≤ 11 := by rw [ezi_43]; exact h_zI_36.at t_42 _ rfl
            refine lv_aload hx hb dX10_apart_81 (lv_at hl 0 rfl) ?_
            refine ht_getr (C := RX9) (T := TX9) (N := 16) hx hb hts (by decide +kernel) hown hK hP hs t_41 (by decide) rfl rfl 1 (by decide) (hts (.fieldLink RX10 246 "DripStone$Ways" "placeOf" "[I") (by decide +kernel)) (fun _ h9 => h9) rfl dX10_apart_83 ?_
            refine lv_iload_n hx hb dX10_apart_86 rfl (lv_at hl 5 rfl) ?_
            refine ht_iald (n := 12) (q := 0) hx hb hK hP hs t_42 (by decide) rfl rfl ⟨by omega, by omega⟩ dX10_apart_87 ?_
            refine lv_topi (fun zi_44 ezi_44 => ?_)
            have tzi_44 : 0 ≤ zi_44.toInt ∧ zi_44.toInt ≤ 11 := by rw [ezi_44]; exact h_zI_36.at t_42 _ rfl
            have t_45 : zT (zR (zR (zR (zR zx 0) 2) zia.toNatClampNeg) 0) = 20 := sk_f hs t_20 (by decide) rfl (by decide)
            have q_46 : zi_44.toInt < (zI_36 (zR (zR zx 6) zia.toNatClampNeg) 14).toInt := by rw [← ezi_44.symm]; exact ps_39.2 _ (by rw [show zI_36 (zR (zR (zR zx 0) 2) zia.toNatClampNeg) 7 = zI (zR (zR (zR zx 0) 2) zia.toNatClampNeg) 7 from (k_zI_36.2 (zR (zR (zR zx 0) 2) zia.toNatClampNeg) 7 (Or.inl (by rw [t_20]; decide))), cl_i (by omega)]; omega) (by rw [show zI_36 (zR (zR (zR (zR zx 0) 2) zia.toNatClampNeg) 0) = zI (zR (zR (zR (zR zx 0) 2) zia.toNatClampNeg) 0) from (k_zI_36.2.row t_45 (by decide) (by decide))]; omega)
            refine hj_v (ws := (WL cy zL zT zR zI_36 zJ_37)) (w1 := fun (u : (Nat → Nat → Int64)) => (WL cy zL zT zR zI_36 u)) (va_runV (As := [.int zi_43, .int zi_44]) (rest := []) ⟨hx, hb, hml, hown, hts⟩ (t_X9_measure l dC dI cy H.size zL zT zR zI_36 zJ_37 (zR (zR zx 6) zia.toNatClampNeg) zi_43 zi_44 hs h_zI_36.1 t_41 (by omega) (by omega) (by omega)) (cwV 2 hts gX10_apart_X9_measure rfl rfl rfl (by decide +kernel) ⟨(Nat.le_of_ble_eq_true rfl), (Nat.le_of_ble_eq_true rfl)⟩) (PRE.v hP hK hD hN (ht_recv hK hP hs t_41 (by decide) rfl rfl)) rfl rfl hl.1 rfl (lv_room (Nat.le_of_ble_eq_true rfl)) dX10_apart_88 ⟨(Nat.le_of_ble_eq_true rfl), (Nat.le_of_ble_eq_true rfl)⟩) hP hD hS hA (fun zJ_50 H locs hw_48 hP hD hS => ?_)
            refine lv_lconst (v := 0) hx hb dX10_apart_91 (by decide) ?_
            refine lv_lstore (lv' := [(8, .long 0), (7, .ref (zR (zR zx 6) zia.toNatClampNeg)), (6, .ref (zR (zR (zR zx 0) 2) zia.toNatClampNeg)), (0, .ref zx), (1, .int zia), (2, .int zib), (3, .int zic), (4, .int zid), (5, .int zie)]) hx hb dX10_apart_92 hl (by decide) rfl (fun ls hl => ?_)
            refine lv_iload hx hb dX10_apart_94 (lv_at hl 7 rfl) ?_
            refine lv_istore (lv' := [(10, .int zid), (8, .long 0), (7, .ref (zR (zR zx 6) zia.toNatClampNeg)), (6, .ref (zR (zR (zR zx 0) 2) zia.toNatClampNeg)), (0, .ref zx), (1, .int zia), (2, .int zib), (3, .int zic), (4, .int zid), (5, .int zie)]) hx hb dX10_apart_96 hl (by decide) rfl (fun ls hl => ?_)
            have lp_71 : ∀ (n : Nat) (zj_57 : Int64) (zi_58 : Int32) (H : Heap) (locs : List Loc) (ls : Array Slot), (24 - zi_58.toInt).toNat = n → (0 ≤ zi_58.toInt ∧ zi_58.toInt ≤ 24) → (JX zR zI_36 zx) → va_P (dC, dI) vwCl (WL cy zL zT zR zI_36 zJ_50) H → va_D A (WL cy zL zT zR zI_36 zJ_50) → va_S A s.heap H locs → lv_has ls 11 [(0, .ref zx), (1, .int zia), (2, .int zib), (3, .int zic), (4, .int zid), (5, .int zie), (6, .ref (zR (zR (zR zx 0) 2) zia.toNatClampNeg)), (7, .ref (zR (zR zx 6) zia.toNatClampNeg)), (8, .long zj_57), (10, .int zi_58)] → W p l e ({ frames := 5, cells := 0, slots := 0, locals := 126 } : Room) s m ([.ref zx, .int zia, .int zib, .int zic, .int zid, .int zie] : List Value).toArray below meth c H locs 0 0 Q (F0 m 98 ls []) := by
              intro n
              induction n using Nat.strongRecOn with
              | _ n ih_71 =>
                intro zj_57 zi_58 H locs ls hn b_zi_58 e_lp_71_0 hP hD hS hl
                refine lv_iload hx hb dX10_apart_98 (lv_at hl 9 rfl) ?_
                refine lv_bipush (v := 24) hx hb dX10_apart_100 (by decide) ?_
                refine lv_icmp_ge (tgt := 124) hx hb dX10_apart_102 (by decide) (fun c_72 => ?_) (fun c_72 => ?_)
                · have f_73 : zi_58.toInt ≥ (24 : Int) := ic_ge (rfl) (show (24 : Int32).toInt = 24 by decide) c_72
                  refine lv_lload hx hb dX10_apart_124 (lv_at hl 8 rfl) ?_
                  refine lv_aload hx hb dX10_apart_126 (lv_at hl 7 rfl) ?_
                  refine ht_getl (C := RX9) (T := TX9) (N := 16) hx hb hts (by decide +kernel) hown hK hP hs t_41 (by decide) rfl rfl 15 (by decide) (hts (.fieldLink RX10 242 "DripStone$Ways" "total" "J") (by decide +kernel)) (fun _ h9 => h9) rfl dX10_apart_128 ?_
                  refine lv_topl (fun zj_74 ezj_74 => ?_)
                  refine lv_iload hx hb dX10_apart_131 (lv_at hl 5 rfl) ?_
                  refine hj0_l (ws := (WL cy zL zT zR zI_36 zJ_50)) (va_runS (As := [.long zj_57, .long zj_74, .int zie]) (rest := []) ⟨hx, hb, hml, hown, hts⟩ (c_X10_oddsPart l dC dI cy H.size zj_57 zj_74 zie) (va_cwS 3 hts gX10_apart_X10_oddsPart rfl rfl rfl (by decide +kernel) ⟨(Nat.le_of_ble_eq_true rfl), (Nat.le_of_ble_eq_true rfl)⟩) (PRE.s (hP.sub [] rfl) hK (hD.sub [] (by decide) rfl) hN) rfl rfl hl.1 rfl (lv_room (Nat.le_of_ble_eq_true rfl)) dX10_apart_133 ⟨(Nat.le_of_ble_eq_true rfl), (Nat.le_of_ble_eq_true rfl)⟩) hP hD hS hA (fun zj_75 u_77 H locs hw_76 hP hD hS => ?_)
                  subst hQ
                  exact W.lret (v := zj_75) hx hb hr (fun t ht hW => ⟨⟨zj_75, (zI_36, zJ_50), rfl, ⟨h_zI_36, (show JX zR zI_36 zx from e_lp_71_0)⟩, ⟨by rw [ht]; exact hP, va_K.moved hW.alike hK, hD⟩⟩, hS.F ht⟩) hS.2.2 dX10_apart_136
                · have f_73 : ¬ (zi_58.toInt ≥ (24 : Int)) := ic_nge (rfl) (show (24 : Int32).toInt = 24 by decide) c_72
                  refine lv_lload hx hb dX10_apart_105 (lv_at hl 8 rfl) ?_
                  refine lv_aload hx hb dX10_apart_107 (lv_at hl 7 rfl) ?_
                  refine ht_getr (C := RX9) (T := TX9) (N := 16) hx hb hts (by decide +kernel) hown hK hP hs t_41 (by decide) rfl rfl 9 (by decide) (hts (.fieldLink RX10 272 "DripStone$Ways" "distances" "[J") (by decide +kernel)) (fun _ h9 => h9) rfl dX10_apart_109 ?_
                  have t_78 : zT (zR (zR (zR zx 6) zia.toNatClampNeg) 9) = 51 := sk_f hs t_41 (by decide) rfl (by decide)
                  refine lv_iload hx hb dX10_apart_112 (lv_at hl 9 rfl) ?_
                  refine ht_lald (n := 24) (q := 1) hx hb hK hP hs t_78 (by decide) rfl rfl ⟨by omega, by omega⟩ dX10_apart_114 ?_
                  refine lv_topl (fun zj_79 ezj_79 => ?_)
                  refine lv_ladd hx hb dX10_apart_115 ?_
                  refine lv_topl (fun zj_80 ezj_80 => ?_)
                  refine lv_lstore (lv' := [(8, .long zj_80), (0, .ref zx), (1, .int zia), (2, .int zib), (3, .int zic), (4, .int zid), (5, .int zie), (6, .ref (zR (zR (zR zx 0) 2) zia.toNatClampNeg)), (7, .ref (zR (zR zx 6) zia.toNatClampNeg)), (10, .int zi_58)]) hx hb dX10_apart_116 hl (by decide) rfl (fun ls hl => ?_)
                  obtain ⟨zi_81, ezi_81⟩ : ∃ y : Int32, y = zi_58 + 1 := ⟨_, rfl⟩
                  have tzi_81 : zi_81.toInt = zi_58.toInt + 1 := by rw [ezi_81]; exact tadd rfl (show (1 : Int32).toInt = 1 by decide) (by omega) (by omega)
                  refine lv_iinc (v := zi_81) (lv' := [(10, .int zi_81), (8, .long zj_80), (0, .ref zx), (1, .int zia), (2, .int zib), (3, .int zic), (4, .int zid), (5, .int zie), (6, .ref (zR (zR (zR zx 0) 2) zia.toNatClampNeg)), (7, .ref (zR (zR zx 6) zia.toNatClampNeg))]) hx hb dX10_apart_118 hl (k := 9) rfl (by rw [ezi_81]; rfl) (by decide) rfl (fun ls hl => ?_)
                  refine lv_goto (tgt := 98) hx hb dX10_apart_121 (by decide) ?_
                  exact ih_71 (24 - zi_81.toInt).toNat (by omega) zj_80 zi_81 _ _ _ rfl (by omega) e_lp_71_0 hP hD hS (lv_sub hl [2, 3, 4, 5, 6, 7, 8, 9, 1, 0] rfl)
            exact lp_71 _ (0 : Int64) zid _ _ _ rfl (by omega) ps_38 hP hD hS (lv_sub hl [4, 5, 6, 7, 8, 9, 3, 2, 1, 0] rfl)
          · have f_32 : ¬ (zi_27.toInt ≠ 0) := ic_nne (rfl) (by decide) c_31
            refine lv_ldc2 (v := (-12)) hx hb hown (hts (.constantLong RX10 252 (-12)) (by decide +kernel)) dX10_apart_61 ?_
            subst hQ
            exact W.lret (v := (-12 : Int64)) hx hb hr (fun t ht hW => ⟨⟨(-12 : Int64), (zI, zJ), rfl, ⟨h_zI, (show JX zR zI zx from hj)⟩, ⟨by rw [ht]; exact hP, va_K.moved hW.alike hK, hD⟩⟩, hS.F ht⟩) hS.2.2 dX10_apart_64
      · have f_17 : ¬ (0 ≤ zie.toInt ∧ zie.toInt ≤ 1) := bz_0 hw_14 c_16
        refine lv_ldc2 (v := (-1)) hx hb hown (hts (.constantLong RX10 234 (-1)) (by decide +kernel)) dX10_apart_28 ?_
        subst hQ
        exact W.lret (v := (-1 : Int64)) hx hb hr (fun t ht hW => ⟨⟨(-1 : Int64), (zI, zJ), rfl, ⟨h_zI, (show JX zR zI zx from hj)⟩, ⟨by rw [ht]; exact hP, va_K.moved hW.alike hK, hD⟩⟩, hS.F ht⟩) hS.2.2 dX10_apart_31
set_option maxHeartbeats 8000000 in
set_option maxRecDepth 100000 in
theorem t_X10_mustGo (l : Launch) (dC : Nat → ClassId) (dI : Nat → Nat → Nat) (cy : Nat → ClassId) (sz : Nat) (zL : List Nat) (zT : Nat → Nat) (zR : Nat → Nat → Nat) (zI : Nat → Nat → Int32) (zJ : Nat → Nat → Int64) (zx : Nat) (zia : Int32) (hs : SKP zL zT zR) (hw : WT zT zR zI) (t_zx : zT zx = 11) (hj : JX zR zI zx) : Met l yX10_mustGo wsX10_mustGo ({ frames := 4, cells := 0, slots := 0, locals := 105 } : Room) (va_Pc [.ref zx, .int zia] (PRE dC dI cy (WL cy zL zT zR zI zJ) sz)) (va_Qi (fun (r : Int32) (u : (Nat → Nat → Int32) × (Nat → Nat → Int64)) => (WM [1013, 1014, 3700, 3800, 3900, 4000, 4200, 4700] AL zT zR zI u.1) ∧ (JX zR u.1 zx)) (fun u t => POST dC dI cy (va_A (WL cy zL zT zR zI zJ) sz) (WL cy zL zT zR u.1 u.2) t) (va_A (WL cy zL zT zR zI zJ) sz)) 0 0 (va_A (WL cy zL zT zR zI zJ) sz) := by
  refine Met.ofW (cc := cX10_mustGo) (maxL := 6) (ret := (some .int)) (by decide) rfl ?_
  intro p e s m args below meth c s₁ B hml hv
  obtain ⟨rfl, hsz, hP, hK, hD0, hN⟩ := hv
  have hx := B.exec
  have hb := B.bytes
  have hr := B.returns
  have hts := atoms_spec (ws := wsX10_mustGo) B.pre
  have hown : s.vm.findClass RX10 = some m.cls := findClass_of_methodNamed B.named
  have hlocks := B.notSynchronized
  subst hsz
  have hD := hD0.self (sz := s.heap.size)
  generalize hAe : va_A (WL cy zL zT zR zI zJ) s.heap.size = A at hD ⊢
  have hA : ∀ q : Nat, s.heap.size ≤ q → A q := fun q h => by rw [← hAe]; exact Or.inr h
  have hS : va_S A s.heap s.heap [] := va_S.rf
  have hP : va_P (dC, dI) vwCl (WL cy zL zT zR zI zJ) s.heap := hP
  have hl := lv_entry ([.ref zx, .int zia] : List Value) (n := 6) (Nat.le_of_ble_eq_true rfl)
  rw [lg_entry_eq]
  generalize (lg_sl ([.ref zx, .int zia] : List Value) ++ List.replicate (6 - (lg_sl ([.ref zx, .int zia] : List Value)).length) Slot.unset).toArray = ls at hl ⊢
  have hl : lv_has ls 6 [(0, .ref zx), (1, .int zia)] := hl
  refine w_q (fun Q hQ => ?_)
  have h_zI : WM [1013, 1014, 3700, 3800, 3900, 4000, 4200, 4700] AL zT zR zI zI := WM.rf hw
  refine lv_iload_n hx hb dX10_mustGo_0 rfl (lv_at hl 1 rfl) ?_
  refine hj0_i (ws := (WL cy zL zT zR zI zJ)) (va_runS (As := [.int zia]) (rest := []) ⟨hx, hb, hml, hown, hts⟩ (c_X10_isCandle l dC dI cy s.heap.size zia) (va_cwS 1 hts gX10_mustGo_X10_isCandle rfl rfl rfl (by decide +kernel) ⟨(Nat.le_of_ble_eq_true rfl), (Nat.le_of_ble_eq_true rfl)⟩) (PRE.s (hP.sub [] rfl) hK (hD.sub [] (by decide) rfl) hN) rfl rfl hl.1 rfl (lv_room (Nat.le_of_ble_eq_true rfl)) dX10_mustGo_1 ⟨(Nat.le_of_ble_eq_true rfl), (Nat.le_of_ble_eq_true rfl)⟩) hP hD hS hA (fun zi_1 u_3 H locs hw_2 hP hD hS => ?_)
  have hw_2 : zi_1 = if 0 ≤ zia.toInt ∧ zia.toInt ≤ 1 then 1 else 0 := hw_2
  have b_zi_1 : 0 ≤ zi_1.toInt ∧ zi_1.toInt ≤ 1 := bz_b hw_2
  refine lv_if_ne (tgt := 9) hx hb dX10_mustGo_4 (by decide) (fun c_4 => ?_) (fun c_4 => ?_)
  · have f_5 : 0 ≤ zia.toInt ∧ zia.toInt ≤ 1 := bz_1 hw_2 c_4
    refine lv_aload_n hx hb dX10_mustGo_9 rfl (lv_at hl 0 rfl) ?_
    refine ht_getr (C := RX10) (T := TX10) (N := 10) hx hb hts (by decide +kernel) hown hK hP hs t_zx (by decide) rfl rfl 0 (by decide) (hts (.fieldLink RX10 12 "DripStone" "now" "LDripStone$State;") (by decide +kernel)) (fun _ h9 => h9) rfl dX10_mustGo_10 ?_
    have t_6 : zT (zR zx 0) = 9 := sk_f hs t_zx (by decide) rfl (by decide)
    refine ht_getr (C := RX8) (T := TX8) (N := 9) hx hb hts (by decide +kernel) hown hK hP hs t_6 (by decide) rfl rfl 2 (by decide) (hts (.fieldLink RX10 147 "DripStone$State" "candles" "[LDripStone$Candle;") (by decide +kernel)) (fun _ h9 => h9) rfl dX10_mustGo_13 ?_
    have t_7 : zT (zR (zR zx 0) 2) = 61 := sk_f hs t_6 (by decide) rfl (by decide)
    refine lv_iload_n hx hb dX10_mustGo_16 rfl (lv_at hl 1 rfl) ?_
    refine ht_aald (n := 2) (q := 3) hx hb hK hP hs t_7 (by decide) rfl rfl ⟨by omega, by omega⟩ dX10_mustGo_17 ?_
    have t_8 : zT (zR (zR (zR zx 0) 2) zia.toNatClampNeg) = 1 := sk_a (n := 2) hs t_7 rfl rfl (by decide) (cl_lt (by omega) (by omega))
    refine hj_i (ws := (WL cy zL zT zR zI zJ)) (w1 := fun (u : Unit) => (WL cy zL zT zR zI zJ)) (va_runV (As := []) (rest := []) ⟨hx, hb, hml, hown, hts⟩ (t_X0_places l dC dI cy H.size zL zT zR zI zJ (zR (zR (zR zx 0) 2) zia.toNatClampNeg) hs h_zI.1 t_8) (cwV 0 hts gX10_mustGo_X0_places rfl rfl rfl (by decide +kernel) ⟨(Nat.le_of_ble_eq_true rfl), (Nat.le_of_ble_eq_true rfl)⟩) (PRE.v hP hK hD hN (ht_recv hK hP hs t_8 (by decide) rfl rfl)) rfl rfl hl.1 rfl (lv_room (Nat.le_of_ble_eq_true rfl)) dX10_mustGo_18 ⟨(Nat.le_of_ble_eq_true rfl), (Nat.le_of_ble_eq_true rfl)⟩) hP hD hS hA (fun zi_9 u_11 H locs hw_10 hP hD hS => ?_)
    obtain ⟨b_zi_9, ps_12⟩ : (0 ≤ zi_9.toInt ∧ zi_9.toInt ≤ 12) ∧ (zi_9.toInt = PL (zI (zR (zR (zR (zR zx 0) 2) zia.toNatClampNeg) 0)) ((zI (zR (zR (zR zx 0) 2) zia.toNatClampNeg) 7).toInt).toNat) := hw_10
    obtain ⟨zi_13, ezi_13⟩ : ∃ y : Int32, y = zI (zR (zR (zR zx 0) 2) zia.toNatClampNeg) 7 := ⟨_, rfl⟩
    have tzi_13 : 0 ≤ zi_13.toInt ∧ zi_13.toInt ≤ 12 := by rw [ezi_13]; exact h_zI.at t_8 _ rfl
    have lk_14 : (zI (zR (zR (zR zx 0) 2) zia.toNatClampNeg) 7).toInt = zi_13.toInt := congrArg Int32.toInt ezi_13.symm
    refine lv_if_ne (tgt := 27) hx hb dX10_mustGo_21 (by decide) (fun c_15 => ?_) (fun c_15 => ?_)
    · have f_16 : zi_9.toInt ≠ 0 := ic_ne (rfl) (by decide) c_15
      refine lv_aload_n hx hb dX10_mustGo_27 rfl (lv_at hl 0 rfl) ?_
      refine ht_getr (C := RX10) (T := TX10) (N := 10) hx hb hts (by decide +kernel) hown hK hP hs t_zx (by decide) rfl rfl 0 (by decide) (hts (.fieldLink RX10 12 "DripStone" "now" "LDripStone$State;") (by decide +kernel)) (fun _ h9 => h9) rfl dX10_mustGo_28 ?_
      refine ht_getr (C := RX8) (T := TX8) (N := 9) hx hb hts (by decide +kernel) hown hK hP hs t_6 (by decide) rfl rfl 3 (by decide) (hts (.fieldLink RX10 157 "DripStone$State" "dates" "LDripStone$Dates;") (by decide +kernel)) (fun _ h9 => h9) rfl dX10_mustGo_31 ?_
      have t_17 : zT (zR (zR zx 0) 3) = 3 := sk_f hs t_6 (by decide) rfl (by decide)
      refine lv_iload_n hx hb dX10_mustGo_34 rfl (lv_at hl 1 rfl) ?_
      refine hj_i (ws := (WL cy zL zT zR zI zJ)) (w1 := fun (u : Unit) => (WL cy zL zT zR zI zJ)) (va_runV (As := [.int zia]) (rest := []) ⟨hx, hb, hml, hown, hts⟩ (t_X2_binding l dC dI cy H.size zL zT zR zI zJ (zR (zR zx 0) 3) zia hs h_zI.1 t_17) (cwV 1 hts gX10_mustGo_X2_binding rfl rfl rfl (by decide +kernel) ⟨(Nat.le_of_ble_eq_true rfl), (Nat.le_of_ble_eq_true rfl)⟩) (PRE.v hP hK hD hN (ht_recv hK hP hs t_17 (by decide) rfl rfl)) rfl rfl hl.1 rfl (lv_room (Nat.le_of_ble_eq_true rfl)) dX10_mustGo_35 ⟨(Nat.le_of_ble_eq_true rfl), (Nat.le_of_ble_eq_true rfl)⟩) hP hD hS hA (fun zi_18 u_20 H locs hw_19 hP hD hS => ?_)
      have rzi_18 := rng zi_18
      refine lv_istore_n (lv' := [(2, .int zi_18), (0, .ref zx), (1, .int zia)]) hx hb dX10_mustGo_38 rfl hl (by decide) rfl (fun ls hl => ?_)
      refine lv_aload_n hx hb dX10_mustGo_39 rfl (lv_at hl 1 rfl) ?_
      refine lv_iload_n hx hb dX10_mustGo_40 rfl (lv_at hl 2 rfl) ?_
      refine lv_iconst (v := 0) hx hb dX10_mustGo_41 (by decide) ?_
      have qc_0 : (0 : Int32).toInt = 0 := by decide
      refine hj_l (ws := (WL cy zL zT zR zI zJ)) (w1 := fun (u : (Nat → Nat → Int32) × (Nat → Nat → Int64)) => (WL cy zL zT zR u.1 u.2)) (va_runV (As := [.int zia, .int 0]) (rest := []) ⟨hx, hb, hml, hown, hts⟩ (t_X10_waysWith l dC dI cy H.size zL zT zR zI zJ zx zia (0 : Int32) hs h_zI.1 t_zx (by omega) (by omega)) (cwV 2 hts gX10_mustGo_X10_waysWith rfl rfl rfl (by decide +kernel) ⟨(Nat.le_of_ble_eq_true rfl), (Nat.le_of_ble_eq_true rfl)⟩) (PRE.v hP hK hD hN (ht_recv hK hP hs t_zx (by decide) rfl rfl)) rfl rfl hl.1 rfl (lv_room (Nat.le_of_ble_eq_true rfl)) dX10_mustGo_42 ⟨(Nat.le_of_ble_eq_true rfl), (Nat.le_of_ble_eq_true rfl)⟩) hP hD hS hA (fun zj_21 u_23 H locs hw_22 hP hD hS => ?_)
      obtain ⟨zI_24, zJ_25⟩ := u_23
      obtain ⟨k_zI_24, ps_26, ps_27⟩ : (WM [1013, 1014, 3700, 3800, 3900, 4000, 4200, 4700] AL zT zR zI zI_24) ∧ (JX zR zI_24 zx) ∧ (LW zR zI_24 (zR (zR zx 6) zia.toNatClampNeg) (zR (zR (zR zx 0) 2) zia.toNatClampNeg)) := hw_22
      have h_zI_24 : WM [1013, 1014, 3700, 3800, 3900, 4000, 4200, 4700] AL zT zR zI zI_24 := h_zI.tr k_zI_24 (by decide) (fun _ _ => trivial)
      refine lv_lconst (v := 0) hx hb dX10_mustGo_45 (by decide) ?_
      refine W.lcmp hx hb dX10_mustGo_46 ?_
      refine lv_topi (fun zi_28 ezi_28 => ?_)
      refine lv_if_ne (tgt := 53) hx hb dX10_mustGo_47 (by decide) (fun c_29 => ?_) (fun c_29 => ?_)
      · have f_30 : ¬ (zj_21.toInt = (0 : Int)) := lk_ne ezi_28 (rfl) (show (0 : Int64).toInt = 0 by decide) c_29
        refine lv_iload_n hx hb dX10_mustGo_53 rfl (lv_at hl 0 rfl) ?_
        refine lv_istore_n (lv' := [(3, .int zi_18), (2, .int zi_18), (0, .ref zx), (1, .int zia)]) hx hb dX10_mustGo_54 rfl hl (by decide) rfl (fun ls hl => ?_)
        refine lv_iconst (v := 0) hx hb dX10_mustGo_55 (by decide) ?_
        refine lv_istore (lv' := [(4, .int 0), (3, .int zi_18), (2, .int zi_18), (0, .ref zx), (1, .int zia)]) hx hb dX10_mustGo_56 hl (by decide) rfl (fun ls hl => ?_)
        have lp_674 : ∀ (n : Nat) (zi_104 : Int32) (zi_105 : Int32) (zI_106 : Nat → Nat → Int32) (zJ_107 : Nat → Nat → Int64) (H : Heap) (locs : List Loc) (ls : Array Slot), (zi_18.toInt - zi_105.toInt).toNat = n → (0 ≤ zi_105.toInt) → (WM [1013, 1014, 3700, 3800, 3900, 4000, 4200, 4700] AL zT zR zI zI_106) → (JX zR zI_106 zx) → va_P (dC, dI) vwCl (WL cy zL zT zR zI_106 zJ_107) H → va_D A (WL cy zL zT zR zI_106 zJ_107) → va_S A s.heap H locs → lv_has ls 6 [(0, .ref zx), (1, .int zia), (2, .int zi_18), (3, .int zi_104), (4, .int zi_105)] → W p l e ({ frames := 4, cells := 0, slots := 0, locals := 105 } : Room) s m ([.ref zx, .int zia] : List Value).toArray below meth c H locs 0 0 Q (F0 m 58 ls []) := by
          intro n
          induction n using Nat.strongRecOn with
          | _ n ih_674 =>
            intro zi_104 zi_105 zI_106 zJ_107 H locs ls hn b_zi_105 h_zI_106 e_lp_674_0 hP hD hS hl
            refine lv_iload hx hb dX10_mustGo_58 (lv_at hl 4 rfl) ?_
            refine lv_iload_n hx hb dX10_mustGo_60 rfl (lv_at hl 2 rfl) ?_
            refine lv_icmp_ge (tgt := 122) hx hb dX10_mustGo_61 (by decide) (fun c_675 => ?_) (fun c_675 => ?_)
            · have f_676 : zi_105.toInt ≥ zi_18.toInt := ic_ge (rfl) (rfl) c_675
              refine lv_iload_n hx hb dX10_mustGo_122 rfl (lv_at hl 3 rfl) ?_
              subst hQ
              exact W.iret (v := zi_104) hx hb hr (fun t ht hW => ⟨⟨zi_104, (zI_106, zJ_107), rfl, ⟨h_zI_106, (show JX zR zI_106 zx from e_lp_674_0)⟩, ⟨by rw [ht]; exact hP, va_K.moved hW.alike hK, hD⟩⟩, hS.F ht⟩) hS.2.2 dX10_mustGo_123
            · have f_676 : ¬ (zi_105.toInt ≥ zi_18.toInt) := ic_nge (rfl) (rfl) c_675
              refine lv_iload hx hb dX10_mustGo_64 (lv_at hl 4 rfl) ?_
              refine hj0_i (ws := (WL cy zL zT zR zI_106 zJ_107)) (va_runS (As := [.int zi_105]) (rest := []) ⟨hx, hb, hml, hown, hts⟩ (c_J6_bitCount_0f7a4 l dC dI cy H.size zi_105) (va_cwS 1 hts gX10_mustGo_J6_bitCount_0f7a4 rfl rfl rfl (by decide +kernel) ⟨(Nat.le_of_ble_eq_true rfl), (Nat.le_of_ble_eq_true rfl)⟩) (PRE.s (hP.sub [] rfl) hK (hD.sub [] (by decide) rfl) hN) rfl rfl hl.1 rfl (lv_room (Nat.le_of_ble_eq_true rfl)) dX10_mustGo_66 ⟨(Nat.le_of_ble_eq_true rfl), (Nat.le_of_ble_eq_true rfl)⟩) hP hD hS hA (fun zi_677 u_679 H locs hw_678 hP hD hS => ?_)
              have b_zi_677 : 0 ≤ zi_677.toInt ∧ zi_677.toInt ≤ 63 := hw_678
              refine lv_iload_n hx hb dX10_mustGo_69 rfl (lv_at hl 3 rfl) ?_
              refine hj0_i (ws := (WL cy zL zT zR zI_106 zJ_107)) (va_runS (As := [.int zi_104]) (rest := [.int zi_677]) ⟨hx, hb, hml, hown, hts⟩ (c_J6_bitCount_0f7a4 l dC dI cy H.size zi_104) (va_cwS 1 hts gX10_mustGo_J6_bitCount_0f7a4 rfl rfl rfl (by decide +kernel) ⟨(Nat.le_of_ble_eq_true rfl), (Nat.le_of_ble_eq_true rfl)⟩) (PRE.s (hP.sub [] rfl) hK (hD.sub [] (by decide) rfl) hN) rfl rfl hl.1 rfl (lv_room (Nat.le_of_ble_eq_true rfl)) dX10_mustGo_70 ⟨(Nat.le_of_ble_eq_true rfl), (Nat.le_of_ble_eq_true rfl)⟩) hP hD hS hA (fun zi_680 u_682 H locs hw_681 hP hD hS => ?_)
              have b_zi_680 : 0 ≤ zi_680.toInt ∧ zi_680.toInt ≤ 63 := hw_681
              refine lv_icmp_ge (tgt := 80) hx hb dX10_mustGo_73 (by decide) (fun c_683 => ?_) (fun c_683 => ?_)
              · have f_684 : zi_677.toInt ≥ zi_680.toInt := ic_ge (rfl) (rfl) c_683
                refine lv_iconst (v := 0) hx hb dX10_mustGo_80 (by decide) ?_
                refine lv_istore (lv' := [(5, .int 0), (0, .ref zx), (1, .int zia), (2, .int zi_18), (3, .int zi_104), (4, .int zi_105)]) hx hb dX10_mustGo_81 hl (by decide) rfl (fun ls hl => ?_)
                refine lv_iload hx hb dX10_mustGo_83 (lv_at hl 5 rfl) ?_
                refine lv_iload_n hx hb dX10_mustGo_85 rfl (lv_at hl 3 rfl) ?_
                refine lv_iconst (v := (-1)) hx hb dX10_mustGo_86 (by decide) ?_
                refine lv_ixor hx hb dX10_mustGo_87 ?_
                refine lv_topi (fun zi_685 ezi_685 => ?_)
                have rzi_685 := rng zi_685
                refine lv_iand hx hb dX10_mustGo_88 ?_
                refine lv_topi (fun zi_686 ezi_686 => ?_)
                have rzi_686 := rng zi_686
                refine lv_if_ne (tgt := 116) hx hb dX10_mustGo_89 (by decide) (fun c_687 => ?_) (fun c_687 => ?_)
                · have f_688 : zi_686.toInt ≠ 0 := ic_ne (rfl) (by decide) c_687
                  obtain ⟨zi_689, ezi_689⟩ : ∃ y : Int32, y = zi_105 + 1 := ⟨_, rfl⟩
                  have tzi_689 : zi_689.toInt = zi_105.toInt + 1 := by rw [ezi_689]; exact tadd rfl (show (1 : Int32).toInt = 1 by decide) (by omega) (by omega)
                  refine lv_iinc (v := zi_689) (lv' := [(4, .int zi_689), (5, .int 0), (0, .ref zx), (1, .int zia), (2, .int zi_18), (3, .int zi_104)]) hx hb dX10_mustGo_116 hl (k := 5) rfl (by rw [ezi_689]; rfl) (by decide) rfl (fun ls hl => ?_)
                  refine lv_goto (tgt := 58) hx hb dX10_mustGo_119 (by decide) ?_
                  exact ih_674 (zi_18.toInt - zi_689.toInt).toNat (by omega) zi_104 zi_689 zI_106 zJ_107 _ _ _ rfl (by omega) h_zI_106 e_lp_674_0 hP hD hS (lv_sub hl [2, 3, 4, 5, 0] rfl)
                · have f_688 : ¬ (zi_686.toInt ≠ 0) := ic_nne (rfl) (by decide) c_687
                  refine lv_iload hx hb dX10_mustGo_92 (lv_at hl 0 rfl) ?_
                  refine lv_if_eq (tgt := 116) hx hb dX10_mustGo_94 (by decide) (fun c_690 => ?_) (fun c_690 => absurd (by decide) c_690)
                  obtain ⟨zi_691, ezi_691⟩ : ∃ y : Int32, y = zi_105 + 1 := ⟨_, rfl⟩
                  have tzi_691 : zi_691.toInt = zi_105.toInt + 1 := by rw [ezi_691]; exact tadd rfl (show (1 : Int32).toInt = 1 by decide) (by omega) (by omega)
                  refine lv_iinc (v := zi_691) (lv' := [(4, .int zi_691), (5, .int 0), (0, .ref zx), (1, .int zia), (2, .int zi_18), (3, .int zi_104)]) hx hb dX10_mustGo_116 hl (k := 5) rfl (by rw [ezi_691]; rfl) (by decide) rfl (fun ls hl => ?_)
                  refine lv_goto (tgt := 58) hx hb dX10_mustGo_119 (by decide) ?_
                  exact ih_674 (zi_18.toInt - zi_691.toInt).toNat (by omega) zi_104 zi_691 zI_106 zJ_107 _ _ _ rfl (by omega) h_zI_106 e_lp_674_0 hP hD hS (lv_sub hl [2, 3, 4, 5, 0] rfl)
              · have f_684 : ¬ (zi_677.toInt ≥ zi_680.toInt) := ic_nge (rfl) (rfl) c_683
                refine lv_iconst (v := 1) hx hb dX10_mustGo_76 (by decide) ?_
                refine lv_goto (tgt := 81) hx hb dX10_mustGo_77 (by decide) ?_
                refine lv_istore (lv' := [(5, .int 1), (0, .ref zx), (1, .int zia), (2, .int zi_18), (3, .int zi_104), (4, .int zi_105)]) hx hb dX10_mustGo_81 hl (by decide) rfl (fun ls hl => ?_)
                refine lv_iload hx hb dX10_mustGo_83 (lv_at hl 5 rfl) ?_
                refine lv_iload_n hx hb dX10_mustGo_85 rfl (lv_at hl 3 rfl) ?_
                refine lv_iconst (v := (-1)) hx hb dX10_mustGo_86 (by decide) ?_
                refine lv_ixor hx hb dX10_mustGo_87 ?_
                refine lv_topi (fun zi_692 ezi_692 => ?_)
                have rzi_692 := rng zi_692
                refine lv_iand hx hb dX10_mustGo_88 ?_
                refine lv_topi (fun zi_693 ezi_693 => ?_)
                have rzi_693 := rng zi_693
                refine lv_if_ne (tgt := 116) hx hb dX10_mustGo_89 (by decide) (fun c_694 => ?_) (fun c_694 => ?_)
                · have f_695 : zi_693.toInt ≠ 0 := ic_ne (rfl) (by decide) c_694
                  obtain ⟨zi_696, ezi_696⟩ : ∃ y : Int32, y = zi_105 + 1 := ⟨_, rfl⟩
                  have tzi_696 : zi_696.toInt = zi_105.toInt + 1 := by rw [ezi_696]; exact tadd rfl (show (1 : Int32).toInt = 1 by decide) (by omega) (by omega)
                  refine lv_iinc (v := zi_696) (lv' := [(4, .int zi_696), (5, .int 1), (0, .ref zx), (1, .int zia), (2, .int zi_18), (3, .int zi_104)]) hx hb dX10_mustGo_116 hl (k := 5) rfl (by rw [ezi_696]; rfl) (by decide) rfl (fun ls hl => ?_)
                  refine lv_goto (tgt := 58) hx hb dX10_mustGo_119 (by decide) ?_
                  exact ih_674 (zi_18.toInt - zi_696.toInt).toNat (by omega) zi_104 zi_696 zI_106 zJ_107 _ _ _ rfl (by omega) h_zI_106 e_lp_674_0 hP hD hS (lv_sub hl [2, 3, 4, 5, 0] rfl)
                · have f_695 : ¬ (zi_693.toInt ≠ 0) := ic_nne (rfl) (by decide) c_694
                  refine lv_iload hx hb dX10_mustGo_92 (lv_at hl 0 rfl) ?_
                  refine lv_if_eq (tgt := 116) hx hb dX10_mustGo_94 (by decide) (fun c_697 => absurd c_697 (by decide)) (fun c_697 => ?_)
                  refine lv_aload_n hx hb dX10_mustGo_97 rfl (lv_at hl 1 rfl) ?_
                  refine lv_iload_n hx hb dX10_mustGo_98 rfl (lv_at hl 2 rfl) ?_
                  refine lv_iload_n hx hb dX10_mustGo_99 rfl (lv_at hl 3 rfl) ?_
                  refine lv_iload hx hb dX10_mustGo_100 (lv_at hl 5 rfl) ?_
                  refine lv_iconst (v := (-1)) hx hb dX10_mustGo_102 (by decide) ?_
                  refine lv_ixor hx hb dX10_mustGo_103 ?_
                  refine lv_topi (fun zi_698 ezi_698 => ?_)
                  have rzi_698 := rng zi_698
                  refine lv_iand hx hb dX10_mustGo_104 ?_
                  refine lv_topi (fun zi_699 ezi_699 => ?_)
                  have rzi_699 := rng zi_699
                  refine hj_l (ws := (WL cy zL zT zR zI_106 zJ_107)) (w1 := fun (u : (Nat → Nat → Int32) × (Nat → Nat → Int64)) => (WL cy zL zT zR u.1 u.2)) (va_runV (As := [.int zia, .int zi_699]) (rest := []) ⟨hx, hb, hml, hown, hts⟩ (t_X10_waysWith l dC dI cy H.size zL zT zR zI_106 zJ_107 zx zia zi_699 hs h_zI_106.1 t_zx (by omega) (by omega)) (cwV 2 hts gX10_mustGo_X10_waysWith rfl rfl rfl (by decide +kernel) ⟨(Nat.le_of_ble_eq_true rfl), (Nat.le_of_ble_eq_true rfl)⟩) (PRE.v hP hK hD hN (ht_recv hK hP hs t_zx (by decide) rfl rfl)) rfl rfl hl.1 rfl (lv_room (Nat.le_of_ble_eq_true rfl)) dX10_mustGo_105 ⟨(Nat.le_of_ble_eq_true rfl), (Nat.le_of_ble_eq_true rfl)⟩) hP hD hS hA (fun zj_700 u_702 H locs hw_701 hP hD hS => ?_)
                  obtain ⟨zI_703, zJ_704⟩ := u_702
                  obtain ⟨k_zI_703, ps_705, ps_706⟩ : (WM [1013, 1014, 3700, 3800, 3900, 4000, 4200, 4700] AL zT zR zI_106 zI_703) ∧ (JX zR zI_703 zx) ∧ (LW zR zI_703 (zR (zR zx 6) zia.toNatClampNeg) (zR (zR (zR zx 0) 2) zia.toNatClampNeg)) := hw_701
                  have h_zI_703 : WM [1013, 1014, 3700, 3800, 3900, 4000, 4200, 4700] AL zT zR zI zI_703 := h_zI_106.tr k_zI_703 (by decide) (fun _ _ => trivial)
                  refine lv_lconst (v := 0) hx hb dX10_mustGo_108 (by decide) ?_
                  refine W.lcmp hx hb dX10_mustGo_109 ?_
                  refine lv_topi (fun zi_707 ezi_707 => ?_)
                  refine lv_if_le (tgt := 116) hx hb dX10_mustGo_110 (by decide) (fun c_708 => ?_) (fun c_708 => ?_)
                  · have f_709 : ¬ (zj_700.toInt > (0 : Int)) := lk_le ezi_707 (rfl) (show (0 : Int64).toInt = 0 by decide) c_708
                    obtain ⟨zi_710, ezi_710⟩ : ∃ y : Int32, y = zi_105 + 1 := ⟨_, rfl⟩
                    have tzi_710 : zi_710.toInt = zi_105.toInt + 1 := by rw [ezi_710]; exact tadd rfl (show (1 : Int32).toInt = 1 by decide) (by omega) (by omega)
                    refine lv_iinc (v := zi_710) (lv' := [(4, .int zi_710), (5, .int 1), (0, .ref zx), (1, .int zia), (2, .int zi_18), (3, .int zi_104)]) hx hb dX10_mustGo_116 hl (k := 5) rfl (by rw [ezi_710]; rfl) (by decide) rfl (fun ls hl => ?_)
                    refine lv_goto (tgt := 58) hx hb dX10_mustGo_119 (by decide) ?_
                    exact ih_674 (zi_18.toInt - zi_710.toInt).toNat (by omega) zi_104 zi_710 zI_703 zJ_704 _ _ _ rfl (by omega) h_zI_703 ps_705 hP hD hS (lv_sub hl [2, 3, 4, 5, 0] rfl)
                  · have f_709 : zj_700.toInt > (0 : Int) := lk_nle ezi_707 (rfl) (show (0 : Int64).toInt = 0 by decide) c_708
                    refine lv_iload hx hb dX10_mustGo_113 (lv_at hl 5 rfl) ?_
                    refine lv_istore_n (lv' := [(3, .int zi_105), (5, .int 1), (0, .ref zx), (1, .int zia), (2, .int zi_18), (4, .int zi_105)]) hx hb dX10_mustGo_115 rfl hl (by decide) rfl (fun ls hl => ?_)
                    obtain ⟨zi_711, ezi_711⟩ : ∃ y : Int32, y = zi_105 + 1 := ⟨_, rfl⟩
                    have tzi_711 : zi_711.toInt = zi_105.toInt + 1 := by rw [ezi_711]; exact tadd rfl (show (1 : Int32).toInt = 1 by decide) (by omega) (by omega)
                    refine lv_iinc (v := zi_711) (lv' := [(4, .int zi_711), (3, .int zi_105), (5, .int 1), (0, .ref zx), (1, .int zia), (2, .int zi_18)]) hx hb dX10_mustGo_116 hl (k := 5) rfl (by rw [ezi_711]; rfl) (by decide) rfl (fun ls hl => ?_)
                    refine lv_goto (tgt := 58) hx hb dX10_mustGo_119 (by decide) ?_
                    exact ih_674 (zi_18.toInt - zi_711.toInt).toNat (by omega) zi_105 zi_711 zI_703 zJ_704 _ _ _ rfl (by omega) h_zI_703 ps_705 hP hD hS (lv_sub hl [3, 4, 5, 1, 0] rfl)
        exact lp_674 _ zi_18 (0 : Int32) zI_24 zJ_25 _ _ _ rfl (by decide) h_zI_24 ps_26 hP hD hS (lv_sub hl [3, 4, 2, 1, 0] rfl)
      · have f_30 : zj_21.toInt = (0 : Int) := lk_nne ezi_28 (rfl) (show (0 : Int64).toInt = 0 by decide) c_29
        refine lv_bipush (v := (-4)) hx hb dX10_mustGo_50 (by decide) ?_
        subst hQ
        exact W.iret (v := (-4 : Int32)) hx hb hr (fun t ht hW => ⟨⟨(-4 : Int32), (zI_24, zJ_25), rfl, ⟨h_zI_24, (show JX zR zI_24 zx from ps_26)⟩, ⟨by rw [ht]; exact hP, va_K.moved hW.alike hK, hD⟩⟩, hS.F ht⟩) hS.2.2 dX10_mustGo_52
    · have f_16 : ¬ (zi_9.toInt ≠ 0) := ic_nne (rfl) (by decide) c_15
      refine lv_bipush (v := (-2)) hx hb dX10_mustGo_24 (by decide) ?_
      subst hQ
      exact W.iret (v := (-2 : Int32)) hx hb hr (fun t ht hW => ⟨⟨(-2 : Int32), (zI, zJ), rfl, ⟨h_zI, (show JX zR zI zx from hj)⟩, ⟨by rw [ht]; exact hP, va_K.moved hW.alike hK, hD⟩⟩, hS.F ht⟩) hS.2.2 dX10_mustGo_26
  · have f_5 : ¬ (0 ≤ zia.toInt ∧ zia.toInt ≤ 1) := bz_0 hw_2 c_4
    refine lv_iconst (v := (-1)) hx hb dX10_mustGo_7 (by decide) ?_
    subst hQ
    exact W.iret (v := (-1 : Int32)) hx hb hr (fun t ht hW => ⟨⟨(-1 : Int32), (zI, zJ), rfl, ⟨h_zI, (show JX zR zI zx from hj)⟩, ⟨by rw [ht]; exact hP, va_K.moved hW.alike hK, hD⟩⟩, hS.F ht⟩) hS.2.2 dX10_mustGo_8
set_option maxHeartbeats 8000000 in
set_option maxRecDepth 100000 in
theorem t_X10_sharedWays (l : Launch) (dC : Nat → ClassId) (dI : Nat → Nat → Nat) (cy : Nat → ClassId) (sz : Nat) (zL : List Nat) (zT : Nat → Nat) (zR : Nat → Nat → Nat) (zI : Nat → Nat → Int32) (zJ : Nat → Nat → Int64) (zx : Nat) (zia : Int32) (zib : Int32) (hs : SKP zL zT zR) (hw : WT zT zR zI) (t_zx : zT zx = 11) (b_zia : 0 ≤ zia.toInt ∧ zia.toInt ≤ 11) (b_zib : 0 ≤ zib.toInt ∧ zib.toInt ≤ 11) : Met l yX10_sharedWays wsX10_sharedWays ({ frames := 2, cells := 0, slots := 0, locals := 48 } : Room) (va_Pc [.ref zx, .int zia, .int zib] (PRE dC dI cy (WL cy zL zT zR zI zJ) sz)) (va_Ql (fun (r : Int64) (u : Unit) => True) (fun u t => POST dC dI cy (va_A (WL cy zL zT zR zI zJ) sz) (WL cy zL zT zR zI zJ) t) (va_A (WL cy zL zT zR zI zJ) sz)) 0 0 (va_A (WL cy zL zT zR zI zJ) sz) := by
  refine Met.ofW (cc := cX10_sharedWays) (maxL := 6) (ret := (some .long)) (by decide) rfl ?_
  intro p e s m args below meth c s₁ B hml hv
  obtain ⟨rfl, hsz, hP, hK, hD0, hN⟩ := hv
  have hx := B.exec
  have hb := B.bytes
  have hr := B.returns
  have hts := atoms_spec (ws := wsX10_sharedWays) B.pre
  have hown : s.vm.findClass RX10 = some m.cls := findClass_of_methodNamed B.named
  have hlocks := B.notSynchronized
  subst hsz
  have hD := hD0.self (sz := s.heap.size)
  generalize hAe : va_A (WL cy zL zT zR zI zJ) s.heap.size = A at hD ⊢
  have hA : ∀ q : Nat, s.heap.size ≤ q → A q := fun q h => by rw [← hAe]; exact Or.inr h
  have hS : va_S A s.heap s.heap [] := va_S.rf
  have hP : va_P (dC, dI) vwCl (WL cy zL zT zR zI zJ) s.heap := hP
  have hl := lv_entry ([.ref zx, .int zia, .int zib] : List Value) (n := 6) (Nat.le_of_ble_eq_true rfl)
  rw [lg_entry_eq]
  generalize (lg_sl ([.ref zx, .int zia, .int zib] : List Value) ++ List.replicate (6 - (lg_sl ([.ref zx, .int zia, .int zib] : List Value)).length) Slot.unset).toArray = ls at hl ⊢
  have hl : lv_has ls 6 [(0, .ref zx), (1, .int zia), (2, .int zib)] := hl
  refine w_q (fun Q hQ => ?_)
  have h_zI : WM [] AL zT zR zI zI := WM.rf hw
  refine lv_lconst (v := 0) hx hb dX10_sharedWays_0 (by decide) ?_
  refine lv_lstore_n (lv' := [(3, .long 0), (0, .ref zx), (1, .int zia), (2, .int zib)]) hx hb dX10_sharedWays_1 rfl hl (by decide) rfl (fun ls hl => ?_)
  refine lv_iconst (v := 0) hx hb dX10_sharedWays_2 (by decide) ?_
  refine lv_istore (lv' := [(5, .int 0), (3, .long 0), (0, .ref zx), (1, .int zia), (2, .int zib)]) hx hb dX10_sharedWays_3 hl (by decide) rfl (fun ls hl => ?_)
  have lp_75 : ∀ (n : Nat) (zj_59 : Int64) (zi_60 : Int32) (H : Heap) (locs : List Loc) (ls : Array Slot), (24 - zi_60.toInt).toNat = n → (0 ≤ zi_60.toInt ∧ zi_60.toInt ≤ 24) → va_P (dC, dI) vwCl (WL cy zL zT zR zI zJ) H → va_D A (WL cy zL zT zR zI zJ) → va_S A s.heap H locs → lv_has ls 6 [(0, .ref zx), (1, .int zia), (2, .int zib), (3, .long zj_59), (5, .int zi_60)] → W p l e ({ frames := 2, cells := 0, slots := 0, locals := 48 } : Room) s m ([.ref zx, .int zia, .int zib] : List Value).toArray below meth c H locs 0 0 Q (F0 m 5 ls []) := by
    intro n
    induction n using Nat.strongRecOn with
    | _ n ih_75 =>
      intro zj_59 zi_60 H locs ls hn b_zi_60 hP hD hS hl
      refine lv_iload hx hb dX10_sharedWays_5 (lv_at hl 4 rfl) ?_
      refine lv_bipush (v := 24) hx hb dX10_sharedWays_7 (by decide) ?_
      refine lv_icmp_ge (tgt := 46) hx hb dX10_sharedWays_9 (by decide) (fun c_76 => ?_) (fun c_76 => ?_)
      · have f_77 : zi_60.toInt ≥ (24 : Int) := ic_ge (rfl) (show (24 : Int32).toInt = 24 by decide) c_76
        refine lv_lload_n hx hb dX10_sharedWays_46 rfl (lv_at hl 3 rfl) ?_
        subst hQ
        exact W.lret (v := zj_59) hx hb hr (fun t ht hW => ⟨⟨zj_59, (), rfl, trivial, ⟨by rw [ht]; exact hP, va_K.moved hW.alike hK, hD⟩⟩, hS.F ht⟩) hS.2.2 dX10_sharedWays_47
      · have f_77 : ¬ (zi_60.toInt ≥ (24 : Int)) := ic_nge (rfl) (show (24 : Int32).toInt = 24 by decide) c_76
        refine lv_lload_n hx hb dX10_sharedWays_12 rfl (lv_at hl 3 rfl) ?_
        refine lv_aload_n hx hb dX10_sharedWays_13 rfl (lv_at hl 0 rfl) ?_
        refine ht_getr (C := RX10) (T := TX10) (N := 10) hx hb hts (by decide +kernel) hown hK hP hs t_zx (by decide) rfl rfl 6 (by decide) (hts (.fieldLink RX10 50 "DripStone" "lines" "[LDripStone$Ways;") (by decide +kernel)) (fun _ h9 => h9) rfl dX10_sharedWays_14 ?_
        have t_78 : zT (zR zx 6) = 64 := sk_f hs t_zx (by decide) rfl (by decide)
        refine lv_iconst (v := 0) hx hb dX10_sharedWays_17 (by decide) ?_
        refine ht_aald (n := 2) (q := 6) hx hb hK hP hs t_78 (by decide) rfl rfl ⟨by decide, by decide⟩ dX10_sharedWays_18 ?_
        have t_79 : zT (zR (zR zx 6) (0 : Int32).toNatClampNeg) = 10 := sk_a (n := 2) hs t_78 rfl rfl (by decide) (by decide)
        refine lv_iload_n hx hb dX10_sharedWays_19 rfl (lv_at hl 1 rfl) ?_
        refine lv_iload hx hb dX10_sharedWays_20 (lv_at hl 4 rfl) ?_
        refine hj_l (ws := (WL cy zL zT zR zI zJ)) (w1 := fun (u : Unit) => (WL cy zL zT zR zI zJ)) (va_runV (As := [.int zia, .int zi_60]) (rest := [.long zj_59]) ⟨hx, hb, hml, hown, hts⟩ (t_X9_tally l dC dI cy H.size zL zT zR zI zJ (zR (zR zx 6) (0 : Int32).toNatClampNeg) zia zi_60 hs h_zI.1 t_79 (by omega) (by omega)) (cwV 2 hts gX10_sharedWays_X9_tally rfl rfl rfl (by decide +kernel) ⟨(Nat.le_of_ble_eq_true rfl), (Nat.le_of_ble_eq_true rfl)⟩) (PRE.v hP hK hD hN (ht_recv hK hP hs t_79 (by decide) rfl rfl)) rfl rfl hl.1 rfl (lv_room (Nat.le_of_ble_eq_true rfl)) dX10_sharedWays_22 ⟨(Nat.le_of_ble_eq_true rfl), (Nat.le_of_ble_eq_true rfl)⟩) hP hD hS hA (fun zj_80 u_82 H locs hw_81 hP hD hS => ?_)
        refine lv_aload_n hx hb dX10_sharedWays_25 rfl (lv_at hl 0 rfl) ?_
        refine ht_getr (C := RX10) (T := TX10) (N := 10) hx hb hts (by decide +kernel) hown hK hP hs t_zx (by decide) rfl rfl 6 (by decide) (hts (.fieldLink RX10 50 "DripStone" "lines" "[LDripStone$Ways;") (by decide +kernel)) (fun _ h9 => h9) rfl dX10_sharedWays_26 ?_
        refine lv_iconst (v := 1) hx hb dX10_sharedWays_29 (by decide) ?_
        refine ht_aald (n := 2) (q := 6) hx hb hK hP hs t_78 (by decide) rfl rfl ⟨by decide, by decide⟩ dX10_sharedWays_30 ?_
        have t_83 : zT (zR (zR zx 6) (1 : Int32).toNatClampNeg) = 10 := sk_a (n := 2) hs t_78 rfl rfl (by decide) (by decide)
        refine lv_iload_n hx hb dX10_sharedWays_31 rfl (lv_at hl 2 rfl) ?_
        refine lv_iload hx hb dX10_sharedWays_32 (lv_at hl 4 rfl) ?_
        refine hj_l (ws := (WL cy zL zT zR zI zJ)) (w1 := fun (u : Unit) => (WL cy zL zT zR zI zJ)) (va_runV (As := [.int zib, .int zi_60]) (rest := [.long zj_80, .long zj_59]) ⟨hx, hb, hml, hown, hts⟩ (t_X9_tally l dC dI cy H.size zL zT zR zI zJ (zR (zR zx 6) (1 : Int32).toNatClampNeg) zib zi_60 hs h_zI.1 t_83 (by omega) (by omega)) (cwV 2 hts gX10_sharedWays_X9_tally rfl rfl rfl (by decide +kernel) ⟨(Nat.le_of_ble_eq_true rfl), (Nat.le_of_ble_eq_true rfl)⟩) (PRE.v hP hK hD hN (ht_recv hK hP hs t_83 (by decide) rfl rfl)) rfl rfl hl.1 rfl (lv_room (Nat.le_of_ble_eq_true rfl)) dX10_sharedWays_34 ⟨(Nat.le_of_ble_eq_true rfl), (Nat.le_of_ble_eq_true rfl)⟩) hP hD hS hA (fun zj_84 u_86 H locs hw_85 hP hD hS => ?_)
        refine lv_lmul hx hb dX10_sharedWays_37 ?_
        refine lv_topl (fun zj_87 ezj_87 => ?_)
        refine lv_ladd hx hb dX10_sharedWays_38 ?_
        refine lv_topl (fun zj_88 ezj_88 => ?_)
        refine lv_lstore_n (lv' := [(3, .long zj_88), (0, .ref zx), (1, .int zia), (2, .int zib), (5, .int zi_60)]) hx hb dX10_sharedWays_39 rfl hl (by decide) rfl (fun ls hl => ?_)
        obtain ⟨zi_89, ezi_89⟩ : ∃ y : Int32, y = zi_60 + 1 := ⟨_, rfl⟩
        have tzi_89 : zi_89.toInt = zi_60.toInt + 1 := by rw [ezi_89]; exact tadd rfl (show (1 : Int32).toInt = 1 by decide) (by omega) (by omega)
        refine lv_iinc (v := zi_89) (lv' := [(5, .int zi_89), (3, .long zj_88), (0, .ref zx), (1, .int zia), (2, .int zib)]) hx hb dX10_sharedWays_40 hl (k := 4) rfl (by rw [ezi_89]; rfl) (by decide) rfl (fun ls hl => ?_)
        refine lv_goto (tgt := 5) hx hb dX10_sharedWays_43 (by decide) ?_
        exact ih_75 (24 - zi_89.toInt).toNat (by omega) zj_88 zi_89 _ _ _ rfl (by omega) hP hD hS (lv_sub hl [2, 3, 4, 1, 0] rfl)
  exact lp_75 _ (0 : Int64) (0 : Int32) _ _ _ rfl (by decide) hP hD hS (lv_sub hl [2, 3, 4, 1, 0] rfl)
set_option maxHeartbeats 8000000 in
set_option maxRecDepth 100000 in
theorem t_X10_judge (l : Launch) (dC : Nat → ClassId) (dI : Nat → Nat → Nat) (cy : Nat → ClassId) (sz : Nat) (zL : List Nat) (zT : Nat → Nat) (zR : Nat → Nat → Nat) (zI : Nat → Nat → Int32) (zJ : Nat → Nat → Int64) (zx : Nat) (zia : Int32) (zib : Int32) (zic : Int32) (zid : Int32) (hs : SKP zL zT zR) (hw : WT zT zR zI) (t_zx : zT zx = 11) (hj : JX zR zI zx) : Met l yX10_judge wsX10_judge ({ frames := 5, cells := 0, slots := 0, locals := 126 } : Room) (va_Pc [.ref zx, .int zia, .int zib, .int zic, .int zid] (PRE dC dI cy (WL cy zL zT zR zI zJ) sz)) (va_Qi (fun (r : Int32) (u : (Nat → Nat → Int32) × (Nat → Nat → Int64)) => (WM [1013, 1014, 3700, 3800, 3900, 4000, 4200, 4700] AL zT zR zI u.1) ∧ ((-13) ≤ r.toInt ∧ r.toInt ≤ 11) ∧ (JX zR u.1 zx)) (fun u t => POST dC dI cy (va_A (WL cy zL zT zR zI zJ) sz) (WL cy zL zT zR u.1 u.2) t) (va_A (WL cy zL zT zR zI zJ) sz)) 0 0 (va_A (WL cy zL zT zR zI zJ) sz) := by
  refine Met.ofW (cc := cX10_judge) (maxL := 9) (ret := (some .int)) (by decide) rfl ?_
  intro p e s m args below meth c s₁ B hml hv
  obtain ⟨rfl, hsz, hP, hK, hD0, hN⟩ := hv
  have hx := B.exec
  have hb := B.bytes
  have hr := B.returns
  have hts := atoms_spec (ws := wsX10_judge) B.pre
  have hown : s.vm.findClass RX10 = some m.cls := findClass_of_methodNamed B.named
  have hlocks := B.notSynchronized
  subst hsz
  have hD := hD0.self (sz := s.heap.size)
  generalize hAe : va_A (WL cy zL zT zR zI zJ) s.heap.size = A at hD ⊢
  have hA : ∀ q : Nat, s.heap.size ≤ q → A q := fun q h => by rw [← hAe]; exact Or.inr h
  have hS : va_S A s.heap s.heap [] := va_S.rf
  have hP : va_P (dC, dI) vwCl (WL cy zL zT zR zI zJ) s.heap := hP
  have hl := lv_entry ([.ref zx, .int zia, .int zib, .int zic, .int zid] : List Value) (n := 9) (Nat.le_of_ble_eq_true rfl)
  rw [lg_entry_eq]
  generalize (lg_sl ([.ref zx, .int zia, .int zib, .int zic, .int zid] : List Value) ++ List.replicate (9 - (lg_sl ([.ref zx, .int zia, .int zib, .int zic, .int zid] : List Value)).length) Slot.unset).toArray = ls at hl ⊢
  have hl : lv_has ls 9 [(0, .ref zx), (1, .int zia), (2, .int zib), (3, .int zic), (4, .int zid)] := hl
  refine w_q (fun Q hQ => ?_)
  have h_zI : WM [1013, 1014, 3700, 3800, 3900, 4000, 4200, 4700] AL zT zR zI zI := WM.rf hw
  refine lv_iload_n hx hb dX10_judge_0 rfl (lv_at hl 1 rfl) ?_
  refine hj0_i (ws := (WL cy zL zT zR zI zJ)) (va_runS (As := [.int zia]) (rest := []) ⟨hx, hb, hml, hown, hts⟩ (c_X10_isCandle l dC dI cy s.heap.size zia) (va_cwS 1 hts gX10_judge_X10_isCandle rfl rfl rfl (by decide +kernel) ⟨(Nat.le_of_ble_eq_true rfl), (Nat.le_of_ble_eq_true rfl)⟩) (PRE.s (hP.sub [] rfl) hK (hD.sub [] (by decide) rfl) hN) rfl rfl hl.1 rfl (lv_room (Nat.le_of_ble_eq_true rfl)) dX10_judge_1 ⟨(Nat.le_of_ble_eq_true rfl), (Nat.le_of_ble_eq_true rfl)⟩) hP hD hS hA (fun zi_1 u_3 H locs hw_2 hP hD hS => ?_)
  have hw_2 : zi_1 = if 0 ≤ zia.toInt ∧ zia.toInt ≤ 1 then 1 else 0 := hw_2
  have b_zi_1 : 0 ≤ zi_1.toInt ∧ zi_1.toInt ≤ 1 := bz_b hw_2
  refine lv_if_eq (tgt := 15) hx hb dX10_judge_4 (by decide) (fun c_4 => ?_) (fun c_4 => ?_)
  · have f_5 : ¬ (0 ≤ zia.toInt ∧ zia.toInt ≤ 1) := bz_0 hw_2 c_4
    refine lv_iconst (v := (-1)) hx hb dX10_judge_15 (by decide) ?_
    subst hQ
    have qc_m1 : (-1 : Int32).toInt = -1 := by decide
    exact W.iret (v := (-1 : Int32)) hx hb hr (fun t ht hW => ⟨⟨(-1 : Int32), (zI, zJ), rfl, ⟨h_zI, (show (-13) ≤ (-1 : Int32).toInt ∧ (-1 : Int32).toInt ≤ 11 from by omega), (show JX zR zI zx from hj)⟩, ⟨by rw [ht]; exact hP, va_K.moved hW.alike hK, hD⟩⟩, hS.F ht⟩) hS.2.2 dX10_judge_16
  · have f_5 : 0 ≤ zia.toInt ∧ zia.toInt ≤ 1 := bz_1 hw_2 c_4
    refine lv_iload_n hx hb dX10_judge_7 rfl (lv_at hl 2 rfl) ?_
    refine lv_iload_n hx hb dX10_judge_8 rfl (lv_at hl 3 rfl) ?_
    refine hj0_i (ws := (WL cy zL zT zR zI zJ)) (va_runS (As := [.int zib, .int zic]) (rest := []) ⟨hx, hb, hml, hown, hts⟩ (c_X10_isRow l dC dI cy H.size zib zic) (va_cwS 2 hts gX10_judge_X10_isRow rfl rfl rfl (by decide +kernel) ⟨(Nat.le_of_ble_eq_true rfl), (Nat.le_of_ble_eq_true rfl)⟩) (PRE.s (hP.sub [] rfl) hK (hD.sub [] (by decide) rfl) hN) rfl rfl hl.1 rfl (lv_room (Nat.le_of_ble_eq_true rfl)) dX10_judge_9 ⟨(Nat.le_of_ble_eq_true rfl), (Nat.le_of_ble_eq_true rfl)⟩) hP hD hS hA (fun zi_6 u_8 H locs hw_7 hP hD hS => ?_)
    have hw_7 : zi_6 = if (0 ≤ zib.toInt ∧ zib.toInt ≤ 3) ∧ 0 ≤ zic.toInt ∧ zic.toInt ≤ 2 then 1 else 0 := hw_7
    have b_zi_6 : 0 ≤ zi_6.toInt ∧ zi_6.toInt ≤ 1 := bz_b hw_7
    refine lv_if_ne (tgt := 17) hx hb dX10_judge_12 (by decide) (fun c_9 => ?_) (fun c_9 => ?_)
    · have f_10 : (0 ≤ zib.toInt ∧ zib.toInt ≤ 3) ∧ 0 ≤ zic.toInt ∧ zic.toInt ≤ 2 := bz_1 hw_7 c_9
      refine lv_aload_n hx hb dX10_judge_17 rfl (lv_at hl 0 rfl) ?_
      refine ht_getr (C := RX10) (T := TX10) (N := 10) hx hb hts (by decide +kernel) hown hK hP hs t_zx (by decide) rfl rfl 0 (by decide) (hts (.fieldLink RX10 12 "DripStone" "now" "LDripStone$State;") (by decide +kernel)) (fun _ h9 => h9) rfl dX10_judge_18 ?_
      have t_11 : zT (zR zx 0) = 9 := sk_f hs t_zx (by decide) rfl (by decide)
      refine ht_getr (C := RX8) (T := TX8) (N := 9) hx hb hts (by decide +kernel) hown hK hP hs t_11 (by decide) rfl rfl 2 (by decide) (hts (.fieldLink RX10 147 "DripStone$State" "candles" "[LDripStone$Candle;") (by decide +kernel)) (fun _ h9 => h9) rfl dX10_judge_21 ?_
      have t_12 : zT (zR (zR zx 0) 2) = 61 := sk_f hs t_11 (by decide) rfl (by decide)
      refine lv_iload_n hx hb dX10_judge_24 rfl (lv_at hl 1 rfl) ?_
      refine ht_aald (n := 2) (q := 3) hx hb hK hP hs t_12 (by decide) rfl rfl ⟨by omega, by omega⟩ dX10_judge_25 ?_
      have t_13 : zT (zR (zR (zR zx 0) 2) zia.toNatClampNeg) = 1 := sk_a (n := 2) hs t_12 rfl rfl (by decide) (cl_lt (by omega) (by omega))
      refine hj_i (ws := (WL cy zL zT zR zI zJ)) (w1 := fun (u : Unit) => (WL cy zL zT zR zI zJ)) (va_runV (As := []) (rest := []) ⟨hx, hb, hml, hown, hts⟩ (t_X0_places l dC dI cy H.size zL zT zR zI zJ (zR (zR (zR zx 0) 2) zia.toNatClampNeg) hs h_zI.1 t_13) (cwV 0 hts gX10_judge_X0_places rfl rfl rfl (by decide +kernel) ⟨(Nat.le_of_ble_eq_true rfl), (Nat.le_of_ble_eq_true rfl)⟩) (PRE.v hP hK hD hN (ht_recv hK hP hs t_13 (by decide) rfl rfl)) rfl rfl hl.1 rfl (lv_room (Nat.le_of_ble_eq_true rfl)) dX10_judge_26 ⟨(Nat.le_of_ble_eq_true rfl), (Nat.le_of_ble_eq_true rfl)⟩) hP hD hS hA (fun zi_14 u_16 H locs hw_15 hP hD hS => ?_)
      obtain ⟨b_zi_14, ps_17⟩ : (0 ≤ zi_14.toInt ∧ zi_14.toInt ≤ 12) ∧ (zi_14.toInt = PL (zI (zR (zR (zR (zR zx 0) 2) zia.toNatClampNeg) 0)) ((zI (zR (zR (zR zx 0) 2) zia.toNatClampNeg) 7).toInt).toNat) := hw_15
      obtain ⟨zi_18, ezi_18⟩ : ∃ y : Int32, y = zI (zR (zR (zR zx 0) 2) zia.toNatClampNeg) 7 := ⟨_, rfl⟩
      have tzi_18 : 0 ≤ zi_18.toInt ∧ zi_18.toInt ≤ 12 := by rw [ezi_18]; exact h_zI.at t_13 _ rfl
      have lk_19 : (zI (zR (zR (zR zx 0) 2) zia.toNatClampNeg) 7).toInt = zi_18.toInt := congrArg Int32.toInt ezi_18.symm
      refine lv_istore (lv' := [(5, .int zi_14), (0, .ref zx), (1, .int zia), (2, .int zib), (3, .int zic), (4, .int zid)]) hx hb dX10_judge_29 hl (by decide) rfl (fun ls hl => ?_)
      refine lv_iload hx hb dX10_judge_31 (lv_at hl 0 rfl) ?_
      refine lv_if_ne (tgt := 39) hx hb dX10_judge_33 (by decide) (fun c_20 => ?_) (fun c_20 => ?_)
      · have f_21 : zi_14.toInt ≠ 0 := ic_ne (rfl) (by decide) c_20
        refine lv_aload_n hx hb dX10_judge_39 rfl (lv_at hl 1 rfl) ?_
        refine ht_getr (C := RX10) (T := TX10) (N := 10) hx hb hts (by decide +kernel) hown hK hP hs t_zx (by decide) rfl rfl 5 (by decide) (hts (.fieldLink RX10 43 "DripStone" "sheets" "[LDripStone$Sheet;") (by decide +kernel)) (fun _ h9 => h9) rfl dX10_judge_40 ?_
        have t_22 : zT (zR zx 5) = 63 := sk_f hs t_zx (by decide) rfl (by decide)
        refine lv_iload_n hx hb dX10_judge_43 rfl (lv_at hl 3 rfl) ?_
        refine ht_aald (n := 4) (q := 5) hx hb hK hP hs t_22 (by decide) rfl rfl ⟨by omega, by omega⟩ dX10_judge_44 ?_
        have t_23 : zT (zR (zR zx 5) zib.toNatClampNeg) = 8 := sk_a (n := 4) hs t_22 rfl rfl (by decide) (cl_lt (by omega) (by omega))
        refine lv_iload_n hx hb dX10_judge_45 rfl (lv_at hl 4 rfl) ?_
        refine lv_iload hx hb dX10_judge_46 (lv_at hl 5 rfl) ?_
        refine lv_iload hx hb dX10_judge_48 (lv_at hl 0 rfl) ?_
        refine hj_i (ws := (WL cy zL zT zR zI zJ)) (w1 := fun (u : Unit) => (WL cy zL zT zR zI zJ)) (va_runV (As := [.int zic, .int zid, .int zi_14]) (rest := []) ⟨hx, hb, hml, hown, hts⟩ (t_X7_refusal l dC dI cy H.size zL zT zR zI zJ (zR (zR zx 5) zib.toNatClampNeg) zic zid zi_14 hs h_zI.1 t_23 (by omega)) (cwV 3 hts gX10_judge_X7_refusal rfl rfl rfl (by decide +kernel) ⟨(Nat.le_of_ble_eq_true rfl), (Nat.le_of_ble_eq_true rfl)⟩) (PRE.v hP hK hD hN (ht_recv hK hP hs t_23 (by decide) rfl rfl)) rfl rfl hl.1 rfl (lv_room (Nat.le_of_ble_eq_true rfl)) dX10_judge_50 ⟨(Nat.le_of_ble_eq_true rfl), (Nat.le_of_ble_eq_true rfl)⟩) hP hD hS hA (fun zi_24 u_26 H locs hw_25 hP hD hS => ?_)
        obtain ⟨b_zi_24, ps_27, ps_28, ps_29⟩ : ((-13) ≤ zi_24.toInt ∧ zi_24.toInt ≤ 0) ∧ (¬ (zi_24.toInt = 0) ∨ (0 ≤ zid.toInt ∧ zid.toInt ≤ 24)) ∧ (¬ (zi_24.toInt = 0) ∨ zid.toInt + zi_14.toInt ≤ 24) ∧ (zi_24.toInt = RFS (zI (zR (zR zx 5) zib.toNatClampNeg) 3).toInt (zI (zR (zR zx 5) zib.toNatClampNeg) 1).toInt (zI (zR (zR zx 5) zib.toNatClampNeg) 2).toInt zic.toInt zid.toInt zi_14.toInt) := hw_25
        obtain ⟨zi_30, ezi_30⟩ : ∃ y : Int32, y = zI (zR (zR zx 5) zib.toNatClampNeg) 3 := ⟨_, rfl⟩
        have tzi_30 : 0 ≤ zi_30.toInt ∧ zi_30.toInt ≤ 1 := by rw [ezi_30]; exact h_zI.at t_23 _ rfl
        obtain ⟨zi_31, ezi_31⟩ : ∃ y : Int32, y = zI (zR (zR zx 5) zib.toNatClampNeg) 1 := ⟨_, rfl⟩
        have tzi_31 : 0 ≤ zi_31.toInt ∧ zi_31.toInt ≤ 2 := by rw [ezi_31]; exact h_zI.at t_23 _ rfl
        obtain ⟨zi_32, ezi_32⟩ : ∃ y : Int32, y = zI (zR (zR zx 5) zib.toNatClampNeg) 2 := ⟨_, rfl⟩
        have tzi_32 : 0 ≤ zi_32.toInt ∧ zi_32.toInt ≤ 24 := by rw [ezi_32]; exact h_zI.at t_23 _ rfl
        have lk_33 : (zI (zR (zR zx 5) zib.toNatClampNeg) 3).toInt = zi_30.toInt := congrArg Int32.toInt ezi_30.symm
        have lk_34 : (zI (zR (zR zx 5) zib.toNatClampNeg) 1).toInt = zi_31.toInt := congrArg Int32.toInt ezi_31.symm
        have lk_35 : (zI (zR (zR zx 5) zib.toNatClampNeg) 2).toInt = zi_32.toInt := congrArg Int32.toInt ezi_32.symm
        refine lv_istore (lv' := [(6, .int zi_24), (5, .int zi_14), (0, .ref zx), (1, .int zia), (2, .int zib), (3, .int zic), (4, .int zid)]) hx hb dX10_judge_53 hl (by decide) rfl (fun ls hl => ?_)
        refine lv_iload hx hb dX10_judge_55 (lv_at hl 0 rfl) ?_
        refine lv_if_eq (tgt := 63) hx hb dX10_judge_57 (by decide) (fun c_36 => ?_) (fun c_36 => ?_)
        · have f_37 : zi_24.toInt = 0 := ic_eq (rfl) (by decide) c_36
          have b9_zid : 0 ≤ zid.toInt ∧ zid.toInt ≤ 24 := by omega
          refine lv_aload_n hx hb dX10_judge_63 rfl (lv_at hl 2 rfl) ?_
          refine lv_iload_n hx hb dX10_judge_64 rfl (lv_at hl 3 rfl) ?_
          refine hj_r (ws := (WL cy zL zT zR zI zJ)) (w1 := fun (u : (Nat → Nat → Int32) × (Nat → Nat → Int64)) => (WL cy zL zT zR u.1 u.2)) (va_runV (As := [.int zia]) (rest := []) ⟨hx, hb, hml, hown, hts⟩ (t_X10_lineOf l dC dI cy H.size zL zT zR zI zJ zx zia hs h_zI.1 t_zx (by omega) (by omega)) (cwV 1 hts gX10_judge_X10_lineOf rfl rfl rfl (by decide +kernel) ⟨(Nat.le_of_ble_eq_true rfl), (Nat.le_of_ble_eq_true rfl)⟩) (PRE.v hP hK hD hN (ht_recv hK hP hs t_zx (by decide) rfl rfl)) rfl rfl hl.1 rfl (lv_room (Nat.le_of_ble_eq_true rfl)) dX10_judge_65 ⟨(Nat.le_of_ble_eq_true rfl), (Nat.le_of_ble_eq_true rfl)⟩) hP hD hS hA (fun zi_38 u_40 H locs hw_39 hr0 hP hD hS => ?_)
          obtain ⟨zI_41, zJ_42⟩ := u_40
          obtain ⟨k_zI_41, ps_43, ps_44⟩ : (WM [1013, 1014, 3700, 3800, 3900, 4000, 4200, 4700] AL zT zR zI zI_41) ∧ (JX zR zI_41 zx) ∧ (LW zR zI_41 (zR (zR zx 6) zia.toNatClampNeg) (zR (zR (zR zx 0) 2) zia.toNatClampNeg)) := hw_39
          have h_zI_41 : WM [1013, 1014, 3700, 3800, 3900, 4000, 4200, 4700] AL zT zR zI zI_41 := h_zI.tr k_zI_41 (by decide) (fun _ _ => trivial)
          have t_45 : zT (zR (zR (zR (zR zx 0) 2) zia.toNatClampNeg) 0) = 20 := sk_f hs t_13 (by decide) rfl (by decide)
          have q_46 : (zI_41 (zR (zR zx 6) zia.toNatClampNeg) 14).toInt = zi_14.toInt := by rw [ps_44.1, k_zI_41.2 (zR (zR (zR zx 0) 2) zia.toNatClampNeg) 7 (Or.inl (by rw [t_13]; decide)), k_zI_41.2.row t_45 (by decide) (by decide)]; exact ps_17.symm
          subst hr0
          have t_47 : zT (zR zx 6) = 64 := sk_f hs t_zx (by decide) rfl (by decide)
          have t_48 : zT (zR (zR zx 6) zia.toNatClampNeg) = 10 := sk_a (n := 2) hs t_47 rfl rfl (by decide) (cl_lt (by omega) (by omega))
          refine lv_astore (lv' := [(7, .ref (zR (zR zx 6) zia.toNatClampNeg)), (6, .int zi_24), (5, .int zi_14), (0, .ref zx), (1, .int zia), (2, .int zib), (3, .int zic), (4, .int zid)]) hx hb dX10_judge_68 hl (by decide) rfl (fun ls hl => ?_)
          refine lv_aload hx hb dX10_judge_70 (lv_at hl 0 rfl) ?_
          refine lv_aload_n hx hb dX10_judge_72 rfl (lv_at hl 3 rfl) ?_
          refine ht_getr (C := RX10) (T := TX10) (N := 10) hx hb hts (by decide +kernel) hown hK hP hs t_zx (by decide) rfl rfl 5 (by decide) (hts (.fieldLink RX10 43 "DripStone" "sheets" "[LDripStone$Sheet;") (by decide +kernel)) (fun _ h9 => h9) rfl dX10_judge_73 ?_
          refine lv_iload_n hx hb dX10_judge_76 rfl (lv_at hl 5 rfl) ?_
          refine ht_aald (n := 4) (q := 5) hx hb hK hP hs t_22 (by decide) rfl rfl ⟨by omega, by omega⟩ dX10_judge_77 ?_
          refine ht_getr (C := RX7) (T := TX7) (N := 4) hx hb hts (by decide +kernel) hown hK hP hs t_23 (by decide) rfl rfl 0 (by decide) (hts (.fieldLink RX10 94 "DripStone$Sheet" "items" "[I") (by decide +kernel)) (fun _ h9 => h9) rfl dX10_judge_78 ?_
          have t_49 : zT (zR (zR (zR zx 5) zib.toNatClampNeg) 0) = 36 := sk_f hs t_23 (by decide) rfl (by decide)
          refine lv_iload hx hb dX10_judge_81 (lv_at hl 7 rfl) ?_
          refine hj_i (ws := (WL cy zL zT zR zI_41 zJ_42)) (w1 := fun (u : Unit) => (WL cy zL zT zR zI_41 zJ_42)) (va_runV (As := [.ref (zR (zR (zR zx 5) zib.toNatClampNeg) 0), .int zid]) (rest := []) ⟨hx, hb, hml, hown, hts⟩ (t_X9_firstWrong l dC dI cy H.size zL zT zR zI_41 zJ_42 (zR (zR zx 6) zia.toNatClampNeg) (zR (zR (zR zx 5) zib.toNatClampNeg) 0) zid hs h_zI_41.1 t_48 t_49 (by omega) (by omega)) (cwV 2 hts gX10_judge_X9_firstWrong rfl rfl rfl (by decide +kernel) ⟨(Nat.le_of_ble_eq_true rfl), (Nat.le_of_ble_eq_true rfl)⟩) (PRE.v hP hK hD hN (ht_recv hK hP hs t_48 (by decide) rfl rfl)) rfl rfl hl.1 rfl (lv_room (Nat.le_of_ble_eq_true rfl)) dX10_judge_83 ⟨(Nat.le_of_ble_eq_true rfl), (Nat.le_of_ble_eq_true rfl)⟩) hP hD hS hA (fun zi_50 u_52 H locs hw_51 hP hD hS => ?_)
          have b_zi_50 : (-1) ≤ zi_50.toInt ∧ zi_50.toInt ≤ 11 := hw_51
          refine lv_istore (lv' := [(8, .int zi_50), (7, .ref (zR (zR zx 6) zia.toNatClampNeg)), (6, .int zi_24), (5, .int zi_14), (0, .ref zx), (1, .int zia), (2, .int zib), (3, .int zic), (4, .int zid)]) hx hb dX10_judge_86 hl (by decide) rfl (fun ls hl => ?_)
          refine lv_iload hx hb dX10_judge_88 (lv_at hl 0 rfl) ?_
          refine lv_if_ge (tgt := 98) hx hb dX10_judge_90 (by decide) (fun c_53 => ?_) (fun c_53 => ?_)
          · have f_54 : zi_50.toInt ≥ 0 := ic_ge (rfl) (by decide) c_53
            refine lv_aload hx hb dX10_judge_98 (lv_at hl 1 rfl) ?_
            refine ht_getr (C := RX9) (T := TX9) (N := 16) hx hb hts (by decide +kernel) hown hK hP hs t_48 (by decide) rfl rfl 0 (by decide) (hts (.fieldLink RX10 284 "DripStone$Ways" "things" "[I") (by decide +kernel)) (fun _ h9 => h9) rfl dX10_judge_100 ?_
            have t_55 : zT (zR (zR (zR zx 6) zia.toNatClampNeg) 0) = 37 := sk_f hs t_48 (by decide) rfl (by decide)
            refine lv_iload hx hb dX10_judge_103 (lv_at hl 0 rfl) ?_
            refine ht_iald (n := 12) (q := 0) hx hb hK hP hs t_55 (by decide) rfl rfl ⟨by omega, by omega⟩ dX10_judge_105 ?_
            refine lv_topi (fun zi_56 ezi_56 => ?_)
            have tzi_56 : 0 ≤ zi_56.toInt ∧ zi_56.toInt ≤ 11 := by rw [ezi_56]; exact h_zI_41.at t_55 _ rfl
            subst hQ
            exact W.iret (v := zi_56) hx hb hr (fun t ht hW => ⟨⟨zi_56, (zI_41, zJ_42), rfl, ⟨h_zI_41, (show (-13) ≤ zi_56.toInt ∧ zi_56.toInt ≤ 11 from by omega), (show JX zR zI_41 zx from ps_43)⟩, ⟨by rw [ht]; exact hP, va_K.moved hW.alike hK, hD⟩⟩, hS.F ht⟩) hS.2.2 dX10_judge_106
          · have f_54 : ¬ (zi_50.toInt ≥ 0) := ic_nge (rfl) (by decide) c_53
            refine lv_bipush (v := (-4)) hx hb dX10_judge_93 (by decide) ?_
            refine lv_goto (tgt := 106) hx hb dX10_judge_95 (by decide) ?_
            subst hQ
            have qc_m4 : (-4 : Int32).toInt = -4 := by decide
            exact W.iret (v := (-4 : Int32)) hx hb hr (fun t ht hW => ⟨⟨(-4 : Int32), (zI_41, zJ_42), rfl, ⟨h_zI_41, (show (-13) ≤ (-4 : Int32).toInt ∧ (-4 : Int32).toInt ≤ 11 from by omega), (show JX zR zI_41 zx from ps_43)⟩, ⟨by rw [ht]; exact hP, va_K.moved hW.alike hK, hD⟩⟩, hS.F ht⟩) hS.2.2 dX10_judge_106
        · have f_37 : ¬ (zi_24.toInt = 0) := ic_neq (rfl) (by decide) c_36
          refine lv_iload hx hb dX10_judge_60 (lv_at hl 0 rfl) ?_
          subst hQ
          exact W.iret (v := zi_24) hx hb hr (fun t ht hW => ⟨⟨zi_24, (zI, zJ), rfl, ⟨h_zI, (show (-13) ≤ zi_24.toInt ∧ zi_24.toInt ≤ 11 from by omega), (show JX zR zI zx from hj)⟩, ⟨by rw [ht]; exact hP, va_K.moved hW.alike hK, hD⟩⟩, hS.F ht⟩) hS.2.2 dX10_judge_62
      · have f_21 : ¬ (zi_14.toInt ≠ 0) := ic_nne (rfl) (by decide) c_20
        refine lv_bipush (v := (-2)) hx hb dX10_judge_36 (by decide) ?_
        subst hQ
        have qc_m2 : (-2 : Int32).toInt = -2 := by decide
        exact W.iret (v := (-2 : Int32)) hx hb hr (fun t ht hW => ⟨⟨(-2 : Int32), (zI, zJ), rfl, ⟨h_zI, (show (-13) ≤ (-2 : Int32).toInt ∧ (-2 : Int32).toInt ≤ 11 from by omega), (show JX zR zI zx from hj)⟩, ⟨by rw [ht]; exact hP, va_K.moved hW.alike hK, hD⟩⟩, hS.F ht⟩) hS.2.2 dX10_judge_38
    · have f_10 : ¬ ((0 ≤ zib.toInt ∧ zib.toInt ≤ 3) ∧ 0 ≤ zic.toInt ∧ zic.toInt ≤ 2) := bz_0 hw_7 c_9
      refine lv_iconst (v := (-1)) hx hb dX10_judge_15 (by decide) ?_
      subst hQ
      have qc_m1 : (-1 : Int32).toInt = -1 := by decide
      exact W.iret (v := (-1 : Int32)) hx hb hr (fun t ht hW => ⟨⟨(-1 : Int32), (zI, zJ), rfl, ⟨h_zI, (show (-13) ≤ (-1 : Int32).toInt ∧ (-1 : Int32).toInt ≤ 11 from by omega), (show JX zR zI zx from hj)⟩, ⟨by rw [ht]; exact hP, va_K.moved hW.alike hK, hD⟩⟩, hS.F ht⟩) hS.2.2 dX10_judge_16
set_option maxHeartbeats 8000000 in
set_option maxRecDepth 100000 in
theorem t_X10_oneYear (l : Launch) (dC : Nat → ClassId) (dI : Nat → Nat → Nat) (cy : Nat → ClassId) (sz : Nat) (zL : List Nat) (zT : Nat → Nat) (zR : Nat → Nat → Nat) (zI : Nat → Nat → Int32) (zJ : Nat → Nat → Int64) (zx : Nat) (zia : Int32) (zib : Int32) (zic : Int32) (hs : SKP zL zT zR) (hw : WT zT zR zI) (t_zx : zT zx = 11) (hj : JX zR zI zx) : Met l yX10_oneYear wsX10_oneYear ({ frames := 5, cells := 0, slots := 0, locals := 126 } : Room) (va_Pc [.ref zx, .int zia, .int zib, .int zic] (PRE dC dI cy (WL cy zL zT zR zI zJ) sz)) (va_Ql (fun (r : Int64) (u : (Nat → Nat → Int32) × (Nat → Nat → Int64)) => (WM [1013, 1014, 3700, 3800, 3900, 4000, 4200, 4700] AL zT zR zI u.1) ∧ (JX zR u.1 zx)) (fun u t => POST dC dI cy (va_A (WL cy zL zT zR zI zJ) sz) (WL cy zL zT zR u.1 u.2) t) (va_A (WL cy zL zT zR zI zJ) sz)) 0 0 (va_A (WL cy zL zT zR zI zJ) sz) := by
  refine Met.ofW (cc := cX10_oneYear) (maxL := 8) (ret := (some .long)) (by decide) rfl ?_
  intro p e s m args below meth c s₁ B hml hv
  obtain ⟨rfl, hsz, hP, hK, hD0, hN⟩ := hv
  have hx := B.exec
  have hb := B.bytes
  have hr := B.returns
  have hts := atoms_spec (ws := wsX10_oneYear) B.pre
  have hown : s.vm.findClass RX10 = some m.cls := findClass_of_methodNamed B.named
  have hlocks := B.notSynchronized
  subst hsz
  have hD := hD0.self (sz := s.heap.size)
  generalize hAe : va_A (WL cy zL zT zR zI zJ) s.heap.size = A at hD ⊢
  have hA : ∀ q : Nat, s.heap.size ≤ q → A q := fun q h => by rw [← hAe]; exact Or.inr h
  have hS : va_S A s.heap s.heap [] := va_S.rf
  have hP : va_P (dC, dI) vwCl (WL cy zL zT zR zI zJ) s.heap := hP
  have hl := lv_entry ([.ref zx, .int zia, .int zib, .int zic] : List Value) (n := 8) (Nat.le_of_ble_eq_true rfl)
  rw [lg_entry_eq]
  generalize (lg_sl ([.ref zx, .int zia, .int zib, .int zic] : List Value) ++ List.replicate (8 - (lg_sl ([.ref zx, .int zia, .int zib, .int zic] : List Value)).length) Slot.unset).toArray = ls at hl ⊢
  have hl : lv_has ls 8 [(0, .ref zx), (1, .int zia), (2, .int zib), (3, .int zic)] := hl
  refine w_q (fun Q hQ => ?_)
  have h_zI : WM [1013, 1014, 3700, 3800, 3900, 4000, 4200, 4700] AL zT zR zI zI := WM.rf hw
  refine lv_aload_n hx hb dX10_oneYear_0 rfl (lv_at hl 0 rfl) ?_
  refine lv_iconst (v := 0) hx hb dX10_oneYear_1 (by decide) ?_
  refine lv_iload_n hx hb dX10_oneYear_2 rfl (lv_at hl 1 rfl) ?_
  have qc_0 : (0 : Int32).toInt = 0 := by decide
  refine hj_i (ws := (WL cy zL zT zR zI zJ)) (w1 := fun (u : Unit) => (WL cy zL zT zR zI zJ)) (va_runV (As := [.int 0, .int zia]) (rest := []) ⟨hx, hb, hml, hown, hts⟩ (t_X10_isThing l dC dI cy s.heap.size zL zT zR zI zJ zx (0 : Int32) zia hs h_zI.1 t_zx) (cwV 2 hts gX10_oneYear_X10_isThing rfl rfl rfl (by decide +kernel) ⟨(Nat.le_of_ble_eq_true rfl), (Nat.le_of_ble_eq_true rfl)⟩) (PRE.v hP hK hD hN (ht_recv hK hP hs t_zx (by decide) rfl rfl)) rfl rfl hl.1 rfl (lv_room (Nat.le_of_ble_eq_true rfl)) dX10_oneYear_3 ⟨(Nat.le_of_ble_eq_true rfl), (Nat.le_of_ble_eq_true rfl)⟩) hP hD hS hA (fun zi_1 u_3 H locs hw_2 hP hD hS => ?_)
  obtain ⟨b_zi_1, ps_4, ps_5⟩ : (0 ≤ zi_1.toInt ∧ zi_1.toInt ≤ 1) ∧ (zi_1.toInt = 0 ∨ (0 ≤ (0 : Int32).toInt ∧ (0 : Int32).toInt ≤ 1 ∧ 0 ≤ zia.toInt ∧ zia.toInt ≤ 11)) ∧ (zi_1.toInt = 0 ∨ zia.toInt < (zI (zR (zR (zR zx 0) 2) (0 : Int32).toNatClampNeg) 7).toInt) := hw_2
  refine lv_if_eq (tgt := 27) hx hb dX10_oneYear_6 (by decide) (fun c_6 => ?_) (fun c_6 => ?_)
  · have f_7 : zi_1.toInt = 0 := ic_eq (rfl) (by decide) c_6
    refine lv_ldc2 (v := (-1)) hx hb hown (hts (.constantLong RX10 234 (-1)) (by decide +kernel)) dX10_oneYear_27 ?_
    subst hQ
    exact W.lret (v := (-1 : Int64)) hx hb hr (fun t ht hW => ⟨⟨(-1 : Int64), (zI, zJ), rfl, ⟨h_zI, (show JX zR zI zx from hj)⟩, ⟨by rw [ht]; exact hP, va_K.moved hW.alike hK, hD⟩⟩, hS.F ht⟩) hS.2.2 dX10_oneYear_30
  · have f_7 : ¬ (zi_1.toInt = 0) := ic_neq (rfl) (by decide) c_6
    have b9_zia : 0 ≤ zia.toInt ∧ zia.toInt ≤ 11 := by omega
    refine lv_aload_n hx hb dX10_oneYear_9 rfl (lv_at hl 0 rfl) ?_
    refine lv_iconst (v := 1) hx hb dX10_oneYear_10 (by decide) ?_
    refine lv_iload_n hx hb dX10_oneYear_11 rfl (lv_at hl 2 rfl) ?_
    have qc_1 : (1 : Int32).toInt = 1 := by decide
    refine hj_i (ws := (WL cy zL zT zR zI zJ)) (w1 := fun (u : Unit) => (WL cy zL zT zR zI zJ)) (va_runV (As := [.int 1, .int zib]) (rest := []) ⟨hx, hb, hml, hown, hts⟩ (t_X10_isThing l dC dI cy H.size zL zT zR zI zJ zx (1 : Int32) zib hs h_zI.1 t_zx) (cwV 2 hts gX10_oneYear_X10_isThing rfl rfl rfl (by decide +kernel) ⟨(Nat.le_of_ble_eq_true rfl), (Nat.le_of_ble_eq_true rfl)⟩) (PRE.v hP hK hD hN (ht_recv hK hP hs t_zx (by decide) rfl rfl)) rfl rfl hl.1 rfl (lv_room (Nat.le_of_ble_eq_true rfl)) dX10_oneYear_12 ⟨(Nat.le_of_ble_eq_true rfl), (Nat.le_of_ble_eq_true rfl)⟩) hP hD hS hA (fun zi_8 u_10 H locs hw_9 hP hD hS => ?_)
    obtain ⟨b_zi_8, ps_11, ps_12⟩ : (0 ≤ zi_8.toInt ∧ zi_8.toInt ≤ 1) ∧ (zi_8.toInt = 0 ∨ (0 ≤ (1 : Int32).toInt ∧ (1 : Int32).toInt ≤ 1 ∧ 0 ≤ zib.toInt ∧ zib.toInt ≤ 11)) ∧ (zi_8.toInt = 0 ∨ zib.toInt < (zI (zR (zR (zR zx 0) 2) (1 : Int32).toNatClampNeg) 7).toInt) := hw_9
    refine lv_if_eq (tgt := 27) hx hb dX10_oneYear_15 (by decide) (fun c_13 => ?_) (fun c_13 => ?_)
    · have f_14 : zi_8.toInt = 0 := ic_eq (rfl) (by decide) c_13
      refine lv_ldc2 (v := (-1)) hx hb hown (hts (.constantLong RX10 234 (-1)) (by decide +kernel)) dX10_oneYear_27 ?_
      subst hQ
      exact W.lret (v := (-1 : Int64)) hx hb hr (fun t ht hW => ⟨⟨(-1 : Int64), (zI, zJ), rfl, ⟨h_zI, (show JX zR zI zx from hj)⟩, ⟨by rw [ht]; exact hP, va_K.moved hW.alike hK, hD⟩⟩, hS.F ht⟩) hS.2.2 dX10_oneYear_30
    · have f_14 : ¬ (zi_8.toInt = 0) := ic_neq (rfl) (by decide) c_13
      have b9_zib : 0 ≤ zib.toInt ∧ zib.toInt ≤ 11 := by omega
      refine lv_iload_n hx hb dX10_oneYear_18 rfl (lv_at hl 3 rfl) ?_
      refine lv_iconst (v := 0) hx hb dX10_oneYear_19 (by decide) ?_
      refine lv_iconst (v := 1) hx hb dX10_oneYear_20 (by decide) ?_
      refine hj0_i (ws := (WL cy zL zT zR zI zJ)) (va_runS (As := [.int zic, .int 0, .int 1]) (rest := []) ⟨hx, hb, hml, hown, hts⟩ (c_X10_isWithin l dC dI cy H.size zic 0 1 0 1 (by first | rfl | decide | omega | exact Int32.toInt_toInt64 _) (by first | rfl | decide | omega | exact Int32.toInt_toInt64 _)) (va_cwS 3 hts gX10_oneYear_X10_isWithin rfl rfl rfl (by decide +kernel) ⟨(Nat.le_of_ble_eq_true rfl), (Nat.le_of_ble_eq_true rfl)⟩) (PRE.s (hP.sub [] rfl) hK (hD.sub [] (by decide) rfl) hN) rfl rfl hl.1 rfl (lv_room (Nat.le_of_ble_eq_true rfl)) dX10_oneYear_21 ⟨(Nat.le_of_ble_eq_true rfl), (Nat.le_of_ble_eq_true rfl)⟩) hP hD hS hA (fun zi_15 u_17 H locs hw_16 hP hD hS => ?_)
      have hw_16 : zi_15 = if 0 ≤ zic.toInt ∧ zic.toInt ≤ 1 then 1 else 0 := hw_16
      have b_zi_15 : 0 ≤ zi_15.toInt ∧ zi_15.toInt ≤ 1 := bz_b hw_16
      refine lv_if_ne (tgt := 31) hx hb dX10_oneYear_24 (by decide) (fun c_18 => ?_) (fun c_18 => ?_)
      · have f_19 : 0 ≤ zic.toInt ∧ zic.toInt ≤ 1 := bz_1 hw_16 c_18
        refine lv_aload_n hx hb dX10_oneYear_31 rfl (lv_at hl 0 rfl) ?_
        refine ht_getr (C := RX10) (T := TX10) (N := 10) hx hb hts (by decide +kernel) hown hK hP hs t_zx (by decide) rfl rfl 0 (by decide) (hts (.fieldLink RX10 12 "DripStone" "now" "LDripStone$State;") (by decide +kernel)) (fun _ h9 => h9) rfl dX10_oneYear_32 ?_
        have t_20 : zT (zR zx 0) = 9 := sk_f hs t_zx (by decide) rfl (by decide)
        refine ht_getr (C := RX8) (T := TX8) (N := 9) hx hb hts (by decide +kernel) hown hK hP hs t_20 (by decide) rfl rfl 2 (by decide) (hts (.fieldLink RX10 147 "DripStone$State" "candles" "[LDripStone$Candle;") (by decide +kernel)) (fun _ h9 => h9) rfl dX10_oneYear_35 ?_
        have t_21 : zT (zR (zR zx 0) 2) = 61 := sk_f hs t_20 (by decide) rfl (by decide)
        refine lv_iconst (v := 0) hx hb dX10_oneYear_38 (by decide) ?_
        refine ht_aald (n := 2) (q := 3) hx hb hK hP hs t_21 (by decide) rfl rfl ⟨by decide, by decide⟩ dX10_oneYear_39 ?_
        have t_22 : zT (zR (zR (zR zx 0) 2) (0 : Int32).toNatClampNeg) = 1 := sk_a (n := 2) hs t_21 rfl rfl (by decide) (by decide)
        refine lv_iload_n hx hb dX10_oneYear_40 rfl (lv_at hl 1 rfl) ?_
        refine hj_i (ws := (WL cy zL zT zR zI zJ)) (w1 := fun (u : Unit) => (WL cy zL zT zR zI zJ)) (va_runV (As := [.int zia]) (rest := []) ⟨hx, hb, hml, hown, hts⟩ (t_X0_isPlace l dC dI cy H.size zL zT zR zI zJ (zR (zR (zR zx 0) 2) (0 : Int32).toNatClampNeg) zia hs h_zI.1 t_22 (by omega)) (cwV 1 hts gX10_oneYear_X0_isPlace rfl rfl rfl (by decide +kernel) ⟨(Nat.le_of_ble_eq_true rfl), (Nat.le_of_ble_eq_true rfl)⟩) (PRE.v hP hK hD hN (ht_recv hK hP hs t_22 (by decide) rfl rfl)) rfl rfl hl.1 rfl (lv_room (Nat.le_of_ble_eq_true rfl)) dX10_oneYear_41 ⟨(Nat.le_of_ble_eq_true rfl), (Nat.le_of_ble_eq_true rfl)⟩) hP hD hS hA (fun zi_23 u_25 H locs hw_24 hP hD hS => ?_)
        obtain ⟨b_zi_23, ps_26⟩ : (0 ≤ zi_23.toInt ∧ zi_23.toInt ≤ 1) ∧ ((zi_23.toInt = 0 ∧ (zI (zR (zR (zR (zR zx 0) 2) (0 : Int32).toNatClampNeg) 0) zia.toNatClampNeg).toInt = 2) ∨ (zi_23.toInt = 1 ∧ ¬ (zI (zR (zR (zR (zR zx 0) 2) (0 : Int32).toNatClampNeg) 0) zia.toNatClampNeg).toInt = 2)) := hw_24
        refine lv_if_eq (tgt := 63) hx hb dX10_oneYear_44 (by decide) (fun c_27 => ?_) (fun c_27 => ?_)
        · have f_28 : zi_23.toInt = 0 := ic_eq (rfl) (by decide) c_27
          refine lv_ldc2 (v := (-12)) hx hb hown (hts (.constantLong RX10 252 (-12)) (by decide +kernel)) dX10_oneYear_63 ?_
          subst hQ
          exact W.lret (v := (-12 : Int64)) hx hb hr (fun t ht hW => ⟨⟨(-12 : Int64), (zI, zJ), rfl, ⟨h_zI, (show JX zR zI zx from hj)⟩, ⟨by rw [ht]; exact hP, va_K.moved hW.alike hK, hD⟩⟩, hS.F ht⟩) hS.2.2 dX10_oneYear_66
        · have f_28 : ¬ (zi_23.toInt = 0) := ic_neq (rfl) (by decide) c_27
          refine lv_aload_n hx hb dX10_oneYear_47 rfl (lv_at hl 0 rfl) ?_
          refine ht_getr (C := RX10) (T := TX10) (N := 10) hx hb hts (by decide +kernel) hown hK hP hs t_zx (by decide) rfl rfl 0 (by decide) (hts (.fieldLink RX10 12 "DripStone" "now" "LDripStone$State;") (by decide +kernel)) (fun _ h9 => h9) rfl dX10_oneYear_48 ?_
          refine ht_getr (C := RX8) (T := TX8) (N := 9) hx hb hts (by decide +kernel) hown hK hP hs t_20 (by decide) rfl rfl 2 (by decide) (hts (.fieldLink RX10 147 "DripStone$State" "candles" "[LDripStone$Candle;") (by decide +kernel)) (fun _ h9 => h9) rfl dX10_oneYear_51 ?_
          refine lv_iconst (v := 1) hx hb dX10_oneYear_54 (by decide) ?_
          refine ht_aald (n := 2) (q := 3) hx hb hK hP hs t_21 (by decide) rfl rfl ⟨by decide, by decide⟩ dX10_oneYear_55 ?_
          have t_29 : zT (zR (zR (zR zx 0) 2) (1 : Int32).toNatClampNeg) = 1 := sk_a (n := 2) hs t_21 rfl rfl (by decide) (by decide)
          refine lv_iload_n hx hb dX10_oneYear_56 rfl (lv_at hl 2 rfl) ?_
          refine hj_i (ws := (WL cy zL zT zR zI zJ)) (w1 := fun (u : Unit) => (WL cy zL zT zR zI zJ)) (va_runV (As := [.int zib]) (rest := []) ⟨hx, hb, hml, hown, hts⟩ (t_X0_isPlace l dC dI cy H.size zL zT zR zI zJ (zR (zR (zR zx 0) 2) (1 : Int32).toNatClampNeg) zib hs h_zI.1 t_29 (by omega)) (cwV 1 hts gX10_oneYear_X0_isPlace rfl rfl rfl (by decide +kernel) ⟨(Nat.le_of_ble_eq_true rfl), (Nat.le_of_ble_eq_true rfl)⟩) (PRE.v hP hK hD hN (ht_recv hK hP hs t_29 (by decide) rfl rfl)) rfl rfl hl.1 rfl (lv_room (Nat.le_of_ble_eq_true rfl)) dX10_oneYear_57 ⟨(Nat.le_of_ble_eq_true rfl), (Nat.le_of_ble_eq_true rfl)⟩) hP hD hS hA (fun zi_30 u_32 H locs hw_31 hP hD hS => ?_)
          obtain ⟨b_zi_30, ps_33⟩ : (0 ≤ zi_30.toInt ∧ zi_30.toInt ≤ 1) ∧ ((zi_30.toInt = 0 ∧ (zI (zR (zR (zR (zR zx 0) 2) (1 : Int32).toNatClampNeg) 0) zib.toNatClampNeg).toInt = 2) ∨ (zi_30.toInt = 1 ∧ ¬ (zI (zR (zR (zR (zR zx 0) 2) (1 : Int32).toNatClampNeg) 0) zib.toNatClampNeg).toInt = 2)) := hw_31
          refine lv_if_ne (tgt := 67) hx hb dX10_oneYear_60 (by decide) (fun c_34 => ?_) (fun c_34 => ?_)
          · have f_35 : zi_30.toInt ≠ 0 := ic_ne (rfl) (by decide) c_34
            refine lv_aload_n hx hb dX10_oneYear_67 rfl (lv_at hl 0 rfl) ?_
            refine lv_iconst (v := 0) hx hb dX10_oneYear_68 (by decide) ?_
            refine hj_r (ws := (WL cy zL zT zR zI zJ)) (w1 := fun (u : (Nat → Nat → Int32) × (Nat → Nat → Int64)) => (WL cy zL zT zR u.1 u.2)) (va_runV (As := [.int 0]) (rest := []) ⟨hx, hb, hml, hown, hts⟩ (t_X10_lineOf l dC dI cy H.size zL zT zR zI zJ zx (0 : Int32) hs h_zI.1 t_zx (by decide) (by omega)) (cwV 1 hts gX10_oneYear_X10_lineOf rfl rfl rfl (by decide +kernel) ⟨(Nat.le_of_ble_eq_true rfl), (Nat.le_of_ble_eq_true rfl)⟩) (PRE.v hP hK hD hN (ht_recv hK hP hs t_zx (by decide) rfl rfl)) rfl rfl hl.1 rfl (lv_room (Nat.le_of_ble_eq_true rfl)) dX10_oneYear_69 ⟨(Nat.le_of_ble_eq_true rfl), (Nat.le_of_ble_eq_true rfl)⟩) hP hD hS hA (fun zi_36 u_38 H locs hw_37 hr0 hP hD hS => ?_)
            obtain ⟨zI_39, zJ_40⟩ := u_38
            obtain ⟨k_zI_39, ps_41, ps_42⟩ : (WM [1013, 1014, 3700, 3800, 3900, 4000, 4200, 4700] AL zT zR zI zI_39) ∧ (JX zR zI_39 zx) ∧ (LW zR zI_39 (zR (zR zx 6) (0 : Int32).toNatClampNeg) (zR (zR (zR zx 0) 2) (0 : Int32).toNatClampNeg)) := hw_37
            have h_zI_39 : WM [1013, 1014, 3700, 3800, 3900, 4000, 4200, 4700] AL zT zR zI zI_39 := h_zI.tr k_zI_39 (by decide) (fun _ _ => trivial)
            subst hr0
            have t_43 : zT (zR zx 6) = 64 := sk_f hs t_zx (by decide) rfl (by decide)
            have t_44 : zT (zR (zR zx 6) (0 : Int32).toNatClampNeg) = 10 := sk_a (n := 2) hs t_43 rfl rfl (by decide) (by decide)
            refine lv_astore (lv' := [(4, .ref (zR (zR zx 6) (0 : Int32).toNatClampNeg)), (0, .ref zx), (1, .int zia), (2, .int zib), (3, .int zic)]) hx hb dX10_oneYear_72 hl (by decide) rfl (fun ls hl => ?_)
            refine lv_aload_n hx hb dX10_oneYear_74 rfl (lv_at hl 1 rfl) ?_
            refine lv_iconst (v := 1) hx hb dX10_oneYear_75 (by decide) ?_
            refine hj_r (ws := (WL cy zL zT zR zI_39 zJ_40)) (w1 := fun (u : (Nat → Nat → Int32) × (Nat → Nat → Int64)) => (WL cy zL zT zR u.1 u.2)) (va_runV (As := [.int 1]) (rest := []) ⟨hx, hb, hml, hown, hts⟩ (t_X10_lineOf l dC dI cy H.size zL zT zR zI_39 zJ_40 zx (1 : Int32) hs h_zI_39.1 t_zx (by decide) (by omega)) (cwV 1 hts gX10_oneYear_X10_lineOf rfl rfl rfl (by decide +kernel) ⟨(Nat.le_of_ble_eq_true rfl), (Nat.le_of_ble_eq_true rfl)⟩) (PRE.v hP hK hD hN (ht_recv hK hP hs t_zx (by decide) rfl rfl)) rfl rfl hl.1 rfl (lv_room (Nat.le_of_ble_eq_true rfl)) dX10_oneYear_76 ⟨(Nat.le_of_ble_eq_true rfl), (Nat.le_of_ble_eq_true rfl)⟩) hP hD hS hA (fun zi_45 u_47 H locs hw_46 hr0 hP hD hS => ?_)
            obtain ⟨zI_48, zJ_49⟩ := u_47
            obtain ⟨k_zI_48, ps_50, ps_51⟩ : (WM [1013, 1014, 3700, 3800, 3900, 4000, 4200, 4700] AL zT zR zI_39 zI_48) ∧ (JX zR zI_48 zx) ∧ (LW zR zI_48 (zR (zR zx 6) (1 : Int32).toNatClampNeg) (zR (zR (zR zx 0) 2) (1 : Int32).toNatClampNeg)) := hw_46
            have h_zI_48 : WM [1013, 1014, 3700, 3800, 3900, 4000, 4200, 4700] AL zT zR zI zI_48 := h_zI_39.tr k_zI_48 (by decide) (fun _ _ => trivial)
            subst hr0
            have t_52 : zT (zR (zR zx 6) (1 : Int32).toNatClampNeg) = 10 := sk_a (n := 2) hs t_43 rfl rfl (by decide) (by decide)
            refine lv_astore (lv' := [(5, .ref (zR (zR zx 6) (1 : Int32).toNatClampNeg)), (4, .ref (zR (zR zx 6) (0 : Int32).toNatClampNeg)), (0, .ref zx), (1, .int zia), (2, .int zib), (3, .int zic)]) hx hb dX10_oneYear_79 hl (by decide) rfl (fun ls hl => ?_)
            refine lv_aload_n hx hb dX10_oneYear_81 rfl (lv_at hl 2 rfl) ?_
            refine lv_aload hx hb dX10_oneYear_82 (lv_at hl 1 rfl) ?_
            refine ht_getr (C := RX9) (T := TX9) (N := 16) hx hb hts (by decide +kernel) hown hK hP hs t_44 (by decide) rfl rfl 1 (by decide) (hts (.fieldLink RX10 246 "DripStone$Ways" "placeOf" "[I") (by decide +kernel)) (fun _ h9 => h9) rfl dX10_oneYear_84 ?_
            have t_53 : zT (zR (zR (zR zx 6) (0 : Int32).toNatClampNeg) 1) = 38 := sk_f hs t_44 (by decide) rfl (by decide)
            refine lv_iload_n hx hb dX10_oneYear_87 rfl (lv_at hl 3 rfl) ?_
            refine ht_iald (n := 12) (q := 0) hx hb hK hP hs t_53 (by decide) rfl rfl ⟨by omega, by omega⟩ dX10_oneYear_88 ?_
            refine lv_topi (fun zi_54 ezi_54 => ?_)
            have tzi_54 : 0 ≤ zi_54.toInt ∧ zi_54.toInt ≤ 11 := by rw [ezi_54]; exact h_zI_48.at t_53 _ rfl
            refine lv_aload hx hb dX10_oneYear_89 (lv_at hl 0 rfl) ?_
            refine ht_getr (C := RX9) (T := TX9) (N := 16) hx hb hts (by decide +kernel) hown hK hP hs t_52 (by decide) rfl rfl 1 (by decide) (hts (.fieldLink RX10 246 "DripStone$Ways" "placeOf" "[I") (by decide +kernel)) (fun _ h9 => h9) rfl dX10_oneYear_91 ?_
            have t_55 : zT (zR (zR (zR zx 6) (1 : Int32).toNatClampNeg) 1) = 38 := sk_f hs t_52 (by decide) rfl (by decide)
            refine lv_iload_n hx hb dX10_oneYear_94 rfl (lv_at hl 4 rfl) ?_
            refine ht_iald (n := 12) (q := 0) hx hb hK hP hs t_55 (by decide) rfl rfl ⟨by omega, by omega⟩ dX10_oneYear_95 ?_
            refine lv_topi (fun zi_56 ezi_56 => ?_)
            have tzi_56 : 0 ≤ zi_56.toInt ∧ zi_56.toInt ≤ 11 := by rw [ezi_56]; exact h_zI_48.at t_55 _ rfl
            refine hj_l (ws := (WL cy zL zT zR zI_48 zJ_49)) (w1 := fun (u : Unit) => (WL cy zL zT zR zI_48 zJ_49)) (va_runV (As := [.int zi_54, .int zi_56]) (rest := []) ⟨hx, hb, hml, hown, hts⟩ (t_X10_sharedWays l dC dI cy H.size zL zT zR zI_48 zJ_49 zx zi_54 zi_56 hs h_zI_48.1 t_zx (by omega) (by omega)) (cwV 2 hts gX10_oneYear_X10_sharedWays rfl rfl rfl (by decide +kernel) ⟨(Nat.le_of_ble_eq_true rfl), (Nat.le_of_ble_eq_true rfl)⟩) (PRE.v hP hK hD hN (ht_recv hK hP hs t_zx (by decide) rfl rfl)) rfl rfl hl.1 rfl (lv_room (Nat.le_of_ble_eq_true rfl)) dX10_oneYear_96 ⟨(Nat.le_of_ble_eq_true rfl), (Nat.le_of_ble_eq_true rfl)⟩) hP hD hS hA (fun zj_57 u_59 H locs hw_58 hP hD hS => ?_)
            refine lv_lstore (lv' := [(6, .long zj_57), (5, .ref (zR (zR zx 6) (1 : Int32).toNatClampNeg)), (4, .ref (zR (zR zx 6) (0 : Int32).toNatClampNeg)), (0, .ref zx), (1, .int zia), (2, .int zib), (3, .int zic)]) hx hb dX10_oneYear_99 hl (by decide) rfl (fun ls hl => ?_)
            refine lv_lload hx hb dX10_oneYear_101 (lv_at hl 0 rfl) ?_
            refine lv_aload hx hb dX10_oneYear_103 (lv_at hl 2 rfl) ?_
            refine ht_getl (C := RX9) (T := TX9) (N := 16) hx hb hts (by decide +kernel) hown hK hP hs t_44 (by decide) rfl rfl 15 (by decide) (hts (.fieldLink RX10 242 "DripStone$Ways" "total" "J") (by decide +kernel)) (fun _ h9 => h9) rfl dX10_oneYear_105 ?_
            refine lv_topl (fun zj_60 ezj_60 => ?_)
            refine lv_aload hx hb dX10_oneYear_108 (lv_at hl 1 rfl) ?_
            refine ht_getl (C := RX9) (T := TX9) (N := 16) hx hb hts (by decide +kernel) hown hK hP hs t_52 (by decide) rfl rfl 15 (by decide) (hts (.fieldLink RX10 242 "DripStone$Ways" "total" "J") (by decide +kernel)) (fun _ h9 => h9) rfl dX10_oneYear_110 ?_
            refine lv_topl (fun zj_61 ezj_61 => ?_)
            refine lv_lmul hx hb dX10_oneYear_113 ?_
            refine lv_topl (fun zj_62 ezj_62 => ?_)
            refine lv_iload_n hx hb dX10_oneYear_114 rfl (lv_at hl 6 rfl) ?_
            refine hj0_l (ws := (WL cy zL zT zR zI_48 zJ_49)) (va_runS (As := [.long zj_57, .long zj_62, .int zic]) (rest := []) ⟨hx, hb, hml, hown, hts⟩ (c_X10_oddsPart l dC dI cy H.size zj_57 zj_62 zic) (va_cwS 3 hts gX10_oneYear_X10_oddsPart rfl rfl rfl (by decide +kernel) ⟨(Nat.le_of_ble_eq_true rfl), (Nat.le_of_ble_eq_true rfl)⟩) (PRE.s (hP.sub [] rfl) hK (hD.sub [] (by decide) rfl) hN) rfl rfl hl.1 rfl (lv_room (Nat.le_of_ble_eq_true rfl)) dX10_oneYear_115 ⟨(Nat.le_of_ble_eq_true rfl), (Nat.le_of_ble_eq_true rfl)⟩) hP hD hS hA (fun zj_63 u_65 H locs hw_64 hP hD hS => ?_)
            subst hQ
            exact W.lret (v := zj_63) hx hb hr (fun t ht hW => ⟨⟨zj_63, (zI_48, zJ_49), rfl, ⟨h_zI_48, (show JX zR zI_48 zx from ps_50)⟩, ⟨by rw [ht]; exact hP, va_K.moved hW.alike hK, hD⟩⟩, hS.F ht⟩) hS.2.2 dX10_oneYear_118
          · have f_35 : ¬ (zi_30.toInt ≠ 0) := ic_nne (rfl) (by decide) c_34
            refine lv_ldc2 (v := (-12)) hx hb hown (hts (.constantLong RX10 252 (-12)) (by decide +kernel)) dX10_oneYear_63 ?_
            subst hQ
            exact W.lret (v := (-12 : Int64)) hx hb hr (fun t ht hW => ⟨⟨(-12 : Int64), (zI, zJ), rfl, ⟨h_zI, (show JX zR zI zx from hj)⟩, ⟨by rw [ht]; exact hP, va_K.moved hW.alike hK, hD⟩⟩, hS.F ht⟩) hS.2.2 dX10_oneYear_66
      · have f_19 : ¬ (0 ≤ zic.toInt ∧ zic.toInt ≤ 1) := bz_0 hw_16 c_18
        refine lv_ldc2 (v := (-1)) hx hb hown (hts (.constantLong RX10 234 (-1)) (by decide +kernel)) dX10_oneYear_27 ?_
        subst hQ
        exact W.lret (v := (-1 : Int64)) hx hb hr (fun t ht hW => ⟨⟨(-1 : Int64), (zI, zJ), rfl, ⟨h_zI, (show JX zR zI zx from hj)⟩, ⟨by rw [ht]; exact hP, va_K.moved hW.alike hK, hD⟩⟩, hS.F ht⟩) hS.2.2 dX10_oneYear_30
set_option maxHeartbeats 8000000 in
set_option maxRecDepth 100000 in
theorem t_X10_tie (l : Launch) (dC : Nat → ClassId) (dI : Nat → Nat → Nat) (cy : Nat → ClassId) (sz : Nat) (zL : List Nat) (zT : Nat → Nat) (zR : Nat → Nat → Nat) (zI : Nat → Nat → Int32) (zJ : Nat → Nat → Int64) (zx : Nat) (zia : Int32) (hs : SKP zL zT zR) (hw : WT zT zR zI) (t_zx : zT zx = 11) (hj : JX zR zI zx) : Met l yX10_tie wsX10_tie ({ frames := 5, cells := 0, slots := 0, locals := 126 } : Room) (va_Pc [.ref zx, .int zia] (PRE dC dI cy (WL cy zL zT zR zI zJ) sz)) (va_Ql (fun (r : Int64) (u : (Nat → Nat → Int32) × (Nat → Nat → Int64)) => (WM [1013, 1014, 3700, 3800, 3900, 4000, 4200, 4700] AL zT zR zI u.1) ∧ (JX zR u.1 zx)) (fun u t => POST dC dI cy (va_A (WL cy zL zT zR zI zJ) sz) (WL cy zL zT zR u.1 u.2) t) (va_A (WL cy zL zT zR zI zJ) sz)) 0 0 (va_A (WL cy zL zT zR zI zJ) sz) := by
  refine Met.ofW (cc := cX10_tie) (maxL := 12) (ret := (some .long)) (by decide) rfl ?_
  intro p e s m args below meth c s₁ B hml hv
  obtain ⟨rfl, hsz, hP, hK, hD0, hN⟩ := hv
  have hx := B.exec
  have hb := B.bytes
  have hr := B.returns
  have hts := atoms_spec (ws := wsX10_tie) B.pre
  have hown : s.vm.findClass RX10 = some m.cls := findClass_of_methodNamed B.named
  have hlocks := B.notSynchronized
  subst hsz
  have hD := hD0.self (sz := s.heap.size)
  generalize hAe : va_A (WL cy zL zT zR zI zJ) s.heap.size = A at hD ⊢
  have hA : ∀ q : Nat, s.heap.size ≤ q → A q := fun q h => by rw [← hAe]; exact Or.inr h
  have hS : va_S A s.heap s.heap [] := va_S.rf
  have hP : va_P (dC, dI) vwCl (WL cy zL zT zR zI zJ) s.heap := hP
  have hl := lv_entry ([.ref zx, .int zia] : List Value) (n := 12) (Nat.le_of_ble_eq_true rfl)
  rw [lg_entry_eq]
  generalize (lg_sl ([.ref zx, .int zia] : List Value) ++ List.replicate (12 - (lg_sl ([.ref zx, .int zia] : List Value)).length) Slot.unset).toArray = ls at hl ⊢
  have hl : lv_has ls 12 [(0, .ref zx), (1, .int zia)] := hl
  refine w_q (fun Q hQ => ?_)
  have h_zI : WM [1013, 1014, 3700, 3800, 3900, 4000, 4200, 4700] AL zT zR zI zI := WM.rf hw
  refine lv_iload_n hx hb dX10_tie_0 rfl (lv_at hl 1 rfl) ?_
  refine lv_iconst (v := 0) hx hb dX10_tie_1 (by decide) ?_
  refine lv_iconst (v := 2) hx hb dX10_tie_2 (by decide) ?_
  refine hj0_i (ws := (WL cy zL zT zR zI zJ)) (va_runS (As := [.int zia, .int 0, .int 2]) (rest := []) ⟨hx, hb, hml, hown, hts⟩ (c_X10_isWithin l dC dI cy s.heap.size zia 0 2 0 2 (by first | rfl | decide | omega | exact Int32.toInt_toInt64 _) (by first | rfl | decide | omega | exact Int32.toInt_toInt64 _)) (va_cwS 3 hts gX10_tie_X10_isWithin rfl rfl rfl (by decide +kernel) ⟨(Nat.le_of_ble_eq_true rfl), (Nat.le_of_ble_eq_true rfl)⟩) (PRE.s (hP.sub [] rfl) hK (hD.sub [] (by decide) rfl) hN) rfl rfl hl.1 rfl (lv_room (Nat.le_of_ble_eq_true rfl)) dX10_tie_3 ⟨(Nat.le_of_ble_eq_true rfl), (Nat.le_of_ble_eq_true rfl)⟩) hP hD hS hA (fun zi_1 u_3 H locs hw_2 hP hD hS => ?_)
  have hw_2 : zi_1 = if 0 ≤ zia.toInt ∧ zia.toInt ≤ 2 then 1 else 0 := hw_2
  have b_zi_1 : 0 ≤ zi_1.toInt ∧ zi_1.toInt ≤ 1 := bz_b hw_2
  refine lv_if_ne (tgt := 13) hx hb dX10_tie_6 (by decide) (fun c_4 => ?_) (fun c_4 => ?_)
  · have f_5 : 0 ≤ zia.toInt ∧ zia.toInt ≤ 2 := bz_1 hw_2 c_4
    refine lv_aload_n hx hb dX10_tie_13 rfl (lv_at hl 0 rfl) ?_
    refine ht_getr (C := RX10) (T := TX10) (N := 10) hx hb hts (by decide +kernel) hown hK hP hs t_zx (by decide) rfl rfl 0 (by decide) (hts (.fieldLink RX10 12 "DripStone" "now" "LDripStone$State;") (by decide +kernel)) (fun _ h9 => h9) rfl dX10_tie_14 ?_
    have t_6 : zT (zR zx 0) = 9 := sk_f hs t_zx (by decide) rfl (by decide)
    refine ht_getr (C := RX8) (T := TX8) (N := 9) hx hb hts (by decide +kernel) hown hK hP hs t_6 (by decide) rfl rfl 2 (by decide) (hts (.fieldLink RX10 147 "DripStone$State" "candles" "[LDripStone$Candle;") (by decide +kernel)) (fun _ h9 => h9) rfl dX10_tie_17 ?_
    have t_7 : zT (zR (zR zx 0) 2) = 61 := sk_f hs t_6 (by decide) rfl (by decide)
    refine lv_iconst (v := 0) hx hb dX10_tie_20 (by decide) ?_
    refine ht_aald (n := 2) (q := 3) hx hb hK hP hs t_7 (by decide) rfl rfl ⟨by decide, by decide⟩ dX10_tie_21 ?_
    have t_8 : zT (zR (zR (zR zx 0) 2) (0 : Int32).toNatClampNeg) = 1 := sk_a (n := 2) hs t_7 rfl rfl (by decide) (by decide)
    refine hj_i (ws := (WL cy zL zT zR zI zJ)) (w1 := fun (u : Unit) => (WL cy zL zT zR zI zJ)) (va_runV (As := []) (rest := []) ⟨hx, hb, hml, hown, hts⟩ (t_X0_places l dC dI cy H.size zL zT zR zI zJ (zR (zR (zR zx 0) 2) (0 : Int32).toNatClampNeg) hs h_zI.1 t_8) (cwV 0 hts gX10_tie_X0_places rfl rfl rfl (by decide +kernel) ⟨(Nat.le_of_ble_eq_true rfl), (Nat.le_of_ble_eq_true rfl)⟩) (PRE.v hP hK hD hN (ht_recv hK hP hs t_8 (by decide) rfl rfl)) rfl rfl hl.1 rfl (lv_room (Nat.le_of_ble_eq_true rfl)) dX10_tie_22 ⟨(Nat.le_of_ble_eq_true rfl), (Nat.le_of_ble_eq_true rfl)⟩) hP hD hS hA (fun zi_9 u_11 H locs hw_10 hP hD hS => ?_)
    obtain ⟨b_zi_9, ps_12⟩ : (0 ≤ zi_9.toInt ∧ zi_9.toInt ≤ 12) ∧ (zi_9.toInt = PL (zI (zR (zR (zR (zR zx 0) 2) (0 : Int32).toNatClampNeg) 0)) ((zI (zR (zR (zR zx 0) 2) (0 : Int32).toNatClampNeg) 7).toInt).toNat) := hw_10
    obtain ⟨zi_13, ezi_13⟩ : ∃ y : Int32, y = zI (zR (zR (zR zx 0) 2) (0 : Int32).toNatClampNeg) 7 := ⟨_, rfl⟩
    have tzi_13 : 0 ≤ zi_13.toInt ∧ zi_13.toInt ≤ 12 := by rw [ezi_13]; exact h_zI.at t_8 _ rfl
    have lk_14 : (zI (zR (zR (zR zx 0) 2) (0 : Int32).toNatClampNeg) 7).toInt = zi_13.toInt := congrArg Int32.toInt ezi_13.symm
    refine lv_if_eq (tgt := 43) hx hb dX10_tie_25 (by decide) (fun c_15 => ?_) (fun c_15 => ?_)
    · have f_16 : zi_9.toInt = 0 := ic_eq (rfl) (by decide) c_15
      refine lv_ldc2 (v := (-2)) hx hb hown (hts (.constantLong RX10 236 (-2)) (by decide +kernel)) dX10_tie_43 ?_
      subst hQ
      exact W.lret (v := (-2 : Int64)) hx hb hr (fun t ht hW => ⟨⟨(-2 : Int64), (zI, zJ), rfl, ⟨h_zI, (show JX zR zI zx from hj)⟩, ⟨by rw [ht]; exact hP, va_K.moved hW.alike hK, hD⟩⟩, hS.F ht⟩) hS.2.2 dX10_tie_46
    · have f_16 : ¬ (zi_9.toInt = 0) := ic_neq (rfl) (by decide) c_15
      refine lv_aload_n hx hb dX10_tie_28 rfl (lv_at hl 0 rfl) ?_
      refine ht_getr (C := RX10) (T := TX10) (N := 10) hx hb hts (by decide +kernel) hown hK hP hs t_zx (by decide) rfl rfl 0 (by decide) (hts (.fieldLink RX10 12 "DripStone" "now" "LDripStone$State;") (by decide +kernel)) (fun _ h9 => h9) rfl dX10_tie_29 ?_
      refine ht_getr (C := RX8) (T := TX8) (N := 9) hx hb hts (by decide +kernel) hown hK hP hs t_6 (by decide) rfl rfl 2 (by decide) (hts (.fieldLink RX10 147 "DripStone$State" "candles" "[LDripStone$Candle;") (by decide +kernel)) (fun _ h9 => h9) rfl dX10_tie_32 ?_
      refine lv_iconst (v := 1) hx hb dX10_tie_35 (by decide) ?_
      refine ht_aald (n := 2) (q := 3) hx hb hK hP hs t_7 (by decide) rfl rfl ⟨by decide, by decide⟩ dX10_tie_36 ?_
      have t_17 : zT (zR (zR (zR zx 0) 2) (1 : Int32).toNatClampNeg) = 1 := sk_a (n := 2) hs t_7 rfl rfl (by decide) (by decide)
      refine hj_i (ws := (WL cy zL zT zR zI zJ)) (w1 := fun (u : Unit) => (WL cy zL zT zR zI zJ)) (va_runV (As := []) (rest := []) ⟨hx, hb, hml, hown, hts⟩ (t_X0_places l dC dI cy H.size zL zT zR zI zJ (zR (zR (zR zx 0) 2) (1 : Int32).toNatClampNeg) hs h_zI.1 t_17) (cwV 0 hts gX10_tie_X0_places rfl rfl rfl (by decide +kernel) ⟨(Nat.le_of_ble_eq_true rfl), (Nat.le_of_ble_eq_true rfl)⟩) (PRE.v hP hK hD hN (ht_recv hK hP hs t_17 (by decide) rfl rfl)) rfl rfl hl.1 rfl (lv_room (Nat.le_of_ble_eq_true rfl)) dX10_tie_37 ⟨(Nat.le_of_ble_eq_true rfl), (Nat.le_of_ble_eq_true rfl)⟩) hP hD hS hA (fun zi_18 u_20 H locs hw_19 hP hD hS => ?_)
      obtain ⟨b_zi_18, ps_21⟩ : (0 ≤ zi_18.toInt ∧ zi_18.toInt ≤ 12) ∧ (zi_18.toInt = PL (zI (zR (zR (zR (zR zx 0) 2) (1 : Int32).toNatClampNeg) 0)) ((zI (zR (zR (zR zx 0) 2) (1 : Int32).toNatClampNeg) 7).toInt).toNat) := hw_19
      obtain ⟨zi_22, ezi_22⟩ : ∃ y : Int32, y = zI (zR (zR (zR zx 0) 2) (1 : Int32).toNatClampNeg) 7 := ⟨_, rfl⟩
      have tzi_22 : 0 ≤ zi_22.toInt ∧ zi_22.toInt ≤ 12 := by rw [ezi_22]; exact h_zI.at t_17 _ rfl
      have lk_23 : (zI (zR (zR (zR zx 0) 2) (1 : Int32).toNatClampNeg) 7).toInt = zi_22.toInt := congrArg Int32.toInt ezi_22.symm
      refine lv_if_ne (tgt := 47) hx hb dX10_tie_40 (by decide) (fun c_24 => ?_) (fun c_24 => ?_)
      · have f_25 : zi_18.toInt ≠ 0 := ic_ne (rfl) (by decide) c_24
        refine lv_aload_n hx hb dX10_tie_47 rfl (lv_at hl 0 rfl) ?_
        refine lv_iconst (v := 0) hx hb dX10_tie_48 (by decide) ?_
        have qc_0 : (0 : Int32).toInt = 0 := by decide
        refine hj_r (ws := (WL cy zL zT zR zI zJ)) (w1 := fun (u : (Nat → Nat → Int32) × (Nat → Nat → Int64)) => (WL cy zL zT zR u.1 u.2)) (va_runV (As := [.int 0]) (rest := []) ⟨hx, hb, hml, hown, hts⟩ (t_X10_lineOf l dC dI cy H.size zL zT zR zI zJ zx (0 : Int32) hs h_zI.1 t_zx (by decide) (by omega)) (cwV 1 hts gX10_tie_X10_lineOf rfl rfl rfl (by decide +kernel) ⟨(Nat.le_of_ble_eq_true rfl), (Nat.le_of_ble_eq_true rfl)⟩) (PRE.v hP hK hD hN (ht_recv hK hP hs t_zx (by decide) rfl rfl)) rfl rfl hl.1 rfl (lv_room (Nat.le_of_ble_eq_true rfl)) dX10_tie_49 ⟨(Nat.le_of_ble_eq_true rfl), (Nat.le_of_ble_eq_true rfl)⟩) hP hD hS hA (fun zi_26 u_28 H locs hw_27 hr0 hP hD hS => ?_)
        obtain ⟨zI_29, zJ_30⟩ := u_28
        obtain ⟨k_zI_29, ps_31, ps_32⟩ : (WM [1013, 1014, 3700, 3800, 3900, 4000, 4200, 4700] AL zT zR zI zI_29) ∧ (JX zR zI_29 zx) ∧ (LW zR zI_29 (zR (zR zx 6) (0 : Int32).toNatClampNeg) (zR (zR (zR zx 0) 2) (0 : Int32).toNatClampNeg)) := hw_27
        have h_zI_29 : WM [1013, 1014, 3700, 3800, 3900, 4000, 4200, 4700] AL zT zR zI zI_29 := h_zI.tr k_zI_29 (by decide) (fun _ _ => trivial)
        subst hr0
        have t_33 : zT (zR zx 6) = 64 := sk_f hs t_zx (by decide) rfl (by decide)
        have t_34 : zT (zR (zR zx 6) (0 : Int32).toNatClampNeg) = 10 := sk_a (n := 2) hs t_33 rfl rfl (by decide) (by decide)
        refine lv_astore_n (lv' := [(2, .ref (zR (zR zx 6) (0 : Int32).toNatClampNeg)), (0, .ref zx), (1, .int zia)]) hx hb dX10_tie_52 rfl hl (by decide) rfl (fun ls hl => ?_)
        refine lv_aload_n hx hb dX10_tie_53 rfl (lv_at hl 1 rfl) ?_
        refine lv_iconst (v := 1) hx hb dX10_tie_54 (by decide) ?_
        have qc_1 : (1 : Int32).toInt = 1 := by decide
        refine hj_r (ws := (WL cy zL zT zR zI_29 zJ_30)) (w1 := fun (u : (Nat → Nat → Int32) × (Nat → Nat → Int64)) => (WL cy zL zT zR u.1 u.2)) (va_runV (As := [.int 1]) (rest := []) ⟨hx, hb, hml, hown, hts⟩ (t_X10_lineOf l dC dI cy H.size zL zT zR zI_29 zJ_30 zx (1 : Int32) hs h_zI_29.1 t_zx (by decide) (by omega)) (cwV 1 hts gX10_tie_X10_lineOf rfl rfl rfl (by decide +kernel) ⟨(Nat.le_of_ble_eq_true rfl), (Nat.le_of_ble_eq_true rfl)⟩) (PRE.v hP hK hD hN (ht_recv hK hP hs t_zx (by decide) rfl rfl)) rfl rfl hl.1 rfl (lv_room (Nat.le_of_ble_eq_true rfl)) dX10_tie_55 ⟨(Nat.le_of_ble_eq_true rfl), (Nat.le_of_ble_eq_true rfl)⟩) hP hD hS hA (fun zi_35 u_37 H locs hw_36 hr0 hP hD hS => ?_)
        obtain ⟨zI_38, zJ_39⟩ := u_37
        obtain ⟨k_zI_38, ps_40, ps_41⟩ : (WM [1013, 1014, 3700, 3800, 3900, 4000, 4200, 4700] AL zT zR zI_29 zI_38) ∧ (JX zR zI_38 zx) ∧ (LW zR zI_38 (zR (zR zx 6) (1 : Int32).toNatClampNeg) (zR (zR (zR zx 0) 2) (1 : Int32).toNatClampNeg)) := hw_36
        have h_zI_38 : WM [1013, 1014, 3700, 3800, 3900, 4000, 4200, 4700] AL zT zR zI zI_38 := h_zI_29.tr k_zI_38 (by decide) (fun _ _ => trivial)
        subst hr0
        have t_42 : zT (zR (zR zx 6) (1 : Int32).toNatClampNeg) = 10 := sk_a (n := 2) hs t_33 rfl rfl (by decide) (by decide)
        refine lv_astore_n (lv' := [(3, .ref (zR (zR zx 6) (1 : Int32).toNatClampNeg)), (2, .ref (zR (zR zx 6) (0 : Int32).toNatClampNeg)), (0, .ref zx), (1, .int zia)]) hx hb dX10_tie_58 rfl hl (by decide) rfl (fun ls hl => ?_)
        refine lv_aload_n hx hb dX10_tie_59 rfl (lv_at hl 1 rfl) ?_
        refine ht_getl (C := RX9) (T := TX9) (N := 16) hx hb hts (by decide +kernel) hown hK hP hs t_34 (by decide) rfl rfl 15 (by decide) (hts (.fieldLink RX10 242 "DripStone$Ways" "total" "J") (by decide +kernel)) (fun _ h9 => h9) rfl dX10_tie_60 ?_
        refine lv_topl (fun zj_43 ezj_43 => ?_)
        refine lv_lconst (v := 0) hx hb dX10_tie_63 (by decide) ?_
        refine W.lcmp hx hb dX10_tie_64 ?_
        refine lv_topi (fun zi_44 ezi_44 => ?_)
        refine lv_if_eq (tgt := 77) hx hb dX10_tie_65 (by decide) (fun c_45 => ?_) (fun c_45 => ?_)
        · have f_46 : zj_43.toInt = (0 : Int) := lk_eq ezi_44 (rfl) (show (0 : Int64).toInt = 0 by decide) c_45
          refine lv_ldc2 (v := (-4)) hx hb hown (hts (.constantLong RX10 276 (-4)) (by decide +kernel)) dX10_tie_77 ?_
          subst hQ
          exact W.lret (v := (-4 : Int64)) hx hb hr (fun t ht hW => ⟨⟨(-4 : Int64), (zI_38, zJ_39), rfl, ⟨h_zI_38, (show JX zR zI_38 zx from ps_40)⟩, ⟨by rw [ht]; exact hP, va_K.moved hW.alike hK, hD⟩⟩, hS.F ht⟩) hS.2.2 dX10_tie_80
        · have f_46 : ¬ (zj_43.toInt = (0 : Int)) := lk_neq ezi_44 (rfl) (show (0 : Int64).toInt = 0 by decide) c_45
          refine lv_aload_n hx hb dX10_tie_68 rfl (lv_at hl 0 rfl) ?_
          refine ht_getl (C := RX9) (T := TX9) (N := 16) hx hb hts (by decide +kernel) hown hK hP hs t_42 (by decide) rfl rfl 15 (by decide) (hts (.fieldLink RX10 242 "DripStone$Ways" "total" "J") (by decide +kernel)) (fun _ h9 => h9) rfl dX10_tie_69 ?_
          refine lv_topl (fun zj_47 ezj_47 => ?_)
          refine lv_lconst (v := 0) hx hb dX10_tie_72 (by decide) ?_
          refine W.lcmp hx hb dX10_tie_73 ?_
          refine lv_topi (fun zi_48 ezi_48 => ?_)
          refine lv_if_ne (tgt := 81) hx hb dX10_tie_74 (by decide) (fun c_49 => ?_) (fun c_49 => ?_)
          · have f_50 : ¬ (zj_47.toInt = (0 : Int)) := lk_ne ezi_48 (rfl) (show (0 : Int64).toInt = 0 by decide) c_49
            refine lv_iconst (v := 0) hx hb dX10_tie_81 (by decide) ?_
            refine lv_istore (lv' := [(4, .int 0), (3, .ref (zR (zR zx 6) (1 : Int32).toNatClampNeg)), (2, .ref (zR (zR zx 6) (0 : Int32).toNatClampNeg)), (0, .ref zx), (1, .int zia)]) hx hb dX10_tie_82 hl (by decide) rfl (fun ls hl => ?_)
            refine lv_iconst (v := 0) hx hb dX10_tie_84 (by decide) ?_
            refine lv_istore (lv' := [(5, .int 0), (4, .int 0), (3, .ref (zR (zR zx 6) (1 : Int32).toNatClampNeg)), (2, .ref (zR (zR zx 6) (0 : Int32).toNatClampNeg)), (0, .ref zx), (1, .int zia)]) hx hb dX10_tie_85 hl (by decide) rfl (fun ls hl => ?_)
            refine lv_ldc2 (v := (-1)) hx hb hown (hts (.constantLong RX10 234 (-1)) (by decide +kernel)) dX10_tie_87 ?_
            refine lv_lstore (lv' := [(6, .long (-1)), (5, .int 0), (4, .int 0), (3, .ref (zR (zR zx 6) (1 : Int32).toNatClampNeg)), (2, .ref (zR (zR zx 6) (0 : Int32).toNatClampNeg)), (0, .ref zx), (1, .int zia)]) hx hb dX10_tie_90 hl (by decide) rfl (fun ls hl => ?_)
            refine lv_iconst (v := 0) hx hb dX10_tie_92 (by decide) ?_
            refine lv_istore (lv' := [(8, .int 0), (6, .long (-1)), (5, .int 0), (4, .int 0), (3, .ref (zR (zR zx 6) (1 : Int32).toNatClampNeg)), (2, .ref (zR (zR zx 6) (0 : Int32).toNatClampNeg)), (0, .ref zx), (1, .int zia)]) hx hb dX10_tie_93 hl (by decide) rfl (fun ls hl => ?_)
            have lp_369 : ∀ (n : Nat) (zi_335 : Int32) (zi_336 : Int32) (zj_337 : Int64) (zi_338 : Int32) (H : Heap) (locs : List Loc) (ls : Array Slot), (12 - zi_338.toInt).toNat = n → (0 ≤ zi_335.toInt ∧ zi_335.toInt ≤ 11) → (0 ≤ zi_336.toInt ∧ zi_336.toInt ≤ 11) → (0 ≤ zi_338.toInt ∧ zi_338.toInt ≤ 12) → (JX zR zI_38 zx) → va_P (dC, dI) vwCl (WL cy zL zT zR zI_38 zJ_39) H → va_D A (WL cy zL zT zR zI_38 zJ_39) → va_S A s.heap H locs → lv_has ls 12 [(0, .ref zx), (1, .int zia), (2, .ref (zR (zR zx 6) (0 : Int32).toNatClampNeg)), (3, .ref (zR (zR zx 6) (1 : Int32).toNatClampNeg)), (4, .int zi_335), (5, .int zi_336), (6, .long zj_337), (8, .int zi_338)] → W p l e ({ frames := 5, cells := 0, slots := 0, locals := 126 } : Room) s m ([.ref zx, .int zia] : List Value).toArray below meth c H locs 0 0 Q (F0 m 95 ls []) := by
              intro n
              induction n using Nat.strongRecOn with
              | _ n ih_369 =>
                intro zi_335 zi_336 zj_337 zi_338 H locs ls hn b_zi_335 b_zi_336 b_zi_338 e_lp_369_0 hP hD hS hl
                refine lv_iload hx hb dX10_tie_95 (lv_at hl 7 rfl) ?_
                refine lv_aload_n hx hb dX10_tie_97 rfl (lv_at hl 2 rfl) ?_
                refine ht_geti (C := RX9) (T := TX9) (N := 16) hx hb hts (by decide +kernel) hown hK hP hs t_34 (by decide) rfl rfl 14 (by decide) (hts (.fieldLink RX10 278 "DripStone$Ways" "places" "I") (by decide +kernel)) (fun _ h9 => h9) rfl dX10_tie_98 ?_
                refine lv_topi (fun zi_370 ezi_370 => ?_)
                have tzi_370 : 0 ≤ zi_370.toInt ∧ zi_370.toInt ≤ 12 := by rw [ezi_370]; exact h_zI_38.at t_34 _ rfl
                refine lv_icmp_ge (tgt := 158) hx hb dX10_tie_101 (by decide) (fun c_371 => ?_) (fun c_371 => ?_)
                · have f_372 : zi_338.toInt ≥ zi_370.toInt := ic_ge (rfl) (rfl) c_371
                  refine lv_iload_n hx hb dX10_tie_158 rfl (lv_at hl 1 rfl) ?_
                  refine lv_if_ne (tgt := 173) hx hb dX10_tie_159 (by decide) (fun c_373 => ?_) (fun c_373 => ?_)
                  · have f_374 : zia.toInt ≠ 0 := ic_ne (rfl) (by decide) c_373
                    refine lv_iload_n hx hb dX10_tie_173 rfl (lv_at hl 1 rfl) ?_
                    refine lv_iconst (v := 1) hx hb dX10_tie_174 (by decide) ?_
                    refine lv_icmp_ne (tgt := 189) hx hb dX10_tie_175 (by decide) (fun c_375 => ?_) (fun c_375 => ?_)
                    · have f_376 : zia.toInt ≠ (1 : Int) := ic_ne (rfl) (show (1 : Int32).toInt = 1 by decide) c_375
                      refine lv_lload hx hb dX10_tie_189 (lv_at hl 6 rfl) ?_
                      subst hQ
                      exact W.lret (v := zj_337) hx hb hr (fun t ht hW => ⟨⟨zj_337, (zI_38, zJ_39), rfl, ⟨h_zI_38, (show JX zR zI_38 zx from e_lp_369_0)⟩, ⟨by rw [ht]; exact hP, va_K.moved hW.alike hK, hD⟩⟩, hS.F ht⟩) hS.2.2 dX10_tie_191
                    · have f_376 : ¬ (zia.toInt ≠ (1 : Int)) := ic_nne (rfl) (show (1 : Int32).toInt = 1 by decide) c_375
                      refine lv_aload_n hx hb dX10_tie_178 rfl (lv_at hl 3 rfl) ?_
                      refine ht_getr (C := RX9) (T := TX9) (N := 16) hx hb hts (by decide +kernel) hown hK hP hs t_42 (by decide) rfl rfl 0 (by decide) (hts (.fieldLink RX10 284 "DripStone$Ways" "things" "[I") (by decide +kernel)) (fun _ h9 => h9) rfl dX10_tie_179 ?_
                      have t_377 : zT (zR (zR (zR zx 6) (1 : Int32).toNatClampNeg) 0) = 37 := sk_f hs t_42 (by decide) rfl (by decide)
                      refine lv_iload hx hb dX10_tie_182 (lv_at hl 5 rfl) ?_
                      refine ht_iald (n := 12) (q := 0) hx hb hK hP hs t_377 (by decide) rfl rfl ⟨by omega, by omega⟩ dX10_tie_184 ?_
                      refine lv_topi (fun zi_378 ezi_378 => ?_)
                      have tzi_378 : 0 ≤ zi_378.toInt ∧ zi_378.toInt ≤ 11 := by rw [ezi_378]; exact h_zI_38.at t_377 _ rfl
                      refine lv_i2l (v := zi_378.toInt64) hx hb dX10_tie_185 rfl ?_
                      refine lv_topl (fun zj_379 ezj_379 => ?_)
                      have tzj_379 : zj_379.toInt = zi_378.toInt := by rw [ezj_379]; exact Int32.toInt_toInt64 _
                      refine lv_goto (tgt := 191) hx hb dX10_tie_186 (by decide) ?_
                      subst hQ
                      exact W.lret (v := zj_379) hx hb hr (fun t ht hW => ⟨⟨zj_379, (zI_38, zJ_39), rfl, ⟨h_zI_38, (show JX zR zI_38 zx from e_lp_369_0)⟩, ⟨by rw [ht]; exact hP, va_K.moved hW.alike hK, hD⟩⟩, hS.F ht⟩) hS.2.2 dX10_tie_191
                  · have f_374 : ¬ (zia.toInt ≠ 0) := ic_nne (rfl) (by decide) c_373
                    refine lv_aload_n hx hb dX10_tie_162 rfl (lv_at hl 2 rfl) ?_
                    refine ht_getr (C := RX9) (T := TX9) (N := 16) hx hb hts (by decide +kernel) hown hK hP hs t_34 (by decide) rfl rfl 0 (by decide) (hts (.fieldLink RX10 284 "DripStone$Ways" "things" "[I") (by decide +kernel)) (fun _ h9 => h9) rfl dX10_tie_163 ?_
                    have t_380 : zT (zR (zR (zR zx 6) (0 : Int32).toNatClampNeg) 0) = 37 := sk_f hs t_34 (by decide) rfl (by decide)
                    refine lv_iload hx hb dX10_tie_166 (lv_at hl 4 rfl) ?_
                    refine ht_iald (n := 12) (q := 0) hx hb hK hP hs t_380 (by decide) rfl rfl ⟨by omega, by omega⟩ dX10_tie_168 ?_
                    refine lv_topi (fun zi_381 ezi_381 => ?_)
                    have tzi_381 : 0 ≤ zi_381.toInt ∧ zi_381.toInt ≤ 11 := by rw [ezi_381]; exact h_zI_38.at t_380 _ rfl
                    refine lv_i2l (v := zi_381.toInt64) hx hb dX10_tie_169 rfl ?_
                    refine lv_topl (fun zj_382 ezj_382 => ?_)
                    have tzj_382 : zj_382.toInt = zi_381.toInt := by rw [ezj_382]; exact Int32.toInt_toInt64 _
                    refine lv_goto (tgt := 191) hx hb dX10_tie_170 (by decide) ?_
                    subst hQ
                    exact W.lret (v := zj_382) hx hb hr (fun t ht hW => ⟨⟨zj_382, (zI_38, zJ_39), rfl, ⟨h_zI_38, (show JX zR zI_38 zx from e_lp_369_0)⟩, ⟨by rw [ht]; exact hP, va_K.moved hW.alike hK, hD⟩⟩, hS.F ht⟩) hS.2.2 dX10_tie_191
                · have f_372 : ¬ (zi_338.toInt ≥ zi_370.toInt) := ic_nge (rfl) (rfl) c_371
                  refine lv_iconst (v := 0) hx hb dX10_tie_104 (by decide) ?_
                  refine lv_istore (lv' := [(9, .int 0), (0, .ref zx), (1, .int zia), (2, .ref (zR (zR zx 6) (0 : Int32).toNatClampNeg)), (3, .ref (zR (zR zx 6) (1 : Int32).toNatClampNeg)), (4, .int zi_335), (5, .int zi_336), (6, .long zj_337), (8, .int zi_338)]) hx hb dX10_tie_105 hl (by decide) rfl (fun ls hl => ?_)
                  have lp_398 : ∀ (n : Nat) (zi_383 : Int32) (zi_384 : Int32) (zj_385 : Int64) (zi_386 : Int32) (H : Heap) (locs : List Loc) (ls : Array Slot), (12 - zi_386.toInt).toNat = n → (0 ≤ zi_383.toInt ∧ zi_383.toInt ≤ 11) → (0 ≤ zi_384.toInt ∧ zi_384.toInt ≤ 11) → (0 ≤ zi_386.toInt ∧ zi_386.toInt ≤ 12) → (JX zR zI_38 zx) → va_P (dC, dI) vwCl (WL cy zL zT zR zI_38 zJ_39) H → va_D A (WL cy zL zT zR zI_38 zJ_39) → va_S A s.heap H locs → lv_has ls 12 [(0, .ref zx), (1, .int zia), (2, .ref (zR (zR zx 6) (0 : Int32).toNatClampNeg)), (3, .ref (zR (zR zx 6) (1 : Int32).toNatClampNeg)), (4, .int zi_383), (5, .int zi_384), (6, .long zj_385), (8, .int zi_338), (9, .int zi_386)] → W p l e ({ frames := 5, cells := 0, slots := 0, locals := 126 } : Room) s m ([.ref zx, .int zia] : List Value).toArray below meth c H locs 0 0 Q (F0 m 107 ls []) := by
                    intro n
                    induction n using Nat.strongRecOn with
                    | _ n ih_398 =>
                      intro zi_383 zi_384 zj_385 zi_386 H locs ls hn b_zi_383 b_zi_384 b_zi_386 e_lp_398_0 hP hD hS hl
                      refine lv_iload hx hb dX10_tie_107 (lv_at hl 8 rfl) ?_
                      refine lv_aload_n hx hb dX10_tie_109 rfl (lv_at hl 3 rfl) ?_
                      refine ht_geti (C := RX9) (T := TX9) (N := 16) hx hb hts (by decide +kernel) hown hK hP hs t_42 (by decide) rfl rfl 14 (by decide) (hts (.fieldLink RX10 278 "DripStone$Ways" "places" "I") (by decide +kernel)) (fun _ h9 => h9) rfl dX10_tie_110 ?_
                      refine lv_topi (fun zi_399 ezi_399 => ?_)
                      have tzi_399 : 0 ≤ zi_399.toInt ∧ zi_399.toInt ≤ 12 := by rw [ezi_399]; exact h_zI_38.at t_42 _ rfl
                      refine lv_icmp_ge (tgt := 152) hx hb dX10_tie_113 (by decide) (fun c_400 => ?_) (fun c_400 => ?_)
                      · have f_401 : zi_386.toInt ≥ zi_399.toInt := ic_ge (rfl) (rfl) c_400
                        obtain ⟨zi_402, ezi_402⟩ : ∃ y : Int32, y = zi_338 + 1 := ⟨_, rfl⟩
                        have tzi_402 : zi_402.toInt = zi_338.toInt + 1 := by rw [ezi_402]; exact tadd rfl (show (1 : Int32).toInt = 1 by decide) (by omega) (by omega)
                        refine lv_iinc (v := zi_402) (lv' := [(8, .int zi_402), (0, .ref zx), (1, .int zia), (2, .ref (zR (zR zx 6) (0 : Int32).toNatClampNeg)), (3, .ref (zR (zR zx 6) (1 : Int32).toNatClampNeg)), (4, .int zi_383), (5, .int zi_384), (6, .long zj_385), (9, .int zi_386)]) hx hb dX10_tie_152 hl (k := 7) rfl (by rw [ezi_402]; rfl) (by decide) rfl (fun ls hl => ?_)
                        refine lv_goto (tgt := 95) hx hb dX10_tie_155 (by decide) ?_
                        exact ih_369 (12 - zi_402.toInt).toNat (by omega) zi_383 zi_384 zj_385 zi_402 _ _ _ rfl (by omega) (by omega) (by omega) e_lp_398_0 hP hD hS (lv_sub hl [1, 2, 3, 4, 5, 6, 7, 0] rfl)
                      · have f_401 : ¬ (zi_386.toInt ≥ zi_399.toInt) := ic_nge (rfl) (rfl) c_400
                        refine lv_aload_n hx hb dX10_tie_116 rfl (lv_at hl 0 rfl) ?_
                        refine lv_iload hx hb dX10_tie_117 (lv_at hl 7 rfl) ?_
                        refine lv_iload hx hb dX10_tie_119 (lv_at hl 8 rfl) ?_
                        refine hj_l (ws := (WL cy zL zT zR zI_38 zJ_39)) (w1 := fun (u : Unit) => (WL cy zL zT zR zI_38 zJ_39)) (va_runV (As := [.int zi_338, .int zi_386]) (rest := []) ⟨hx, hb, hml, hown, hts⟩ (t_X10_sharedWays l dC dI cy H.size zL zT zR zI_38 zJ_39 zx zi_338 zi_386 hs h_zI_38.1 t_zx (by omega) (by omega)) (cwV 2 hts gX10_tie_X10_sharedWays rfl rfl rfl (by decide +kernel) ⟨(Nat.le_of_ble_eq_true rfl), (Nat.le_of_ble_eq_true rfl)⟩) (PRE.v hP hK hD hN (ht_recv hK hP hs t_zx (by decide) rfl rfl)) rfl rfl hl.1 rfl (lv_room (Nat.le_of_ble_eq_true rfl)) dX10_tie_121 ⟨(Nat.le_of_ble_eq_true rfl), (Nat.le_of_ble_eq_true rfl)⟩) hP hD hS hA (fun zj_403 u_405 H locs hw_404 hP hD hS => ?_)
                        refine lv_lstore (lv' := [(10, .long zj_403), (0, .ref zx), (1, .int zia), (2, .ref (zR (zR zx 6) (0 : Int32).toNatClampNeg)), (3, .ref (zR (zR zx 6) (1 : Int32).toNatClampNeg)), (4, .int zi_383), (5, .int zi_384), (6, .long zj_385), (8, .int zi_338), (9, .int zi_386)]) hx hb dX10_tie_124 hl (by decide) rfl (fun ls hl => ?_)
                        refine lv_lload hx hb dX10_tie_126 (lv_at hl 0 rfl) ?_
                        refine lv_lload hx hb dX10_tie_128 (lv_at hl 7 rfl) ?_
                        refine W.lcmp hx hb dX10_tie_130 ?_
                        refine lv_topi (fun zi_406 ezi_406 => ?_)
                        refine lv_if_le (tgt := 146) hx hb dX10_tie_131 (by decide) (fun c_407 => ?_) (fun c_407 => ?_)
                        · have f_408 : ¬ (zj_403.toInt > zj_385.toInt) := lk_le ezi_406 (rfl) (rfl) c_407
                          obtain ⟨zi_409, ezi_409⟩ : ∃ y : Int32, y = zi_386 + 1 := ⟨_, rfl⟩
                          have tzi_409 : zi_409.toInt = zi_386.toInt + 1 := by rw [ezi_409]; exact tadd rfl (show (1 : Int32).toInt = 1 by decide) (by omega) (by omega)
                          refine lv_iinc (v := zi_409) (lv' := [(9, .int zi_409), (10, .long zj_403), (0, .ref zx), (1, .int zia), (2, .ref (zR (zR zx 6) (0 : Int32).toNatClampNeg)), (3, .ref (zR (zR zx 6) (1 : Int32).toNatClampNeg)), (4, .int zi_383), (5, .int zi_384), (6, .long zj_385), (8, .int zi_338)]) hx hb dX10_tie_146 hl (k := 9) rfl (by rw [ezi_409]; rfl) (by decide) rfl (fun ls hl => ?_)
                          refine lv_goto (tgt := 107) hx hb dX10_tie_149 (by decide) ?_
                          exact ih_398 (12 - zi_409.toInt).toNat (by omega) zi_383 zi_384 zj_385 zi_409 _ _ _ rfl (by omega) (by omega) (by omega) e_lp_398_0 hP hD hS (lv_sub hl [2, 3, 4, 5, 6, 7, 8, 9, 0] rfl)
                        · have f_408 : zj_403.toInt > zj_385.toInt := lk_nle ezi_406 (rfl) (rfl) c_407
                          refine lv_lload hx hb dX10_tie_134 (lv_at hl 0 rfl) ?_
                          refine lv_lstore (lv' := [(6, .long zj_403), (10, .long zj_403), (0, .ref zx), (1, .int zia), (2, .ref (zR (zR zx 6) (0 : Int32).toNatClampNeg)), (3, .ref (zR (zR zx 6) (1 : Int32).toNatClampNeg)), (4, .int zi_383), (5, .int zi_384), (8, .int zi_338), (9, .int zi_386)]) hx hb dX10_tie_136 hl (by decide) rfl (fun ls hl => ?_)
                          refine lv_iload hx hb dX10_tie_138 (lv_at hl 8 rfl) ?_
                          refine lv_istore (lv' := [(4, .int zi_338), (6, .long zj_403), (10, .long zj_403), (0, .ref zx), (1, .int zia), (2, .ref (zR (zR zx 6) (0 : Int32).toNatClampNeg)), (3, .ref (zR (zR zx 6) (1 : Int32).toNatClampNeg)), (5, .int zi_384), (8, .int zi_338), (9, .int zi_386)]) hx hb dX10_tie_140 hl (by decide) rfl (fun ls hl => ?_)
                          refine lv_iload hx hb dX10_tie_142 (lv_at hl 9 rfl) ?_
                          refine lv_istore (lv' := [(5, .int zi_386), (4, .int zi_338), (6, .long zj_403), (10, .long zj_403), (0, .ref zx), (1, .int zia), (2, .ref (zR (zR zx 6) (0 : Int32).toNatClampNeg)), (3, .ref (zR (zR zx 6) (1 : Int32).toNatClampNeg)), (8, .int zi_338), (9, .int zi_386)]) hx hb dX10_tie_144 hl (by decide) rfl (fun ls hl => ?_)
                          obtain ⟨zi_410, ezi_410⟩ : ∃ y : Int32, y = zi_386 + 1 := ⟨_, rfl⟩
                          have tzi_410 : zi_410.toInt = zi_386.toInt + 1 := by rw [ezi_410]; exact tadd rfl (show (1 : Int32).toInt = 1 by decide) (by omega) (by omega)
                          refine lv_iinc (v := zi_410) (lv' := [(9, .int zi_410), (5, .int zi_386), (4, .int zi_338), (6, .long zj_403), (10, .long zj_403), (0, .ref zx), (1, .int zia), (2, .ref (zR (zR zx 6) (0 : Int32).toNatClampNeg)), (3, .ref (zR (zR zx 6) (1 : Int32).toNatClampNeg)), (8, .int zi_338)]) hx hb dX10_tie_146 hl (k := 9) rfl (by rw [ezi_410]; rfl) (by decide) rfl (fun ls hl => ?_)
                          refine lv_goto (tgt := 107) hx hb dX10_tie_149 (by decide) ?_
                          exact ih_398 (12 - zi_410.toInt).toNat (by omega) zi_338 zi_386 zj_403 zi_410 _ _ _ rfl (by omega) (by omega) (by omega) e_lp_398_0 hP hD hS (lv_sub hl [5, 6, 7, 8, 2, 1, 3, 9, 0] rfl)
                  exact lp_398 _ zi_335 zi_336 zj_337 (0 : Int32) _ _ _ rfl (by omega) (by omega) (by decide) e_lp_369_0 hP hD hS (lv_sub hl [1, 2, 3, 4, 5, 6, 7, 8, 0] rfl)
            exact lp_369 _ (0 : Int32) (0 : Int32) (-1 : Int64) (0 : Int32) _ _ _ rfl (by decide) (by decide) (by decide) ps_40 hP hD hS (lv_sub hl [6, 7, 5, 4, 3, 2, 1, 0] rfl)
          · have f_50 : zj_47.toInt = (0 : Int) := lk_nne ezi_48 (rfl) (show (0 : Int64).toInt = 0 by decide) c_49
            refine lv_ldc2 (v := (-4)) hx hb hown (hts (.constantLong RX10 276 (-4)) (by decide +kernel)) dX10_tie_77 ?_
            subst hQ
            exact W.lret (v := (-4 : Int64)) hx hb hr (fun t ht hW => ⟨⟨(-4 : Int64), (zI_38, zJ_39), rfl, ⟨h_zI_38, (show JX zR zI_38 zx from ps_40)⟩, ⟨by rw [ht]; exact hP, va_K.moved hW.alike hK, hD⟩⟩, hS.F ht⟩) hS.2.2 dX10_tie_80
      · have f_25 : ¬ (zi_18.toInt ≠ 0) := ic_nne (rfl) (by decide) c_24
        refine lv_ldc2 (v := (-2)) hx hb hown (hts (.constantLong RX10 236 (-2)) (by decide +kernel)) dX10_tie_43 ?_
        subst hQ
        exact W.lret (v := (-2 : Int64)) hx hb hr (fun t ht hW => ⟨⟨(-2 : Int64), (zI, zJ), rfl, ⟨h_zI, (show JX zR zI zx from hj)⟩, ⟨by rw [ht]; exact hP, va_K.moved hW.alike hK, hD⟩⟩, hS.F ht⟩) hS.2.2 dX10_tie_46
  · have f_5 : ¬ (0 ≤ zia.toInt ∧ zia.toInt ≤ 2) := bz_0 hw_2 c_4
    refine lv_ldc2 (v := (-1)) hx hb hown (hts (.constantLong RX10 234 (-1)) (by decide +kernel)) dX10_tie_9 ?_
    subst hQ
    exact W.lret (v := (-1 : Int64)) hx hb hr (fun t ht hW => ⟨⟨(-1 : Int64), (zI, zJ), rfl, ⟨h_zI, (show JX zR zI zx from hj)⟩, ⟨by rw [ht]; exact hP, va_K.moved hW.alike hK, hD⟩⟩, hS.F ht⟩) hS.2.2 dX10_tie_12
