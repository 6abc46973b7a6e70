set_option maxHeartbeats 8000000 in
set_option maxRecDepth 100000 in
theorem t_X10_image (l : Launch) (dC : Nat → ClassId) (dI : Nat → Nat → Nat) (cy : Nat → ClassId) (sz : Nat) (zL : List Nat) (zT : Nat → Nat) (zR : Nat → Nat → Nat) (zI : Nat → Nat → Int32) (zJ : Nat → Nat → Int64) (zx : Nat) (hs : SKP zL zT zR) (hw : WT zT zR zI) (t_zx : zT zx = 11) (hj : JX zR zI zx) : Met l yX10_image wsX10_image ({ frames := 4, cells := 0, slots := 0, locals := 95 } : Room) (va_Pc [.ref zx] (PRE dC dI cy (WL cy zL zT zR zI zJ) sz)) (va_Qi (fun (r : Int32) (u : (Nat → Nat → Int32)) => (WM [1109, 1207, 1208, 1301, 1302, 1405, 1507, 1508, 1509, 1510, 1606, 1706, 1707, 7000, 7100, 7200, 7300, 7400, 7500, 7600, 7700, 7900, 8000, 8100, 8200, 8300, 8400, 9800] AL zT zR zI u) ∧ (r = 1) ∧ (JX zR u zx) ∧ ((u zx 9).toInt = 1) ∧ (TKS zR zI u (zR zx 1) (zR zx 0))) (fun u t => POST dC dI cy (va_A (WL cy zL zT zR zI zJ) sz) (WL cy zL zT zR u zJ) t) (va_A (WL cy zL zT zR zI zJ) sz)) 0 0 (va_A (WL cy zL zT zR zI zJ) sz) := by
  refine Met.ofW (cc := cX10_image) (maxL := 1) (ret := (some .int)) (by decide) rfl ?_
  intro p e s m args below meth c s₁ B hml hv
  obtain ⟨rfl, hsz, hP, hK, hD0, hN⟩ := hv
  have hx := B.exec
  have hb := B.bytes
  have hr := B.returns
  have hts := atoms_spec (ws := wsX10_image) B.pre
  have hown : s.vm.findClass RX10 = some m.cls := findClass_of_methodNamed B.named
  have hlocks := B.notSynchronized
  subst hsz
  have hD := hD0.self (sz := s.heap.size)
  generalize hAe : va_A (WL cy zL zT zR zI zJ) s.heap.size = A at hD ⊢
  have hA : ∀ q : Nat, s.heap.size ≤ q → A q := fun q h => by rw [← hAe]; exact Or.inr h
  have hS : va_S A s.heap s.heap [] := va_S.rf
  have hP : va_P (dC, dI) vwCl (WL cy zL zT zR zI zJ) s.heap := hP
  have hl := lv_entry ([.ref zx] : List Value) (n := 1) (Nat.le_of_ble_eq_true rfl)
  rw [lg_entry_eq]
  generalize (lg_sl ([.ref zx] : List Value) ++ List.replicate (1 - (lg_sl ([.ref zx] : List Value)).length) Slot.unset).toArray = ls at hl ⊢
  have hl : lv_has ls 1 [(0, .ref zx)] := hl
  refine w_q (fun Q hQ => ?_)
  have h_zI : WM [1109, 1207, 1208, 1301, 1302, 1405, 1507, 1508, 1509, 1510, 1606, 1706, 1707, 7000, 7100, 7200, 7300, 7400, 7500, 7600, 7700, 7900, 8000, 8100, 8200, 8300, 8400, 9800] AL zT zR zI zI := WM.rf hw
  refine lv_aload_n hx hb dX10_image_0 rfl (lv_at hl 0 rfl) ?_
  refine ht_getr (C := RX10) (T := TX10) (N := 10) hx hb hts (by decide +kernel) hown hK hP hs t_zx (by decide) rfl rfl 1 (by decide) (hts (.fieldLink RX10 16 "DripStone" "kept" "LDripStone$State;") (by decide +kernel)) (fun _ h9 => h9) rfl dX10_image_1 ?_
  have t_1 : zT (zR zx 1) = 12 := sk_f hs t_zx (by decide) rfl (by decide)
  refine lv_aload_n hx hb dX10_image_4 rfl (lv_at hl 0 rfl) ?_
  refine ht_getr (C := RX10) (T := TX10) (N := 10) hx hb hts (by decide +kernel) hown hK hP hs t_zx (by decide) rfl rfl 0 (by decide) (hts (.fieldLink RX10 12 "DripStone" "now" "LDripStone$State;") (by decide +kernel)) (fun _ h9 => h9) rfl dX10_image_5 ?_
  have t_2 : zT (zR zx 0) = 9 := sk_f hs t_zx (by decide) rfl (by decide)
  refine hj_v (ws := (WL cy zL zT zR zI zJ)) (w1 := fun (u : (Nat → Nat → Int32)) => (WL cy zL zT zR u zJ)) (va_runV (As := [.ref (zR zx 0)]) (rest := []) ⟨hx, hb, hml, hown, hts⟩ (t_X8_take_12_9 l dC dI cy s.heap.size zL zT zR zI zJ (zR zx 1) (zR zx 0) hs h_zI.1 t_1 t_2) (cwV 1 hts gX10_image_X8_take rfl rfl rfl (by decide +kernel) ⟨(Nat.le_of_ble_eq_true rfl), (Nat.le_of_ble_eq_true rfl)⟩) (PRE.v hP hK hD hN (ht_recv hK hP hs t_1 (by decide) rfl rfl)) rfl rfl hl.1 rfl (lv_room (Nat.le_of_ble_eq_true rfl)) dX10_image_8 ⟨(Nat.le_of_ble_eq_true rfl), (Nat.le_of_ble_eq_true rfl)⟩) hP hD hS hA (fun zI_6 H locs hw_4 hP hD hS => ?_)
  obtain ⟨k_zI_6, ps_7⟩ : (WM [1207, 1208, 1301, 1302, 1405, 1507, 1508, 1509, 1510, 1606, 1706, 1707, 7000, 7100, 7200, 7300, 7400, 7500, 7600, 7700, 7900, 8000, 8100, 8200, 8300, 8400, 9800] AL zT zR zI zI_6) ∧ (TKS zR zI zI_6 (zR zx 1) (zR zx 0)) := hw_4
  have h_zI_6 : WM [1109, 1207, 1208, 1301, 1302, 1405, 1507, 1508, 1509, 1510, 1606, 1706, 1707, 7000, 7100, 7200, 7300, 7400, 7500, 7600, 7700, 7900, 8000, 8100, 8200, 8300, 8400, 9800] AL zT zR zI zI_6 := h_zI.tr k_zI_6 (by decide) (fun _ _ => trivial)
  refine lv_aload_n hx hb dX10_image_11 rfl (lv_at hl 0 rfl) ?_
  refine lv_iconst (v := 1) hx hb dX10_image_12 (by decide) ?_
  refine ht_puti (v := (1 : Int32)) (ty := .boolean) (C := RX10) (T := TX10) (N := 10) hx hb hts (by decide +kernel) tyX10 tyX10_ok nmX10 hown hK hP hD hS hs t_zx (by decide) rfl rfl 9 (by decide) (hts (.fieldLink RX10 367 "DripStone" "imaged" "Z") (by decide +kernel)) (fun _ h9 => h9) rfl (by decide +kernel) rfl rfl rfl dX10_image_13 (fun H locs hP hD hS => ?_)
  have h_zI_8 : WM [1109, 1207, 1208, 1301, 1302, 1405, 1507, 1508, 1509, 1510, 1606, 1706, 1707, 7000, 7100, 7200, 7300, 7400, 7500, 7600, 7700, 7900, 8000, 8100, 8200, 8300, 8400, 9800] AL zT zR zI (u2 zI_6 zx 9 (1 : Int32)) := h_zI_6.put hs t_zx rfl (by decide) (by decide) (fun h => absurd h (by decide)) (by decide) trivial
  generalize uzI_8 : u2 zI_6 zx 9 (1 : Int32) = zI_8 at hP hD h_zI_8
  refine lv_iconst (v := 1) hx hb dX10_image_16 (by decide) ?_
  subst hQ
  exact W.iret (v := (1 : Int32)) hx hb hr (fun t ht hW => ⟨⟨(1 : Int32), zI_8, rfl, ⟨h_zI_8, rfl, (show JX zR zI_8 zx from (JX.sm hj hs t_zx h_zI_8.2 (by decide) (by decide))), (show (zI_8 zx 9).toInt = 1 from (by rw [show zI_8 zx 9 = (1 : Int32) from (by rw [← uzI_8]; exact u2_s)]; decide)), (show TKS zR zI zI_8 (zR zx 1) (zR zx 0) from (by rw [← uzI_8]; exact TKS.sm ps_7 hs (Or.inr t_1) (SM.one t_zx) (by decide)))⟩, ⟨by rw [ht]; exact hP, va_K.moved hW.alike hK, hD⟩⟩, hS.F ht⟩) hS.2.2 dX10_image_17
set_option maxHeartbeats 8000000 in
set_option maxRecDepth 100000 in
theorem t_X10_restore (l : Launch) (dC : Nat → ClassId) (dI : Nat → Nat → Nat) (cy : Nat → ClassId) (sz : Nat) (zL : List Nat) (zT : Nat → Nat) (zR : Nat → Nat → Nat) (zI : Nat → Nat → Int32) (zJ : Nat → Nat → Int64) (zx : Nat) (hs : SKP zL zT zR) (hw : WT zT zR zI) (t_zx : zT zx = 11) (hj : JX zR zI zx) : Met l yX10_restore wsX10_restore ({ frames := 4, cells := 0, slots := 0, locals := 95 } : Room) (va_Pc [.ref zx] (PRE dC dI cy (WL cy zL zT zR zI zJ) sz)) (va_Qi (fun (r : Int32) (u : (Nat → Nat → Int32)) => (WM [107, 108, 109, 110, 206, 207, 306, 401, 402, 505, 907, 908, 2000, 2100, 2200, 2300, 2400, 2500, 2600, 2700, 2900, 3000, 3100, 3200, 3300, 3400, 4700, 4800] AL zT zR zI u) ∧ ((-4) ≤ r.toInt ∧ r.toInt ≤ 1) ∧ (JX zR u zx) ∧ (r.toInt = RSv (zI zx 9).toInt) ∧ (¬ (zI zx 9).toInt = 0 → TKS zR zI u (zR zx 0) (zR zx 1)) ∧ ((zI zx 9).toInt = 0 → u = zI)) (fun u t => POST dC dI cy (va_A (WL cy zL zT zR zI zJ) sz) (WL cy zL zT zR u zJ) t) (va_A (WL cy zL zT zR zI zJ) sz)) 0 0 (va_A (WL cy zL zT zR zI zJ) sz) := by
  refine Met.ofW (cc := cX10_restore) (maxL := 1) (ret := (some .int)) (by decide) rfl ?_
  intro p e s m args below meth c s₁ B hml hv
  obtain ⟨rfl, hsz, hP, hK, hD0, hN⟩ := hv
  have hx := B.exec
  have hb := B.bytes
  have hr := B.returns
  have hts := atoms_spec (ws := wsX10_restore) B.pre
  have hown : s.vm.findClass RX10 = some m.cls := findClass_of_methodNamed B.named
  have hlocks := B.notSynchronized
  subst hsz
  have hD := hD0.self (sz := s.heap.size)
  generalize hAe : va_A (WL cy zL zT zR zI zJ) s.heap.size = A at hD ⊢
  have hA : ∀ q : Nat, s.heap.size ≤ q → A q := fun q h => by rw [← hAe]; exact Or.inr h
  have hS : va_S A s.heap s.heap [] := va_S.rf
  have hP : va_P (dC, dI) vwCl (WL cy zL zT zR zI zJ) s.heap := hP
  have hl := lv_entry ([.ref zx] : List Value) (n := 1) (Nat.le_of_ble_eq_true rfl)
  rw [lg_entry_eq]
  generalize (lg_sl ([.ref zx] : List Value) ++ List.replicate (1 - (lg_sl ([.ref zx] : List Value)).length) Slot.unset).toArray = ls at hl ⊢
  have hl : lv_has ls 1 [(0, .ref zx)] := hl
  refine w_q (fun Q hQ => ?_)
  have h_zI : WM [107, 108, 109, 110, 206, 207, 306, 401, 402, 505, 907, 908, 2000, 2100, 2200, 2300, 2400, 2500, 2600, 2700, 2900, 3000, 3100, 3200, 3300, 3400, 4700, 4800] AL zT zR zI zI := WM.rf hw
  refine lv_aload_n hx hb dX10_restore_0 rfl (lv_at hl 0 rfl) ?_
  refine ht_geti (C := RX10) (T := TX10) (N := 10) hx hb hts (by decide +kernel) hown hK hP hs t_zx (by decide) rfl rfl 9 (by decide) (hts (.fieldLink RX10 367 "DripStone" "imaged" "Z") (by decide +kernel)) (fun _ h9 => h9) rfl dX10_restore_1 ?_
  refine lv_topi (fun zi_1 ezi_1 => ?_)
  have tzi_1 : 0 ≤ zi_1.toInt ∧ zi_1.toInt ≤ 1 := by rw [ezi_1]; exact h_zI.at t_zx _ rfl
  have lzi_1 : (zI zx 9).toInt = zi_1.toInt := by rw [ezi_1]
  refine lv_if_ne (tgt := 10) hx hb dX10_restore_4 (by decide) (fun c_2 => ?_) (fun c_2 => ?_)
  · have f_3 : zi_1.toInt ≠ 0 := ic_ne (rfl) (by decide) c_2
    refine lv_aload_n hx hb dX10_restore_10 rfl (lv_at hl 0 rfl) ?_
    refine ht_getr (C := RX10) (T := TX10) (N := 10) hx hb hts (by decide +kernel) hown hK hP hs t_zx (by decide) rfl rfl 0 (by decide) (hts (.fieldLink RX10 12 "DripStone" "now" "LDripStone$State;") (by decide +kernel)) (fun _ h9 => h9) rfl dX10_restore_11 ?_
    have t_4 : zT (zR zx 0) = 9 := sk_f hs t_zx (by decide) rfl (by decide)
    refine lv_aload_n hx hb dX10_restore_14 rfl (lv_at hl 0 rfl) ?_
    refine ht_getr (C := RX10) (T := TX10) (N := 10) hx hb hts (by decide +kernel) hown hK hP hs t_zx (by decide) rfl rfl 1 (by decide) (hts (.fieldLink RX10 16 "DripStone" "kept" "LDripStone$State;") (by decide +kernel)) (fun _ h9 => h9) rfl dX10_restore_15 ?_
    have t_5 : zT (zR zx 1) = 12 := sk_f hs t_zx (by decide) rfl (by decide)
    refine hj_v (ws := (WL cy zL zT zR zI zJ)) (w1 := fun (u : (Nat → Nat → Int32)) => (WL cy zL zT zR u zJ)) (va_runV (As := [.ref (zR zx 1)]) (rest := []) ⟨hx, hb, hml, hown, hts⟩ (t_X8_take_9_12 l dC dI cy s.heap.size zL zT zR zI zJ (zR zx 0) (zR zx 1) hs h_zI.1 t_4 t_5) (cwV 1 hts gX10_restore_X8_take rfl rfl rfl (by decide +kernel) ⟨(Nat.le_of_ble_eq_true rfl), (Nat.le_of_ble_eq_true rfl)⟩) (PRE.v hP hK hD hN (ht_recv hK hP hs t_4 (by decide) rfl rfl)) rfl rfl hl.1 rfl (lv_room (Nat.le_of_ble_eq_true rfl)) dX10_restore_18 ⟨(Nat.le_of_ble_eq_true rfl), (Nat.le_of_ble_eq_true rfl)⟩) hP hD hS hA (fun zI_9 H locs hw_7 hP hD hS => ?_)
    obtain ⟨k_zI_9, ps_10⟩ : (WM [107, 108, 109, 110, 206, 207, 306, 401, 402, 505, 907, 908, 2000, 2100, 2200, 2300, 2400, 2500, 2600, 2700, 2900, 3000, 3100, 3200, 3300, 3400, 4800] AL zT zR zI zI_9) ∧ (TKS zR zI zI_9 (zR zx 0) (zR zx 1)) := hw_7
    have h_zI_9 : WM [107, 108, 109, 110, 206, 207, 306, 401, 402, 505, 907, 908, 2000, 2100, 2200, 2300, 2400, 2500, 2600, 2700, 2900, 3000, 3100, 3200, 3300, 3400, 4700, 4800] AL zT zR zI zI_9 := h_zI.tr k_zI_9 (by decide) (fun _ _ => trivial)
    refine lv_aload_n hx hb dX10_restore_21 rfl (lv_at hl 0 rfl) ?_
    refine ht_getr (C := RX10) (T := TX10) (N := 10) hx hb hts (by decide +kernel) hown hK hP hs t_zx (by decide) rfl rfl 7 (by decide) (hts (.fieldLink RX10 54 "DripStone" "counted" "[Z") (by decide +kernel)) (fun _ h9 => h9) rfl dX10_restore_22 ?_
    have t_11 : zT (zR zx 7) = 47 := sk_f hs t_zx (by decide) rfl (by decide)
    refine lv_iconst (v := 0) hx hb dX10_restore_25 (by decide) ?_
    refine lv_iconst (v := 0) hx hb dX10_restore_26 (by decide) ?_
    refine ht_zast (v := (0 : Int32)) (n := 2) (q := 2) hx hb hK hP hD hS hs t_11 (by decide) rfl rfl ⟨by decide, by decide⟩ dX10_restore_27 (fun H locs hP hD hS => ?_)
    have h_zI_12 : WM [107, 108, 109, 110, 206, 207, 306, 401, 402, 505, 907, 908, 2000, 2100, 2200, 2300, 2400, 2500, 2600, 2700, 2900, 3000, 3100, 3200, 3300, 3400, 4700, 4800] AL zT zR zI (u2 zI_9 (zR zx 7) (0 : Int32).toNatClampNeg (vp_nar .boolean (0 : Int32))) := h_zI_9.putA hs t_11 rfl (rgF _) (by decide) (fun h => absurd h (by decide)) (by decide) trivial
    generalize uzI_12 : u2 zI_9 (zR zx 7) (0 : Int32).toNatClampNeg (vp_nar .boolean (0 : Int32)) = zI_12 at hP hD h_zI_12
    refine lv_aload_n hx hb dX10_restore_28 rfl (lv_at hl 0 rfl) ?_
    refine ht_getr (C := RX10) (T := TX10) (N := 10) hx hb hts (by decide +kernel) hown hK hP hs t_zx (by decide) rfl rfl 7 (by decide) (hts (.fieldLink RX10 54 "DripStone" "counted" "[Z") (by decide +kernel)) (fun _ h9 => h9) rfl dX10_restore_29 ?_
    refine lv_iconst (v := 1) hx hb dX10_restore_32 (by decide) ?_
    refine lv_iconst (v := 0) hx hb dX10_restore_33 (by decide) ?_
    refine ht_zast (v := (0 : Int32)) (n := 2) (q := 2) hx hb hK hP hD hS hs t_11 (by decide) rfl rfl ⟨by decide, by decide⟩ dX10_restore_34 (fun H locs hP hD hS => ?_)
    have h_zI_13 : WM [107, 108, 109, 110, 206, 207, 306, 401, 402, 505, 907, 908, 2000, 2100, 2200, 2300, 2400, 2500, 2600, 2700, 2900, 3000, 3100, 3200, 3300, 3400, 4700, 4800] AL zT zR zI (u2 zI_12 (zR zx 7) (1 : Int32).toNatClampNeg (vp_nar .boolean (0 : Int32))) := h_zI_12.putA hs t_11 rfl (rgF _) (by decide) (fun h => absurd h (by decide)) (by decide) trivial
    generalize uzI_13 : u2 zI_12 (zR zx 7) (1 : Int32).toNatClampNeg (vp_nar .boolean (0 : Int32)) = zI_13 at hP hD h_zI_13
    refine lv_iconst (v := 1) hx hb dX10_restore_35 (by decide) ?_
    subst hQ
    have qc_1 : (1 : Int32).toInt = 1 := by decide
    exact W.iret (v := (1 : Int32)) hx hb hr (fun t ht hW => ⟨⟨(1 : Int32), zI_13, rfl, ⟨h_zI_13, (show (-4) ≤ (1 : Int32).toInt ∧ (1 : Int32).toInt ≤ 1 from by omega), (show JX zR zI_13 zx from (JX.z2 (congrArg Int32.toInt (show zI_13 (zR zx 7) 0 = 0 from ((show zI_13 (zR zx 7) (0 : Int32).toNatClampNeg = zI_12 (zR zx 7) (0 : Int32).toNatClampNeg from by rw [← uzI_13]; exact u2_k (by decide)).trans (by rw [← uzI_12]; exact u2_s.trans (by decide))))) (congrArg Int32.toInt (show zI_13 (zR zx 7) 1 = 0 from (by rw [← uzI_13]; exact u2_s.trans (by decide)))))), (show (1 : Int32).toInt = RSv (zI zx 9).toInt from (by have qv9 := (show (1 : Int32).toInt = 1 from by decide); unfold RSv; split <;> first | omega | (split <;> first | omega | (split <;> omega)))), (show ¬ (zI zx 9).toInt = 0 → TKS zR zI zI_13 (zR zx 0) (zR zx 1) from (fun _ => (by rw [← uzI_13]; exact TKS.sm (by rw [← uzI_12]; exact TKS.sm ps_10 hs (Or.inl t_4) (SM.oneA t_11 (by decide)) (by decide)) hs (Or.inl t_4) (SM.oneA t_11 (by decide)) (by decide)))), (show (zI zx 9).toInt = 0 → zI_13 = zI from (fun h9 => absurd h9 (by omega)))⟩, ⟨by rw [ht]; exact hP, va_K.moved hW.alike hK, hD⟩⟩, hS.F ht⟩) hS.2.2 dX10_restore_36
  · have f_3 : ¬ (zi_1.toInt ≠ 0) := ic_nne (rfl) (by decide) c_2
    refine lv_bipush (v := (-4)) hx hb dX10_restore_7 (by decide) ?_
    subst hQ
    have qc_m4 : (-4 : Int32).toInt = -4 := by decide
    exact W.iret (v := (-4 : Int32)) hx hb hr (fun t ht hW => ⟨⟨(-4 : Int32), zI, rfl, ⟨h_zI, (show (-4) ≤ (-4 : Int32).toInt ∧ (-4 : Int32).toInt ≤ 1 from by omega), (show JX zR zI zx from hj), (show (-4 : Int32).toInt = RSv (zI zx 9).toInt from (by have qv9 := (show ((-4) : Int32).toInt = -4 from by decide); unfold RSv; split <;> first | omega | (split <;> first | omega | (split <;> omega)))), (show ¬ (zI zx 9).toInt = 0 → TKS zR zI zI (zR zx 0) (zR zx 1) from (fun h9 => absurd (by omega) h9)), (show (zI zx 9).toInt = 0 → zI = zI from (fun _ => rfl))⟩, ⟨by rw [ht]; exact hP, va_K.moved hW.alike hK, hD⟩⟩, hS.F ht⟩) hS.2.2 dX10_restore_9
set_option maxHeartbeats 8000000 in
set_option maxRecDepth 100000 in
theorem t_X10_sheet (l : Launch) (dC : Nat → ClassId) (dI : Nat → Nat → Nat) (cy : Nat → ClassId) (sz : Nat) (zL : List Nat) (zT : Nat → Nat) (zR : Nat → Nat → Nat) (zI : Nat → Nat → Int32) (zJ : Nat → Nat → Int64) (zx : Nat) (zia : Int32) (zib : Int32) (zic : Int32) (hs : SKP zL zT zR) (hw : WT zT zR zI) (t_zx : zT zx = 11) (hj : JX zR zI zx) : Met l yX10_sheet wsX10_sheet ({ frames := 2, cells := 0, slots := 0, locals := 45 } : Room) (va_Pc [.ref zx, .int zia, .int zib, .int zic] (PRE dC dI cy (WL cy zL zT zR zI zJ) sz)) (va_Qi (fun (r : Int32) (u : (Nat → Nat → Int32)) => (WM [801, 802, 803, 3600] AL zT zR zI u) ∧ ((-14) ≤ r.toInt ∧ r.toInt ≤ 24) ∧ (JX zR u zx) ∧ (r.toInt = SHv zia.toInt zib.toInt zic.toInt) ∧ (r.toInt < 0 ∨ ((u (zR (zR zx 5) zia.toNatClampNeg) 1).toInt = zib.toInt ∧ (u (zR (zR zx 5) zia.toNatClampNeg) 2).toInt = zic.toInt ∧ (u (zR (zR zx 5) zia.toNatClampNeg) 3).toInt = 1)) ∧ (OTH zT zI u (zR (zR zx 5) zia.toNatClampNeg)) ∧ (0 ≤ r.toInt ∨ u = zI) ∧ (r.toInt < 0 ∨ FZW zT zI u (zR (zR (zR zx 5) zia.toNatClampNeg) 0))) (fun u t => POST dC dI cy (va_A (WL cy zL zT zR zI zJ) sz) (WL cy zL zT zR u zJ) t) (va_A (WL cy zL zT zR zI zJ) sz)) 0 0 (va_A (WL cy zL zT zR zI zJ) sz) := by
  refine Met.ofW (cc := cX10_sheet) (maxL := 4) (ret := (some .int)) (by decide) rfl ?_
  intro p e s m args below meth c s₁ B hml hv
  obtain ⟨rfl, hsz, hP, hK, hD0, hN⟩ := hv
  have hx := B.exec
  have hb := B.bytes
  have hr := B.returns
  have hts := atoms_spec (ws := wsX10_sheet) B.pre
  have hown : s.vm.findClass RX10 = some m.cls := findClass_of_methodNamed B.named
  have hlocks := B.notSynchronized
  subst hsz
  have hD := hD0.self (sz := s.heap.size)
  generalize hAe : va_A (WL cy zL zT zR zI zJ) s.heap.size = A at hD ⊢
  have hA : ∀ q : Nat, s.heap.size ≤ q → A q := fun q h => by rw [← hAe]; exact Or.inr h
  have hS : va_S A s.heap s.heap [] := va_S.rf
  have hP : va_P (dC, dI) vwCl (WL cy zL zT zR zI zJ) s.heap := hP
  have hl := lv_entry ([.ref zx, .int zia, .int zib, .int zic] : List Value) (n := 4) (Nat.le_of_ble_eq_true rfl)
  rw [lg_entry_eq]
  generalize (lg_sl ([.ref zx, .int zia, .int zib, .int zic] : List Value) ++ List.replicate (4 - (lg_sl ([.ref zx, .int zia, .int zib, .int zic] : List Value)).length) Slot.unset).toArray = ls at hl ⊢
  have hl : lv_has ls 4 [(0, .ref zx), (1, .int zia), (2, .int zib), (3, .int zic)] := hl
  refine w_q (fun Q hQ => ?_)
  have h_zI : WM [801, 802, 803, 3600] AL zT zR zI zI := WM.rf hw
  refine lv_iload_n hx hb dX10_sheet_0 rfl (lv_at hl 1 rfl) ?_
  refine lv_iload_n hx hb dX10_sheet_1 rfl (lv_at hl 2 rfl) ?_
  refine hj0_i (ws := (WL cy zL zT zR zI zJ)) (va_runS (As := [.int zia, .int zib]) (rest := []) ⟨hx, hb, hml, hown, hts⟩ (c_X10_isRow l dC dI cy s.heap.size zia zib) (va_cwS 2 hts gX10_sheet_X10_isRow rfl rfl rfl (by decide +kernel) ⟨(Nat.le_of_ble_eq_true rfl), (Nat.le_of_ble_eq_true rfl)⟩) (PRE.s (hP.sub [] rfl) hK (hD.sub [] (by decide) rfl) hN) rfl rfl hl.1 rfl (lv_room (Nat.le_of_ble_eq_true rfl)) dX10_sheet_2 ⟨(Nat.le_of_ble_eq_true rfl), (Nat.le_of_ble_eq_true rfl)⟩) hP hD hS hA (fun zi_1 u_3 H locs hw_2 hP hD hS => ?_)
  have hw_2 : zi_1 = if (0 ≤ zia.toInt ∧ zia.toInt ≤ 3) ∧ 0 ≤ zib.toInt ∧ zib.toInt ≤ 2 then 1 else 0 := hw_2
  have b_zi_1 : 0 ≤ zi_1.toInt ∧ zi_1.toInt ≤ 1 := bz_b hw_2
  refine lv_if_eq (tgt := 14) hx hb dX10_sheet_5 (by decide) (fun c_4 => ?_) (fun c_4 => ?_)
  · have f_5 : ¬ ((0 ≤ zia.toInt ∧ zia.toInt ≤ 3) ∧ 0 ≤ zib.toInt ∧ zib.toInt ≤ 2) := bz_0 hw_2 c_4
    refine lv_iconst (v := (-1)) hx hb dX10_sheet_14 (by decide) ?_
    subst hQ
    have qc_m1 : (-1 : Int32).toInt = -1 := by decide
    exact W.iret (v := (-1 : Int32)) hx hb hr (fun t ht hW => ⟨⟨(-1 : Int32), zI, rfl, ⟨h_zI, (show (-14) ≤ (-1 : Int32).toInt ∧ (-1 : Int32).toInt ≤ 24 from by omega), (show JX zR zI zx from hj), (show (-1 : Int32).toInt = SHv zia.toInt zib.toInt zic.toInt from (by have qv9 := (show ((-1) : Int32).toInt = -1 from by decide); unfold SHv; split <;> first | omega | (split <;> first | omega | (split <;> omega)))), (show (-1 : Int32).toInt < 0 ∨ ((zI (zR (zR zx 5) zia.toNatClampNeg) 1).toInt = zib.toInt ∧ (zI (zR (zR zx 5) zia.toNatClampNeg) 2).toInt = zic.toInt ∧ (zI (zR (zR zx 5) zia.toNatClampNeg) 3).toInt = 1) from (Or.inl (by decide))), (show OTH zT zI zI (zR (zR zx 5) zia.toNatClampNeg) from (fun _ _ _ => ⟨rfl, rfl, rfl⟩)), (show 0 ≤ (-1 : Int32).toInt ∨ zI = zI from (Or.inr rfl)), (show (-1 : Int32).toInt < 0 ∨ FZW zT zI zI (zR (zR (zR zx 5) zia.toNatClampNeg) 0) from (Or.inl (by decide)))⟩, ⟨by rw [ht]; exact hP, va_K.moved hW.alike hK, hD⟩⟩, hS.F ht⟩) hS.2.2 dX10_sheet_15
  · have f_5 : (0 ≤ zia.toInt ∧ zia.toInt ≤ 3) ∧ 0 ≤ zib.toInt ∧ zib.toInt ≤ 2 := bz_1 hw_2 c_4
    refine lv_iload_n hx hb dX10_sheet_8 rfl (lv_at hl 3 rfl) ?_
    refine lv_bipush (v := 24) hx hb dX10_sheet_9 (by decide) ?_
    refine lv_icmp_le (tgt := 16) hx hb dX10_sheet_11 (by decide) (fun c_6 => ?_) (fun c_6 => ?_)
    · have f_7 : zic.toInt ≤ (24 : Int) := ic_le (rfl) (show (24 : Int32).toInt = 24 by decide) c_6
      refine lv_iload_n hx hb dX10_sheet_16 rfl (lv_at hl 3 rfl) ?_
      refine lv_if_ge (tgt := 23) hx hb dX10_sheet_17 (by decide) (fun c_8 => ?_) (fun c_8 => ?_)
      · have f_9 : zic.toInt ≥ 0 := ic_ge (rfl) (by decide) c_8
        refine lv_aload_n hx hb dX10_sheet_23 rfl (lv_at hl 0 rfl) ?_
        refine ht_getr (C := RX10) (T := TX10) (N := 10) hx hb hts (by decide +kernel) hown hK hP hs t_zx (by decide) rfl rfl 5 (by decide) (hts (.fieldLink RX10 43 "DripStone" "sheets" "[LDripStone$Sheet;") (by decide +kernel)) (fun _ h9 => h9) rfl dX10_sheet_24 ?_
        have t_10 : zT (zR zx 5) = 63 := sk_f hs t_zx (by decide) rfl (by decide)
        refine lv_iload_n hx hb dX10_sheet_27 rfl (lv_at hl 1 rfl) ?_
        refine ht_aald (n := 4) (q := 5) hx hb hK hP hs t_10 (by decide) rfl rfl ⟨by omega, by omega⟩ dX10_sheet_28 ?_
        have t_11 : zT (zR (zR zx 5) zia.toNatClampNeg) = 8 := sk_a (n := 4) hs t_10 rfl rfl (by decide) (cl_lt (by omega) (by omega))
        refine lv_iload_n hx hb dX10_sheet_29 rfl (lv_at hl 2 rfl) ?_
        refine lv_iload_n hx hb dX10_sheet_30 rfl (lv_at hl 3 rfl) ?_
        refine hj_v (ws := (WL cy zL zT zR zI zJ)) (w1 := fun (u : (Nat → Nat → Int32)) => (WL cy zL zT zR u zJ)) (va_runV (As := [.int zib, .int zic]) (rest := []) ⟨hx, hb, hml, hown, hts⟩ (t_X7_begin l dC dI cy H.size zL zT zR zI zJ (zR (zR zx 5) zia.toNatClampNeg) zib zic hs h_zI.1 t_11 (by omega) (by omega)) (cwV 2 hts gX10_sheet_X7_begin rfl rfl rfl (by decide +kernel) ⟨(Nat.le_of_ble_eq_true rfl), (Nat.le_of_ble_eq_true rfl)⟩) (PRE.v hP hK hD hN (ht_recv hK hP hs t_11 (by decide) rfl rfl)) rfl rfl hl.1 rfl (lv_room (Nat.le_of_ble_eq_true rfl)) dX10_sheet_31 ⟨(Nat.le_of_ble_eq_true rfl), (Nat.le_of_ble_eq_true rfl)⟩) hP hD hS hA (fun zI_15 H locs hw_13 hP hD hS => ?_)
        obtain ⟨k_zI_15, ps_16, ps_17, ps_18, ps_19, ps_20⟩ : (WM [801, 802, 803, 3600] AL zT zR zI zI_15) ∧ ((zI_15 (zR (zR zx 5) zia.toNatClampNeg) 1).toInt = zib.toInt) ∧ ((zI_15 (zR (zR zx 5) zia.toNatClampNeg) 2).toInt = zic.toInt) ∧ ((zI_15 (zR (zR zx 5) zia.toNatClampNeg) 3).toInt = 1) ∧ (OTH zT zI zI_15 (zR (zR zx 5) zia.toNatClampNeg)) ∧ (FZW zT zI zI_15 (zR (zR (zR zx 5) zia.toNatClampNeg) 0)) := hw_13
        have h_zI_15 : WM [801, 802, 803, 3600] AL zT zR zI zI_15 := h_zI.tr k_zI_15 (by decide) (fun _ _ => trivial)
        obtain ⟨zi_21, ezi_21⟩ : ∃ y : Int32, y = zI_15 (zR (zR zx 5) zia.toNatClampNeg) 1 := ⟨_, rfl⟩
        have tzi_21 : 0 ≤ zi_21.toInt ∧ zi_21.toInt ≤ 2 := by rw [ezi_21]; exact h_zI_15.at t_11 _ rfl
        have lk_22 : (zI_15 (zR (zR zx 5) zia.toNatClampNeg) 1).toInt = zi_21.toInt := congrArg Int32.toInt ezi_21.symm
        obtain ⟨zi_23, ezi_23⟩ : ∃ y : Int32, y = zI_15 (zR (zR zx 5) zia.toNatClampNeg) 2 := ⟨_, rfl⟩
        have tzi_23 : 0 ≤ zi_23.toInt ∧ zi_23.toInt ≤ 24 := by rw [ezi_23]; exact h_zI_15.at t_11 _ rfl
        have lk_24 : (zI_15 (zR (zR zx 5) zia.toNatClampNeg) 2).toInt = zi_23.toInt := congrArg Int32.toInt ezi_23.symm
        obtain ⟨zi_25, ezi_25⟩ : ∃ y : Int32, y = zI_15 (zR (zR zx 5) zia.toNatClampNeg) 3 := ⟨_, rfl⟩
        have tzi_25 : 0 ≤ zi_25.toInt ∧ zi_25.toInt ≤ 1 := by rw [ezi_25]; exact h_zI_15.at t_11 _ rfl
        have lk_26 : (zI_15 (zR (zR zx 5) zia.toNatClampNeg) 3).toInt = zi_25.toInt := congrArg Int32.toInt ezi_25.symm
        refine lv_iload_n hx hb dX10_sheet_34 rfl (lv_at hl 3 rfl) ?_
        subst hQ
        exact W.iret (v := zic) hx hb hr (fun t ht hW => ⟨⟨zic, zI_15, rfl, ⟨h_zI_15, (show (-14) ≤ zic.toInt ∧ zic.toInt ≤ 24 from by omega), (show JX zR zI_15 zx from (JX.sm hj hs t_zx h_zI_15.2 (by decide) (by decide))), (show zic.toInt = SHv zia.toInt zib.toInt zic.toInt from (by unfold SHv; split <;> first | omega | (split <;> first | omega | (split <;> omega)))), (show zic.toInt < 0 ∨ ((zI_15 (zR (zR zx 5) zia.toNatClampNeg) 1).toInt = zib.toInt ∧ (zI_15 (zR (zR zx 5) zia.toNatClampNeg) 2).toInt = zic.toInt ∧ (zI_15 (zR (zR zx 5) zia.toNatClampNeg) 3).toInt = 1) from (Or.inr ⟨ps_16, ps_17, ps_18⟩)), (show OTH zT zI zI_15 (zR (zR zx 5) zia.toNatClampNeg) from (fun a9 ta9 ha9 => ⟨((ps_19 a9 ta9 ha9).1.trans rfl), ((ps_19 a9 ta9 ha9).2.1.trans rfl), ((ps_19 a9 ta9 ha9).2.2.trans rfl)⟩)), (show 0 ≤ zic.toInt ∨ zI_15 = zI from (Or.inl (by omega))), (show zic.toInt < 0 ∨ FZW zT zI zI_15 (zR (zR (zR zx 5) zia.toNatClampNeg) 0) from (Or.inr ps_20))⟩, ⟨by rw [ht]; exact hP, va_K.moved hW.alike hK, hD⟩⟩, hS.F ht⟩) hS.2.2 dX10_sheet_35
      · have f_9 : ¬ (zic.toInt ≥ 0) := ic_nge (rfl) (by decide) c_8
        refine lv_bipush (v := (-14)) hx hb dX10_sheet_20 (by decide) ?_
        subst hQ
        have qc_m14 : (-14 : Int32).toInt = -14 := by decide
        exact W.iret (v := (-14 : Int32)) hx hb hr (fun t ht hW => ⟨⟨(-14 : Int32), zI, rfl, ⟨h_zI, (show (-14) ≤ (-14 : Int32).toInt ∧ (-14 : Int32).toInt ≤ 24 from by omega), (show JX zR zI zx from hj), (show (-14 : Int32).toInt = SHv zia.toInt zib.toInt zic.toInt from (by have qv9 := (show ((-14) : Int32).toInt = -14 from by decide); unfold SHv; split <;> first | omega | (split <;> first | omega | (split <;> omega)))), (show (-14 : Int32).toInt < 0 ∨ ((zI (zR (zR zx 5) zia.toNatClampNeg) 1).toInt = zib.toInt ∧ (zI (zR (zR zx 5) zia.toNatClampNeg) 2).toInt = zic.toInt ∧ (zI (zR (zR zx 5) zia.toNatClampNeg) 3).toInt = 1) from (Or.inl (by decide))), (show OTH zT zI zI (zR (zR zx 5) zia.toNatClampNeg) from (fun _ _ _ => ⟨rfl, rfl, rfl⟩)), (show 0 ≤ (-14 : Int32).toInt ∨ zI = zI from (Or.inr rfl)), (show (-14 : Int32).toInt < 0 ∨ FZW zT zI zI (zR (zR (zR zx 5) zia.toNatClampNeg) 0) from (Or.inl (by decide)))⟩, ⟨by rw [ht]; exact hP, va_K.moved hW.alike hK, hD⟩⟩, hS.F ht⟩) hS.2.2 dX10_sheet_22
    · have f_7 : ¬ (zic.toInt ≤ (24 : Int)) := ic_nle (rfl) (show (24 : Int32).toInt = 24 by decide) c_6
      refine lv_iconst (v := (-1)) hx hb dX10_sheet_14 (by decide) ?_
      subst hQ
      have qc_m1 : (-1 : Int32).toInt = -1 := by decide
      exact W.iret (v := (-1 : Int32)) hx hb hr (fun t ht hW => ⟨⟨(-1 : Int32), zI, rfl, ⟨h_zI, (show (-14) ≤ (-1 : Int32).toInt ∧ (-1 : Int32).toInt ≤ 24 from by omega), (show JX zR zI zx from hj), (show (-1 : Int32).toInt = SHv zia.toInt zib.toInt zic.toInt from (by have qv9 := (show ((-1) : Int32).toInt = -1 from by decide); unfold SHv; split <;> first | omega | (split <;> first | omega | (split <;> omega)))), (show (-1 : Int32).toInt < 0 ∨ ((zI (zR (zR zx 5) zia.toNatClampNeg) 1).toInt = zib.toInt ∧ (zI (zR (zR zx 5) zia.toNatClampNeg) 2).toInt = zic.toInt ∧ (zI (zR (zR zx 5) zia.toNatClampNeg) 3).toInt = 1) from (Or.inl (by decide))), (show OTH zT zI zI (zR (zR zx 5) zia.toNatClampNeg) from (fun _ _ _ => ⟨rfl, rfl, rfl⟩)), (show 0 ≤ (-1 : Int32).toInt ∨ zI = zI from (Or.inr rfl)), (show (-1 : Int32).toInt < 0 ∨ FZW zT zI zI (zR (zR (zR zx 5) zia.toNatClampNeg) 0) from (Or.inl (by decide)))⟩, ⟨by rw [ht]; exact hP, va_K.moved hW.alike hK, hD⟩⟩, hS.F ht⟩) hS.2.2 dX10_sheet_15
set_option maxHeartbeats 8000000 in
set_option maxRecDepth 100000 in
theorem t_X10_drop (l : Launch) (dC : Nat → ClassId) (dI : Nat → Nat → Nat) (cy : Nat → ClassId) (sz : Nat) (zL : List Nat) (zT : Nat → Nat) (zR : Nat → Nat → Nat) (zI : Nat → Nat → Int32) (zJ : Nat → Nat → Int64) (zx : Nat) (zia : Int32) (hs : SKP zL zT zR) (hw : WT zT zR zI) (t_zx : zT zx = 11) (hj : JX zR zI zx) : Met l yX10_drop wsX10_drop ({ frames := 1, cells := 0, slots := 0, locals := 22 } : Room) (va_Pc [.ref zx, .int zia] (PRE dC dI cy (WL cy zL zT zR zI zJ) sz)) (va_Qi (fun (r : Int32) (u : (Nat → Nat → Int32)) => (WM [803] AL zT zR zI u) ∧ ((-11) ≤ r.toInt ∧ r.toInt ≤ 24) ∧ (JX zR u zx) ∧ (r.toInt = DRv zia.toInt (zI (zR (zR zx 5) zia.toNatClampNeg) 3).toInt (zI (zR (zR zx 5) zia.toNatClampNeg) 2).toInt) ∧ (r.toInt = -1 ∨ (u (zR (zR zx 5) zia.toNatClampNeg) 3).toInt = 0) ∧ (u (zR (zR zx 5) zia.toNatClampNeg) 1 = zI (zR (zR zx 5) zia.toNatClampNeg) 1 ∧ u (zR (zR zx 5) zia.toNatClampNeg) 2 = zI (zR (zR zx 5) zia.toNatClampNeg) 2) ∧ (OTH zT zI u (zR (zR zx 5) zia.toNatClampNeg)) ∧ (¬ (r.toInt = -1) ∨ u = zI)) (fun u t => POST dC dI cy (va_A (WL cy zL zT zR zI zJ) sz) (WL cy zL zT zR u zJ) t) (va_A (WL cy zL zT zR zI zJ) sz)) 0 0 (va_A (WL cy zL zT zR zI zJ) sz) := by
  refine Met.ofW (cc := cX10_drop) (maxL := 3) (ret := (some .int)) (by decide) rfl ?_
  intro p e s m args below meth c s₁ B hml hv
  obtain ⟨rfl, hsz, hP, hK, hD0, hN⟩ := hv
  have hx := B.exec
  have hb := B.bytes
  have hr := B.returns
  have hts := atoms_spec (ws := wsX10_drop) B.pre
  have hown : s.vm.findClass RX10 = some m.cls := findClass_of_methodNamed B.named
  have hlocks := B.notSynchronized
  subst hsz
  have hD := hD0.self (sz := s.heap.size)
  generalize hAe : va_A (WL cy zL zT zR zI zJ) s.heap.size = A at hD ⊢
  have hA : ∀ q : Nat, s.heap.size ≤ q → A q := fun q h => by rw [← hAe]; exact Or.inr h
  have hS : va_S A s.heap s.heap [] := va_S.rf
  have hP : va_P (dC, dI) vwCl (WL cy zL zT zR zI zJ) s.heap := hP
  have hl := lv_entry ([.ref zx, .int zia] : List Value) (n := 3) (Nat.le_of_ble_eq_true rfl)
  rw [lg_entry_eq]
  generalize (lg_sl ([.ref zx, .int zia] : List Value) ++ List.replicate (3 - (lg_sl ([.ref zx, .int zia] : List Value)).length) Slot.unset).toArray = ls at hl ⊢
  have hl : lv_has ls 3 [(0, .ref zx), (1, .int zia)] := hl
  refine w_q (fun Q hQ => ?_)
  have h_zI : WM [803] AL zT zR zI zI := WM.rf hw
  refine lv_iload_n hx hb dX10_drop_0 rfl (lv_at hl 1 rfl) ?_
  refine lv_iconst (v := 0) hx hb dX10_drop_1 (by decide) ?_
  refine lv_iconst (v := 3) hx hb dX10_drop_2 (by decide) ?_
  refine hj0_i (ws := (WL cy zL zT zR zI zJ)) (va_runS (As := [.int zia, .int 0, .int 3]) (rest := []) ⟨hx, hb, hml, hown, hts⟩ (c_X10_isWithin l dC dI cy s.heap.size zia 0 3 0 3 (by first | rfl | decide | omega | exact Int32.toInt_toInt64 _) (by first | rfl | decide | omega | exact Int32.toInt_toInt64 _)) (va_cwS 3 hts gX10_drop_X10_isWithin rfl rfl rfl (by decide +kernel) ⟨(Nat.le_of_ble_eq_true rfl), (Nat.le_of_ble_eq_true rfl)⟩) (PRE.s (hP.sub [] rfl) hK (hD.sub [] (by decide) rfl) hN) rfl rfl hl.1 rfl (lv_room (Nat.le_of_ble_eq_true rfl)) dX10_drop_3 ⟨(Nat.le_of_ble_eq_true rfl), (Nat.le_of_ble_eq_true rfl)⟩) hP hD hS hA (fun zi_1 u_3 H locs hw_2 hP hD hS => ?_)
  have hw_2 : zi_1 = if 0 ≤ zia.toInt ∧ zia.toInt ≤ 3 then 1 else 0 := hw_2
  have b_zi_1 : 0 ≤ zi_1.toInt ∧ zi_1.toInt ≤ 1 := bz_b hw_2
  refine lv_if_ne (tgt := 11) hx hb dX10_drop_6 (by decide) (fun c_4 => ?_) (fun c_4 => ?_)
  · have f_5 : 0 ≤ zia.toInt ∧ zia.toInt ≤ 3 := bz_1 hw_2 c_4
    refine lv_aload_n hx hb dX10_drop_11 rfl (lv_at hl 0 rfl) ?_
    refine ht_getr (C := RX10) (T := TX10) (N := 10) hx hb hts (by decide +kernel) hown hK hP hs t_zx (by decide) rfl rfl 5 (by decide) (hts (.fieldLink RX10 43 "DripStone" "sheets" "[LDripStone$Sheet;") (by decide +kernel)) (fun _ h9 => h9) rfl dX10_drop_12 ?_
    have t_6 : zT (zR zx 5) = 63 := sk_f hs t_zx (by decide) rfl (by decide)
    refine lv_iload_n hx hb dX10_drop_15 rfl (lv_at hl 1 rfl) ?_
    refine ht_aald (n := 4) (q := 5) hx hb hK hP hs t_6 (by decide) rfl rfl ⟨by omega, by omega⟩ dX10_drop_16 ?_
    have t_7 : zT (zR (zR zx 5) zia.toNatClampNeg) = 8 := sk_a (n := 4) hs t_6 rfl rfl (by decide) (cl_lt (by omega) (by omega))
    refine lv_astore_n (lv' := [(2, .ref (zR (zR zx 5) zia.toNatClampNeg)), (0, .ref zx), (1, .int zia)]) hx hb dX10_drop_17 rfl hl (by decide) rfl (fun ls hl => ?_)
    refine lv_aload_n hx hb dX10_drop_18 rfl (lv_at hl 0 rfl) ?_
    refine ht_geti (C := RX7) (T := TX7) (N := 4) hx hb hts (by decide +kernel) hown hK hP hs t_7 (by decide) rfl rfl 3 (by decide) (hts (.fieldLink RX10 373 "DripStone$Sheet" "there" "Z") (by decide +kernel)) (fun _ h9 => h9) rfl dX10_drop_19 ?_
    refine lv_topi (fun zi_8 ezi_8 => ?_)
    have tzi_8 : 0 ≤ zi_8.toInt ∧ zi_8.toInt ≤ 1 := by rw [ezi_8]; exact h_zI.at t_7 _ rfl
    refine lv_if_ne (tgt := 28) hx hb dX10_drop_22 (by decide) (fun c_9 => ?_) (fun c_9 => ?_)
    · have f_10 : zi_8.toInt ≠ 0 := ic_ne (rfl) (by decide) c_9
      refine lv_aload_n hx hb dX10_drop_28 rfl (lv_at hl 0 rfl) ?_
      refine lv_iconst (v := 0) hx hb dX10_drop_29 (by decide) ?_
      refine ht_puti (v := (0 : Int32)) (ty := .boolean) (C := RX7) (T := TX7) (N := 4) hx hb hts (by decide +kernel) tyX7 tyX7_ok nmX7 hown hK hP hD hS hs t_7 (by decide) rfl rfl 3 (by decide) (hts (.fieldLink RX10 373 "DripStone$Sheet" "there" "Z") (by decide +kernel)) (fun _ h9 => h9) rfl (by decide +kernel) rfl rfl rfl dX10_drop_30 (fun H locs hP hD hS => ?_)
      have h_zI_11 : WM [803] AL zT zR zI (u2 zI (zR (zR zx 5) zia.toNatClampNeg) 3 (0 : Int32)) := h_zI.put hs t_7 rfl (by decide) (by decide) (fun h => absurd h (by decide)) (by decide) trivial
      generalize uzI_11 : u2 zI (zR (zR zx 5) zia.toNatClampNeg) 3 (0 : Int32) = zI_11 at hP hD h_zI_11
      refine lv_aload_n hx hb dX10_drop_33 rfl (lv_at hl 0 rfl) ?_
      refine ht_geti (C := RX7) (T := TX7) (N := 4) hx hb hts (by decide +kernel) hown hK hP hs t_7 (by decide) rfl rfl 2 (by decide) (hts (.fieldLink RX10 376 "DripStone$Sheet" "size" "I") (by decide +kernel)) (fun _ h9 => h9) rfl dX10_drop_34 ?_
      refine lv_topi (fun zi_12 ezi_12 => ?_)
      have tzi_12 : 0 ≤ zi_12.toInt ∧ zi_12.toInt ≤ 24 := by rw [ezi_12]; exact h_zI_11.at t_7 _ rfl
      subst hQ
      have d3_13 : (zI (zR (zR zx 5) zia.toNatClampNeg) 3).toInt = zi_8.toInt := congrArg Int32.toInt ezi_8.symm
      have d2_14 : (zI (zR (zR zx 5) zia.toNatClampNeg) 2).toInt = zi_12.toInt := congrArg Int32.toInt ((show zI_11 (zR (zR zx 5) zia.toNatClampNeg) 2 = zI (zR (zR zx 5) zia.toNatClampNeg) 2 from by rw [← uzI_11]; exact u2_k (by decide)).symm.trans ezi_12.symm)
      exact W.iret (v := zi_12) hx hb hr (fun t ht hW => ⟨⟨zi_12, zI_11, rfl, ⟨h_zI_11, (show (-11) ≤ zi_12.toInt ∧ zi_12.toInt ≤ 24 from by omega), (show JX zR zI_11 zx from (JX.sm hj hs t_zx h_zI_11.2 (by decide) (by decide))), (show zi_12.toInt = DRv zia.toInt (zI (zR (zR zx 5) zia.toNatClampNeg) 3).toInt (zI (zR (zR zx 5) zia.toNatClampNeg) 2).toInt from (by unfold DRv; split <;> first | omega | (split <;> first | omega | (split <;> omega)))), (show zi_12.toInt = -1 ∨ (zI_11 (zR (zR zx 5) zia.toNatClampNeg) 3).toInt = 0 from (Or.inr (by rw [show zI_11 (zR (zR zx 5) zia.toNatClampNeg) 3 = (0 : Int32) from (by rw [← uzI_11]; exact u2_s)]; decide))), (show zI_11 (zR (zR zx 5) zia.toNatClampNeg) 1 = zI (zR (zR zx 5) zia.toNatClampNeg) 1 ∧ zI_11 (zR (zR zx 5) zia.toNatClampNeg) 2 = zI (zR (zR zx 5) zia.toNatClampNeg) 2 from ⟨(by rw [← uzI_11]; exact u2_k (by decide)), (by rw [← uzI_11]; exact u2_k (by decide))⟩), (show OTH zT zI zI_11 (zR (zR zx 5) zia.toNatClampNeg) from (fun a9 ta9 ha9 => ⟨((show zI_11 a9 1 = zI a9 1 from by rw [← uzI_11]; exact u2_n ha9).trans rfl), ((show zI_11 a9 2 = zI a9 2 from by rw [← uzI_11]; exact u2_n ha9).trans rfl), ((show zI_11 a9 3 = zI a9 3 from by rw [← uzI_11]; exact u2_n ha9).trans rfl)⟩)), (show ¬ (zi_12.toInt = -1) ∨ zI_11 = zI from (Or.inl (by omega)))⟩, ⟨by rw [ht]; exact hP, va_K.moved hW.alike hK, hD⟩⟩, hS.F ht⟩) hS.2.2 dX10_drop_37
    · have f_10 : ¬ (zi_8.toInt ≠ 0) := ic_nne (rfl) (by decide) c_9
      refine lv_bipush (v := (-11)) hx hb dX10_drop_25 (by decide) ?_
      subst hQ
      have qc_m11 : (-11 : Int32).toInt = -11 := by decide
      have d3_15 : (zI (zR (zR zx 5) zia.toNatClampNeg) 3).toInt = zi_8.toInt := congrArg Int32.toInt ezi_8.symm
      exact W.iret (v := (-11 : Int32)) hx hb hr (fun t ht hW => ⟨⟨(-11 : Int32), zI, rfl, ⟨h_zI, (show (-11) ≤ (-11 : Int32).toInt ∧ (-11 : Int32).toInt ≤ 24 from by omega), (show JX zR zI zx from hj), (show (-11 : Int32).toInt = DRv zia.toInt (zI (zR (zR zx 5) zia.toNatClampNeg) 3).toInt (zI (zR (zR zx 5) zia.toNatClampNeg) 2).toInt from (by have qv9 := (show ((-11) : Int32).toInt = -11 from by decide); unfold DRv; split <;> first | omega | (split <;> first | omega | (split <;> omega)))), (show (-11 : Int32).toInt = -1 ∨ (zI (zR (zR zx 5) zia.toNatClampNeg) 3).toInt = 0 from (Or.inr (by rw [show zI (zR (zR zx 5) zia.toNatClampNeg) 3 = zi_8 from ezi_8.symm]; omega))), (show zI (zR (zR zx 5) zia.toNatClampNeg) 1 = zI (zR (zR zx 5) zia.toNatClampNeg) 1 ∧ zI (zR (zR zx 5) zia.toNatClampNeg) 2 = zI (zR (zR zx 5) zia.toNatClampNeg) 2 from ⟨rfl, rfl⟩), (show OTH zT zI zI (zR (zR zx 5) zia.toNatClampNeg) from (fun _ _ _ => ⟨rfl, rfl, rfl⟩)), (show ¬ ((-11 : Int32).toInt = -1) ∨ zI = zI from (Or.inr rfl))⟩, ⟨by rw [ht]; exact hP, va_K.moved hW.alike hK, hD⟩⟩, hS.F ht⟩) hS.2.2 dX10_drop_27
  · have f_5 : ¬ (0 ≤ zia.toInt ∧ zia.toInt ≤ 3) := bz_0 hw_2 c_4
    refine lv_iconst (v := (-1)) hx hb dX10_drop_9 (by decide) ?_
    subst hQ
    have qc_m1 : (-1 : Int32).toInt = -1 := by decide
    exact W.iret (v := (-1 : Int32)) hx hb hr (fun t ht hW => ⟨⟨(-1 : Int32), zI, rfl, ⟨h_zI, (show (-11) ≤ (-1 : Int32).toInt ∧ (-1 : Int32).toInt ≤ 24 from by omega), (show JX zR zI zx from hj), (show (-1 : Int32).toInt = DRv zia.toInt (zI (zR (zR zx 5) zia.toNatClampNeg) 3).toInt (zI (zR (zR zx 5) zia.toNatClampNeg) 2).toInt from (by have qv9 := (show ((-1) : Int32).toInt = -1 from by decide); unfold DRv; split <;> first | omega | (split <;> first | omega | (split <;> omega)))), (show (-1 : Int32).toInt = -1 ∨ (zI (zR (zR zx 5) zia.toNatClampNeg) 3).toInt = 0 from (Or.inl (by decide))), (show zI (zR (zR zx 5) zia.toNatClampNeg) 1 = zI (zR (zR zx 5) zia.toNatClampNeg) 1 ∧ zI (zR (zR zx 5) zia.toNatClampNeg) 2 = zI (zR (zR zx 5) zia.toNatClampNeg) 2 from ⟨rfl, rfl⟩), (show OTH zT zI zI (zR (zR zx 5) zia.toNatClampNeg) from (fun _ _ _ => ⟨rfl, rfl, rfl⟩)), (show ¬ ((-1 : Int32).toInt = -1) ∨ zI = zI from (Or.inr rfl))⟩, ⟨by rw [ht]; exact hP, va_K.moved hW.alike hK, hD⟩⟩, hS.F ht⟩) hS.2.2 dX10_drop_10
set_option maxHeartbeats 8000000 in
set_option maxRecDepth 100000 in
theorem t_X10_item (l : Launch) (dC : Nat → ClassId) (dI : Nat → Nat → Nat) (cy : Nat → ClassId) (sz : Nat) (zL : List Nat) (zT : Nat → Nat) (zR : Nat → Nat → Nat) (zI : Nat → Nat → Int32) (zJ : Nat → Nat → Int64) (zx : Nat) (zia : Int32) (zib : Int32) (zic : Int32) (zid : Int32) (hs : SKP zL zT zR) (hw : WT zT zR zI) (t_zx : zT zx = 11) (hj : JX zR zI zx) : Met l yX10_item wsX10_item ({ frames := 2, cells := 0, slots := 0, locals := 43 } : Room) (va_Pc [.ref zx, .int zia, .int zib, .int zic, .int zid] (PRE dC dI cy (WL cy zL zT zR zI zJ) sz)) (va_Qi (fun (r : Int32) (u : (Nat → Nat → Int32)) => (WM [3600] AL zT zR zI u) ∧ ((-13) ≤ r.toInt ∧ r.toInt ≤ 1) ∧ (JX zR u zx) ∧ (r.toInt = ITv zia.toInt zib.toInt (RFS (zI (zR (zR zx 5) zia.toNatClampNeg) 3).toInt (zI (zR (zR zx 5) zia.toNatClampNeg) 1).toInt (zI (zR (zR zx 5) zia.toNatClampNeg) 2).toInt zib.toInt zic.toInt (1 : Int32).toInt)) ∧ (r.toInt = 1 → WRT zT zI u (zR (zR (zR zx 5) zia.toNatClampNeg) 0) zic.toNatClampNeg (NAR (zI (zR (zR zx 5) zia.toNatClampNeg) 1).toInt zid)) ∧ (¬ r.toInt = 1 → u = zI)) (fun u t => POST dC dI cy (va_A (WL cy zL zT zR zI zJ) sz) (WL cy zL zT zR u zJ) t) (va_A (WL cy zL zT zR zI zJ) sz)) 0 0 (va_A (WL cy zL zT zR zI zJ) sz) := by
  refine Met.ofW (cc := cX10_item) (maxL := 6) (ret := (some .int)) (by decide) rfl ?_
  intro p e s m args below meth c s₁ B hml hv
  obtain ⟨rfl, hsz, hP, hK, hD0, hN⟩ := hv
  have hx := B.exec
  have hb := B.bytes
  have hr := B.returns
  have hts := atoms_spec (ws := wsX10_item) B.pre
  have hown : s.vm.findClass RX10 = some m.cls := findClass_of_methodNamed B.named
  have hlocks := B.notSynchronized
  subst hsz
  have hD := hD0.self (sz := s.heap.size)
  generalize hAe : va_A (WL cy zL zT zR zI zJ) s.heap.size = A at hD ⊢
  have hA : ∀ q : Nat, s.heap.size ≤ q → A q := fun q h => by rw [← hAe]; exact Or.inr h
  have hS : va_S A s.heap s.heap [] := va_S.rf
  have hP : va_P (dC, dI) vwCl (WL cy zL zT zR zI zJ) s.heap := hP
  have hl := lv_entry ([.ref zx, .int zia, .int zib, .int zic, .int zid] : List Value) (n := 6) (Nat.le_of_ble_eq_true rfl)
  rw [lg_entry_eq]
  generalize (lg_sl ([.ref zx, .int zia, .int zib, .int zic, .int zid] : List Value) ++ List.replicate (6 - (lg_sl ([.ref zx, .int zia, .int zib, .int zic, .int zid] : List Value)).length) Slot.unset).toArray = ls at hl ⊢
  have hl : lv_has ls 6 [(0, .ref zx), (1, .int zia), (2, .int zib), (3, .int zic), (4, .int zid)] := hl
  refine w_q (fun Q hQ => ?_)
  have h_zI : WM [3600] AL zT zR zI zI := WM.rf hw
  refine lv_iload_n hx hb dX10_item_0 rfl (lv_at hl 1 rfl) ?_
  refine lv_iload_n hx hb dX10_item_1 rfl (lv_at hl 2 rfl) ?_
  refine hj0_i (ws := (WL cy zL zT zR zI zJ)) (va_runS (As := [.int zia, .int zib]) (rest := []) ⟨hx, hb, hml, hown, hts⟩ (c_X10_isRow l dC dI cy s.heap.size zia zib) (va_cwS 2 hts gX10_item_X10_isRow rfl rfl rfl (by decide +kernel) ⟨(Nat.le_of_ble_eq_true rfl), (Nat.le_of_ble_eq_true rfl)⟩) (PRE.s (hP.sub [] rfl) hK (hD.sub [] (by decide) rfl) hN) rfl rfl hl.1 rfl (lv_room (Nat.le_of_ble_eq_true rfl)) dX10_item_2 ⟨(Nat.le_of_ble_eq_true rfl), (Nat.le_of_ble_eq_true rfl)⟩) hP hD hS hA (fun zi_1 u_3 H locs hw_2 hP hD hS => ?_)
  have hw_2 : zi_1 = if (0 ≤ zia.toInt ∧ zia.toInt ≤ 3) ∧ 0 ≤ zib.toInt ∧ zib.toInt ≤ 2 then 1 else 0 := hw_2
  have b_zi_1 : 0 ≤ zi_1.toInt ∧ zi_1.toInt ≤ 1 := bz_b hw_2
  refine lv_if_ne (tgt := 10) hx hb dX10_item_5 (by decide) (fun c_4 => ?_) (fun c_4 => ?_)
  · have f_5 : (0 ≤ zia.toInt ∧ zia.toInt ≤ 3) ∧ 0 ≤ zib.toInt ∧ zib.toInt ≤ 2 := bz_1 hw_2 c_4
    refine lv_aload_n hx hb dX10_item_10 rfl (lv_at hl 0 rfl) ?_
    refine ht_getr (C := RX10) (T := TX10) (N := 10) hx hb hts (by decide +kernel) hown hK hP hs t_zx (by decide) rfl rfl 5 (by decide) (hts (.fieldLink RX10 43 "DripStone" "sheets" "[LDripStone$Sheet;") (by decide +kernel)) (fun _ h9 => h9) rfl dX10_item_11 ?_
    have t_6 : zT (zR zx 5) = 63 := sk_f hs t_zx (by decide) rfl (by decide)
    refine lv_iload_n hx hb dX10_item_14 rfl (lv_at hl 1 rfl) ?_
    refine ht_aald (n := 4) (q := 5) hx hb hK hP hs t_6 (by decide) rfl rfl ⟨by omega, by omega⟩ dX10_item_15 ?_
    have t_7 : zT (zR (zR zx 5) zia.toNatClampNeg) = 8 := sk_a (n := 4) hs t_6 rfl rfl (by decide) (cl_lt (by omega) (by omega))
    refine lv_iload_n hx hb dX10_item_16 rfl (lv_at hl 2 rfl) ?_
    refine lv_iload_n hx hb dX10_item_17 rfl (lv_at hl 3 rfl) ?_
    refine lv_iconst (v := 1) hx hb dX10_item_18 (by decide) ?_
    have qc_1 : (1 : Int32).toInt = 1 := by decide
    refine hj_i (ws := (WL cy zL zT zR zI zJ)) (w1 := fun (u : Unit) => (WL cy zL zT zR zI zJ)) (va_runV (As := [.int zib, .int zic, .int 1]) (rest := []) ⟨hx, hb, hml, hown, hts⟩ (t_X7_refusal l dC dI cy H.size zL zT zR zI zJ (zR (zR zx 5) zia.toNatClampNeg) zib zic (1 : Int32) hs h_zI.1 t_7 (by decide)) (cwV 3 hts gX10_item_X7_refusal rfl rfl rfl (by decide +kernel) ⟨(Nat.le_of_ble_eq_true rfl), (Nat.le_of_ble_eq_true rfl)⟩) (PRE.v hP hK hD hN (ht_recv hK hP hs t_7 (by decide) rfl rfl)) rfl rfl hl.1 rfl (lv_room (Nat.le_of_ble_eq_true rfl)) dX10_item_19 ⟨(Nat.le_of_ble_eq_true rfl), (Nat.le_of_ble_eq_true rfl)⟩) hP hD hS hA (fun zi_8 u_10 H locs hw_9 hP hD hS => ?_)
    obtain ⟨b_zi_8, ps_11, ps_12, ps_13⟩ : ((-13) ≤ zi_8.toInt ∧ zi_8.toInt ≤ 0) ∧ (¬ (zi_8.toInt = 0) ∨ (0 ≤ zic.toInt ∧ zic.toInt ≤ 24)) ∧ (¬ (zi_8.toInt = 0) ∨ zic.toInt + (1 : Int32).toInt ≤ 24) ∧ (zi_8.toInt = RFS (zI (zR (zR zx 5) zia.toNatClampNeg) 3).toInt (zI (zR (zR zx 5) zia.toNatClampNeg) 1).toInt (zI (zR (zR zx 5) zia.toNatClampNeg) 2).toInt zib.toInt zic.toInt (1 : Int32).toInt) := hw_9
    obtain ⟨zi_14, ezi_14⟩ : ∃ y : Int32, y = zI (zR (zR zx 5) zia.toNatClampNeg) 3 := ⟨_, rfl⟩
    have tzi_14 : 0 ≤ zi_14.toInt ∧ zi_14.toInt ≤ 1 := by rw [ezi_14]; exact h_zI.at t_7 _ rfl
    obtain ⟨zi_15, ezi_15⟩ : ∃ y : Int32, y = zI (zR (zR zx 5) zia.toNatClampNeg) 1 := ⟨_, rfl⟩
    have tzi_15 : 0 ≤ zi_15.toInt ∧ zi_15.toInt ≤ 2 := by rw [ezi_15]; exact h_zI.at t_7 _ rfl
    obtain ⟨zi_16, ezi_16⟩ : ∃ y : Int32, y = zI (zR (zR zx 5) zia.toNatClampNeg) 2 := ⟨_, rfl⟩
    have tzi_16 : 0 ≤ zi_16.toInt ∧ zi_16.toInt ≤ 24 := by rw [ezi_16]; exact h_zI.at t_7 _ rfl
    have lk_17 : (zI (zR (zR zx 5) zia.toNatClampNeg) 3).toInt = zi_14.toInt := congrArg Int32.toInt ezi_14.symm
    have lk_18 : (zI (zR (zR zx 5) zia.toNatClampNeg) 1).toInt = zi_15.toInt := congrArg Int32.toInt ezi_15.symm
    have lk_19 : (zI (zR (zR zx 5) zia.toNatClampNeg) 2).toInt = zi_16.toInt := congrArg Int32.toInt ezi_16.symm
    refine lv_istore (lv' := [(5, .int zi_8), (0, .ref zx), (1, .int zia), (2, .int zib), (3, .int zic), (4, .int zid)]) hx hb dX10_item_22 hl (by decide) rfl (fun ls hl => ?_)
    refine lv_iload hx hb dX10_item_24 (lv_at hl 0 rfl) ?_
    refine lv_if_eq (tgt := 32) hx hb dX10_item_26 (by decide) (fun c_20 => ?_) (fun c_20 => ?_)
    · have f_21 : zi_8.toInt = 0 := ic_eq (rfl) (by decide) c_20
      have b9_zic : 0 ≤ zic.toInt ∧ zic.toInt ≤ 24 := by omega
      refine lv_aload_n hx hb dX10_item_32 rfl (lv_at hl 1 rfl) ?_
      refine ht_getr (C := RX10) (T := TX10) (N := 10) hx hb hts (by decide +kernel) hown hK hP hs t_zx (by decide) rfl rfl 5 (by decide) (hts (.fieldLink RX10 43 "DripStone" "sheets" "[LDripStone$Sheet;") (by decide +kernel)) (fun _ h9 => h9) rfl dX10_item_33 ?_
      refine lv_iload_n hx hb dX10_item_36 rfl (lv_at hl 2 rfl) ?_
      refine ht_aald (n := 4) (q := 5) hx hb hK hP hs t_6 (by decide) rfl rfl ⟨by omega, by omega⟩ dX10_item_37 ?_
      refine lv_iload_n hx hb dX10_item_38 rfl (lv_at hl 4 rfl) ?_
      refine lv_iload hx hb dX10_item_39 (lv_at hl 5 rfl) ?_
      refine hj_v (ws := (WL cy zL zT zR zI zJ)) (w1 := fun (u : (Nat → Nat → Int32)) => (WL cy zL zT zR u zJ)) (va_runV (As := [.int zic, .int zid]) (rest := []) ⟨hx, hb, hml, hown, hts⟩ (t_X7_write l dC dI cy H.size zL zT zR zI zJ (zR (zR zx 5) zia.toNatClampNeg) zic zid hs h_zI.1 t_7 (by omega)) (cwV 2 hts gX10_item_X7_write rfl rfl rfl (by decide +kernel) ⟨(Nat.le_of_ble_eq_true rfl), (Nat.le_of_ble_eq_true rfl)⟩) (PRE.v hP hK hD hN (ht_recv hK hP hs t_7 (by decide) rfl rfl)) rfl rfl hl.1 rfl (lv_room (Nat.le_of_ble_eq_true rfl)) dX10_item_41 ⟨(Nat.le_of_ble_eq_true rfl), (Nat.le_of_ble_eq_true rfl)⟩) hP hD hS hA (fun zI_25 H locs hw_23 hP hD hS => ?_)
      obtain ⟨k_zI_25, ps_26⟩ : (WM [3600] AL zT zR zI zI_25) ∧ (WRT zT zI zI_25 (zR (zR (zR zx 5) zia.toNatClampNeg) 0) zic.toNatClampNeg (NAR (zI (zR (zR zx 5) zia.toNatClampNeg) 1).toInt zid)) := hw_23
      have h_zI_25 : WM [3600] AL zT zR zI zI_25 := h_zI.tr k_zI_25 (by decide) (fun _ _ => trivial)
      refine lv_iconst (v := 1) hx hb dX10_item_44 (by decide) ?_
      subst hQ
      exact W.iret (v := (1 : Int32)) hx hb hr (fun t ht hW => ⟨⟨(1 : Int32), zI_25, rfl, ⟨h_zI_25, (show (-13) ≤ (1 : Int32).toInt ∧ (1 : Int32).toInt ≤ 1 from by omega), (show JX zR zI_25 zx from (JX.sm hj hs t_zx h_zI_25.2 (by decide) (by decide))), (show (1 : Int32).toInt = ITv zia.toInt zib.toInt (RFS (zI (zR (zR zx 5) zia.toNatClampNeg) 3).toInt (zI (zR (zR zx 5) zia.toNatClampNeg) 1).toInt (zI (zR (zR zx 5) zia.toNatClampNeg) 2).toInt zib.toInt zic.toInt (1 : Int32).toInt) from (by have qv9 := (show (1 : Int32).toInt = 1 from by decide); unfold ITv; split <;> first | omega | (split <;> first | omega | (split <;> omega)))), (show (1 : Int32).toInt = 1 → WRT zT zI zI_25 (zR (zR (zR zx 5) zia.toNatClampNeg) 0) zic.toNatClampNeg (NAR (zI (zR (zR zx 5) zia.toNatClampNeg) 1).toInt zid) from (fun _ => ps_26)), (show ¬ (1 : Int32).toInt = 1 → zI_25 = zI from (fun h9 => absurd (by decide) h9))⟩, ⟨by rw [ht]; exact hP, va_K.moved hW.alike hK, hD⟩⟩, hS.F ht⟩) hS.2.2 dX10_item_45
    · have f_21 : ¬ (zi_8.toInt = 0) := ic_neq (rfl) (by decide) c_20
      refine lv_iload hx hb dX10_item_29 (lv_at hl 0 rfl) ?_
      subst hQ
      exact W.iret (v := zi_8) hx hb hr (fun t ht hW => ⟨⟨zi_8, zI, rfl, ⟨h_zI, (show (-13) ≤ zi_8.toInt ∧ zi_8.toInt ≤ 1 from by omega), (show JX zR zI zx from hj), (show zi_8.toInt = ITv zia.toInt zib.toInt (RFS (zI (zR (zR zx 5) zia.toNatClampNeg) 3).toInt (zI (zR (zR zx 5) zia.toNatClampNeg) 1).toInt (zI (zR (zR zx 5) zia.toNatClampNeg) 2).toInt zib.toInt zic.toInt (1 : Int32).toInt) from (by unfold ITv; split <;> first | omega | (split <;> first | omega | (split <;> omega)))), (show zi_8.toInt = 1 → WRT zT zI zI (zR (zR (zR zx 5) zia.toNatClampNeg) 0) zic.toNatClampNeg (NAR (zI (zR (zR zx 5) zia.toNatClampNeg) 1).toInt zid) from (fun h9 => absurd h9 (by omega))), (show ¬ zi_8.toInt = 1 → zI = zI from (fun _ => rfl))⟩, ⟨by rw [ht]; exact hP, va_K.moved hW.alike hK, hD⟩⟩, hS.F ht⟩) hS.2.2 dX10_item_31
  · have f_5 : ¬ ((0 ≤ zia.toInt ∧ zia.toInt ≤ 3) ∧ 0 ≤ zib.toInt ∧ zib.toInt ≤ 2) := bz_0 hw_2 c_4
    refine lv_iconst (v := (-1)) hx hb dX10_item_8 (by decide) ?_
    subst hQ
    have qc_m1 : (-1 : Int32).toInt = -1 := by decide
    exact W.iret (v := (-1 : Int32)) hx hb hr (fun t ht hW => ⟨⟨(-1 : Int32), zI, rfl, ⟨h_zI, (show (-13) ≤ (-1 : Int32).toInt ∧ (-1 : Int32).toInt ≤ 1 from by omega), (show JX zR zI zx from hj), (show (-1 : Int32).toInt = ITv zia.toInt zib.toInt (RFS (zI (zR (zR zx 5) zia.toNatClampNeg) 3).toInt (zI (zR (zR zx 5) zia.toNatClampNeg) 1).toInt (zI (zR (zR zx 5) zia.toNatClampNeg) 2).toInt zib.toInt zic.toInt (1 : Int32).toInt) from (by have qv9 := (show ((-1) : Int32).toInt = -1 from by decide); unfold ITv; split <;> first | omega | (split <;> first | omega | (split <;> omega)))), (show (-1 : Int32).toInt = 1 → WRT zT zI zI (zR (zR (zR zx 5) zia.toNatClampNeg) 0) zic.toNatClampNeg (NAR (zI (zR (zR zx 5) zia.toNatClampNeg) 1).toInt zid) from (fun h9 => absurd h9 (by decide))), (show ¬ (-1 : Int32).toInt = 1 → zI = zI from (fun _ => rfl))⟩, ⟨by rw [ht]; exact hP, va_K.moved hW.alike hK, hD⟩⟩, hS.F ht⟩) hS.2.2 dX10_item_9
