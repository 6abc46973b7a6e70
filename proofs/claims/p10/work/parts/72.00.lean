set_option maxHeartbeats 8000000 in
set_option maxRecDepth 100000 in
theorem t_X11_countAll (l : Launch) (dC : Nat → ClassId) (dI : Nat → Nat → Nat) (cy : Nat → ClassId) (sz : Nat) (zL : List Nat) (zT : Nat → Nat) (zR : Nat → Nat → Nat) (zI : Nat → Nat → Int32) (zJ : Nat → Nat → Int64) (zy : Nat) (zia : Int32) (zib : Int32) (hs : SKP zL zT zR) (hw : WT zT zR zI) (t_zy : zT zy = 18) (b_zia : 0 ≤ zia.toInt ∧ zia.toInt ≤ 1) (hz : ZI (zI (zR zy 0))) (hx1 : BQ (zI (zR zy 0)) zia.toInt zib) : Met l yX11_countAll wsX11_countAll ({ frames := 3, cells := 0, slots := 0, locals := 71 } : Room) (va_Pc [.ref zy, .int zia, .int zib] (PRE dC dI cy (WL cy zL zT zR zI zJ) sz)) (va_Qv (fun (u : (Nat → Nat → Int32) × (Nat → Nat → Int64)) => (WM [1806, 1807, 10300, 10400, 10500, 10600, 10700] AL zT zR zI u.1) ∧ (PO (zI (zR zy 0)) (u.1 (zR zy 8)) zia.toInt (u.1 zy 6).toInt) ∧ ((u.1 zy 6).toInt = PLZ (zI (zR zy 0)) zia.toInt) ∧ (u.2 zy 15 = CT zR u.1 zy) ∧ (0 ≤ (u.2 zy 15).toInt ∧ (u.2 zy 15).toInt ≤ 1000000000) ∧ (u.2 zy 20 = zJ zy 20)) (fun u t => POST dC dI cy (va_A (WL cy zL zT zR zI zJ) sz) (WL cy zL zT zR u.1 u.2) t) (va_A (WL cy zL zT zR zI zJ) sz)) 0 0 (va_A (WL cy zL zT zR zI zJ) sz) := by
  refine Met.ofW (cc := cX11_countAll) (maxL := 3) (ret := none) (by decide) rfl ?_
  intro p e s m args below meth c s₁ B hml hv
  obtain ⟨rfl, hsz, hP, hK, hD0, hN⟩ := hv
  have hx := B.exec
  have hb := B.bytes
  have hr := B.returns
  have hts := atoms_spec (ws := wsX11_countAll) B.pre
  have hown : s.vm.findClass RX11 = some m.cls := findClass_of_methodNamed B.named
  have hlocks := B.notSynchronized
  subst hsz
  have hD := hD0.self (sz := s.heap.size)
  generalize hAe : va_A (WL cy zL zT zR zI zJ) s.heap.size = A at hD ⊢
  have hA : ∀ q : Nat, s.heap.size ≤ q → A q := fun q h => by rw [← hAe]; exact Or.inr h
  have hS : va_S A s.heap s.heap [] := va_S.rf
  have hP : va_P (dC, dI) vwCl (WL cy zL zT zR zI zJ) s.heap := hP
  have hl := lv_entry ([.ref zy, .int zia, .int zib] : List Value) (n := 3) (Nat.le_of_ble_eq_true rfl)
  rw [lg_entry_eq]
  generalize (lg_sl ([.ref zy, .int zia, .int zib] : List Value) ++ List.replicate (3 - (lg_sl ([.ref zy, .int zia, .int zib] : List Value)).length) Slot.unset).toArray = ls at hl ⊢
  have hl : lv_has ls 3 [(0, .ref zy), (1, .int zia), (2, .int zib)] := hl
  refine w_q (fun Q hQ => ?_)
  have h_zI : WM [1806, 1807, 10300, 10400, 10500, 10600, 10700] AL zT zR zI zI := WM.rf hw
  refine lv_aload_n hx hb dX11_countAll_0 rfl (lv_at hl 0 rfl) ?_
  refine lv_iload_n hx hb dX11_countAll_1 rfl (lv_at hl 1 rfl) ?_
  refine lv_iload_n hx hb dX11_countAll_2 rfl (lv_at hl 2 rfl) ?_
  refine hj_v (ws := (WL cy zL zT zR zI zJ)) (w1 := fun (u : (Nat → Nat → Int32)) => (WL cy zL zT zR u zJ)) (va_runV (As := [.int zia, .int zib]) (rest := []) ⟨hx, hb, hml, hown, hts⟩ (t_X11_lay l dC dI cy s.heap.size zL zT zR zI zJ zy zia zib hs h_zI.1 t_zy (by omega) hz (by omega)) (cwV 2 hts gX11_countAll_X11_lay rfl rfl rfl (by decide +kernel) ⟨(Nat.le_of_ble_eq_true rfl), (Nat.le_of_ble_eq_true rfl)⟩) (PRE.v hP hK hD hN (ht_recv hK hP hs t_zy (by decide) rfl rfl)) rfl rfl hl.1 rfl (lv_room (Nat.le_of_ble_eq_true rfl)) dX11_countAll_3 ⟨(Nat.le_of_ble_eq_true rfl), (Nat.le_of_ble_eq_true rfl)⟩) hP hD hS hA (fun zI_4 H locs hw_2 hP hD hS => ?_)
  obtain ⟨k_zI_4, ps_5, ps_6⟩ : (WM [1806, 1807, 10300, 10400, 10500, 10600, 10700] AL zT zR zI zI_4) ∧ (PO (zI (zR zy 0)) (zI_4 (zR zy 8)) zia.toInt (zI_4 zy 6).toInt) ∧ ((zI_4 zy 6).toInt = PLZ (zI (zR zy 0)) zia.toInt) := hw_2
  have h_zI_4 : WM [1806, 1807, 10300, 10400, 10500, 10600, 10700] AL zT zR zI zI_4 := h_zI.tr k_zI_4 (by decide) (fun _ _ => trivial)
  obtain ⟨zi_7, ezi_7⟩ : ∃ y : Int32, y = zI_4 zy 6 := ⟨_, rfl⟩
  have tzi_7 : 0 ≤ zi_7.toInt ∧ zi_7.toInt ≤ 12 := by rw [ezi_7]; exact h_zI_4.at t_zy _ rfl
  have lk_8 : (zI_4 zy 6).toInt = zi_7.toInt := congrArg Int32.toInt ezi_7.symm
  refine lv_aload_n hx hb dX11_countAll_6 rfl (lv_at hl 0 rfl) ?_
  refine hj_v (ws := (WL cy zL zT zR zI_4 zJ)) (w1 := fun (u : (Nat → Nat → Int64)) => (WL cy zL zT zR zI_4 u)) (va_runV (As := []) (rest := []) ⟨hx, hb, hml, hown, hts⟩ (t_X11_countFront l dC dI cy H.size zL zT zR zI_4 zJ zy hs h_zI_4.1 t_zy) (cwV 0 hts gX11_countAll_X11_countFront rfl rfl rfl (by decide +kernel) ⟨(Nat.le_of_ble_eq_true rfl), (Nat.le_of_ble_eq_true rfl)⟩) (PRE.v hP hK hD hN (ht_recv hK hP hs t_zy (by decide) rfl rfl)) rfl rfl hl.1 rfl (lv_room (Nat.le_of_ble_eq_true rfl)) dX11_countAll_7 ⟨(Nat.le_of_ble_eq_true rfl), (Nat.le_of_ble_eq_true rfl)⟩) hP hD hS hA (fun zJ_12 H locs hw_10 hP hD hS => ?_)
  obtain ⟨ps_13, ps_14, ps_15⟩ : (zJ_12 zy 15 = CT zR zI_4 zy) ∧ (0 ≤ (zJ_12 zy 15).toInt ∧ (zJ_12 zy 15).toInt ≤ 1000000000) ∧ (zJ_12 zy 20 = zJ zy 20) := hw_10
  refine lv_aload_n hx hb dX11_countAll_10 rfl (lv_at hl 0 rfl) ?_
  refine hj_v (ws := (WL cy zL zT zR zI_4 zJ_12)) (w1 := fun (u : (Nat → Nat → Int64)) => (WL cy zL zT zR zI_4 u)) (va_runV (As := []) (rest := []) ⟨hx, hb, hml, hown, hts⟩ (t_X11_countBack l dC dI cy H.size zL zT zR zI_4 zJ_12 zy hs h_zI_4.1 t_zy) (cwV 0 hts gX11_countAll_X11_countBack rfl rfl rfl (by decide +kernel) ⟨(Nat.le_of_ble_eq_true rfl), (Nat.le_of_ble_eq_true rfl)⟩) (PRE.v hP hK hD hN (ht_recv hK hP hs t_zy (by decide) rfl rfl)) rfl rfl hl.1 rfl (lv_room (Nat.le_of_ble_eq_true rfl)) dX11_countAll_11 ⟨(Nat.le_of_ble_eq_true rfl), (Nat.le_of_ble_eq_true rfl)⟩) hP hD hS hA (fun zJ_19 H locs hw_17 hP hD hS => ?_)
  obtain ⟨ps_20, ps_21⟩ : (zJ_19 zy 15 = zJ_12 zy 15) ∧ (zJ_19 zy 20 = zJ_12 zy 20) := hw_17
  subst hQ
  exact W.vret hx hb hr (fun t ht hW => ⟨⟨(zI_4, zJ_19), rfl, ⟨h_zI_4, (show PO (zI (zR zy 0)) (zI_4 (zR zy 8)) zia.toInt (zI_4 zy 6).toInt from ps_5), (show (zI_4 zy 6).toInt = PLZ (zI (zR zy 0)) zia.toInt from ps_6), (show zJ_19 zy 15 = CT zR zI_4 zy from (ps_20.trans ps_13)), (show 0 ≤ (zJ_19 zy 15).toInt ∧ (zJ_19 zy 15).toInt ≤ 1000000000 from (by rw [ps_20]; exact ps_14)), (show zJ_19 zy 20 = zJ zy 20 from (ps_21.trans (ps_15.trans rfl)))⟩, ⟨by rw [ht]; exact hP, va_K.moved hW.alike hK, hD⟩⟩, hS.F ht⟩) hS.2.2 dX11_countAll_14
set_option maxHeartbeats 8000000 in
set_option maxRecDepth 100000 in
theorem t_X11_countNow (l : Launch) (dC : Nat → ClassId) (dI : Nat → Nat → Nat) (cy : Nat → ClassId) (sz : Nat) (zL : List Nat) (zT : Nat → Nat) (zR : Nat → Nat → Nat) (zI : Nat → Nat → Int32) (zJ : Nat → Nat → Int64) (zy : Nat) (zia : Int32) (hs : SKP zL zT zR) (hw : WT zT zR zI) (t_zy : zT zy = 18) (b_zia : 0 ≤ zia.toInt ∧ zia.toInt ≤ 1) (hz : ZI (zI (zR zy 0))) : Met l yX11_countNow wsX11_countNow ({ frames := 4, cells := 0, slots := 0, locals := 93 } : Room) (va_Pc [.ref zy, .int zia] (PRE dC dI cy (WL cy zL zT zR zI zJ) sz)) (va_Qv (fun (u : (Nat → Nat → Int32) × (Nat → Nat → Int64)) => (WM [1806, 1807, 10300, 10400, 10500, 10600, 10700] AL zT zR zI u.1) ∧ (PO (zI (zR zy 0)) (u.1 (zR zy 8)) zia.toInt (u.1 zy 6).toInt) ∧ ((u.1 zy 6).toInt = PLZ (zI (zR zy 0)) zia.toInt) ∧ (u.2 zy 15 = CT zR u.1 zy) ∧ (0 ≤ (u.2 zy 15).toInt ∧ (u.2 zy 15).toInt ≤ 1000000000) ∧ (u.2 zy 20 = zJ zy 20)) (fun u t => POST dC dI cy (va_A (WL cy zL zT zR zI zJ) sz) (WL cy zL zT zR u.1 u.2) t) (va_A (WL cy zL zT zR zI zJ) sz)) 0 0 (va_A (WL cy zL zT zR zI zJ) sz) := by
  refine Met.ofW (cc := cX11_countNow) (maxL := 2) (ret := none) (by decide) rfl ?_
  intro p e s m args below meth c s₁ B hml hv
  obtain ⟨rfl, hsz, hP, hK, hD0, hN⟩ := hv
  have hx := B.exec
  have hb := B.bytes
  have hr := B.returns
  have hts := atoms_spec (ws := wsX11_countNow) B.pre
  have hown : s.vm.findClass RX11 = some m.cls := findClass_of_methodNamed B.named
  have hlocks := B.notSynchronized
  subst hsz
  have hD := hD0.self (sz := s.heap.size)
  generalize hAe : va_A (WL cy zL zT zR zI zJ) s.heap.size = A at hD ⊢
  have hA : ∀ q : Nat, s.heap.size ≤ q → A q := fun q h => by rw [← hAe]; exact Or.inr h
  have hS : va_S A s.heap s.heap [] := va_S.rf
  have hP : va_P (dC, dI) vwCl (WL cy zL zT zR zI zJ) s.heap := hP
  have hl := lv_entry ([.ref zy, .int zia] : List Value) (n := 2) (Nat.le_of_ble_eq_true rfl)
  rw [lg_entry_eq]
  generalize (lg_sl ([.ref zy, .int zia] : List Value) ++ List.replicate (2 - (lg_sl ([.ref zy, .int zia] : List Value)).length) Slot.unset).toArray = ls at hl ⊢
  have hl : lv_has ls 2 [(0, .ref zy), (1, .int zia)] := hl
  refine w_q (fun Q hQ => ?_)
  have h_zI : WM [1806, 1807, 10300, 10400, 10500, 10600, 10700] AL zT zR zI zI := WM.rf hw
  refine lv_aload_n hx hb dX11_countNow_0 rfl (lv_at hl 0 rfl) ?_
  refine lv_iload_n hx hb dX11_countNow_1 rfl (lv_at hl 1 rfl) ?_
  refine lv_aload_n hx hb dX11_countNow_2 rfl (lv_at hl 0 rfl) ?_
  refine lv_iload_n hx hb dX11_countNow_3 rfl (lv_at hl 1 rfl) ?_
  refine hj_i (ws := (WL cy zL zT zR zI zJ)) (w1 := fun (u : Unit) => (WL cy zL zT zR zI zJ)) (va_runV (As := [.int zia]) (rest := [.int zia, .ref zy]) ⟨hx, hb, hml, hown, hts⟩ (t_X11_binding l dC dI cy s.heap.size zL zT zR zI zJ zy zia hs h_zI.1 t_zy (by omega) hz) (cwV 1 hts gX11_countNow_X11_binding rfl rfl rfl (by decide +kernel) ⟨(Nat.le_of_ble_eq_true rfl), (Nat.le_of_ble_eq_true rfl)⟩) (PRE.v hP hK hD hN (ht_recv hK hP hs t_zy (by decide) rfl rfl)) rfl rfl hl.1 rfl (lv_room (Nat.le_of_ble_eq_true rfl)) dX11_countNow_4 ⟨(Nat.le_of_ble_eq_true rfl), (Nat.le_of_ble_eq_true rfl)⟩) hP hD hS hA (fun zi_1 u_3 H locs hw_2 hP hD hS => ?_)
  obtain ⟨b_zi_1, ps_4⟩ : (0 ≤ zi_1.toInt ∧ zi_1.toInt ≤ 255) ∧ (BQ (zI (zR zy 0)) zia.toInt zi_1) := hw_2
  refine hj_v (ws := (WL cy zL zT zR zI zJ)) (w1 := fun (u : (Nat → Nat → Int32) × (Nat → Nat → Int64)) => (WL cy zL zT zR u.1 u.2)) (va_runV (As := [.int zia, .int zi_1]) (rest := []) ⟨hx, hb, hml, hown, hts⟩ (t_X11_countAll l dC dI cy H.size zL zT zR zI zJ zy zia zi_1 hs h_zI.1 t_zy (by omega) hz ps_4) (cwV 2 hts gX11_countNow_X11_countAll rfl rfl rfl (by decide +kernel) ⟨(Nat.le_of_ble_eq_true rfl), (Nat.le_of_ble_eq_true rfl)⟩) (PRE.v hP hK hD hN (ht_recv hK hP hs t_zy (by decide) rfl rfl)) rfl rfl hl.1 rfl (lv_room (Nat.le_of_ble_eq_true rfl)) dX11_countNow_7 ⟨(Nat.le_of_ble_eq_true rfl), (Nat.le_of_ble_eq_true rfl)⟩) hP hD hS hA (fun u_7 H locs hw_6 hP hD hS => ?_)
  obtain ⟨zI_8, zJ_9⟩ := u_7
  obtain ⟨k_zI_8, ps_10, ps_11, ps_12, ps_13, ps_14⟩ : (WM [1806, 1807, 10300, 10400, 10500, 10600, 10700] AL zT zR zI zI_8) ∧ (PO (zI (zR zy 0)) (zI_8 (zR zy 8)) zia.toInt (zI_8 zy 6).toInt) ∧ ((zI_8 zy 6).toInt = PLZ (zI (zR zy 0)) zia.toInt) ∧ (zJ_9 zy 15 = CT zR zI_8 zy) ∧ (0 ≤ (zJ_9 zy 15).toInt ∧ (zJ_9 zy 15).toInt ≤ 1000000000) ∧ (zJ_9 zy 20 = zJ zy 20) := hw_6
  have h_zI_8 : WM [1806, 1807, 10300, 10400, 10500, 10600, 10700] AL zT zR zI zI_8 := h_zI.tr k_zI_8 (by decide) (fun _ _ => trivial)
  obtain ⟨zi_15, ezi_15⟩ : ∃ y : Int32, y = zI_8 zy 6 := ⟨_, rfl⟩
  have tzi_15 : 0 ≤ zi_15.toInt ∧ zi_15.toInt ≤ 12 := by rw [ezi_15]; exact h_zI_8.at t_zy _ rfl
  have lk_16 : (zI_8 zy 6).toInt = zi_15.toInt := congrArg Int32.toInt ezi_15.symm
  subst hQ
  exact W.vret hx hb hr (fun t ht hW => ⟨⟨(zI_8, zJ_9), rfl, ⟨h_zI_8, (show PO (zI (zR zy 0)) (zI_8 (zR zy 8)) zia.toInt (zI_8 zy 6).toInt from ps_10), (show (zI_8 zy 6).toInt = PLZ (zI (zR zy 0)) zia.toInt from ps_11), (show zJ_9 zy 15 = CT zR zI_8 zy from ps_12), (show 0 ≤ (zJ_9 zy 15).toInt ∧ (zJ_9 zy 15).toInt ≤ 1000000000 from ps_13), (show zJ_9 zy 20 = zJ zy 20 from (ps_14.trans rfl))⟩, ⟨by rw [ht]; exact hP, va_K.moved hW.alike hK, hD⟩⟩, hS.F ht⟩) hS.2.2 dX11_countNow_10
set_option maxHeartbeats 8000000 in
set_option maxRecDepth 100000 in
theorem t_X11_ways (l : Launch) (dC : Nat → ClassId) (dI : Nat → Nat → Nat) (cy : Nat → ClassId) (sz : Nat) (zL : List Nat) (zT : Nat → Nat) (zR : Nat → Nat → Nat) (zI : Nat → Nat → Int32) (zJ : Nat → Nat → Int64) (zy : Nat) (zia : Int32) (hs : SKP zL zT zR) (hw : WT zT zR zI) (t_zy : zT zy = 18) (hz : ZI (zI (zR zy 0))) : Met l yX11_ways wsX11_ways ({ frames := 5, cells := 0, slots := 0, locals := 114 } : Room) (va_Pc [.ref zy, .int zia] (PRE dC dI cy (WL cy zL zT zR zI zJ) sz)) (va_Ql (fun (r : Int64) (u : (Nat → Nat → Int32) × (Nat → Nat → Int64)) => (WM [1806, 1807, 10300, 10400, 10500, 10600, 10700] AL zT zR zI u.1)) (fun u t => POST dC dI cy (va_A (WL cy zL zT zR zI zJ) sz) (WL cy zL zT zR u.1 u.2) t) (va_A (WL cy zL zT zR zI zJ) sz)) 0 0 (va_A (WL cy zL zT zR zI zJ) sz) := by
  refine Met.ofW (cc := cX11_ways) (maxL := 2) (ret := (some .long)) (by decide) rfl ?_
  intro p e s m args below meth c s₁ B hml hv
  obtain ⟨rfl, hsz, hP, hK, hD0, hN⟩ := hv
  have hx := B.exec
  have hb := B.bytes
  have hr := B.returns
  have hts := atoms_spec (ws := wsX11_ways) B.pre
  have hown : s.vm.findClass RX11 = some m.cls := findClass_of_methodNamed B.named
  have hlocks := B.notSynchronized
  subst hsz
  have hD := hD0.self (sz := s.heap.size)
  generalize hAe : va_A (WL cy zL zT zR zI zJ) s.heap.size = A at hD ⊢
  have hA : ∀ q : Nat, s.heap.size ≤ q → A q := fun q h => by rw [← hAe]; exact Or.inr h
  have hS : va_S A s.heap s.heap [] := va_S.rf
  have hP : va_P (dC, dI) vwCl (WL cy zL zT zR zI zJ) s.heap := hP
  have hl := lv_entry ([.ref zy, .int zia] : List Value) (n := 2) (Nat.le_of_ble_eq_true rfl)
  rw [lg_entry_eq]
  generalize (lg_sl ([.ref zy, .int zia] : List Value) ++ List.replicate (2 - (lg_sl ([.ref zy, .int zia] : List Value)).length) Slot.unset).toArray = ls at hl ⊢
  have hl : lv_has ls 2 [(0, .ref zy), (1, .int zia)] := hl
  refine w_q (fun Q hQ => ?_)
  have h_zI : WM [1806, 1807, 10300, 10400, 10500, 10600, 10700] AL zT zR zI zI := WM.rf hw
  refine lv_iload_n hx hb dX11_ways_0 rfl (lv_at hl 1 rfl) ?_
  refine hj0_i (ws := (WL cy zL zT zR zI zJ)) (va_runS (As := [.int zia]) (rest := []) ⟨hx, hb, hml, hown, hts⟩ (c_X11_isCandle l dC dI cy s.heap.size zia) (va_cwS 1 hts gX11_ways_X11_isCandle rfl rfl rfl (by decide +kernel) ⟨(Nat.le_of_ble_eq_true rfl), (Nat.le_of_ble_eq_true rfl)⟩) (PRE.s (hP.sub [] rfl) hK (hD.sub [] (by decide) rfl) hN) rfl rfl hl.1 rfl (lv_room (Nat.le_of_ble_eq_true rfl)) dX11_ways_1 ⟨(Nat.le_of_ble_eq_true rfl), (Nat.le_of_ble_eq_true rfl)⟩) hP hD hS hA (fun zi_1 u_3 H locs hw_2 hP hD hS => ?_)
  have hw_2 : zi_1 = if 0 ≤ zia.toInt ∧ zia.toInt ≤ 1 then 1 else 0 := hw_2
  have b_zi_1 : 0 ≤ zi_1.toInt ∧ zi_1.toInt ≤ 1 := bz_b hw_2
  refine lv_if_ne (tgt := 11) hx hb dX11_ways_4 (by decide) (fun c_4 => ?_) (fun c_4 => ?_)
  · have f_5 : 0 ≤ zia.toInt ∧ zia.toInt ≤ 1 := bz_1 hw_2 c_4
    refine lv_aload_n hx hb dX11_ways_11 rfl (lv_at hl 0 rfl) ?_
    refine lv_iload_n hx hb dX11_ways_12 rfl (lv_at hl 1 rfl) ?_
    refine hj_i (ws := (WL cy zL zT zR zI zJ)) (w1 := fun (u : Unit) => (WL cy zL zT zR zI zJ)) (va_runV (As := [.int zia]) (rest := []) ⟨hx, hb, hml, hown, hts⟩ (t_X11_placesOf l dC dI cy H.size zL zT zR zI zJ zy zia hs h_zI.1 t_zy (by omega) hz) (cwV 1 hts gX11_ways_X11_placesOf rfl rfl rfl (by decide +kernel) ⟨(Nat.le_of_ble_eq_true rfl), (Nat.le_of_ble_eq_true rfl)⟩) (PRE.v hP hK hD hN (ht_recv hK hP hs t_zy (by decide) rfl rfl)) rfl rfl hl.1 rfl (lv_room (Nat.le_of_ble_eq_true rfl)) dX11_ways_13 ⟨(Nat.le_of_ble_eq_true rfl), (Nat.le_of_ble_eq_true rfl)⟩) hP hD hS hA (fun zi_6 u_8 H locs hw_7 hP hD hS => ?_)
    obtain ⟨b_zi_6, ps_9⟩ : (0 ≤ zi_6.toInt ∧ zi_6.toInt ≤ 12) ∧ (zi_6.toInt = PLZ (zI (zR zy 0)) zia.toInt) := hw_7
    refine lv_if_ne (tgt := 23) hx hb dX11_ways_16 (by decide) (fun c_10 => ?_) (fun c_10 => ?_)
    · have f_11 : zi_6.toInt ≠ 0 := ic_ne (rfl) (by decide) c_10
      refine lv_aload_n hx hb dX11_ways_23 rfl (lv_at hl 0 rfl) ?_
      refine lv_iload_n hx hb dX11_ways_24 rfl (lv_at hl 1 rfl) ?_
      refine hj_v (ws := (WL cy zL zT zR zI zJ)) (w1 := fun (u : (Nat → Nat → Int32) × (Nat → Nat → Int64)) => (WL cy zL zT zR u.1 u.2)) (va_runV (As := [.int zia]) (rest := []) ⟨hx, hb, hml, hown, hts⟩ (t_X11_countNow l dC dI cy H.size zL zT zR zI zJ zy zia hs h_zI.1 t_zy (by omega) hz) (cwV 1 hts gX11_ways_X11_countNow rfl rfl rfl (by decide +kernel) ⟨(Nat.le_of_ble_eq_true rfl), (Nat.le_of_ble_eq_true rfl)⟩) (PRE.v hP hK hD hN (ht_recv hK hP hs t_zy (by decide) rfl rfl)) rfl rfl hl.1 rfl (lv_room (Nat.le_of_ble_eq_true rfl)) dX11_ways_25 ⟨(Nat.le_of_ble_eq_true rfl), (Nat.le_of_ble_eq_true rfl)⟩) hP hD hS hA (fun u_14 H locs hw_13 hP hD hS => ?_)
      obtain ⟨zI_15, zJ_16⟩ := u_14
      obtain ⟨k_zI_15, ps_17, ps_18, ps_19, ps_20, ps_21⟩ : (WM [1806, 1807, 10300, 10400, 10500, 10600, 10700] AL zT zR zI zI_15) ∧ (PO (zI (zR zy 0)) (zI_15 (zR zy 8)) zia.toInt (zI_15 zy 6).toInt) ∧ ((zI_15 zy 6).toInt = PLZ (zI (zR zy 0)) zia.toInt) ∧ (zJ_16 zy 15 = CT zR zI_15 zy) ∧ (0 ≤ (zJ_16 zy 15).toInt ∧ (zJ_16 zy 15).toInt ≤ 1000000000) ∧ (zJ_16 zy 20 = zJ zy 20) := hw_13
      have h_zI_15 : WM [1806, 1807, 10300, 10400, 10500, 10600, 10700] AL zT zR zI zI_15 := h_zI.tr k_zI_15 (by decide) (fun _ _ => trivial)
      obtain ⟨zi_22, ezi_22⟩ : ∃ y : Int32, y = zI_15 zy 6 := ⟨_, rfl⟩
      have tzi_22 : 0 ≤ zi_22.toInt ∧ zi_22.toInt ≤ 12 := by rw [ezi_22]; exact h_zI_15.at t_zy _ rfl
      have lk_23 : (zI_15 zy 6).toInt = zi_22.toInt := congrArg Int32.toInt ezi_22.symm
      refine lv_aload_n hx hb dX11_ways_28 rfl (lv_at hl 0 rfl) ?_
      refine ht_getl (C := RX11) (T := TX11) (N := 28) hx hb hts (by decide +kernel) hown hK hP hs t_zy (by decide) rfl rfl 15 (by decide) (hts (.fieldLink RX11 217 "DripStoneModel" "total" "J") (by decide +kernel)) (fun _ h9 => h9) rfl dX11_ways_29 ?_
      refine lv_topl (fun zj_24 ezj_24 => ?_)
      subst hQ
      exact W.lret (v := zj_24) hx hb hr (fun t ht hW => ⟨⟨zj_24, (zI_15, zJ_16), rfl, h_zI_15, ⟨by rw [ht]; exact hP, va_K.moved hW.alike hK, hD⟩⟩, hS.F ht⟩) hS.2.2 dX11_ways_32
    · have f_11 : ¬ (zi_6.toInt ≠ 0) := ic_nne (rfl) (by decide) c_10
      refine lv_ldc2 (v := (-2)) hx hb hown (hts (.constantLong RX11 238 (-2)) (by decide +kernel)) dX11_ways_19 ?_
      subst hQ
      exact W.lret (v := (-2 : Int64)) hx hb hr (fun t ht hW => ⟨⟨(-2 : Int64), (zI, zJ), rfl, h_zI, ⟨by rw [ht]; exact hP, va_K.moved hW.alike hK, hD⟩⟩, hS.F ht⟩) hS.2.2 dX11_ways_22
  · have f_5 : ¬ (0 ≤ zia.toInt ∧ zia.toInt ≤ 1) := bz_0 hw_2 c_4
    refine lv_ldc2 (v := (-1)) hx hb hown (hts (.constantLong RX11 236 (-1)) (by decide +kernel)) dX11_ways_7 ?_
    subst hQ
    exact W.lret (v := (-1 : Int64)) hx hb hr (fun t ht hW => ⟨⟨(-1 : Int64), (zI, zJ), rfl, h_zI, ⟨by rw [ht]; exact hP, va_K.moved hW.alike hK, hD⟩⟩, hS.F ht⟩) hS.2.2 dX11_ways_10
set_option maxHeartbeats 8000000 in
set_option maxRecDepth 100000 in
theorem t_X11_lacksWays (l : Launch) (dC : Nat → ClassId) (dI : Nat → Nat → Nat) (cy : Nat → ClassId) (sz : Nat) (zL : List Nat) (zT : Nat → Nat) (zR : Nat → Nat → Nat) (zI : Nat → Nat → Int32) (zJ : Nat → Nat → Int64) (zy : Nat) (zic : Int32) (zit : Int32) (hs : SKP zL zT zR) (hw : WT zT zR zI) (t_zy : zT zy = 18) (hz : ZI (zI (zR zy 0))) : Met l yX11_lacksWays wsX11_lacksWays ({ frames := 5, cells := 0, slots := 0, locals := 114 } : Room) (va_Pc [.ref zy, .int zic, .int zit] (PRE dC dI cy (WL cy zL zT zR zI zJ) sz)) (va_Qi (fun (r : Int32) (u : (Nat → Nat → Int32) × (Nat → Nat → Int64)) => (WM [1806, 1807, 10300, 10400, 10500, 10600, 10700] AL zT zR zI u.1) ∧ ((-12) ≤ r.toInt ∧ r.toInt ≤ 0) ∧ (r.toInt < 0 ∨ (∃ q : Int, 0 ≤ q ∧ q < (u.1 zy 6).toInt ∧ zA (u.1 (zR zy 8)) (q) = zit.toInt)) ∧ (r.toInt < 0 ∨ ¬ (u.2 zy 15).toInt = 0)) (fun u t => POST dC dI cy (va_A (WL cy zL zT zR zI zJ) sz) (WL cy zL zT zR u.1 u.2) t) (va_A (WL cy zL zT zR zI zJ) sz)) 0 0 (va_A (WL cy zL zT zR zI zJ) sz) := by
  refine Met.ofW (cc := cX11_lacksWays) (maxL := 3) (ret := (some .int)) (by decide) rfl ?_
  intro p e s m args below meth c s₁ B hml hv
  obtain ⟨rfl, hsz, hP, hK, hD0, hN⟩ := hv
  have hx := B.exec
  have hb := B.bytes
  have hr := B.returns
  have hts := atoms_spec (ws := wsX11_lacksWays) B.pre
  have hown : s.vm.findClass RX11 = some m.cls := findClass_of_methodNamed B.named
  have hlocks := B.notSynchronized
  subst hsz
  have hD := hD0.self (sz := s.heap.size)
  generalize hAe : va_A (WL cy zL zT zR zI zJ) s.heap.size = A at hD ⊢
  have hA : ∀ q : Nat, s.heap.size ≤ q → A q := fun q h => by rw [← hAe]; exact Or.inr h
  have hS : va_S A s.heap s.heap [] := va_S.rf
  have hP : va_P (dC, dI) vwCl (WL cy zL zT zR zI zJ) s.heap := hP
  have hl := lv_entry ([.ref zy, .int zic, .int zit] : List Value) (n := 3) (Nat.le_of_ble_eq_true rfl)
  rw [lg_entry_eq]
  generalize (lg_sl ([.ref zy, .int zic, .int zit] : List Value) ++ List.replicate (3 - (lg_sl ([.ref zy, .int zic, .int zit] : List Value)).length) Slot.unset).toArray = ls at hl ⊢
  have hl : lv_has ls 3 [(0, .ref zy), (1, .int zic), (2, .int zit)] := hl
  refine w_q (fun Q hQ => ?_)
  have h_zI : WM [1806, 1807, 10300, 10400, 10500, 10600, 10700] AL zT zR zI zI := WM.rf hw
  refine lv_iload_n hx hb dX11_lacksWays_0 rfl (lv_at hl 1 rfl) ?_
  refine hj0_i (ws := (WL cy zL zT zR zI zJ)) (va_runS (As := [.int zic]) (rest := []) ⟨hx, hb, hml, hown, hts⟩ (c_X11_isCandle l dC dI cy s.heap.size zic) (va_cwS 1 hts gX11_lacksWays_X11_isCandle rfl rfl rfl (by decide +kernel) ⟨(Nat.le_of_ble_eq_true rfl), (Nat.le_of_ble_eq_true rfl)⟩) (PRE.s (hP.sub [] rfl) hK (hD.sub [] (by decide) rfl) hN) rfl rfl hl.1 rfl (lv_room (Nat.le_of_ble_eq_true rfl)) dX11_lacksWays_1 ⟨(Nat.le_of_ble_eq_true rfl), (Nat.le_of_ble_eq_true rfl)⟩) hP hD hS hA (fun zi_1 u_3 H locs hw_2 hP hD hS => ?_)
  have hw_2 : zi_1 = if 0 ≤ zic.toInt ∧ zic.toInt ≤ 1 then 1 else 0 := hw_2
  have b_zi_1 : 0 ≤ zi_1.toInt ∧ zi_1.toInt ≤ 1 := bz_b hw_2
  refine lv_if_eq (tgt := 16) hx hb dX11_lacksWays_4 (by decide) (fun c_4 => ?_) (fun c_4 => ?_)
  · have f_5 : ¬ (0 ≤ zic.toInt ∧ zic.toInt ≤ 1) := bz_0 hw_2 c_4
    refine lv_iconst (v := (-1)) hx hb dX11_lacksWays_16 (by decide) ?_
    subst hQ
    have qc_m1 : (-1 : Int32).toInt = -1 := by decide
    exact W.iret (v := (-1 : Int32)) hx hb hr (fun t ht hW => ⟨⟨(-1 : Int32), (zI, zJ), rfl, ⟨h_zI, (show (-12) ≤ (-1 : Int32).toInt ∧ (-1 : Int32).toInt ≤ 0 from by omega), (show (-1 : Int32).toInt < 0 ∨ (∃ q : Int, 0 ≤ q ∧ q < (zI zy 6).toInt ∧ zA (zI (zR zy 8)) (q) = zit.toInt) from (Or.inl (by decide))), (show (-1 : Int32).toInt < 0 ∨ ¬ (zJ zy 15).toInt = 0 from (Or.inl (by decide)))⟩, ⟨by rw [ht]; exact hP, va_K.moved hW.alike hK, hD⟩⟩, hS.F ht⟩) hS.2.2 dX11_lacksWays_17
  · have f_5 : 0 ≤ zic.toInt ∧ zic.toInt ≤ 1 := bz_1 hw_2 c_4
    refine lv_aload_n hx hb dX11_lacksWays_7 rfl (lv_at hl 0 rfl) ?_
    refine lv_iload_n hx hb dX11_lacksWays_8 rfl (lv_at hl 1 rfl) ?_
    refine lv_iload_n hx hb dX11_lacksWays_9 rfl (lv_at hl 2 rfl) ?_
    refine hj_i (ws := (WL cy zL zT zR zI zJ)) (w1 := fun (u : Unit) => (WL cy zL zT zR zI zJ)) (va_runV (As := [.int zic, .int zit]) (rest := []) ⟨hx, hb, hml, hown, hts⟩ (t_X11_isThing l dC dI cy H.size zL zT zR zI zJ zy zic zit hs h_zI.1 t_zy (by omega) hz) (cwV 2 hts gX11_lacksWays_X11_isThing rfl rfl rfl (by decide +kernel) ⟨(Nat.le_of_ble_eq_true rfl), (Nat.le_of_ble_eq_true rfl)⟩) (PRE.v hP hK hD hN (ht_recv hK hP hs t_zy (by decide) rfl rfl)) rfl rfl hl.1 rfl (lv_room (Nat.le_of_ble_eq_true rfl)) dX11_lacksWays_10 ⟨(Nat.le_of_ble_eq_true rfl), (Nat.le_of_ble_eq_true rfl)⟩) hP hD hS hA (fun zi_6 u_8 H locs hw_7 hP hD hS => ?_)
    obtain ⟨b_zi_6, ps_9, ps_10⟩ : (0 ≤ zi_6.toInt ∧ zi_6.toInt ≤ 1) ∧ (zi_6.toInt = 0 ∨ (0 ≤ zit.toInt ∧ zit.toInt ≤ 11)) ∧ (zi_6.toInt = 0 ∨ zit.toInt < zA (zI (zR zy 0)) (5 + zic.toInt)) := hw_7
    refine lv_if_ne (tgt := 18) hx hb dX11_lacksWays_13 (by decide) (fun c_11 => ?_) (fun c_11 => ?_)
    · have f_12 : zi_6.toInt ≠ 0 := ic_ne (rfl) (by decide) c_11
      have b9_zit : 0 ≤ zit.toInt ∧ zit.toInt ≤ 11 := by omega
      refine lv_aload_n hx hb dX11_lacksWays_18 rfl (lv_at hl 0 rfl) ?_
      refine lv_iload_n hx hb dX11_lacksWays_19 rfl (lv_at hl 1 rfl) ?_
      refine lv_iload_n hx hb dX11_lacksWays_20 rfl (lv_at hl 2 rfl) ?_
      refine hj_i (ws := (WL cy zL zT zR zI zJ)) (w1 := fun (u : Unit) => (WL cy zL zT zR zI zJ)) (va_runV (As := [.int zic, .int zit]) (rest := []) ⟨hx, hb, hml, hown, hts⟩ (t_X11_kindOf l dC dI cy H.size zL zT zR zI zJ zy zic zit hs h_zI.1 t_zy (by omega) (by omega) hz) (cwV 2 hts gX11_lacksWays_X11_kindOf rfl rfl rfl (by decide +kernel) ⟨(Nat.le_of_ble_eq_true rfl), (Nat.le_of_ble_eq_true rfl)⟩) (PRE.v hP hK hD hN (ht_recv hK hP hs t_zy (by decide) rfl rfl)) rfl rfl hl.1 rfl (lv_room (Nat.le_of_ble_eq_true rfl)) dX11_lacksWays_21 ⟨(Nat.le_of_ble_eq_true rfl), (Nat.le_of_ble_eq_true rfl)⟩) hP hD hS hA (fun zi_13 u_15 H locs hw_14 hP hD hS => ?_)
      have ps_16 : zi_13.toInt = zA (zI (zR zy 0)) (158 + 12 * zic.toInt + zit.toInt) := hw_14
      have rzi_13 := rng zi_13
      refine lv_iconst (v := 2) hx hb dX11_lacksWays_24 (by decide) ?_
      refine lv_icmp_ne (tgt := 31) hx hb dX11_lacksWays_25 (by decide) (fun c_17 => ?_) (fun c_17 => ?_)
      · have f_18 : zi_13.toInt ≠ (2 : Int) := ic_ne (rfl) (show (2 : Int32).toInt = 2 by decide) c_17
        refine lv_aload_n hx hb dX11_lacksWays_31 rfl (lv_at hl 0 rfl) ?_
        refine lv_iload_n hx hb dX11_lacksWays_32 rfl (lv_at hl 1 rfl) ?_
        refine hj_v (ws := (WL cy zL zT zR zI zJ)) (w1 := fun (u : (Nat → Nat → Int32) × (Nat → Nat → Int64)) => (WL cy zL zT zR u.1 u.2)) (va_runV (As := [.int zic]) (rest := []) ⟨hx, hb, hml, hown, hts⟩ (t_X11_countNow l dC dI cy H.size zL zT zR zI zJ zy zic hs h_zI.1 t_zy (by omega) hz) (cwV 1 hts gX11_lacksWays_X11_countNow rfl rfl rfl (by decide +kernel) ⟨(Nat.le_of_ble_eq_true rfl), (Nat.le_of_ble_eq_true rfl)⟩) (PRE.v hP hK hD hN (ht_recv hK hP hs t_zy (by decide) rfl rfl)) rfl rfl hl.1 rfl (lv_room (Nat.le_of_ble_eq_true rfl)) dX11_lacksWays_33 ⟨(Nat.le_of_ble_eq_true rfl), (Nat.le_of_ble_eq_true rfl)⟩) hP hD hS hA (fun u_21 H locs hw_20 hP hD hS => ?_)
        obtain ⟨zI_22, zJ_23⟩ := u_21
        obtain ⟨k_zI_22, ps_24, ps_25, ps_26, ps_27, ps_28⟩ : (WM [1806, 1807, 10300, 10400, 10500, 10600, 10700] AL zT zR zI zI_22) ∧ (PO (zI (zR zy 0)) (zI_22 (zR zy 8)) zic.toInt (zI_22 zy 6).toInt) ∧ ((zI_22 zy 6).toInt = PLZ (zI (zR zy 0)) zic.toInt) ∧ (zJ_23 zy 15 = CT zR zI_22 zy) ∧ (0 ≤ (zJ_23 zy 15).toInt ∧ (zJ_23 zy 15).toInt ≤ 1000000000) ∧ (zJ_23 zy 20 = zJ zy 20) := hw_20
        have h_zI_22 : WM [1806, 1807, 10300, 10400, 10500, 10600, 10700] AL zT zR zI zI_22 := h_zI.tr k_zI_22 (by decide) (fun _ _ => trivial)
        obtain ⟨zi_29, ezi_29⟩ : ∃ y : Int32, y = zI_22 zy 6 := ⟨_, rfl⟩
        have tzi_29 : 0 ≤ zi_29.toInt ∧ zi_29.toInt ≤ 12 := by rw [ezi_29]; exact h_zI_22.at t_zy _ rfl
        have lk_30 : (zI_22 zy 6).toInt = zi_29.toInt := congrArg Int32.toInt ezi_29.symm
        refine lv_aload_n hx hb dX11_lacksWays_36 rfl (lv_at hl 0 rfl) ?_
        refine ht_getl (C := RX11) (T := TX11) (N := 28) hx hb hts (by decide +kernel) hown hK hP hs t_zy (by decide) rfl rfl 15 (by decide) (hts (.fieldLink RX11 217 "DripStoneModel" "total" "J") (by decide +kernel)) (fun _ h9 => h9) rfl dX11_lacksWays_37 ?_
        refine lv_topl (fun zj_31 ezj_31 => ?_)
        refine lv_lconst (v := 0) hx hb dX11_lacksWays_40 (by decide) ?_
        refine W.lcmp hx hb dX11_lacksWays_41 ?_
        refine lv_topi (fun zi_32 ezi_32 => ?_)
        refine lv_if_ne (tgt := 50) hx hb dX11_lacksWays_42 (by decide) (fun c_33 => ?_) (fun c_33 => ?_)
        · have f_34 : ¬ (zj_31.toInt = (0 : Int)) := lk_ne ezi_32 (rfl) (show (0 : Int64).toInt = 0 by decide) c_33
          refine lv_iconst (v := 0) hx hb dX11_lacksWays_50 (by decide) ?_
          subst hQ
          have qc_0 : (0 : Int32).toInt = 0 := by decide
          exact W.iret (v := (0 : Int32)) hx hb hr (fun t ht hW => ⟨⟨(0 : Int32), (zI_22, zJ_23), rfl, ⟨h_zI_22, (show (-12) ≤ (0 : Int32).toInt ∧ (0 : Int32).toInt ≤ 0 from by omega), (show (0 : Int32).toInt < 0 ∨ (∃ q : Int, 0 ≤ q ∧ q < (zI_22 zy 6).toInt ∧ zA (zI_22 (zR zy 8)) (q) = zit.toInt) from (Or.inr (PO.at ps_24 (by omega) (by omega) (by omega)))), (show (0 : Int32).toInt < 0 ∨ ¬ (zJ_23 zy 15).toInt = 0 from (Or.inr (by rw [(show zJ_23 zy 15 = zj_31 from ezj_31.symm)]; omega)))⟩, ⟨by rw [ht]; exact hP, va_K.moved hW.alike hK, hD⟩⟩, hS.F ht⟩) hS.2.2 dX11_lacksWays_51
        · have f_34 : zj_31.toInt = (0 : Int) := lk_nne ezi_32 (rfl) (show (0 : Int64).toInt = 0 by decide) c_33
          refine lv_bipush (v := (-4)) hx hb dX11_lacksWays_45 (by decide) ?_
          refine lv_goto (tgt := 51) hx hb dX11_lacksWays_47 (by decide) ?_
          subst hQ
          have qc_m4 : (-4 : Int32).toInt = -4 := by decide
          exact W.iret (v := (-4 : Int32)) hx hb hr (fun t ht hW => ⟨⟨(-4 : Int32), (zI_22, zJ_23), rfl, ⟨h_zI_22, (show (-12) ≤ (-4 : Int32).toInt ∧ (-4 : Int32).toInt ≤ 0 from by omega), (show (-4 : Int32).toInt < 0 ∨ (∃ q : Int, 0 ≤ q ∧ q < (zI_22 zy 6).toInt ∧ zA (zI_22 (zR zy 8)) (q) = zit.toInt) from (Or.inl (by decide))), (show (-4 : Int32).toInt < 0 ∨ ¬ (zJ_23 zy 15).toInt = 0 from (Or.inl (by decide)))⟩, ⟨by rw [ht]; exact hP, va_K.moved hW.alike hK, hD⟩⟩, hS.F ht⟩) hS.2.2 dX11_lacksWays_51
      · have f_18 : ¬ (zi_13.toInt ≠ (2 : Int)) := ic_nne (rfl) (show (2 : Int32).toInt = 2 by decide) c_17
        refine lv_bipush (v := (-12)) hx hb dX11_lacksWays_28 (by decide) ?_
        subst hQ
        have qc_m12 : (-12 : Int32).toInt = -12 := by decide
        exact W.iret (v := (-12 : Int32)) hx hb hr (fun t ht hW => ⟨⟨(-12 : Int32), (zI, zJ), rfl, ⟨h_zI, (show (-12) ≤ (-12 : Int32).toInt ∧ (-12 : Int32).toInt ≤ 0 from by omega), (show (-12 : Int32).toInt < 0 ∨ (∃ q : Int, 0 ≤ q ∧ q < (zI zy 6).toInt ∧ zA (zI (zR zy 8)) (q) = zit.toInt) from (Or.inl (by decide))), (show (-12 : Int32).toInt < 0 ∨ ¬ (zJ zy 15).toInt = 0 from (Or.inl (by decide)))⟩, ⟨by rw [ht]; exact hP, va_K.moved hW.alike hK, hD⟩⟩, hS.F ht⟩) hS.2.2 dX11_lacksWays_30
    · have f_12 : ¬ (zi_6.toInt ≠ 0) := ic_nne (rfl) (by decide) c_11
      refine lv_iconst (v := (-1)) hx hb dX11_lacksWays_16 (by decide) ?_
      subst hQ
      have qc_m1 : (-1 : Int32).toInt = -1 := by decide
      exact W.iret (v := (-1 : Int32)) hx hb hr (fun t ht hW => ⟨⟨(-1 : Int32), (zI, zJ), rfl, ⟨h_zI, (show (-12) ≤ (-1 : Int32).toInt ∧ (-1 : Int32).toInt ≤ 0 from by omega), (show (-1 : Int32).toInt < 0 ∨ (∃ q : Int, 0 ≤ q ∧ q < (zI zy 6).toInt ∧ zA (zI (zR zy 8)) (q) = zit.toInt) from (Or.inl (by decide))), (show (-1 : Int32).toInt < 0 ∨ ¬ (zJ zy 15).toInt = 0 from (Or.inl (by decide)))⟩, ⟨by rw [ht]; exact hP, va_K.moved hW.alike hK, hD⟩⟩, hS.F ht⟩) hS.2.2 dX11_lacksWays_17
set_option maxHeartbeats 8000000 in
set_option maxRecDepth 100000 in
theorem t_X11_ends (l : Launch) (dC : Nat → ClassId) (dI : Nat → Nat → Nat) (cy : Nat → ClassId) (sz : Nat) (zL : List Nat) (zT : Nat → Nat) (zR : Nat → Nat → Nat) (zI : Nat → Nat → Int32) (zJ : Nat → Nat → Int64) (zy : Nat) (zia : Int32) (zib : Int32) (zic : Int32) (hs : SKP zL zT zR) (hw : WT zT zR zI) (t_zy : zT zy = 18) (hz : ZI (zI (zR zy 0))) : Met l yX11_ends wsX11_ends ({ frames := 6, cells := 0, slots := 0, locals := 136 } : Room) (va_Pc [.ref zy, .int zia, .int zib, .int zic] (PRE dC dI cy (WL cy zL zT zR zI zJ) sz)) (va_Qi (fun (r : Int32) (u : (Nat → Nat → Int32) × (Nat → Nat → Int64)) => (WM [1806, 1807, 10300, 10400, 10500, 10600, 10700] AL zT zR zI u.1) ∧ ((-12) ≤ r.toInt ∧ r.toInt ≤ 23)) (fun u t => POST dC dI cy (va_A (WL cy zL zT zR zI zJ) sz) (WL cy zL zT zR u.1 u.2) t) (va_A (WL cy zL zT zR zI zJ) sz)) 0 0 (va_A (WL cy zL zT zR zI zJ) sz) := by
  refine Met.ofW (cc := cX11_ends) (maxL := 5) (ret := (some .int)) (by decide) rfl ?_
  intro p e s m args below meth c s₁ B hml hv
  obtain ⟨rfl, hsz, hP, hK, hD0, hN⟩ := hv
  have hx := B.exec
  have hb := B.bytes
  have hr := B.returns
  have hts := atoms_spec (ws := wsX11_ends) B.pre
  have hown : s.vm.findClass RX11 = some m.cls := findClass_of_methodNamed B.named
  have hlocks := B.notSynchronized
  subst hsz
  have hD := hD0.self (sz := s.heap.size)
  generalize hAe : va_A (WL cy zL zT zR zI zJ) s.heap.size = A at hD ⊢
  have hA : ∀ q : Nat, s.heap.size ≤ q → A q := fun q h => by rw [← hAe]; exact Or.inr h
  have hS : va_S A s.heap s.heap [] := va_S.rf
  have hP : va_P (dC, dI) vwCl (WL cy zL zT zR zI zJ) s.heap := hP
  have hl := lv_entry ([.ref zy, .int zia, .int zib, .int zic] : List Value) (n := 5) (Nat.le_of_ble_eq_true rfl)
  rw [lg_entry_eq]
  generalize (lg_sl ([.ref zy, .int zia, .int zib, .int zic] : List Value) ++ List.replicate (5 - (lg_sl ([.ref zy, .int zia, .int zib, .int zic] : List Value)).length) Slot.unset).toArray = ls at hl ⊢
  have hl : lv_has ls 5 [(0, .ref zy), (1, .int zia), (2, .int zib), (3, .int zic)] := hl
  refine w_q (fun Q hQ => ?_)
  have h_zI : WM [1806, 1807, 10300, 10400, 10500, 10600, 10700] AL zT zR zI zI := WM.rf hw
  refine lv_iload_n hx hb dX11_ends_0 rfl (lv_at hl 3 rfl) ?_
  refine lv_i2l (v := zic.toInt64) hx hb dX11_ends_1 rfl ?_
  refine lv_topl (fun zj_1 ezj_1 => ?_)
  have tzj_1 : zj_1.toInt = zic.toInt := by rw [ezj_1]; exact Int32.toInt_toInt64 _
  refine lv_lconst (v := 0) hx hb dX11_ends_2 (by decide) ?_
  refine lv_lconst (v := 1) hx hb dX11_ends_3 (by decide) ?_
  refine hj0_i (ws := (WL cy zL zT zR zI zJ)) (va_runS (As := [.long zj_1, .long 0, .long 1]) (rest := []) ⟨hx, hb, hml, hown, hts⟩ (c_X11_in l dC dI cy s.heap.size zj_1 0 1 0 1 zj_1.toInt (by first | rfl | decide | omega | exact Int32.toInt_toInt64 _) (by first | rfl | decide | omega | exact Int32.toInt_toInt64 _) (by first | rfl | decide | omega | exact Int32.toInt_toInt64 _)) (va_cwS 3 hts gX11_ends_X11_in rfl rfl rfl (by decide +kernel) ⟨(Nat.le_of_ble_eq_true rfl), (Nat.le_of_ble_eq_true rfl)⟩) (PRE.s (hP.sub [] rfl) hK (hD.sub [] (by decide) rfl) hN) rfl rfl hl.1 rfl (lv_room (Nat.le_of_ble_eq_true rfl)) dX11_ends_4 ⟨(Nat.le_of_ble_eq_true rfl), (Nat.le_of_ble_eq_true rfl)⟩) hP hD hS hA (fun zi_2 u_4 H locs hw_3 hP hD hS => ?_)
  have hw_3 : zi_2 = if 0 ≤ zj_1.toInt ∧ zj_1.toInt ≤ 1 then 1 else 0 := hw_3
  have b_zi_2 : 0 ≤ zi_2.toInt ∧ zi_2.toInt ≤ 1 := bz_b hw_3
  refine lv_if_ne (tgt := 12) hx hb dX11_ends_7 (by decide) (fun c_5 => ?_) (fun c_5 => ?_)
  · have f_6 : 0 ≤ zj_1.toInt ∧ zj_1.toInt ≤ 1 := bz_1 hw_3 c_5
    refine lv_aload_n hx hb dX11_ends_12 rfl (lv_at hl 0 rfl) ?_
    refine lv_iload_n hx hb dX11_ends_13 rfl (lv_at hl 1 rfl) ?_
    refine lv_iload_n hx hb dX11_ends_14 rfl (lv_at hl 2 rfl) ?_
    refine hj_i (ws := (WL cy zL zT zR zI zJ)) (w1 := fun (u : (Nat → Nat → Int32) × (Nat → Nat → Int64)) => (WL cy zL zT zR u.1 u.2)) (va_runV (As := [.int zia, .int zib]) (rest := []) ⟨hx, hb, hml, hown, hts⟩ (t_X11_lacksWays l dC dI cy H.size zL zT zR zI zJ zy zia zib hs h_zI.1 t_zy hz) (cwV 2 hts gX11_ends_X11_lacksWays rfl rfl rfl (by decide +kernel) ⟨(Nat.le_of_ble_eq_true rfl), (Nat.le_of_ble_eq_true rfl)⟩) (PRE.v hP hK hD hN (ht_recv hK hP hs t_zy (by decide) rfl rfl)) rfl rfl hl.1 rfl (lv_room (Nat.le_of_ble_eq_true rfl)) dX11_ends_15 ⟨(Nat.le_of_ble_eq_true rfl), (Nat.le_of_ble_eq_true rfl)⟩) hP hD hS hA (fun zi_7 u_9 H locs hw_8 hP hD hS => ?_)
    obtain ⟨zI_10, zJ_11⟩ := u_9
    obtain ⟨k_zI_10, b_zi_7, ps_12, ps_13⟩ : (WM [1806, 1807, 10300, 10400, 10500, 10600, 10700] AL zT zR zI zI_10) ∧ ((-12) ≤ zi_7.toInt ∧ zi_7.toInt ≤ 0) ∧ (zi_7.toInt < 0 ∨ (∃ q : Int, 0 ≤ q ∧ q < (zI_10 zy 6).toInt ∧ zA (zI_10 (zR zy 8)) (q) = zib.toInt)) ∧ (zi_7.toInt < 0 ∨ ¬ (zJ_11 zy 15).toInt = 0) := hw_8
    have h_zI_10 : WM [1806, 1807, 10300, 10400, 10500, 10600, 10700] AL zT zR zI zI_10 := h_zI.tr k_zI_10 (by decide) (fun _ _ => trivial)
    obtain ⟨zi_14, ezi_14⟩ : ∃ y : Int32, y = zI_10 zy 6 := ⟨_, rfl⟩
    have tzi_14 : 0 ≤ zi_14.toInt ∧ zi_14.toInt ≤ 12 := by rw [ezi_14]; exact h_zI_10.at t_zy _ rfl
    have lk_15 : (zI_10 zy 6).toInt = zi_14.toInt := congrArg Int32.toInt ezi_14.symm
    refine lv_istore (lv' := [(4, .int zi_7), (0, .ref zy), (1, .int zia), (2, .int zib), (3, .int zic)]) hx hb dX11_ends_18 hl (by decide) rfl (fun ls hl => ?_)
    refine lv_iload hx hb dX11_ends_20 (lv_at hl 0 rfl) ?_
    refine lv_if_ge (tgt := 30) hx hb dX11_ends_22 (by decide) (fun c_16 => ?_) (fun c_16 => ?_)
    · have f_17 : zi_7.toInt ≥ 0 := ic_ge (rfl) (by decide) c_16
      refine lv_aload_n hx hb dX11_ends_30 rfl (lv_at hl 1 rfl) ?_
      refine lv_aload_n hx hb dX11_ends_31 rfl (lv_at hl 1 rfl) ?_
      refine lv_iload_n hx hb dX11_ends_32 rfl (lv_at hl 3 rfl) ?_
      refine hj_i (ws := (WL cy zL zT zR zI_10 zJ_11)) (w1 := fun (u : Unit) => (WL cy zL zT zR zI_10 zJ_11)) (va_runV (As := [.int zib]) (rest := [.ref zy]) ⟨hx, hb, hml, hown, hts⟩ (t_X11_placeOf l dC dI cy H.size zL zT zR zI_10 zJ_11 zy zib hs h_zI_10.1 t_zy (ps_12.resolve_left (by omega))) (cwV 1 hts gX11_ends_X11_placeOf rfl rfl rfl (by decide +kernel) ⟨(Nat.le_of_ble_eq_true rfl), (Nat.le_of_ble_eq_true rfl)⟩) (PRE.v hP hK hD hN (ht_recv hK hP hs t_zy (by decide) rfl rfl)) rfl rfl hl.1 rfl (lv_room (Nat.le_of_ble_eq_true rfl)) dX11_ends_33 ⟨(Nat.le_of_ble_eq_true rfl), (Nat.le_of_ble_eq_true rfl)⟩) hP hD hS hA (fun zi_18 u_20 H locs hw_19 hP hD hS => ?_)
      obtain ⟨b_zi_18, ps_21⟩ : ((-4) ≤ zi_18.toInt ∧ zi_18.toInt ≤ 11) ∧ (0 ≤ zi_18.toInt ∧ zi_18.toInt < (zI_10 zy 6).toInt) := hw_19
      have b8_zi_18 : 0 ≤ zi_18.toInt ∧ zi_18.toInt ≤ 11 := by omega
      refine lv_iload_n hx hb dX11_ends_36 rfl (lv_at hl 4 rfl) ?_
      refine hj_i (ws := (WL cy zL zT zR zI_10 zJ_11)) (w1 := fun (u : Unit) => (WL cy zL zT zR zI_10 zJ_11)) (va_runV (As := [.int zi_18, .int zic]) (rest := []) ⟨hx, hb, hml, hown, hts⟩ (t_X11_endOf l dC dI cy H.size zL zT zR zI_10 zJ_11 zy zi_18 zic hs h_zI_10.1 t_zy (by omega)) (cwV 2 hts gX11_ends_X11_endOf rfl rfl rfl (by decide +kernel) ⟨(Nat.le_of_ble_eq_true rfl), (Nat.le_of_ble_eq_true rfl)⟩) (PRE.v hP hK hD hN (ht_recv hK hP hs t_zy (by decide) rfl rfl)) rfl rfl hl.1 rfl (lv_room (Nat.le_of_ble_eq_true rfl)) dX11_ends_37 ⟨(Nat.le_of_ble_eq_true rfl), (Nat.le_of_ble_eq_true rfl)⟩) hP hD hS hA (fun zi_22 u_24 H locs hw_23 hP hD hS => ?_)
      have b_zi_22 : (-4) ≤ zi_22.toInt ∧ zi_22.toInt ≤ 23 := hw_23
      subst hQ
      exact W.iret (v := zi_22) hx hb hr (fun t ht hW => ⟨⟨zi_22, (zI_10, zJ_11), rfl, ⟨h_zI_10, (show (-12) ≤ zi_22.toInt ∧ zi_22.toInt ≤ 23 from by omega)⟩, ⟨by rw [ht]; exact hP, va_K.moved hW.alike hK, hD⟩⟩, hS.F ht⟩) hS.2.2 dX11_ends_40
    · have f_17 : ¬ (zi_7.toInt ≥ 0) := ic_nge (rfl) (by decide) c_16
      refine lv_iload hx hb dX11_ends_25 (lv_at hl 0 rfl) ?_
      refine lv_goto (tgt := 40) hx hb dX11_ends_27 (by decide) ?_
      subst hQ
      exact W.iret (v := zi_7) hx hb hr (fun t ht hW => ⟨⟨zi_7, (zI_10, zJ_11), rfl, ⟨h_zI_10, (show (-12) ≤ zi_7.toInt ∧ zi_7.toInt ≤ 23 from by omega)⟩, ⟨by rw [ht]; exact hP, va_K.moved hW.alike hK, hD⟩⟩, hS.F ht⟩) hS.2.2 dX11_ends_40
  · have f_6 : ¬ (0 ≤ zj_1.toInt ∧ zj_1.toInt ≤ 1) := bz_0 hw_3 c_5
    refine lv_iconst (v := (-1)) hx hb dX11_ends_10 (by decide) ?_
    subst hQ
    have qc_m1 : (-1 : Int32).toInt = -1 := by decide
    exact W.iret (v := (-1 : Int32)) hx hb hr (fun t ht hW => ⟨⟨(-1 : Int32), (zI, zJ), rfl, ⟨h_zI, (show (-12) ≤ (-1 : Int32).toInt ∧ (-1 : Int32).toInt ≤ 23 from by omega)⟩, ⟨by rw [ht]; exact hP, va_K.moved hW.alike hK, hD⟩⟩, hS.F ht⟩) hS.2.2 dX11_ends_11
set_option maxHeartbeats 8000000 in
set_option maxRecDepth 100000 in
theorem t_X11_odds (l : Launch) (dC : Nat → ClassId) (dI : Nat → Nat → Nat) (cy : Nat → ClassId) (sz : Nat) (zL : List Nat) (zT : Nat → Nat) (zR : Nat → Nat → Nat) (zI : Nat → Nat → Int32) (zJ : Nat → Nat → Int64) (zy : Nat) (zia : Int32) (zib : Int32) (zic : Int32) (zid : Int32) (hs : SKP zL zT zR) (hw : WT zT zR zI) (t_zy : zT zy = 18) (hz : ZI (zI (zR zy 0))) : Met l yX11_odds wsX11_odds ({ frames := 6, cells := 0, slots := 0, locals := 136 } : Room) (va_Pc [.ref zy, .int zia, .int zib, .int zic, .int zid] (PRE dC dI cy (WL cy zL zT zR zI zJ) sz)) (va_Ql (fun (r : Int64) (u : (Nat → Nat → Int32) × (Nat → Nat → Int64)) => (WM [1806, 1807, 10300, 10400, 10500, 10600, 10700] AL zT zR zI u.1)) (fun u t => POST dC dI cy (va_A (WL cy zL zT zR zI zJ) sz) (WL cy zL zT zR u.1 u.2) t) (va_A (WL cy zL zT zR zI zJ) sz)) 0 0 (va_A (WL cy zL zT zR zI zJ) sz) := by
  refine Met.ofW (cc := cX11_odds) (maxL := 6) (ret := (some .long)) (by decide) rfl ?_
  intro p e s m args below meth c s₁ B hml hv
  obtain ⟨rfl, hsz, hP, hK, hD0, hN⟩ := hv
  have hx := B.exec
  have hb := B.bytes
  have hr := B.returns
  have hts := atoms_spec (ws := wsX11_odds) B.pre
  have hown : s.vm.findClass RX11 = some m.cls := findClass_of_methodNamed B.named
  have hlocks := B.notSynchronized
  subst hsz
  have hD := hD0.self (sz := s.heap.size)
  generalize hAe : va_A (WL cy zL zT zR zI zJ) s.heap.size = A at hD ⊢
  have hA : ∀ q : Nat, s.heap.size ≤ q → A q := fun q h => by rw [← hAe]; exact Or.inr h
  have hS : va_S A s.heap s.heap [] := va_S.rf
  have hP : va_P (dC, dI) vwCl (WL cy zL zT zR zI zJ) s.heap := hP
  have hl := lv_entry ([.ref zy, .int zia, .int zib, .int zic, .int zid] : List Value) (n := 6) (Nat.le_of_ble_eq_true rfl)
  rw [lg_entry_eq]
  generalize (lg_sl ([.ref zy, .int zia, .int zib, .int zic, .int zid] : List Value) ++ List.replicate (6 - (lg_sl ([.ref zy, .int zia, .int zib, .int zic, .int zid] : List Value)).length) Slot.unset).toArray = ls at hl ⊢
  have hl : lv_has ls 6 [(0, .ref zy), (1, .int zia), (2, .int zib), (3, .int zic), (4, .int zid)] := hl
  refine w_q (fun Q hQ => ?_)
  have h_zI : WM [1806, 1807, 10300, 10400, 10500, 10600, 10700] AL zT zR zI zI := WM.rf hw
  refine lv_iload_n hx hb dX11_odds_0 rfl (lv_at hl 3 rfl) ?_
  refine hj0_i (ws := (WL cy zL zT zR zI zJ)) (va_runS (As := [.int zic]) (rest := []) ⟨hx, hb, hml, hown, hts⟩ (c_X11_isYear l dC dI cy s.heap.size zic) (va_cwS 1 hts gX11_odds_X11_isYear rfl rfl rfl (by decide +kernel) ⟨(Nat.le_of_ble_eq_true rfl), (Nat.le_of_ble_eq_true rfl)⟩) (PRE.s (hP.sub [] rfl) hK (hD.sub [] (by decide) rfl) hN) rfl rfl hl.1 rfl (lv_room (Nat.le_of_ble_eq_true rfl)) dX11_odds_1 ⟨(Nat.le_of_ble_eq_true rfl), (Nat.le_of_ble_eq_true rfl)⟩) hP hD hS hA (fun zi_1 u_3 H locs hw_2 hP hD hS => ?_)
  have hw_2 : zi_1 = if 0 ≤ zic.toInt ∧ zic.toInt ≤ 23 then 1 else 0 := hw_2
  have b_zi_1 : 0 ≤ zi_1.toInt ∧ zi_1.toInt ≤ 1 := bz_b hw_2
  refine lv_if_eq (tgt := 18) hx hb dX11_odds_4 (by decide) (fun c_4 => ?_) (fun c_4 => ?_)
  · have f_5 : ¬ (0 ≤ zic.toInt ∧ zic.toInt ≤ 23) := bz_0 hw_2 c_4
    refine lv_ldc2 (v := (-1)) hx hb hown (hts (.constantLong RX11 236 (-1)) (by decide +kernel)) dX11_odds_18 ?_
    subst hQ
    exact W.lret (v := (-1 : Int64)) hx hb hr (fun t ht hW => ⟨⟨(-1 : Int64), (zI, zJ), rfl, h_zI, ⟨by rw [ht]; exact hP, va_K.moved hW.alike hK, hD⟩⟩, hS.F ht⟩) hS.2.2 dX11_odds_21
  · have f_5 : 0 ≤ zic.toInt ∧ zic.toInt ≤ 23 := bz_1 hw_2 c_4
    refine lv_iload hx hb dX11_odds_7 (lv_at hl 4 rfl) ?_
    refine lv_i2l (v := zid.toInt64) hx hb dX11_odds_9 rfl ?_
    refine lv_topl (fun zj_6 ezj_6 => ?_)
    have tzj_6 : zj_6.toInt = zid.toInt := by rw [ezj_6]; exact Int32.toInt_toInt64 _
    refine lv_lconst (v := 0) hx hb dX11_odds_10 (by decide) ?_
    refine lv_lconst (v := 1) hx hb dX11_odds_11 (by decide) ?_
    refine hj0_i (ws := (WL cy zL zT zR zI zJ)) (va_runS (As := [.long zj_6, .long 0, .long 1]) (rest := []) ⟨hx, hb, hml, hown, hts⟩ (c_X11_in l dC dI cy H.size zj_6 0 1 0 1 zj_6.toInt (by first | rfl | decide | omega | exact Int32.toInt_toInt64 _) (by first | rfl | decide | omega | exact Int32.toInt_toInt64 _) (by first | rfl | decide | omega | exact Int32.toInt_toInt64 _)) (va_cwS 3 hts gX11_odds_X11_in rfl rfl rfl (by decide +kernel) ⟨(Nat.le_of_ble_eq_true rfl), (Nat.le_of_ble_eq_true rfl)⟩) (PRE.s (hP.sub [] rfl) hK (hD.sub [] (by decide) rfl) hN) rfl rfl hl.1 rfl (lv_room (Nat.le_of_ble_eq_true rfl)) dX11_odds_12 ⟨(Nat.le_of_ble_eq_true rfl), (Nat.le_of_ble_eq_true rfl)⟩) hP hD hS hA (fun zi_7 u_9 H locs hw_8 hP hD hS => ?_)
    have hw_8 : zi_7 = if 0 ≤ zj_6.toInt ∧ zj_6.toInt ≤ 1 then 1 else 0 := hw_8
    have b_zi_7 : 0 ≤ zi_7.toInt ∧ zi_7.toInt ≤ 1 := bz_b hw_8
    refine lv_if_ne (tgt := 22) hx hb dX11_odds_15 (by decide) (fun c_10 => ?_) (fun c_10 => ?_)
    · have f_11 : 0 ≤ zj_6.toInt ∧ zj_6.toInt ≤ 1 := bz_1 hw_8 c_10
      refine lv_aload_n hx hb dX11_odds_22 rfl (lv_at hl 0 rfl) ?_
      refine lv_iload_n hx hb dX11_odds_23 rfl (lv_at hl 1 rfl) ?_
      refine lv_iload_n hx hb dX11_odds_24 rfl (lv_at hl 2 rfl) ?_
      refine hj_i (ws := (WL cy zL zT zR zI zJ)) (w1 := fun (u : (Nat → Nat → Int32) × (Nat → Nat → Int64)) => (WL cy zL zT zR u.1 u.2)) (va_runV (As := [.int zia, .int zib]) (rest := []) ⟨hx, hb, hml, hown, hts⟩ (t_X11_lacksWays l dC dI cy H.size zL zT zR zI zJ zy zia zib hs h_zI.1 t_zy hz) (cwV 2 hts gX11_odds_X11_lacksWays rfl rfl rfl (by decide +kernel) ⟨(Nat.le_of_ble_eq_true rfl), (Nat.le_of_ble_eq_true rfl)⟩) (PRE.v hP hK hD hN (ht_recv hK hP hs t_zy (by decide) rfl rfl)) rfl rfl hl.1 rfl (lv_room (Nat.le_of_ble_eq_true rfl)) dX11_odds_25 ⟨(Nat.le_of_ble_eq_true rfl), (Nat.le_of_ble_eq_true rfl)⟩) hP hD hS hA (fun zi_12 u_14 H locs hw_13 hP hD hS => ?_)
      obtain ⟨zI_15, zJ_16⟩ := u_14
      obtain ⟨k_zI_15, b_zi_12, ps_17, ps_18⟩ : (WM [1806, 1807, 10300, 10400, 10500, 10600, 10700] AL zT zR zI zI_15) ∧ ((-12) ≤ zi_12.toInt ∧ zi_12.toInt ≤ 0) ∧ (zi_12.toInt < 0 ∨ (∃ q : Int, 0 ≤ q ∧ q < (zI_15 zy 6).toInt ∧ zA (zI_15 (zR zy 8)) (q) = zib.toInt)) ∧ (zi_12.toInt < 0 ∨ ¬ (zJ_16 zy 15).toInt = 0) := hw_13
      have h_zI_15 : WM [1806, 1807, 10300, 10400, 10500, 10600, 10700] AL zT zR zI zI_15 := h_zI.tr k_zI_15 (by decide) (fun _ _ => trivial)
      obtain ⟨zi_19, ezi_19⟩ : ∃ y : Int32, y = zI_15 zy 6 := ⟨_, rfl⟩
      have tzi_19 : 0 ≤ zi_19.toInt ∧ zi_19.toInt ≤ 12 := by rw [ezi_19]; exact h_zI_15.at t_zy _ rfl
      have lk_20 : (zI_15 zy 6).toInt = zi_19.toInt := congrArg Int32.toInt ezi_19.symm
      refine lv_istore (lv' := [(5, .int zi_12), (0, .ref zy), (1, .int zia), (2, .int zib), (3, .int zic), (4, .int zid)]) hx hb dX11_odds_28 hl (by decide) rfl (fun ls hl => ?_)
      refine lv_iload hx hb dX11_odds_30 (lv_at hl 0 rfl) ?_
      refine lv_if_ge (tgt := 41) hx hb dX11_odds_32 (by decide) (fun c_21 => ?_) (fun c_21 => ?_)
      · have f_22 : zi_12.toInt ≥ 0 := ic_ge (rfl) (by decide) c_21
        refine lv_aload_n hx hb dX11_odds_41 rfl (lv_at hl 1 rfl) ?_
        refine lv_aload_n hx hb dX11_odds_42 rfl (lv_at hl 1 rfl) ?_
        refine lv_iload_n hx hb dX11_odds_43 rfl (lv_at hl 3 rfl) ?_
        refine hj_i (ws := (WL cy zL zT zR zI_15 zJ_16)) (w1 := fun (u : Unit) => (WL cy zL zT zR zI_15 zJ_16)) (va_runV (As := [.int zib]) (rest := [.ref zy]) ⟨hx, hb, hml, hown, hts⟩ (t_X11_placeOf l dC dI cy H.size zL zT zR zI_15 zJ_16 zy zib hs h_zI_15.1 t_zy (ps_17.resolve_left (by omega))) (cwV 1 hts gX11_odds_X11_placeOf rfl rfl rfl (by decide +kernel) ⟨(Nat.le_of_ble_eq_true rfl), (Nat.le_of_ble_eq_true rfl)⟩) (PRE.v hP hK hD hN (ht_recv hK hP hs t_zy (by decide) rfl rfl)) rfl rfl hl.1 rfl (lv_room (Nat.le_of_ble_eq_true rfl)) dX11_odds_44 ⟨(Nat.le_of_ble_eq_true rfl), (Nat.le_of_ble_eq_true rfl)⟩) hP hD hS hA (fun zi_23 u_25 H locs hw_24 hP hD hS => ?_)
        obtain ⟨b_zi_23, ps_26⟩ : ((-4) ≤ zi_23.toInt ∧ zi_23.toInt ≤ 11) ∧ (0 ≤ zi_23.toInt ∧ zi_23.toInt < (zI_15 zy 6).toInt) := hw_24
        have b8_zi_23 : 0 ≤ zi_23.toInt ∧ zi_23.toInt ≤ 11 := by omega
        refine lv_iload_n hx hb dX11_odds_47 rfl (lv_at hl 4 rfl) ?_
        refine hj_l (ws := (WL cy zL zT zR zI_15 zJ_16)) (w1 := fun (u : Unit) => (WL cy zL zT zR zI_15 zJ_16)) (va_runV (As := [.int zi_23, .int zic]) (rest := []) ⟨hx, hb, hml, hown, hts⟩ (t_X11_waysAt l dC dI cy H.size zL zT zR zI_15 zJ_16 zy zi_23 zic hs h_zI_15.1 t_zy (by omega) (by omega)) (cwV 2 hts gX11_odds_X11_waysAt rfl rfl rfl (by decide +kernel) ⟨(Nat.le_of_ble_eq_true rfl), (Nat.le_of_ble_eq_true rfl)⟩) (PRE.v hP hK hD hN (ht_recv hK hP hs t_zy (by decide) rfl rfl)) rfl rfl hl.1 rfl (lv_room (Nat.le_of_ble_eq_true rfl)) dX11_odds_48 ⟨(Nat.le_of_ble_eq_true rfl), (Nat.le_of_ble_eq_true rfl)⟩) hP hD hS hA (fun zj_27 u_29 H locs hw_28 hP hD hS => ?_)
        refine lv_aload_n hx hb dX11_odds_51 rfl (lv_at hl 1 rfl) ?_
        refine ht_getl (C := RX11) (T := TX11) (N := 28) hx hb hts (by decide +kernel) hown hK hP hs t_zy (by decide) rfl rfl 15 (by decide) (hts (.fieldLink RX11 217 "DripStoneModel" "total" "J") (by decide +kernel)) (fun _ h9 => h9) rfl dX11_odds_52 ?_
        refine lv_topl (fun zj_30 ezj_30 => ?_)
        refine lv_iload hx hb dX11_odds_55 (lv_at hl 5 rfl) ?_
        refine hj0_l (ws := (WL cy zL zT zR zI_15 zJ_16)) (va_runS (As := [.long zj_27, .long zj_30, .int zid]) (rest := []) ⟨hx, hb, hml, hown, hts⟩ (c_X11_part l dC dI cy H.size zj_27 zj_30 zid (by rw [(show zj_30 = zJ_16 zy 15 from ezj_30)]; exact ps_18.resolve_left (by omega))) (va_cwS 3 hts gX11_odds_X11_part rfl rfl rfl (by decide +kernel) ⟨(Nat.le_of_ble_eq_true rfl), (Nat.le_of_ble_eq_true rfl)⟩) (PRE.s (hP.sub [] rfl) hK (hD.sub [] (by decide) rfl) hN) rfl rfl hl.1 rfl (lv_room (Nat.le_of_ble_eq_true rfl)) dX11_odds_57 ⟨(Nat.le_of_ble_eq_true rfl), (Nat.le_of_ble_eq_true rfl)⟩) hP hD hS hA (fun zj_31 u_33 H locs hw_32 hP hD hS => ?_)
        subst hQ
        exact W.lret (v := zj_31) hx hb hr (fun t ht hW => ⟨⟨zj_31, (zI_15, zJ_16), rfl, h_zI_15, ⟨by rw [ht]; exact hP, va_K.moved hW.alike hK, hD⟩⟩, hS.F ht⟩) hS.2.2 dX11_odds_60
      · have f_22 : ¬ (zi_12.toInt ≥ 0) := ic_nge (rfl) (by decide) c_21
        refine lv_iload hx hb dX11_odds_35 (lv_at hl 0 rfl) ?_
        refine lv_i2l (v := zi_12.toInt64) hx hb dX11_odds_37 rfl ?_
        refine lv_topl (fun zj_34 ezj_34 => ?_)
        have tzj_34 : zj_34.toInt = zi_12.toInt := by rw [ezj_34]; exact Int32.toInt_toInt64 _
        refine lv_goto (tgt := 60) hx hb dX11_odds_38 (by decide) ?_
        subst hQ
        exact W.lret (v := zj_34) hx hb hr (fun t ht hW => ⟨⟨zj_34, (zI_15, zJ_16), rfl, h_zI_15, ⟨by rw [ht]; exact hP, va_K.moved hW.alike hK, hD⟩⟩, hS.F ht⟩) hS.2.2 dX11_odds_60
    · have f_11 : ¬ (0 ≤ zj_6.toInt ∧ zj_6.toInt ≤ 1) := bz_0 hw_8 c_10
      refine lv_ldc2 (v := (-1)) hx hb hown (hts (.constantLong RX11 236 (-1)) (by decide +kernel)) dX11_odds_18 ?_
      subst hQ
      exact W.lret (v := (-1 : Int64)) hx hb hr (fun t ht hW => ⟨⟨(-1 : Int64), (zI, zJ), rfl, h_zI, ⟨by rw [ht]; exact hP, va_K.moved hW.alike hK, hD⟩⟩, hS.F ht⟩) hS.2.2 dX11_odds_21
set_option maxHeartbeats 8000000 in
set_option maxRecDepth 100000 in
theorem t_X11_findAparts (l : Launch) (dC : Nat → ClassId) (dI : Nat → Nat → Nat) (cy : Nat → ClassId) (sz : Nat) (zL : List Nat) (zT : Nat → Nat) (zR : Nat → Nat → Nat) (zI : Nat → Nat → Int32) (zJ : Nat → Nat → Int64) (zy : Nat) (zip : Int32) (ziq : Int32) (hs : SKP zL zT zR) (hw : WT zT zR zI) (t_zy : zT zy = 18) (b_zip : 0 ≤ zip.toInt ∧ zip.toInt ≤ 11) (b_ziq : 0 ≤ ziq.toInt ∧ ziq.toInt ≤ 11) (hx1 : zJ zy 15 = CT zR zI zy) : Met l yX11_findAparts wsX11_findAparts ({ frames := 2, cells := 0, slots := 0, locals := 52 } : Room) (va_Pc [.ref zy, .int zip, .int ziq] (PRE dC dI cy (WL cy zL zT zR zI zJ) sz)) (va_Qv (fun (u : (Nat → Nat → Int32) × (Nat → Nat → Int64)) => (WM [10400] AL zT zR zI u.1) ∧ (u.2 zy 15 = zJ zy 15)) (fun u t => POST dC dI cy (va_A (WL cy zL zT zR zI zJ) sz) (WL cy zL zT zR u.1 u.2) t) (va_A (WL cy zL zT zR zI zJ) sz)) 0 0 (va_A (WL cy zL zT zR zI zJ) sz) := by
  refine Met.ofW (cc := cX11_findAparts) (maxL := 6) (ret := none) (by decide) rfl ?_
  intro p e s m args below meth c s₁ B hml hv
  obtain ⟨rfl, hsz, hP, hK, hD0, hN⟩ := hv
  have hx := B.exec
  have hb := B.bytes
  have hr := B.returns
  have hts := atoms_spec (ws := wsX11_findAparts) B.pre
  have hown : s.vm.findClass RX11 = some m.cls := findClass_of_methodNamed B.named
  have hlocks := B.notSynchronized
  subst hsz
  have hD := hD0.self (sz := s.heap.size)
  generalize hAe : va_A (WL cy zL zT zR zI zJ) s.heap.size = A at hD ⊢
  have hA : ∀ q : Nat, s.heap.size ≤ q → A q := fun q h => by rw [← hAe]; exact Or.inr h
  have hS : va_S A s.heap s.heap [] := va_S.rf
  have hP : va_P (dC, dI) vwCl (WL cy zL zT zR zI zJ) s.heap := hP
  have hl := lv_entry ([.ref zy, .int zip, .int ziq] : List Value) (n := 6) (Nat.le_of_ble_eq_true rfl)
  rw [lg_entry_eq]
  generalize (lg_sl ([.ref zy, .int zip, .int ziq] : List Value) ++ List.replicate (6 - (lg_sl ([.ref zy, .int zip, .int ziq] : List Value)).length) Slot.unset).toArray = ls at hl ⊢
  have hl : lv_has ls 6 [(0, .ref zy), (1, .int zip), (2, .int ziq)] := hl
  refine w_q (fun Q hQ => ?_)
  have h_zI : WM [10400] AL zT zR zI zI := WM.rf hw
  refine lv_aload_n hx hb dX11_findAparts_0 rfl (lv_at hl 0 rfl) ?_
  refine ht_getr (C := RX11) (T := TX11) (N := 28) hx hb hts (by decide +kernel) hown hK hP hs t_zy (by decide) rfl rfl 9 (by decide) (hts (.fieldLink RX11 22 "DripStoneModel" "mayYears" "[I") (by decide +kernel)) (fun _ h9 => h9) rfl dX11_findAparts_1 ?_
  have t_1 : zT (zR zy 9) = 104 := sk_f hs t_zy (by decide) rfl (by decide)
  refine lv_iload_n hx hb dX11_findAparts_4 rfl (lv_at hl 1 rfl) ?_
  refine ht_iald (n := 12) (q := 0) hx hb hK hP hs t_1 (by decide) rfl rfl ⟨by omega, by omega⟩ dX11_findAparts_5 ?_
  refine lv_topi (fun zi_2 ezi_2 => ?_)
  refine lv_istore_n (lv' := [(3, .int zi_2), (0, .ref zy), (1, .int zip), (2, .int ziq)]) hx hb dX11_findAparts_6 rfl hl (by decide) rfl (fun ls hl => ?_)
  refine lv_iconst (v := 0) hx hb dX11_findAparts_7 (by decide) ?_
  refine lv_istore (lv' := [(4, .int 0), (3, .int zi_2), (0, .ref zy), (1, .int zip), (2, .int ziq)]) hx hb dX11_findAparts_8 hl (by decide) rfl (fun ls hl => ?_)
  have lp_32 : ∀ (n : Nat) (zi_25 : Int32) (zJ_26 : Nat → Nat → Int64) (H : Heap) (locs : List Loc) (ls : Array Slot), (24 - zi_25.toInt).toNat = n → (0 ≤ zi_25.toInt ∧ zi_25.toInt ≤ 24) → va_P (dC, dI) vwCl (WL cy zL zT zR zI zJ_26) H → va_D A (WL cy zL zT zR zI zJ_26) → va_S A s.heap H locs → lv_has ls 6 [(0, .ref zy), (1, .int zip), (2, .int ziq), (3, .int zi_2), (4, .int zi_25)] → W p l e ({ frames := 2, cells := 0, slots := 0, locals := 52 } : Room) s m ([.ref zy, .int zip, .int ziq] : List Value).toArray below meth c H locs 0 0 Q (F0 m 10 ls []) := by
    intro n
    induction n using Nat.strongRecOn with
    | _ n ih_32 =>
      intro zi_25 zJ_26 H locs ls hn b_zi_25 hP hD hS hl
      refine lv_iload hx hb dX11_findAparts_10 (lv_at hl 4 rfl) ?_
      refine lv_bipush (v := 24) hx hb dX11_findAparts_12 (by decide) ?_
      refine lv_icmp_ge (tgt := 31) hx hb dX11_findAparts_14 (by decide) (fun c_33 => ?_) (fun c_33 => ?_)
      · have f_34 : zi_25.toInt ≥ (24 : Int) := ic_ge (rfl) (show (24 : Int32).toInt = 24 by decide) c_33
        refine lv_iconst (v := 0) hx hb dX11_findAparts_31 (by decide) ?_
        refine lv_istore (lv' := [(4, .int 0), (0, .ref zy), (1, .int zip), (2, .int ziq), (3, .int zi_2)]) hx hb dX11_findAparts_32 hl (by decide) rfl (fun ls hl => ?_)
        have lp_292 : ∀ (n : Nat) (zi_248 : Int32) (zI_249 : Nat → Nat → Int32) (zJ_250 : Nat → Nat → Int64) (H : Heap) (locs : List Loc) (ls : Array Slot), (24 - zi_248.toInt).toNat = n → (0 ≤ zi_248.toInt ∧ zi_248.toInt ≤ 24) → (WM [10400] AL zT zR zI zI_249) → (FX (zI (zR zy 9)) (zI_249 (zR zy 9)) zip.toInt) → va_P (dC, dI) vwCl (WL cy zL zT zR zI_249 zJ_250) H → va_D A (WL cy zL zT zR zI_249 zJ_250) → va_S A s.heap H locs → lv_has ls 6 [(0, .ref zy), (1, .int zip), (2, .int ziq), (3, .int zi_2), (4, .int zi_248)] → W p l e ({ frames := 2, cells := 0, slots := 0, locals := 52 } : Room) s m ([.ref zy, .int zip, .int ziq] : List Value).toArray below meth c H locs 0 0 Q (F0 m 34 ls []) := by
          intro n
          induction n using Nat.strongRecOn with
          | _ n ih_292 =>
            intro zi_248 zI_249 zJ_250 H locs ls hn b_zi_248 h_zI_249 e_lp_292_0 hP hD hS hl
            refine lv_iload hx hb dX11_findAparts_34 (lv_at hl 4 rfl) ?_
            refine lv_bipush (v := 24) hx hb dX11_findAparts_36 (by decide) ?_
            refine lv_icmp_ge (tgt := 109) hx hb dX11_findAparts_38 (by decide) (fun c_293 => ?_) (fun c_293 => ?_)
            · have f_294 : zi_248.toInt ≥ (24 : Int) := ic_ge (rfl) (show (24 : Int32).toInt = 24 by decide) c_293
              refine lv_aload_n hx hb dX11_findAparts_109 rfl (lv_at hl 0 rfl) ?_
              refine ht_getr (C := RX11) (T := TX11) (N := 28) hx hb hts (by decide +kernel) hown hK hP hs t_zy (by decide) rfl rfl 9 (by decide) (hts (.fieldLink RX11 22 "DripStoneModel" "mayYears" "[I") (by decide +kernel)) (fun _ h9 => h9) rfl dX11_findAparts_110 ?_
              refine lv_iload_n hx hb dX11_findAparts_113 rfl (lv_at hl 1 rfl) ?_
              refine lv_iload_n hx hb dX11_findAparts_114 rfl (lv_at hl 3 rfl) ?_
              refine ht_iast (v := zi_2) (n := 12) (q := 0) hx hb hK hP hD hS hs t_1 (by decide) rfl rfl ⟨by omega, by omega⟩ dX11_findAparts_115 (fun H locs hP hD hS => ?_)
              have h_zI_295 : WM [10400] AL zT zR zI (u2 zI_249 (zR zy 9) zip.toNatClampNeg zi_2) := h_zI_249.putA hs t_1 rfl (rgF _) (by decide) (fun h => absurd h (by decide)) (by decide) trivial
              generalize uzI_295 : u2 zI_249 (zR zy 9) zip.toNatClampNeg zi_2 = zI_295 at hP hD h_zI_295
              refine lv_aload_n hx hb dX11_findAparts_116 rfl (lv_at hl 0 rfl) ?_
              refine hj_v (ws := (WL cy zL zT zR zI_295 zJ_250)) (w1 := fun (u : (Nat → Nat → Int64)) => (WL cy zL zT zR zI_295 u)) (va_runV (As := []) (rest := []) ⟨hx, hb, hml, hown, hts⟩ (t_X11_countFront l dC dI cy H.size zL zT zR zI_295 zJ_250 zy hs h_zI_295.1 t_zy) (cwV 0 hts gX11_findAparts_X11_countFront rfl rfl rfl (by decide +kernel) ⟨(Nat.le_of_ble_eq_true rfl), (Nat.le_of_ble_eq_true rfl)⟩) (PRE.v hP hK hD hN (ht_recv hK hP hs t_zy (by decide) rfl rfl)) rfl rfl hl.1 rfl (lv_room (Nat.le_of_ble_eq_true rfl)) dX11_findAparts_117 ⟨(Nat.le_of_ble_eq_true rfl), (Nat.le_of_ble_eq_true rfl)⟩) hP hD hS hA (fun zJ_299 H locs hw_297 hP hD hS => ?_)
              obtain ⟨ps_300, ps_301, ps_302⟩ : (zJ_299 zy 15 = CT zR zI_295 zy) ∧ (0 ≤ (zJ_299 zy 15).toInt ∧ (zJ_299 zy 15).toInt ≤ 1000000000) ∧ (zJ_299 zy 20 = zJ_250 zy 20) := hw_297
              subst hQ
              have t_303 : zT (zR zy 10) = 105 := sk_f hs t_zy (by decide) rfl (by decide)
              have t_304 : zT (zR zy 11) = 106 := sk_f hs t_zy (by decide) rfl (by decide)
              have t_305 : zT (zR zy 12) = 107 := sk_f hs t_zy (by decide) rfl (by decide)
              exact W.vret hx hb hr (fun t ht hW => ⟨⟨(zI_295, zJ_299), rfl, ⟨h_zI_295, (show zJ_299 zy 15 = zJ zy 15 from (ps_300.trans ((CT.cg (h_zI_295.2 zy 6 (Or.inl (by rw [t_zy]; decide))) (h_zI_295.2 zy 7 (Or.inl (by rw [t_zy]; decide))) (by rw [← uzI_295, u2_r]; exact FX.e e_lp_292_0 rfl (by omega) ezi_2) (h_zI_295.2.row t_303 (by decide) (by decide)) (h_zI_295.2.row t_304 (by decide) (by decide)) (h_zI_295.2.row t_305 (by decide) (by decide))).trans hx1.symm)))⟩, ⟨by rw [ht]; exact hP, va_K.moved hW.alike hK, hD⟩⟩, hS.F ht⟩) hS.2.2 dX11_findAparts_120
            · have f_294 : ¬ (zi_248.toInt ≥ (24 : Int)) := ic_nge (rfl) (show (24 : Int32).toInt = 24 by decide) c_293
              refine lv_aload_n hx hb dX11_findAparts_41 rfl (lv_at hl 0 rfl) ?_
              refine ht_getr (C := RX11) (T := TX11) (N := 28) hx hb hts (by decide +kernel) hown hK hP hs t_zy (by decide) rfl rfl 9 (by decide) (hts (.fieldLink RX11 22 "DripStoneModel" "mayYears" "[I") (by decide +kernel)) (fun _ h9 => h9) rfl dX11_findAparts_42 ?_
              refine lv_iload_n hx hb dX11_findAparts_45 rfl (lv_at hl 1 rfl) ?_
              refine lv_iload_n hx hb dX11_findAparts_46 rfl (lv_at hl 3 rfl) ?_
              refine lv_iconst (v := 1) hx hb dX11_findAparts_47 (by decide) ?_
              refine lv_iload hx hb dX11_findAparts_48 (lv_at hl 4 rfl) ?_
              refine lv_ishl hx hb dX11_findAparts_50 ?_
              refine lv_topi (fun zi_306 ezi_306 => ?_)
              have rzi_306 := rng zi_306
              refine lv_iand hx hb dX11_findAparts_51 ?_
              refine lv_topi (fun zi_307 ezi_307 => ?_)
              have rzi_307 := rng zi_307
              refine ht_iast (v := zi_307) (n := 12) (q := 0) hx hb hK hP hD hS hs t_1 (by decide) rfl rfl ⟨by omega, by omega⟩ dX11_findAparts_52 (fun H locs hP hD hS => ?_)
              have h_zI_308 : WM [10400] AL zT zR zI (u2 zI_249 (zR zy 9) zip.toNatClampNeg zi_307) := h_zI_249.putA hs t_1 rfl (rgF _) (by decide) (fun h => absurd h (by decide)) (by decide) trivial
              generalize uzI_308 : u2 zI_249 (zR zy 9) zip.toNatClampNeg zi_307 = zI_308 at hP hD h_zI_308
              refine lv_aload_n hx hb dX11_findAparts_53 rfl (lv_at hl 0 rfl) ?_
              refine ht_getr (C := RX11) (T := TX11) (N := 28) hx hb hts (by decide +kernel) hown hK hP hs t_zy (by decide) rfl rfl 9 (by decide) (hts (.fieldLink RX11 22 "DripStoneModel" "mayYears" "[I") (by decide +kernel)) (fun _ h9 => h9) rfl dX11_findAparts_54 ?_
              refine lv_iload_n hx hb dX11_findAparts_57 rfl (lv_at hl 1 rfl) ?_
              refine ht_iald (n := 12) (q := 0) hx hb hK hP hs t_1 (by decide) rfl rfl ⟨by omega, by omega⟩ dX11_findAparts_58 ?_
              refine lv_topi (fun zi_309 ezi_309 => ?_)
              obtain rfl : zi_307 = zi_309 := (ezi_309.trans (by rw [← uzI_308]; exact u2_s)).symm
              refine lv_if_eq (tgt := 103) hx hb dX11_findAparts_59 (by decide) (fun c_310 => ?_) (fun c_310 => ?_)
              · have f_311 : zi_307.toInt = 0 := ic_eq (rfl) (by decide) c_310
                obtain ⟨zi_312, ezi_312⟩ : ∃ y : Int32, y = zi_248 + 1 := ⟨_, rfl⟩
                have tzi_312 : zi_312.toInt = zi_248.toInt + 1 := by rw [ezi_312]; exact tadd rfl (show (1 : Int32).toInt = 1 by decide) (by omega) (by omega)
                refine lv_iinc (v := zi_312) (lv' := [(4, .int zi_312), (0, .ref zy), (1, .int zip), (2, .int ziq), (3, .int zi_2)]) hx hb dX11_findAparts_103 hl (k := 4) rfl (by rw [ezi_312]; rfl) (by decide) rfl (fun ls hl => ?_)
                refine lv_goto (tgt := 34) hx hb dX11_findAparts_106 (by decide) ?_
                exact ih_292 (24 - zi_312.toInt).toNat (by omega) zi_312 zI_308 zJ_250 _ _ _ rfl (by omega) h_zI_308 (by rw [← uzI_308, u2_r]; exact FX.up e_lp_292_0 rfl (by omega)) hP hD hS (lv_sub hl [1, 2, 3, 4, 0] rfl)
              · have f_311 : ¬ (zi_307.toInt = 0) := ic_neq (rfl) (by decide) c_310
                refine lv_aload_n hx hb dX11_findAparts_62 rfl (lv_at hl 0 rfl) ?_
                refine hj_v (ws := (WL cy zL zT zR zI_308 zJ_250)) (w1 := fun (u : (Nat → Nat → Int64)) => (WL cy zL zT zR zI_308 u)) (va_runV (As := []) (rest := []) ⟨hx, hb, hml, hown, hts⟩ (t_X11_countFront l dC dI cy H.size zL zT zR zI_308 zJ_250 zy hs h_zI_308.1 t_zy) (cwV 0 hts gX11_findAparts_X11_countFront rfl rfl rfl (by decide +kernel) ⟨(Nat.le_of_ble_eq_true rfl), (Nat.le_of_ble_eq_true rfl)⟩) (PRE.v hP hK hD hN (ht_recv hK hP hs t_zy (by decide) rfl rfl)) rfl rfl hl.1 rfl (lv_room (Nat.le_of_ble_eq_true rfl)) dX11_findAparts_63 ⟨(Nat.le_of_ble_eq_true rfl), (Nat.le_of_ble_eq_true rfl)⟩) hP hD hS hA (fun zJ_316 H locs hw_314 hP hD hS => ?_)
                obtain ⟨ps_317, ps_318, ps_319⟩ : (zJ_316 zy 15 = CT zR zI_308 zy) ∧ (0 ≤ (zJ_316 zy 15).toInt ∧ (zJ_316 zy 15).toInt ≤ 1000000000) ∧ (zJ_316 zy 20 = zJ_250 zy 20) := hw_314
                refine lv_iload hx hb dX11_findAparts_66 (lv_at hl 4 rfl) ?_
                refine lv_istore (lv' := [(5, .int zi_248), (0, .ref zy), (1, .int zip), (2, .int ziq), (3, .int zi_2), (4, .int zi_248)]) hx hb dX11_findAparts_68 hl (by decide) rfl (fun ls hl => ?_)
                have lp_333 : ∀ (n : Nat) (zi_320 : Int32) (zJ_321 : Nat → Nat → Int64) (H : Heap) (locs : List Loc) (ls : Array Slot), (24 - zi_320.toInt).toNat = n → (0 ≤ zi_320.toInt ∧ zi_320.toInt ≤ 24) → (zi_248.toInt ≤ zi_320.toInt) → va_P (dC, dI) vwCl (WL cy zL zT zR zI_308 zJ_321) H → va_D A (WL cy zL zT zR zI_308 zJ_321) → va_S A s.heap H locs → lv_has ls 6 [(0, .ref zy), (1, .int zip), (2, .int ziq), (3, .int zi_2), (4, .int zi_248), (5, .int zi_320)] → W p l e ({ frames := 2, cells := 0, slots := 0, locals := 52 } : Room) s m ([.ref zy, .int zip, .int ziq] : List Value).toArray below meth c H locs 0 0 Q (F0 m 70 ls []) := by
                  intro n
                  induction n using Nat.strongRecOn with
                  | _ n ih_333 =>
                    intro zi_320 zJ_321 H locs ls hn b_zi_320 e_lp_333_0 hP hD hS hl
                    refine lv_iload hx hb dX11_findAparts_70 (lv_at hl 5 rfl) ?_
                    refine lv_bipush (v := 24) hx hb dX11_findAparts_72 (by decide) ?_
                    refine lv_icmp_ge (tgt := 103) hx hb dX11_findAparts_74 (by decide) (fun c_334 => ?_) (fun c_334 => ?_)
                    · have f_335 : zi_320.toInt ≥ (24 : Int) := ic_ge (rfl) (show (24 : Int32).toInt = 24 by decide) c_334
                      obtain ⟨zi_336, ezi_336⟩ : ∃ y : Int32, y = zi_248 + 1 := ⟨_, rfl⟩
                      have tzi_336 : zi_336.toInt = zi_248.toInt + 1 := by rw [ezi_336]; exact tadd rfl (show (1 : Int32).toInt = 1 by decide) (by omega) (by omega)
                      refine lv_iinc (v := zi_336) (lv' := [(4, .int zi_336), (0, .ref zy), (1, .int zip), (2, .int ziq), (3, .int zi_2), (5, .int zi_320)]) hx hb dX11_findAparts_103 hl (k := 4) rfl (by rw [ezi_336]; rfl) (by decide) rfl (fun ls hl => ?_)
                      refine lv_goto (tgt := 34) hx hb dX11_findAparts_106 (by decide) ?_
                      exact ih_292 (24 - zi_336.toInt).toNat (by omega) zi_336 zI_308 zJ_321 _ _ _ rfl (by omega) h_zI_308 (by rw [← uzI_308, u2_r]; exact FX.up e_lp_292_0 rfl (by omega)) hP hD hS (lv_sub hl [1, 2, 3, 4, 0] rfl)
                    · have f_335 : ¬ (zi_320.toInt ≥ (24 : Int)) := ic_nge (rfl) (show (24 : Int32).toInt = 24 by decide) c_334
                      refine lv_aload_n hx hb dX11_findAparts_77 rfl (lv_at hl 0 rfl) ?_
                      refine ht_getr (C := RX11) (T := TX11) (N := 28) hx hb hts (by decide +kernel) hown hK hP hs t_zy (by decide) rfl rfl 16 (by decide) (hts (.fieldLink RX11 41 "DripStoneModel" "aparts" "[J") (by decide +kernel)) (fun _ h9 => h9) rfl dX11_findAparts_78 ?_
                      have t_337 : zT (zR zy 16) = 115 := sk_f hs t_zy (by decide) rfl (by decide)
                      refine lv_iload hx hb dX11_findAparts_81 (lv_at hl 5 rfl) ?_
                      refine lv_iload hx hb dX11_findAparts_83 (lv_at hl 4 rfl) ?_
                      refine lv_isub hx hb dX11_findAparts_85 ?_
                      refine lv_topi (fun zi_338 ezi_338 => ?_)
                      have tzi_338 : zi_338.toInt = zi_320.toInt - zi_248.toInt := by rw [ezi_338]; exact tisub (rfl) (rfl) (by omega) (by omega)
                      refine lv_dup2_11 hx hb dX11_findAparts_86 rfl rfl ?_
                      refine ht_lald (n := 24) (q := 1) hx hb hK hP hs t_337 (by decide) rfl rfl ⟨by omega, by omega⟩ dX11_findAparts_87 ?_
                      refine lv_topl (fun zj_339 ezj_339 => ?_)
                      refine lv_aload_n hx hb dX11_findAparts_88 rfl (lv_at hl 0 rfl) ?_
                      refine lv_iload_n hx hb dX11_findAparts_89 rfl (lv_at hl 2 rfl) ?_
                      refine lv_iload hx hb dX11_findAparts_90 (lv_at hl 5 rfl) ?_
                      refine hj_l (ws := (WL cy zL zT zR zI_308 zJ_321)) (w1 := fun (u : Unit) => (WL cy zL zT zR zI_308 zJ_321)) (va_runV (As := [.int ziq, .int zi_320]) (rest := [.long zj_339, .int zi_338, .ref (zR zy 16)]) ⟨hx, hb, hml, hown, hts⟩ (t_X11_waysAt l dC dI cy H.size zL zT zR zI_308 zJ_321 zy ziq zi_320 hs h_zI_308.1 t_zy (by omega) (by omega)) (cwV 2 hts gX11_findAparts_X11_waysAt rfl rfl rfl (by decide +kernel) ⟨(Nat.le_of_ble_eq_true rfl), (Nat.le_of_ble_eq_true rfl)⟩) (PRE.v hP hK hD hN (ht_recv hK hP hs t_zy (by decide) rfl rfl)) rfl rfl hl.1 rfl (lv_room (Nat.le_of_ble_eq_true rfl)) dX11_findAparts_92 ⟨(Nat.le_of_ble_eq_true rfl), (Nat.le_of_ble_eq_true rfl)⟩) hP hD hS hA (fun zj_340 u_342 H locs hw_341 hP hD hS => ?_)
                      refine lv_ladd hx hb dX11_findAparts_95 ?_
                      refine lv_topl (fun zj_343 ezj_343 => ?_)
                      refine ht_last (v := zj_343) (n := 24) (q := 1) hx hb hK hP hD hS hs t_337 (by decide) rfl rfl ⟨by omega, by omega⟩ dX11_findAparts_96 (fun H locs hP hD hS => ?_)
                      generalize uzJ_344 : u2 zJ_321 (zR zy 16) zi_338.toNatClampNeg zj_343 = zJ_344 at hP hD
                      obtain ⟨zi_345, ezi_345⟩ : ∃ y : Int32, y = zi_320 + 1 := ⟨_, rfl⟩
                      have tzi_345 : zi_345.toInt = zi_320.toInt + 1 := by rw [ezi_345]; exact tadd rfl (show (1 : Int32).toInt = 1 by decide) (by omega) (by omega)
                      refine lv_iinc (v := zi_345) (lv' := [(5, .int zi_345), (0, .ref zy), (1, .int zip), (2, .int ziq), (3, .int zi_2), (4, .int zi_248)]) hx hb dX11_findAparts_97 hl (k := 5) rfl (by rw [ezi_345]; rfl) (by decide) rfl (fun ls hl => ?_)
                      refine lv_goto (tgt := 70) hx hb dX11_findAparts_100 (by decide) ?_
                      exact ih_333 (24 - zi_345.toInt).toNat (by omega) zi_345 zJ_344 _ _ _ rfl (by omega) (by omega) hP hD hS (lv_sub hl [1, 2, 3, 4, 5, 0] rfl)
                exact lp_333 _ zi_248 zJ_316 _ _ _ rfl (by omega) (by omega) hP hD hS (lv_sub hl [1, 2, 3, 4, 5, 0] rfl)
        have qc_0 : (0 : Int32).toInt = 0 := by decide
        exact lp_292 _ (0 : Int32) zI zJ_26 _ _ _ rfl (by decide) h_zI FX.rf hP hD hS (lv_sub hl [1, 2, 3, 4, 0] rfl)
      · have f_34 : ¬ (zi_25.toInt ≥ (24 : Int)) := ic_nge (rfl) (show (24 : Int32).toInt = 24 by decide) c_33
        refine lv_aload_n hx hb dX11_findAparts_17 rfl (lv_at hl 0 rfl) ?_
        refine ht_getr (C := RX11) (T := TX11) (N := 28) hx hb hts (by decide +kernel) hown hK hP hs t_zy (by decide) rfl rfl 16 (by decide) (hts (.fieldLink RX11 41 "DripStoneModel" "aparts" "[J") (by decide +kernel)) (fun _ h9 => h9) rfl dX11_findAparts_18 ?_
        have t_346 : zT (zR zy 16) = 115 := sk_f hs t_zy (by decide) rfl (by decide)
        refine lv_iload hx hb dX11_findAparts_21 (lv_at hl 4 rfl) ?_
        refine lv_lconst (v := 0) hx hb dX11_findAparts_23 (by decide) ?_
        refine ht_last (v := (0 : Int64)) (n := 24) (q := 1) hx hb hK hP hD hS hs t_346 (by decide) rfl rfl ⟨by omega, by omega⟩ dX11_findAparts_24 (fun H locs hP hD hS => ?_)
        generalize uzJ_347 : u2 zJ_26 (zR zy 16) zi_25.toNatClampNeg (0 : Int64) = zJ_347 at hP hD
        obtain ⟨zi_348, ezi_348⟩ : ∃ y : Int32, y = zi_25 + 1 := ⟨_, rfl⟩
        have tzi_348 : zi_348.toInt = zi_25.toInt + 1 := by rw [ezi_348]; exact tadd rfl (show (1 : Int32).toInt = 1 by decide) (by omega) (by omega)
        refine lv_iinc (v := zi_348) (lv' := [(4, .int zi_348), (0, .ref zy), (1, .int zip), (2, .int ziq), (3, .int zi_2)]) hx hb dX11_findAparts_25 hl (k := 4) rfl (by rw [ezi_348]; rfl) (by decide) rfl (fun ls hl => ?_)
        refine lv_goto (tgt := 10) hx hb dX11_findAparts_28 (by decide) ?_
        exact ih_32 (24 - zi_348.toInt).toNat (by omega) zi_348 zJ_347 _ _ _ rfl (by omega) hP hD hS (lv_sub hl [1, 2, 3, 4, 0] rfl)
  exact lp_32 _ (0 : Int32) zJ _ _ _ rfl (by decide) hP hD hS (lv_sub hl [2, 3, 4, 1, 0] rfl)
set_option maxHeartbeats 8000000 in
set_option maxRecDepth 100000 in
theorem t_X11_lacksTwo (l : Launch) (dC : Nat → ClassId) (dI : Nat → Nat → Nat) (cy : Nat → ClassId) (sz : Nat) (zL : List Nat) (zT : Nat → Nat) (zR : Nat → Nat → Nat) (zI : Nat → Nat → Int32) (zJ : Nat → Nat → Int64) (zy : Nat) (zic : Int32) (zit : Int32) (ziu : Int32) (hs : SKP zL zT zR) (hw : WT zT zR zI) (t_zy : zT zy = 18) (hz : ZI (zI (zR zy 0))) : Met l yX11_lacksTwo wsX11_lacksTwo ({ frames := 5, cells := 0, slots := 0, locals := 114 } : Room) (va_Pc [.ref zy, .int zic, .int zit, .int ziu] (PRE dC dI cy (WL cy zL zT zR zI zJ) sz)) (va_Qi (fun (r : Int32) (u : (Nat → Nat → Int32) × (Nat → Nat → Int64)) => (WM [1806, 1807, 10300, 10400, 10500, 10600, 10700] AL zT zR zI u.1) ∧ ((-12) ≤ r.toInt ∧ r.toInt ≤ 0) ∧ (r.toInt < 0 ∨ (∃ q : Int, 0 ≤ q ∧ q < (u.1 zy 6).toInt ∧ zA (u.1 (zR zy 8)) (q) = zit.toInt)) ∧ (r.toInt < 0 ∨ (∃ q : Int, 0 ≤ q ∧ q < (u.1 zy 6).toInt ∧ zA (u.1 (zR zy 8)) (q) = ziu.toInt)) ∧ (r.toInt < 0 ∨ ¬ (u.2 zy 15).toInt = 0) ∧ (r.toInt < 0 ∨ u.2 zy 15 = CT zR u.1 zy)) (fun u t => POST dC dI cy (va_A (WL cy zL zT zR zI zJ) sz) (WL cy zL zT zR u.1 u.2) t) (va_A (WL cy zL zT zR zI zJ) sz)) 0 0 (va_A (WL cy zL zT zR zI zJ) sz) := by
  refine Met.ofW (cc := cX11_lacksTwo) (maxL := 4) (ret := (some .int)) (by decide) rfl ?_
  intro p e s m args below meth c s₁ B hml hv
  obtain ⟨rfl, hsz, hP, hK, hD0, hN⟩ := hv
  have hx := B.exec
  have hb := B.bytes
  have hr := B.returns
  have hts := atoms_spec (ws := wsX11_lacksTwo) B.pre
  have hown : s.vm.findClass RX11 = some m.cls := findClass_of_methodNamed B.named
  have hlocks := B.notSynchronized
  subst hsz
  have hD := hD0.self (sz := s.heap.size)
  generalize hAe : va_A (WL cy zL zT zR zI zJ) s.heap.size = A at hD ⊢
  have hA : ∀ q : Nat, s.heap.size ≤ q → A q := fun q h => by rw [← hAe]; exact Or.inr h
  have hS : va_S A s.heap s.heap [] := va_S.rf
  have hP : va_P (dC, dI) vwCl (WL cy zL zT zR zI zJ) s.heap := hP
  have hl := lv_entry ([.ref zy, .int zic, .int zit, .int ziu] : List Value) (n := 4) (Nat.le_of_ble_eq_true rfl)
  rw [lg_entry_eq]
  generalize (lg_sl ([.ref zy, .int zic, .int zit, .int ziu] : List Value) ++ List.replicate (4 - (lg_sl ([.ref zy, .int zic, .int zit, .int ziu] : List Value)).length) Slot.unset).toArray = ls at hl ⊢
  have hl : lv_has ls 4 [(0, .ref zy), (1, .int zic), (2, .int zit), (3, .int ziu)] := hl
  refine w_q (fun Q hQ => ?_)
  have h_zI : WM [1806, 1807, 10300, 10400, 10500, 10600, 10700] AL zT zR zI zI := WM.rf hw
  refine lv_iload_n hx hb dX11_lacksTwo_0 rfl (lv_at hl 1 rfl) ?_
  refine hj0_i (ws := (WL cy zL zT zR zI zJ)) (va_runS (As := [.int zic]) (rest := []) ⟨hx, hb, hml, hown, hts⟩ (c_X11_isCandle l dC dI cy s.heap.size zic) (va_cwS 1 hts gX11_lacksTwo_X11_isCandle rfl rfl rfl (by decide +kernel) ⟨(Nat.le_of_ble_eq_true rfl), (Nat.le_of_ble_eq_true rfl)⟩) (PRE.s (hP.sub [] rfl) hK (hD.sub [] (by decide) rfl) hN) rfl rfl hl.1 rfl (lv_room (Nat.le_of_ble_eq_true rfl)) dX11_lacksTwo_1 ⟨(Nat.le_of_ble_eq_true rfl), (Nat.le_of_ble_eq_true rfl)⟩) hP hD hS hA (fun zi_1 u_3 H locs hw_2 hP hD hS => ?_)
  have hw_2 : zi_1 = if 0 ≤ zic.toInt ∧ zic.toInt ≤ 1 then 1 else 0 := hw_2
  have b_zi_1 : 0 ≤ zi_1.toInt ∧ zi_1.toInt ≤ 1 := bz_b hw_2
  refine lv_if_eq (tgt := 30) hx hb dX11_lacksTwo_4 (by decide) (fun c_4 => ?_) (fun c_4 => ?_)
  · have f_5 : ¬ (0 ≤ zic.toInt ∧ zic.toInt ≤ 1) := bz_0 hw_2 c_4
    refine lv_iconst (v := (-1)) hx hb dX11_lacksTwo_30 (by decide) ?_
    subst hQ
    have qc_m1 : (-1 : Int32).toInt = -1 := by decide
    exact W.iret (v := (-1 : Int32)) hx hb hr (fun t ht hW => ⟨⟨(-1 : Int32), (zI, zJ), rfl, ⟨h_zI, (show (-12) ≤ (-1 : Int32).toInt ∧ (-1 : Int32).toInt ≤ 0 from by omega), (show (-1 : Int32).toInt < 0 ∨ (∃ q : Int, 0 ≤ q ∧ q < (zI zy 6).toInt ∧ zA (zI (zR zy 8)) (q) = zit.toInt) from (Or.inl (by decide))), (show (-1 : Int32).toInt < 0 ∨ (∃ q : Int, 0 ≤ q ∧ q < (zI zy 6).toInt ∧ zA (zI (zR zy 8)) (q) = ziu.toInt) from (Or.inl (by decide))), (show (-1 : Int32).toInt < 0 ∨ ¬ (zJ zy 15).toInt = 0 from (Or.inl (by decide))), (show (-1 : Int32).toInt < 0 ∨ zJ zy 15 = CT zR zI zy from (Or.inl (by decide)))⟩, ⟨by rw [ht]; exact hP, va_K.moved hW.alike hK, hD⟩⟩, hS.F ht⟩) hS.2.2 dX11_lacksTwo_31
  · have f_5 : 0 ≤ zic.toInt ∧ zic.toInt ≤ 1 := bz_1 hw_2 c_4
    refine lv_aload_n hx hb dX11_lacksTwo_7 rfl (lv_at hl 0 rfl) ?_
    refine lv_iload_n hx hb dX11_lacksTwo_8 rfl (lv_at hl 1 rfl) ?_
    refine lv_iload_n hx hb dX11_lacksTwo_9 rfl (lv_at hl 2 rfl) ?_
    refine hj_i (ws := (WL cy zL zT zR zI zJ)) (w1 := fun (u : Unit) => (WL cy zL zT zR zI zJ)) (va_runV (As := [.int zic, .int zit]) (rest := []) ⟨hx, hb, hml, hown, hts⟩ (t_X11_isThing l dC dI cy H.size zL zT zR zI zJ zy zic zit hs h_zI.1 t_zy (by omega) hz) (cwV 2 hts gX11_lacksTwo_X11_isThing rfl rfl rfl (by decide +kernel) ⟨(Nat.le_of_ble_eq_true rfl), (Nat.le_of_ble_eq_true rfl)⟩) (PRE.v hP hK hD hN (ht_recv hK hP hs t_zy (by decide) rfl rfl)) rfl rfl hl.1 rfl (lv_room (Nat.le_of_ble_eq_true rfl)) dX11_lacksTwo_10 ⟨(Nat.le_of_ble_eq_true rfl), (Nat.le_of_ble_eq_true rfl)⟩) hP hD hS hA (fun zi_6 u_8 H locs hw_7 hP hD hS => ?_)
    obtain ⟨b_zi_6, ps_9, ps_10⟩ : (0 ≤ zi_6.toInt ∧ zi_6.toInt ≤ 1) ∧ (zi_6.toInt = 0 ∨ (0 ≤ zit.toInt ∧ zit.toInt ≤ 11)) ∧ (zi_6.toInt = 0 ∨ zit.toInt < zA (zI (zR zy 0)) (5 + zic.toInt)) := hw_7
    refine lv_if_eq (tgt := 30) hx hb dX11_lacksTwo_13 (by decide) (fun c_11 => ?_) (fun c_11 => ?_)
    · have f_12 : zi_6.toInt = 0 := ic_eq (rfl) (by decide) c_11
      refine lv_iconst (v := (-1)) hx hb dX11_lacksTwo_30 (by decide) ?_
      subst hQ
      have qc_m1 : (-1 : Int32).toInt = -1 := by decide
      exact W.iret (v := (-1 : Int32)) hx hb hr (fun t ht hW => ⟨⟨(-1 : Int32), (zI, zJ), rfl, ⟨h_zI, (show (-12) ≤ (-1 : Int32).toInt ∧ (-1 : Int32).toInt ≤ 0 from by omega), (show (-1 : Int32).toInt < 0 ∨ (∃ q : Int, 0 ≤ q ∧ q < (zI zy 6).toInt ∧ zA (zI (zR zy 8)) (q) = zit.toInt) from (Or.inl (by decide))), (show (-1 : Int32).toInt < 0 ∨ (∃ q : Int, 0 ≤ q ∧ q < (zI zy 6).toInt ∧ zA (zI (zR zy 8)) (q) = ziu.toInt) from (Or.inl (by decide))), (show (-1 : Int32).toInt < 0 ∨ ¬ (zJ zy 15).toInt = 0 from (Or.inl (by decide))), (show (-1 : Int32).toInt < 0 ∨ zJ zy 15 = CT zR zI zy from (Or.inl (by decide)))⟩, ⟨by rw [ht]; exact hP, va_K.moved hW.alike hK, hD⟩⟩, hS.F ht⟩) hS.2.2 dX11_lacksTwo_31
    · have f_12 : ¬ (zi_6.toInt = 0) := ic_neq (rfl) (by decide) c_11
      have b9_zit : 0 ≤ zit.toInt ∧ zit.toInt ≤ 11 := by omega
      refine lv_aload_n hx hb dX11_lacksTwo_16 rfl (lv_at hl 0 rfl) ?_
      refine lv_iload_n hx hb dX11_lacksTwo_17 rfl (lv_at hl 1 rfl) ?_
      refine lv_iload_n hx hb dX11_lacksTwo_18 rfl (lv_at hl 3 rfl) ?_
      refine hj_i (ws := (WL cy zL zT zR zI zJ)) (w1 := fun (u : Unit) => (WL cy zL zT zR zI zJ)) (va_runV (As := [.int zic, .int ziu]) (rest := []) ⟨hx, hb, hml, hown, hts⟩ (t_X11_isThing l dC dI cy H.size zL zT zR zI zJ zy zic ziu hs h_zI.1 t_zy (by omega) hz) (cwV 2 hts gX11_lacksTwo_X11_isThing rfl rfl rfl (by decide +kernel) ⟨(Nat.le_of_ble_eq_true rfl), (Nat.le_of_ble_eq_true rfl)⟩) (PRE.v hP hK hD hN (ht_recv hK hP hs t_zy (by decide) rfl rfl)) rfl rfl hl.1 rfl (lv_room (Nat.le_of_ble_eq_true rfl)) dX11_lacksTwo_19 ⟨(Nat.le_of_ble_eq_true rfl), (Nat.le_of_ble_eq_true rfl)⟩) hP hD hS hA (fun zi_13 u_15 H locs hw_14 hP hD hS => ?_)
      obtain ⟨b_zi_13, ps_16, ps_17⟩ : (0 ≤ zi_13.toInt ∧ zi_13.toInt ≤ 1) ∧ (zi_13.toInt = 0 ∨ (0 ≤ ziu.toInt ∧ ziu.toInt ≤ 11)) ∧ (zi_13.toInt = 0 ∨ ziu.toInt < zA (zI (zR zy 0)) (5 + zic.toInt)) := hw_14
      refine lv_if_eq (tgt := 30) hx hb dX11_lacksTwo_22 (by decide) (fun c_18 => ?_) (fun c_18 => ?_)
      · have f_19 : zi_13.toInt = 0 := ic_eq (rfl) (by decide) c_18
        refine lv_iconst (v := (-1)) hx hb dX11_lacksTwo_30 (by decide) ?_
        subst hQ
        have qc_m1 : (-1 : Int32).toInt = -1 := by decide
        exact W.iret (v := (-1 : Int32)) hx hb hr (fun t ht hW => ⟨⟨(-1 : Int32), (zI, zJ), rfl, ⟨h_zI, (show (-12) ≤ (-1 : Int32).toInt ∧ (-1 : Int32).toInt ≤ 0 from by omega), (show (-1 : Int32).toInt < 0 ∨ (∃ q : Int, 0 ≤ q ∧ q < (zI zy 6).toInt ∧ zA (zI (zR zy 8)) (q) = zit.toInt) from (Or.inl (by decide))), (show (-1 : Int32).toInt < 0 ∨ (∃ q : Int, 0 ≤ q ∧ q < (zI zy 6).toInt ∧ zA (zI (zR zy 8)) (q) = ziu.toInt) from (Or.inl (by decide))), (show (-1 : Int32).toInt < 0 ∨ ¬ (zJ zy 15).toInt = 0 from (Or.inl (by decide))), (show (-1 : Int32).toInt < 0 ∨ zJ zy 15 = CT zR zI zy from (Or.inl (by decide)))⟩, ⟨by rw [ht]; exact hP, va_K.moved hW.alike hK, hD⟩⟩, hS.F ht⟩) hS.2.2 dX11_lacksTwo_31
      · have f_19 : ¬ (zi_13.toInt = 0) := ic_neq (rfl) (by decide) c_18
        have b9_ziu : 0 ≤ ziu.toInt ∧ ziu.toInt ≤ 11 := by omega
        refine lv_iload_n hx hb dX11_lacksTwo_25 rfl (lv_at hl 3 rfl) ?_
        refine lv_iload_n hx hb dX11_lacksTwo_26 rfl (lv_at hl 2 rfl) ?_
        refine lv_icmp_gt (tgt := 32) hx hb dX11_lacksTwo_27 (by decide) (fun c_20 => ?_) (fun c_20 => ?_)
        · have f_21 : ziu.toInt > zit.toInt := ic_gt (rfl) (rfl) c_20
          refine lv_aload_n hx hb dX11_lacksTwo_32 rfl (lv_at hl 0 rfl) ?_
          refine lv_iload_n hx hb dX11_lacksTwo_33 rfl (lv_at hl 1 rfl) ?_
          refine lv_iload_n hx hb dX11_lacksTwo_34 rfl (lv_at hl 2 rfl) ?_
          refine hj_i (ws := (WL cy zL zT zR zI zJ)) (w1 := fun (u : Unit) => (WL cy zL zT zR zI zJ)) (va_runV (As := [.int zic, .int zit]) (rest := []) ⟨hx, hb, hml, hown, hts⟩ (t_X11_kindOf l dC dI cy H.size zL zT zR zI zJ zy zic zit hs h_zI.1 t_zy (by omega) (by omega) hz) (cwV 2 hts gX11_lacksTwo_X11_kindOf rfl rfl rfl (by decide +kernel) ⟨(Nat.le_of_ble_eq_true rfl), (Nat.le_of_ble_eq_true rfl)⟩) (PRE.v hP hK hD hN (ht_recv hK hP hs t_zy (by decide) rfl rfl)) rfl rfl hl.1 rfl (lv_room (Nat.le_of_ble_eq_true rfl)) dX11_lacksTwo_35 ⟨(Nat.le_of_ble_eq_true rfl), (Nat.le_of_ble_eq_true rfl)⟩) hP hD hS hA (fun zi_22 u_24 H locs hw_23 hP hD hS => ?_)
          have ps_25 : zi_22.toInt = zA (zI (zR zy 0)) (158 + 12 * zic.toInt + zit.toInt) := hw_23
          have rzi_22 := rng zi_22
          refine lv_iconst (v := 2) hx hb dX11_lacksTwo_38 (by decide) ?_
          refine lv_icmp_eq (tgt := 52) hx hb dX11_lacksTwo_39 (by decide) (fun c_26 => ?_) (fun c_26 => ?_)
          · have f_27 : zi_22.toInt = (2 : Int) := ic_eq (rfl) (show (2 : Int32).toInt = 2 by decide) c_26
            refine lv_bipush (v := (-12)) hx hb dX11_lacksTwo_52 (by decide) ?_
            subst hQ
            have qc_m12 : (-12 : Int32).toInt = -12 := by decide
            exact W.iret (v := (-12 : Int32)) hx hb hr (fun t ht hW => ⟨⟨(-12 : Int32), (zI, zJ), rfl, ⟨h_zI, (show (-12) ≤ (-12 : Int32).toInt ∧ (-12 : Int32).toInt ≤ 0 from by omega), (show (-12 : Int32).toInt < 0 ∨ (∃ q : Int, 0 ≤ q ∧ q < (zI zy 6).toInt ∧ zA (zI (zR zy 8)) (q) = zit.toInt) from (Or.inl (by decide))), (show (-12 : Int32).toInt < 0 ∨ (∃ q : Int, 0 ≤ q ∧ q < (zI zy 6).toInt ∧ zA (zI (zR zy 8)) (q) = ziu.toInt) from (Or.inl (by decide))), (show (-12 : Int32).toInt < 0 ∨ ¬ (zJ zy 15).toInt = 0 from (Or.inl (by decide))), (show (-12 : Int32).toInt < 0 ∨ zJ zy 15 = CT zR zI zy from (Or.inl (by decide)))⟩, ⟨by rw [ht]; exact hP, va_K.moved hW.alike hK, hD⟩⟩, hS.F ht⟩) hS.2.2 dX11_lacksTwo_54
          · have f_27 : ¬ (zi_22.toInt = (2 : Int)) := ic_neq (rfl) (show (2 : Int32).toInt = 2 by decide) c_26
            refine lv_aload_n hx hb dX11_lacksTwo_42 rfl (lv_at hl 0 rfl) ?_
            refine lv_iload_n hx hb dX11_lacksTwo_43 rfl (lv_at hl 1 rfl) ?_
            refine lv_iload_n hx hb dX11_lacksTwo_44 rfl (lv_at hl 3 rfl) ?_
            refine hj_i (ws := (WL cy zL zT zR zI zJ)) (w1 := fun (u : Unit) => (WL cy zL zT zR zI zJ)) (va_runV (As := [.int zic, .int ziu]) (rest := []) ⟨hx, hb, hml, hown, hts⟩ (t_X11_kindOf l dC dI cy H.size zL zT zR zI zJ zy zic ziu hs h_zI.1 t_zy (by omega) (by omega) hz) (cwV 2 hts gX11_lacksTwo_X11_kindOf rfl rfl rfl (by decide +kernel) ⟨(Nat.le_of_ble_eq_true rfl), (Nat.le_of_ble_eq_true rfl)⟩) (PRE.v hP hK hD hN (ht_recv hK hP hs t_zy (by decide) rfl rfl)) rfl rfl hl.1 rfl (lv_room (Nat.le_of_ble_eq_true rfl)) dX11_lacksTwo_45 ⟨(Nat.le_of_ble_eq_true rfl), (Nat.le_of_ble_eq_true rfl)⟩) hP hD hS hA (fun zi_28 u_30 H locs hw_29 hP hD hS => ?_)
            have ps_31 : zi_28.toInt = zA (zI (zR zy 0)) (158 + 12 * zic.toInt + ziu.toInt) := hw_29
            have rzi_28 := rng zi_28
            refine lv_iconst (v := 2) hx hb dX11_lacksTwo_48 (by decide) ?_
            refine lv_icmp_ne (tgt := 55) hx hb dX11_lacksTwo_49 (by decide) (fun c_32 => ?_) (fun c_32 => ?_)
            · have f_33 : zi_28.toInt ≠ (2 : Int) := ic_ne (rfl) (show (2 : Int32).toInt = 2 by decide) c_32
              refine lv_aload_n hx hb dX11_lacksTwo_55 rfl (lv_at hl 0 rfl) ?_
              refine lv_iload_n hx hb dX11_lacksTwo_56 rfl (lv_at hl 1 rfl) ?_
              refine hj_v (ws := (WL cy zL zT zR zI zJ)) (w1 := fun (u : (Nat → Nat → Int32) × (Nat → Nat → Int64)) => (WL cy zL zT zR u.1 u.2)) (va_runV (As := [.int zic]) (rest := []) ⟨hx, hb, hml, hown, hts⟩ (t_X11_countNow l dC dI cy H.size zL zT zR zI zJ zy zic hs h_zI.1 t_zy (by omega) hz) (cwV 1 hts gX11_lacksTwo_X11_countNow rfl rfl rfl (by decide +kernel) ⟨(Nat.le_of_ble_eq_true rfl), (Nat.le_of_ble_eq_true rfl)⟩) (PRE.v hP hK hD hN (ht_recv hK hP hs t_zy (by decide) rfl rfl)) rfl rfl hl.1 rfl (lv_room (Nat.le_of_ble_eq_true rfl)) dX11_lacksTwo_57 ⟨(Nat.le_of_ble_eq_true rfl), (Nat.le_of_ble_eq_true rfl)⟩) hP hD hS hA (fun u_36 H locs hw_35 hP hD hS => ?_)
              obtain ⟨zI_37, zJ_38⟩ := u_36
              obtain ⟨k_zI_37, ps_39, ps_40, ps_41, ps_42, ps_43⟩ : (WM [1806, 1807, 10300, 10400, 10500, 10600, 10700] AL zT zR zI zI_37) ∧ (PO (zI (zR zy 0)) (zI_37 (zR zy 8)) zic.toInt (zI_37 zy 6).toInt) ∧ ((zI_37 zy 6).toInt = PLZ (zI (zR zy 0)) zic.toInt) ∧ (zJ_38 zy 15 = CT zR zI_37 zy) ∧ (0 ≤ (zJ_38 zy 15).toInt ∧ (zJ_38 zy 15).toInt ≤ 1000000000) ∧ (zJ_38 zy 20 = zJ zy 20) := hw_35
              have h_zI_37 : WM [1806, 1807, 10300, 10400, 10500, 10600, 10700] AL zT zR zI zI_37 := h_zI.tr k_zI_37 (by decide) (fun _ _ => trivial)
              obtain ⟨zi_44, ezi_44⟩ : ∃ y : Int32, y = zI_37 zy 6 := ⟨_, rfl⟩
              have tzi_44 : 0 ≤ zi_44.toInt ∧ zi_44.toInt ≤ 12 := by rw [ezi_44]; exact h_zI_37.at t_zy _ rfl
              have lk_45 : (zI_37 zy 6).toInt = zi_44.toInt := congrArg Int32.toInt ezi_44.symm
              refine lv_aload_n hx hb dX11_lacksTwo_60 rfl (lv_at hl 0 rfl) ?_
              refine ht_getl (C := RX11) (T := TX11) (N := 28) hx hb hts (by decide +kernel) hown hK hP hs t_zy (by decide) rfl rfl 15 (by decide) (hts (.fieldLink RX11 217 "DripStoneModel" "total" "J") (by decide +kernel)) (fun _ h9 => h9) rfl dX11_lacksTwo_61 ?_
              refine lv_topl (fun zj_46 ezj_46 => ?_)
              refine lv_lconst (v := 0) hx hb dX11_lacksTwo_64 (by decide) ?_
              refine W.lcmp hx hb dX11_lacksTwo_65 ?_
              refine lv_topi (fun zi_47 ezi_47 => ?_)
              refine lv_if_ne (tgt := 74) hx hb dX11_lacksTwo_66 (by decide) (fun c_48 => ?_) (fun c_48 => ?_)
              · have f_49 : ¬ (zj_46.toInt = (0 : Int)) := lk_ne ezi_47 (rfl) (show (0 : Int64).toInt = 0 by decide) c_48
                refine lv_iconst (v := 0) hx hb dX11_lacksTwo_74 (by decide) ?_
                subst hQ
                have qc_0 : (0 : Int32).toInt = 0 := by decide
                exact W.iret (v := (0 : Int32)) hx hb hr (fun t ht hW => ⟨⟨(0 : Int32), (zI_37, zJ_38), rfl, ⟨h_zI_37, (show (-12) ≤ (0 : Int32).toInt ∧ (0 : Int32).toInt ≤ 0 from by omega), (show (0 : Int32).toInt < 0 ∨ (∃ q : Int, 0 ≤ q ∧ q < (zI_37 zy 6).toInt ∧ zA (zI_37 (zR zy 8)) (q) = zit.toInt) from (Or.inr (PO.at ps_39 (by omega) (by omega) (by omega)))), (show (0 : Int32).toInt < 0 ∨ (∃ q : Int, 0 ≤ q ∧ q < (zI_37 zy 6).toInt ∧ zA (zI_37 (zR zy 8)) (q) = ziu.toInt) from (Or.inr (PO.at ps_39 (by omega) (by omega) (by omega)))), (show (0 : Int32).toInt < 0 ∨ ¬ (zJ_38 zy 15).toInt = 0 from (Or.inr (by rw [(show zJ_38 zy 15 = zj_46 from ezj_46.symm)]; omega))), (show (0 : Int32).toInt < 0 ∨ zJ_38 zy 15 = CT zR zI_37 zy from (Or.inr ps_41))⟩, ⟨by rw [ht]; exact hP, va_K.moved hW.alike hK, hD⟩⟩, hS.F ht⟩) hS.2.2 dX11_lacksTwo_75
              · have f_49 : zj_46.toInt = (0 : Int) := lk_nne ezi_47 (rfl) (show (0 : Int64).toInt = 0 by decide) c_48
                refine lv_bipush (v := (-4)) hx hb dX11_lacksTwo_69 (by decide) ?_
                refine lv_goto (tgt := 75) hx hb dX11_lacksTwo_71 (by decide) ?_
                subst hQ
                have qc_m4 : (-4 : Int32).toInt = -4 := by decide
                exact W.iret (v := (-4 : Int32)) hx hb hr (fun t ht hW => ⟨⟨(-4 : Int32), (zI_37, zJ_38), rfl, ⟨h_zI_37, (show (-12) ≤ (-4 : Int32).toInt ∧ (-4 : Int32).toInt ≤ 0 from by omega), (show (-4 : Int32).toInt < 0 ∨ (∃ q : Int, 0 ≤ q ∧ q < (zI_37 zy 6).toInt ∧ zA (zI_37 (zR zy 8)) (q) = zit.toInt) from (Or.inl (by decide))), (show (-4 : Int32).toInt < 0 ∨ (∃ q : Int, 0 ≤ q ∧ q < (zI_37 zy 6).toInt ∧ zA (zI_37 (zR zy 8)) (q) = ziu.toInt) from (Or.inl (by decide))), (show (-4 : Int32).toInt < 0 ∨ ¬ (zJ_38 zy 15).toInt = 0 from (Or.inl (by decide))), (show (-4 : Int32).toInt < 0 ∨ zJ_38 zy 15 = CT zR zI_37 zy from (Or.inl (by decide)))⟩, ⟨by rw [ht]; exact hP, va_K.moved hW.alike hK, hD⟩⟩, hS.F ht⟩) hS.2.2 dX11_lacksTwo_75
            · have f_33 : ¬ (zi_28.toInt ≠ (2 : Int)) := ic_nne (rfl) (show (2 : Int32).toInt = 2 by decide) c_32
              refine lv_bipush (v := (-12)) hx hb dX11_lacksTwo_52 (by decide) ?_
              subst hQ
              have qc_m12 : (-12 : Int32).toInt = -12 := by decide
              exact W.iret (v := (-12 : Int32)) hx hb hr (fun t ht hW => ⟨⟨(-12 : Int32), (zI, zJ), rfl, ⟨h_zI, (show (-12) ≤ (-12 : Int32).toInt ∧ (-12 : Int32).toInt ≤ 0 from by omega), (show (-12 : Int32).toInt < 0 ∨ (∃ q : Int, 0 ≤ q ∧ q < (zI zy 6).toInt ∧ zA (zI (zR zy 8)) (q) = zit.toInt) from (Or.inl (by decide))), (show (-12 : Int32).toInt < 0 ∨ (∃ q : Int, 0 ≤ q ∧ q < (zI zy 6).toInt ∧ zA (zI (zR zy 8)) (q) = ziu.toInt) from (Or.inl (by decide))), (show (-12 : Int32).toInt < 0 ∨ ¬ (zJ zy 15).toInt = 0 from (Or.inl (by decide))), (show (-12 : Int32).toInt < 0 ∨ zJ zy 15 = CT zR zI zy from (Or.inl (by decide)))⟩, ⟨by rw [ht]; exact hP, va_K.moved hW.alike hK, hD⟩⟩, hS.F ht⟩) hS.2.2 dX11_lacksTwo_54
        · have f_21 : ¬ (ziu.toInt > zit.toInt) := ic_ngt (rfl) (rfl) c_20
          refine lv_iconst (v := (-1)) hx hb dX11_lacksTwo_30 (by decide) ?_
          subst hQ
          have qc_m1 : (-1 : Int32).toInt = -1 := by decide
          exact W.iret (v := (-1 : Int32)) hx hb hr (fun t ht hW => ⟨⟨(-1 : Int32), (zI, zJ), rfl, ⟨h_zI, (show (-12) ≤ (-1 : Int32).toInt ∧ (-1 : Int32).toInt ≤ 0 from by omega), (show (-1 : Int32).toInt < 0 ∨ (∃ q : Int, 0 ≤ q ∧ q < (zI zy 6).toInt ∧ zA (zI (zR zy 8)) (q) = zit.toInt) from (Or.inl (by decide))), (show (-1 : Int32).toInt < 0 ∨ (∃ q : Int, 0 ≤ q ∧ q < (zI zy 6).toInt ∧ zA (zI (zR zy 8)) (q) = ziu.toInt) from (Or.inl (by decide))), (show (-1 : Int32).toInt < 0 ∨ ¬ (zJ zy 15).toInt = 0 from (Or.inl (by decide))), (show (-1 : Int32).toInt < 0 ∨ zJ zy 15 = CT zR zI zy from (Or.inl (by decide)))⟩, ⟨by rw [ht]; exact hP, va_K.moved hW.alike hK, hD⟩⟩, hS.F ht⟩) hS.2.2 dX11_lacksTwo_31
set_option maxHeartbeats 8000000 in
set_option maxRecDepth 100000 in
theorem t_X11_span (l : Launch) (dC : Nat → ClassId) (dI : Nat → Nat → Nat) (cy : Nat → ClassId) (sz : Nat) (zL : List Nat) (zT : Nat → Nat) (zR : Nat → Nat → Nat) (zI : Nat → Nat → Int32) (zJ : Nat → Nat → Int64) (zy : Nat) (zia : Int32) (zib : Int32) (zic : Int32) (zid : Int32) (hs : SKP zL zT zR) (hw : WT zT zR zI) (t_zy : zT zy = 18) (hz : ZI (zI (zR zy 0))) : Met l yX11_span wsX11_span ({ frames := 6, cells := 0, slots := 0, locals := 137 } : Room) (va_Pc [.ref zy, .int zia, .int zib, .int zic, .int zid] (PRE dC dI cy (WL cy zL zT zR zI zJ) sz)) (va_Qi (fun (r : Int32) (u : (Nat → Nat → Int32) × (Nat → Nat → Int64)) => (WM [1806, 1807, 10300, 10400, 10500, 10600, 10700] AL zT zR zI u.1) ∧ ((-12) ≤ r.toInt ∧ r.toInt ≤ 23)) (fun u t => POST dC dI cy (va_A (WL cy zL zT zR zI zJ) sz) (WL cy zL zT zR u.1 u.2) t) (va_A (WL cy zL zT zR zI zJ) sz)) 0 0 (va_A (WL cy zL zT zR zI zJ) sz) := by
  refine Met.ofW (cc := cX11_span) (maxL := 9) (ret := (some .int)) (by decide) rfl ?_
  intro p e s m args below meth c s₁ B hml hv
  obtain ⟨rfl, hsz, hP, hK, hD0, hN⟩ := hv
  have hx := B.exec
  have hb := B.bytes
  have hr := B.returns
  have hts := atoms_spec (ws := wsX11_span) B.pre
  have hown : s.vm.findClass RX11 = some m.cls := findClass_of_methodNamed B.named
  have hlocks := B.notSynchronized
  subst hsz
  have hD := hD0.self (sz := s.heap.size)
  generalize hAe : va_A (WL cy zL zT zR zI zJ) s.heap.size = A at hD ⊢
  have hA : ∀ q : Nat, s.heap.size ≤ q → A q := fun q h => by rw [← hAe]; exact Or.inr h
  have hS : va_S A s.heap s.heap [] := va_S.rf
  have hP : va_P (dC, dI) vwCl (WL cy zL zT zR zI zJ) s.heap := hP
  have hl := lv_entry ([.ref zy, .int zia, .int zib, .int zic, .int zid] : List Value) (n := 9) (Nat.le_of_ble_eq_true rfl)
  rw [lg_entry_eq]
  generalize (lg_sl ([.ref zy, .int zia, .int zib, .int zic, .int zid] : List Value) ++ List.replicate (9 - (lg_sl ([.ref zy, .int zia, .int zib, .int zic, .int zid] : List Value)).length) Slot.unset).toArray = ls at hl ⊢
  have hl : lv_has ls 9 [(0, .ref zy), (1, .int zia), (2, .int zib), (3, .int zic), (4, .int zid)] := hl
  refine w_q (fun Q hQ => ?_)
  have h_zI : WM [1806, 1807, 10300, 10400, 10500, 10600, 10700] AL zT zR zI zI := WM.rf hw
  refine lv_iload hx hb dX11_span_0 (lv_at hl 4 rfl) ?_
  refine lv_i2l (v := zid.toInt64) hx hb dX11_span_2 rfl ?_
  refine lv_topl (fun zj_1 ezj_1 => ?_)
  have tzj_1 : zj_1.toInt = zid.toInt := by rw [ezj_1]; exact Int32.toInt_toInt64 _
  refine lv_lconst (v := 0) hx hb dX11_span_3 (by decide) ?_
  refine lv_lconst (v := 1) hx hb dX11_span_4 (by decide) ?_
  refine hj0_i (ws := (WL cy zL zT zR zI zJ)) (va_runS (As := [.long zj_1, .long 0, .long 1]) (rest := []) ⟨hx, hb, hml, hown, hts⟩ (c_X11_in l dC dI cy s.heap.size zj_1 0 1 0 1 zj_1.toInt (by first | rfl | decide | omega | exact Int32.toInt_toInt64 _) (by first | rfl | decide | omega | exact Int32.toInt_toInt64 _) (by first | rfl | decide | omega | exact Int32.toInt_toInt64 _)) (va_cwS 3 hts gX11_span_X11_in rfl rfl rfl (by decide +kernel) ⟨(Nat.le_of_ble_eq_true rfl), (Nat.le_of_ble_eq_true rfl)⟩) (PRE.s (hP.sub [] rfl) hK (hD.sub [] (by decide) rfl) hN) rfl rfl hl.1 rfl (lv_room (Nat.le_of_ble_eq_true rfl)) dX11_span_5 ⟨(Nat.le_of_ble_eq_true rfl), (Nat.le_of_ble_eq_true rfl)⟩) hP hD hS hA (fun zi_2 u_4 H locs hw_3 hP hD hS => ?_)
  have hw_3 : zi_2 = if 0 ≤ zj_1.toInt ∧ zj_1.toInt ≤ 1 then 1 else 0 := hw_3
  have b_zi_2 : 0 ≤ zi_2.toInt ∧ zi_2.toInt ≤ 1 := bz_b hw_3
  refine lv_if_ne (tgt := 13) hx hb dX11_span_8 (by decide) (fun c_5 => ?_) (fun c_5 => ?_)
  · have f_6 : 0 ≤ zj_1.toInt ∧ zj_1.toInt ≤ 1 := bz_1 hw_3 c_5
    refine lv_aload_n hx hb dX11_span_13 rfl (lv_at hl 0 rfl) ?_
    refine lv_iload_n hx hb dX11_span_14 rfl (lv_at hl 1 rfl) ?_
    refine lv_iload_n hx hb dX11_span_15 rfl (lv_at hl 2 rfl) ?_
    refine lv_iload_n hx hb dX11_span_16 rfl (lv_at hl 3 rfl) ?_
    refine hj_i (ws := (WL cy zL zT zR zI zJ)) (w1 := fun (u : (Nat → Nat → Int32) × (Nat → Nat → Int64)) => (WL cy zL zT zR u.1 u.2)) (va_runV (As := [.int zia, .int zib, .int zic]) (rest := []) ⟨hx, hb, hml, hown, hts⟩ (t_X11_lacksTwo l dC dI cy H.size zL zT zR zI zJ zy zia zib zic hs h_zI.1 t_zy hz) (cwV 3 hts gX11_span_X11_lacksTwo rfl rfl rfl (by decide +kernel) ⟨(Nat.le_of_ble_eq_true rfl), (Nat.le_of_ble_eq_true rfl)⟩) (PRE.v hP hK hD hN (ht_recv hK hP hs t_zy (by decide) rfl rfl)) rfl rfl hl.1 rfl (lv_room (Nat.le_of_ble_eq_true rfl)) dX11_span_17 ⟨(Nat.le_of_ble_eq_true rfl), (Nat.le_of_ble_eq_true rfl)⟩) hP hD hS hA (fun zi_7 u_9 H locs hw_8 hP hD hS => ?_)
    obtain ⟨zI_10, zJ_11⟩ := u_9
    obtain ⟨k_zI_10, b_zi_7, ps_12, ps_13, ps_14, ps_15⟩ : (WM [1806, 1807, 10300, 10400, 10500, 10600, 10700] AL zT zR zI zI_10) ∧ ((-12) ≤ zi_7.toInt ∧ zi_7.toInt ≤ 0) ∧ (zi_7.toInt < 0 ∨ (∃ q : Int, 0 ≤ q ∧ q < (zI_10 zy 6).toInt ∧ zA (zI_10 (zR zy 8)) (q) = zib.toInt)) ∧ (zi_7.toInt < 0 ∨ (∃ q : Int, 0 ≤ q ∧ q < (zI_10 zy 6).toInt ∧ zA (zI_10 (zR zy 8)) (q) = zic.toInt)) ∧ (zi_7.toInt < 0 ∨ ¬ (zJ_11 zy 15).toInt = 0) ∧ (zi_7.toInt < 0 ∨ zJ_11 zy 15 = CT zR zI_10 zy) := hw_8
    have h_zI_10 : WM [1806, 1807, 10300, 10400, 10500, 10600, 10700] AL zT zR zI zI_10 := h_zI.tr k_zI_10 (by decide) (fun _ _ => trivial)
    obtain ⟨zi_16, ezi_16⟩ : ∃ y : Int32, y = zI_10 zy 6 := ⟨_, rfl⟩
    have tzi_16 : 0 ≤ zi_16.toInt ∧ zi_16.toInt ≤ 12 := by rw [ezi_16]; exact h_zI_10.at t_zy _ rfl
    have lk_17 : (zI_10 zy 6).toInt = zi_16.toInt := congrArg Int32.toInt ezi_16.symm
    refine lv_istore (lv' := [(5, .int zi_7), (0, .ref zy), (1, .int zia), (2, .int zib), (3, .int zic), (4, .int zid)]) hx hb dX11_span_20 hl (by decide) rfl (fun ls hl => ?_)
    refine lv_iload hx hb dX11_span_22 (lv_at hl 0 rfl) ?_
    refine lv_if_ge (tgt := 30) hx hb dX11_span_24 (by decide) (fun c_18 => ?_) (fun c_18 => ?_)
    · have f_19 : zi_7.toInt ≥ 0 := ic_ge (rfl) (by decide) c_18
      refine lv_aload_n hx hb dX11_span_30 rfl (lv_at hl 1 rfl) ?_
      refine lv_aload_n hx hb dX11_span_31 rfl (lv_at hl 1 rfl) ?_
      refine lv_iload_n hx hb dX11_span_32 rfl (lv_at hl 3 rfl) ?_
      refine hj_i (ws := (WL cy zL zT zR zI_10 zJ_11)) (w1 := fun (u : Unit) => (WL cy zL zT zR zI_10 zJ_11)) (va_runV (As := [.int zib]) (rest := [.ref zy]) ⟨hx, hb, hml, hown, hts⟩ (t_X11_placeOf l dC dI cy H.size zL zT zR zI_10 zJ_11 zy zib hs h_zI_10.1 t_zy (ps_12.resolve_left (by omega))) (cwV 1 hts gX11_span_X11_placeOf rfl rfl rfl (by decide +kernel) ⟨(Nat.le_of_ble_eq_true rfl), (Nat.le_of_ble_eq_true rfl)⟩) (PRE.v hP hK hD hN (ht_recv hK hP hs t_zy (by decide) rfl rfl)) rfl rfl hl.1 rfl (lv_room (Nat.le_of_ble_eq_true rfl)) dX11_span_33 ⟨(Nat.le_of_ble_eq_true rfl), (Nat.le_of_ble_eq_true rfl)⟩) hP hD hS hA (fun zi_20 u_22 H locs hw_21 hP hD hS => ?_)
      obtain ⟨b_zi_20, ps_23⟩ : ((-4) ≤ zi_20.toInt ∧ zi_20.toInt ≤ 11) ∧ (0 ≤ zi_20.toInt ∧ zi_20.toInt < (zI_10 zy 6).toInt) := hw_21
      have b8_zi_20 : 0 ≤ zi_20.toInt ∧ zi_20.toInt ≤ 11 := by omega
      refine lv_aload_n hx hb dX11_span_36 rfl (lv_at hl 1 rfl) ?_
      refine lv_iload_n hx hb dX11_span_37 rfl (lv_at hl 4 rfl) ?_
      refine hj_i (ws := (WL cy zL zT zR zI_10 zJ_11)) (w1 := fun (u : Unit) => (WL cy zL zT zR zI_10 zJ_11)) (va_runV (As := [.int zic]) (rest := [.int zi_20, .ref zy]) ⟨hx, hb, hml, hown, hts⟩ (t_X11_placeOf l dC dI cy H.size zL zT zR zI_10 zJ_11 zy zic hs h_zI_10.1 t_zy (ps_13.resolve_left (by omega))) (cwV 1 hts gX11_span_X11_placeOf rfl rfl rfl (by decide +kernel) ⟨(Nat.le_of_ble_eq_true rfl), (Nat.le_of_ble_eq_true rfl)⟩) (PRE.v hP hK hD hN (ht_recv hK hP hs t_zy (by decide) rfl rfl)) rfl rfl hl.1 rfl (lv_room (Nat.le_of_ble_eq_true rfl)) dX11_span_38 ⟨(Nat.le_of_ble_eq_true rfl), (Nat.le_of_ble_eq_true rfl)⟩) hP hD hS hA (fun zi_24 u_26 H locs hw_25 hP hD hS => ?_)
      obtain ⟨b_zi_24, ps_27⟩ : ((-4) ≤ zi_24.toInt ∧ zi_24.toInt ≤ 11) ∧ (0 ≤ zi_24.toInt ∧ zi_24.toInt < (zI_10 zy 6).toInt) := hw_25
      have b8_zi_24 : 0 ≤ zi_24.toInt ∧ zi_24.toInt ≤ 11 := by omega
      refine hj_v (ws := (WL cy zL zT zR zI_10 zJ_11)) (w1 := fun (u : (Nat → Nat → Int32) × (Nat → Nat → Int64)) => (WL cy zL zT zR u.1 u.2)) (va_runV (As := [.int zi_20, .int zi_24]) (rest := []) ⟨hx, hb, hml, hown, hts⟩ (t_X11_findAparts l dC dI cy H.size zL zT zR zI_10 zJ_11 zy zi_20 zi_24 hs h_zI_10.1 t_zy (by omega) (by omega) (ps_15.resolve_left (by omega))) (cwV 2 hts gX11_span_X11_findAparts rfl rfl rfl (by decide +kernel) ⟨(Nat.le_of_ble_eq_true rfl), (Nat.le_of_ble_eq_true rfl)⟩) (PRE.v hP hK hD hN (ht_recv hK hP hs t_zy (by decide) rfl rfl)) rfl rfl hl.1 rfl (lv_room (Nat.le_of_ble_eq_true rfl)) dX11_span_41 ⟨(Nat.le_of_ble_eq_true rfl), (Nat.le_of_ble_eq_true rfl)⟩) hP hD hS hA (fun u_30 H locs hw_29 hP hD hS => ?_)
      obtain ⟨zI_31, zJ_32⟩ := u_30
      obtain ⟨k_zI_31, ps_33⟩ : (WM [10400] AL zT zR zI_10 zI_31) ∧ (zJ_32 zy 15 = zJ_11 zy 15) := hw_29
      have h_zI_31 : WM [1806, 1807, 10300, 10400, 10500, 10600, 10700] AL zT zR zI zI_31 := h_zI_10.tr k_zI_31 (by decide) (fun _ _ => trivial)
      refine lv_bipush (v := (-4)) hx hb dX11_span_44 (by decide) ?_
      refine lv_istore (lv' := [(6, .int (-4)), (5, .int zi_7), (0, .ref zy), (1, .int zia), (2, .int zib), (3, .int zic), (4, .int zid)]) hx hb dX11_span_46 hl (by decide) rfl (fun ls hl => ?_)
      refine lv_iconst (v := 0) hx hb dX11_span_48 (by decide) ?_
      refine lv_istore (lv' := [(7, .int 0), (6, .int (-4)), (5, .int zi_7), (0, .ref zy), (1, .int zia), (2, .int zib), (3, .int zic), (4, .int zid)]) hx hb dX11_span_49 hl (by decide) rfl (fun ls hl => ?_)
      have lp_130 : ∀ (n : Nat) (zi_109 : Int32) (zi_110 : Int32) (H : Heap) (locs : List Loc) (ls : Array Slot), (24 - zi_110.toInt).toNat = n → ((-4) ≤ zi_109.toInt ∧ zi_109.toInt ≤ 23) → (0 ≤ zi_110.toInt ∧ zi_110.toInt ≤ 24) → (ZI (zI_31 (zR zy 0))) → va_P (dC, dI) vwCl (WL cy zL zT zR zI_31 zJ_32) H → va_D A (WL cy zL zT zR zI_31 zJ_32) → va_S A s.heap H locs → lv_has ls 9 [(0, .ref zy), (1, .int zia), (2, .int zib), (3, .int zic), (4, .int zid), (5, .int zi_7), (6, .int zi_109), (7, .int zi_110)] → W p l e ({ frames := 6, cells := 0, slots := 0, locals := 137 } : Room) s m ([.ref zy, .int zia, .int zib, .int zic, .int zid] : List Value).toArray below meth c H locs 0 0 Q (F0 m 51 ls []) := by
        intro n
        induction n using Nat.strongRecOn with
        | _ n ih_130 =>
          intro zi_109 zi_110 H locs ls hn b_zi_109 b_zi_110 e_lp_130_0 hP hD hS hl
          refine lv_iload hx hb dX11_span_51 (lv_at hl 7 rfl) ?_
          refine lv_bipush (v := 24) hx hb dX11_span_53 (by decide) ?_
          refine lv_icmp_ge (tgt := 102) hx hb dX11_span_55 (by decide) (fun c_131 => ?_) (fun c_131 => ?_)
          · have f_132 : zi_110.toInt ≥ (24 : Int) := ic_ge (rfl) (show (24 : Int32).toInt = 24 by decide) c_131
            refine lv_iload hx hb dX11_span_102 (lv_at hl 6 rfl) ?_
            subst hQ
            exact W.iret (v := zi_109) hx hb hr (fun t ht hW => ⟨⟨zi_109, (zI_31, zJ_32), rfl, ⟨h_zI_31, (show (-12) ≤ zi_109.toInt ∧ zi_109.toInt ≤ 23 from by omega)⟩, ⟨by rw [ht]; exact hP, va_K.moved hW.alike hK, hD⟩⟩, hS.F ht⟩) hS.2.2 dX11_span_104
          · have f_132 : ¬ (zi_110.toInt ≥ (24 : Int)) := ic_nge (rfl) (show (24 : Int32).toInt = 24 by decide) c_131
            refine lv_iload hx hb dX11_span_58 (lv_at hl 4 rfl) ?_
            refine lv_if_ne (tgt := 71) hx hb dX11_span_60 (by decide) (fun c_133 => ?_) (fun c_133 => ?_)
            · have f_134 : zid.toInt ≠ 0 := ic_ne (rfl) (by decide) c_133
              refine lv_iload hx hb dX11_span_71 (lv_at hl 7 rfl) ?_
              refine lv_istore (lv' := [(8, .int zi_110), (0, .ref zy), (1, .int zia), (2, .int zib), (3, .int zic), (4, .int zid), (5, .int zi_7), (6, .int zi_109), (7, .int zi_110)]) hx hb dX11_span_73 hl (by decide) rfl (fun ls hl => ?_)
              refine lv_aload_n hx hb dX11_span_75 rfl (lv_at hl 1 rfl) ?_
              refine ht_getr (C := RX11) (T := TX11) (N := 28) hx hb hts (by decide +kernel) hown hK hP hs t_zy (by decide) rfl rfl 16 (by decide) (hts (.fieldLink RX11 41 "DripStoneModel" "aparts" "[J") (by decide +kernel)) (fun _ h9 => h9) rfl dX11_span_76 ?_
              have t_135 : zT (zR zy 16) = 115 := sk_f hs t_zy (by decide) rfl (by decide)
              refine lv_iload hx hb dX11_span_79 (lv_at hl 0 rfl) ?_
              refine ht_lald (n := 24) (q := 1) hx hb hK hP hs t_135 (by decide) rfl rfl ⟨by omega, by omega⟩ dX11_span_81 ?_
              refine lv_topl (fun zj_136 ezj_136 => ?_)
              refine lv_lconst (v := 0) hx hb dX11_span_82 (by decide) ?_
              refine W.lcmp hx hb dX11_span_83 ?_
              refine lv_topi (fun zi_137 ezi_137 => ?_)
              refine lv_if_le (tgt := 92) hx hb dX11_span_84 (by decide) (fun c_138 => ?_) (fun c_138 => ?_)
              · have f_139 : ¬ (zj_136.toInt > (0 : Int)) := lk_le ezi_137 (rfl) (show (0 : Int64).toInt = 0 by decide) c_138
                refine lv_iload hx hb dX11_span_92 (lv_at hl 7 rfl) ?_
                refine lv_istore (lv' := [(6, .int zi_109), (8, .int zi_110), (0, .ref zy), (1, .int zia), (2, .int zib), (3, .int zic), (4, .int zid), (5, .int zi_7), (7, .int zi_110)]) hx hb dX11_span_94 hl (by decide) rfl (fun ls hl => ?_)
                obtain ⟨zi_140, ezi_140⟩ : ∃ y : Int32, y = zi_110 + 1 := ⟨_, rfl⟩
                have tzi_140 : zi_140.toInt = zi_110.toInt + 1 := by rw [ezi_140]; exact tadd rfl (show (1 : Int32).toInt = 1 by decide) (by omega) (by omega)
                refine lv_iinc (v := zi_140) (lv' := [(7, .int zi_140), (6, .int zi_109), (8, .int zi_110), (0, .ref zy), (1, .int zia), (2, .int zib), (3, .int zic), (4, .int zid), (5, .int zi_7)]) hx hb dX11_span_96 hl (k := 8) rfl (by rw [ezi_140]; rfl) (by decide) rfl (fun ls hl => ?_)
                refine lv_goto (tgt := 51) hx hb dX11_span_99 (by decide) ?_
                exact ih_130 (24 - zi_140.toInt).toNat (by omega) zi_109 zi_140 _ _ _ rfl (by omega) (by omega) e_lp_130_0 hP hD hS (lv_sub hl [3, 4, 5, 6, 7, 8, 1, 0] rfl)
              · have f_139 : zj_136.toInt > (0 : Int) := lk_nle ezi_137 (rfl) (show (0 : Int64).toInt = 0 by decide) c_138
                refine lv_iload hx hb dX11_span_87 (lv_at hl 0 rfl) ?_
                refine lv_goto (tgt := 94) hx hb dX11_span_89 (by decide) ?_
                refine lv_istore (lv' := [(6, .int zi_110), (8, .int zi_110), (0, .ref zy), (1, .int zia), (2, .int zib), (3, .int zic), (4, .int zid), (5, .int zi_7), (7, .int zi_110)]) hx hb dX11_span_94 hl (by decide) rfl (fun ls hl => ?_)
                obtain ⟨zi_141, ezi_141⟩ : ∃ y : Int32, y = zi_110 + 1 := ⟨_, rfl⟩
                have tzi_141 : zi_141.toInt = zi_110.toInt + 1 := by rw [ezi_141]; exact tadd rfl (show (1 : Int32).toInt = 1 by decide) (by omega) (by omega)
                refine lv_iinc (v := zi_141) (lv' := [(7, .int zi_141), (6, .int zi_110), (8, .int zi_110), (0, .ref zy), (1, .int zia), (2, .int zib), (3, .int zic), (4, .int zid), (5, .int zi_7)]) hx hb dX11_span_96 hl (k := 8) rfl (by rw [ezi_141]; rfl) (by decide) rfl (fun ls hl => ?_)
                refine lv_goto (tgt := 51) hx hb dX11_span_99 (by decide) ?_
                exact ih_130 (24 - zi_141.toInt).toNat (by omega) zi_110 zi_141 _ _ _ rfl (by omega) (by omega) e_lp_130_0 hP hD hS (lv_sub hl [3, 4, 5, 6, 7, 8, 1, 0] rfl)
            · have f_134 : ¬ (zid.toInt ≠ 0) := ic_nne (rfl) (by decide) c_133
              refine lv_bipush (v := 23) hx hb dX11_span_63 (by decide) ?_
              refine lv_iload hx hb dX11_span_65 (lv_at hl 7 rfl) ?_
              refine lv_isub hx hb dX11_span_67 ?_
              refine lv_topi (fun zi_142 ezi_142 => ?_)
              have tzi_142 : zi_142.toInt = (23 : Int) - zi_110.toInt := by rw [ezi_142]; exact tisub (show (23 : Int32).toInt = 23 by decide) (rfl) (by omega) (by omega)
              refine lv_goto (tgt := 73) hx hb dX11_span_68 (by decide) ?_
              refine lv_istore (lv' := [(8, .int zi_142), (0, .ref zy), (1, .int zia), (2, .int zib), (3, .int zic), (4, .int zid), (5, .int zi_7), (6, .int zi_109), (7, .int zi_110)]) hx hb dX11_span_73 hl (by decide) rfl (fun ls hl => ?_)
              refine lv_aload_n hx hb dX11_span_75 rfl (lv_at hl 1 rfl) ?_
              refine ht_getr (C := RX11) (T := TX11) (N := 28) hx hb hts (by decide +kernel) hown hK hP hs t_zy (by decide) rfl rfl 16 (by decide) (hts (.fieldLink RX11 41 "DripStoneModel" "aparts" "[J") (by decide +kernel)) (fun _ h9 => h9) rfl dX11_span_76 ?_
              have t_143 : zT (zR zy 16) = 115 := sk_f hs t_zy (by decide) rfl (by decide)
              refine lv_iload hx hb dX11_span_79 (lv_at hl 0 rfl) ?_
              refine ht_lald (n := 24) (q := 1) hx hb hK hP hs t_143 (by decide) rfl rfl ⟨by omega, by omega⟩ dX11_span_81 ?_
              refine lv_topl (fun zj_144 ezj_144 => ?_)
              refine lv_lconst (v := 0) hx hb dX11_span_82 (by decide) ?_
              refine W.lcmp hx hb dX11_span_83 ?_
              refine lv_topi (fun zi_145 ezi_145 => ?_)
              refine lv_if_le (tgt := 92) hx hb dX11_span_84 (by decide) (fun c_146 => ?_) (fun c_146 => ?_)
              · have f_147 : ¬ (zj_144.toInt > (0 : Int)) := lk_le ezi_145 (rfl) (show (0 : Int64).toInt = 0 by decide) c_146
                refine lv_iload hx hb dX11_span_92 (lv_at hl 7 rfl) ?_
                refine lv_istore (lv' := [(6, .int zi_109), (8, .int zi_142), (0, .ref zy), (1, .int zia), (2, .int zib), (3, .int zic), (4, .int zid), (5, .int zi_7), (7, .int zi_110)]) hx hb dX11_span_94 hl (by decide) rfl (fun ls hl => ?_)
                obtain ⟨zi_148, ezi_148⟩ : ∃ y : Int32, y = zi_110 + 1 := ⟨_, rfl⟩
                have tzi_148 : zi_148.toInt = zi_110.toInt + 1 := by rw [ezi_148]; exact tadd rfl (show (1 : Int32).toInt = 1 by decide) (by omega) (by omega)
                refine lv_iinc (v := zi_148) (lv' := [(7, .int zi_148), (6, .int zi_109), (8, .int zi_142), (0, .ref zy), (1, .int zia), (2, .int zib), (3, .int zic), (4, .int zid), (5, .int zi_7)]) hx hb dX11_span_96 hl (k := 8) rfl (by rw [ezi_148]; rfl) (by decide) rfl (fun ls hl => ?_)
                refine lv_goto (tgt := 51) hx hb dX11_span_99 (by decide) ?_
                exact ih_130 (24 - zi_148.toInt).toNat (by omega) zi_109 zi_148 _ _ _ rfl (by omega) (by omega) e_lp_130_0 hP hD hS (lv_sub hl [3, 4, 5, 6, 7, 8, 1, 0] rfl)
              · have f_147 : zj_144.toInt > (0 : Int) := lk_nle ezi_145 (rfl) (show (0 : Int64).toInt = 0 by decide) c_146
                refine lv_iload hx hb dX11_span_87 (lv_at hl 0 rfl) ?_
                refine lv_goto (tgt := 94) hx hb dX11_span_89 (by decide) ?_
                refine lv_istore (lv' := [(6, .int zi_142), (8, .int zi_142), (0, .ref zy), (1, .int zia), (2, .int zib), (3, .int zic), (4, .int zid), (5, .int zi_7), (7, .int zi_110)]) hx hb dX11_span_94 hl (by decide) rfl (fun ls hl => ?_)
                obtain ⟨zi_149, ezi_149⟩ : ∃ y : Int32, y = zi_110 + 1 := ⟨_, rfl⟩
                have tzi_149 : zi_149.toInt = zi_110.toInt + 1 := by rw [ezi_149]; exact tadd rfl (show (1 : Int32).toInt = 1 by decide) (by omega) (by omega)
                refine lv_iinc (v := zi_149) (lv' := [(7, .int zi_149), (6, .int zi_142), (8, .int zi_142), (0, .ref zy), (1, .int zia), (2, .int zib), (3, .int zic), (4, .int zid), (5, .int zi_7)]) hx hb dX11_span_96 hl (k := 8) rfl (by rw [ezi_149]; rfl) (by decide) rfl (fun ls hl => ?_)
                refine lv_goto (tgt := 51) hx hb dX11_span_99 (by decide) ?_
                exact ih_130 (24 - zi_149.toInt).toNat (by omega) zi_142 zi_149 _ _ _ rfl (by omega) (by omega) e_lp_130_0 hP hD hS (lv_sub hl [3, 4, 5, 6, 7, 8, 1, 0] rfl)
      have qc_m4 : ((-4) : Int32).toInt = -4 := by decide
      have qc_0 : (0 : Int32).toInt = 0 := by decide
      have t_150 : zT (zR zy 0) = 100 := sk_f hs t_zy (by decide) rfl (by decide)
      have zz_151 : ZI (zI_31 (zR zy 0)) := by rw [(k_zI_31.2.row t_150 (by decide) (by decide)), (k_zI_10.2.row t_150 (by decide) (by decide))]; exact hz
      exact lp_130 _ (-4 : Int32) (0 : Int32) _ _ _ rfl (by decide) (by decide) zz_151 hP hD hS (lv_sub hl [3, 4, 5, 6, 7, 2, 1, 0] rfl)
    · have f_19 : ¬ (zi_7.toInt ≥ 0) := ic_nge (rfl) (by decide) c_18
      refine lv_iload hx hb dX11_span_27 (lv_at hl 0 rfl) ?_
      subst hQ
      exact W.iret (v := zi_7) hx hb hr (fun t ht hW => ⟨⟨zi_7, (zI_10, zJ_11), rfl, ⟨h_zI_10, (show (-12) ≤ zi_7.toInt ∧ zi_7.toInt ≤ 23 from by omega)⟩, ⟨by rw [ht]; exact hP, va_K.moved hW.alike hK, hD⟩⟩, hS.F ht⟩) hS.2.2 dX11_span_29
  · have f_6 : ¬ (0 ≤ zj_1.toInt ∧ zj_1.toInt ≤ 1) := bz_0 hw_3 c_5
    refine lv_iconst (v := (-1)) hx hb dX11_span_11 (by decide) ?_
    subst hQ
    have qc_m1 : (-1 : Int32).toInt = -1 := by decide
    exact W.iret (v := (-1 : Int32)) hx hb hr (fun t ht hW => ⟨⟨(-1 : Int32), (zI, zJ), rfl, ⟨h_zI, (show (-12) ≤ (-1 : Int32).toInt ∧ (-1 : Int32).toInt ≤ 23 from by omega)⟩, ⟨by rw [ht]; exact hP, va_K.moved hW.alike hK, hD⟩⟩, hS.F ht⟩) hS.2.2 dX11_span_12
set_option maxHeartbeats 8000000 in
set_option maxRecDepth 100000 in
theorem t_X11_apart (l : Launch) (dC : Nat → ClassId) (dI : Nat → Nat → Nat) (cy : Nat → ClassId) (sz : Nat) (zL : List Nat) (zT : Nat → Nat) (zR : Nat → Nat → Nat) (zI : Nat → Nat → Int32) (zJ : Nat → Nat → Int64) (zy : Nat) (zia : Int32) (zib : Int32) (zic : Int32) (zid : Int32) (zie : Int32) (hs : SKP zL zT zR) (hw : WT zT zR zI) (t_zy : zT zy = 18) (hz : ZI (zI (zR zy 0))) : Met l yX11_apart wsX11_apart ({ frames := 6, cells := 0, slots := 0, locals := 137 } : Room) (va_Pc [.ref zy, .int zia, .int zib, .int zic, .int zid, .int zie] (PRE dC dI cy (WL cy zL zT zR zI zJ) sz)) (va_Ql (fun (r : Int64) (u : (Nat → Nat → Int32) × (Nat → Nat → Int64)) => (WM [1806, 1807, 10300, 10400, 10500, 10600, 10700] AL zT zR zI u.1)) (fun u t => POST dC dI cy (va_A (WL cy zL zT zR zI zJ) sz) (WL cy zL zT zR u.1 u.2) t) (va_A (WL cy zL zT zR zI zJ) sz)) 0 0 (va_A (WL cy zL zT zR zI zJ) sz) := by
  refine Met.ofW (cc := cX11_apart) (maxL := 10) (ret := (some .long)) (by decide) rfl ?_
  intro p e s m args below meth c s₁ B hml hv
  obtain ⟨rfl, hsz, hP, hK, hD0, hN⟩ := hv
  have hx := B.exec
  have hb := B.bytes
  have hr := B.returns
  have hts := atoms_spec (ws := wsX11_apart) B.pre
  have hown : s.vm.findClass RX11 = some m.cls := findClass_of_methodNamed B.named
  have hlocks := B.notSynchronized
  subst hsz
  have hD := hD0.self (sz := s.heap.size)
  generalize hAe : va_A (WL cy zL zT zR zI zJ) s.heap.size = A at hD ⊢
  have hA : ∀ q : Nat, s.heap.size ≤ q → A q := fun q h => by rw [← hAe]; exact Or.inr h
  have hS : va_S A s.heap s.heap [] := va_S.rf
  have hP : va_P (dC, dI) vwCl (WL cy zL zT zR zI zJ) s.heap := hP
  have hl := lv_entry ([.ref zy, .int zia, .int zib, .int zic, .int zid, .int zie] : List Value) (n := 10) (Nat.le_of_ble_eq_true rfl)
  rw [lg_entry_eq]
  generalize (lg_sl ([.ref zy, .int zia, .int zib, .int zic, .int zid, .int zie] : List Value) ++ List.replicate (10 - (lg_sl ([.ref zy, .int zia, .int zib, .int zic, .int zid, .int zie] : List Value)).length) Slot.unset).toArray = ls at hl ⊢
  have hl : lv_has ls 10 [(0, .ref zy), (1, .int zia), (2, .int zib), (3, .int zic), (4, .int zid), (5, .int zie)] := hl
  refine w_q (fun Q hQ => ?_)
  have h_zI : WM [1806, 1807, 10300, 10400, 10500, 10600, 10700] AL zT zR zI zI := WM.rf hw
  refine lv_iload hx hb dX11_apart_0 (lv_at hl 4 rfl) ?_
  refine hj0_i (ws := (WL cy zL zT zR zI zJ)) (va_runS (As := [.int zid]) (rest := []) ⟨hx, hb, hml, hown, hts⟩ (c_X11_isYear l dC dI cy s.heap.size zid) (va_cwS 1 hts gX11_apart_X11_isYear rfl rfl rfl (by decide +kernel) ⟨(Nat.le_of_ble_eq_true rfl), (Nat.le_of_ble_eq_true rfl)⟩) (PRE.s (hP.sub [] rfl) hK (hD.sub [] (by decide) rfl) hN) rfl rfl hl.1 rfl (lv_room (Nat.le_of_ble_eq_true rfl)) dX11_apart_2 ⟨(Nat.le_of_ble_eq_true rfl), (Nat.le_of_ble_eq_true rfl)⟩) hP hD hS hA (fun zi_1 u_3 H locs hw_2 hP hD hS => ?_)
  have hw_2 : zi_1 = if 0 ≤ zid.toInt ∧ zid.toInt ≤ 23 then 1 else 0 := hw_2
  have b_zi_1 : 0 ≤ zi_1.toInt ∧ zi_1.toInt ≤ 1 := bz_b hw_2
  refine lv_if_eq (tgt := 19) hx hb dX11_apart_5 (by decide) (fun c_4 => ?_) (fun c_4 => ?_)
  · have f_5 : ¬ (0 ≤ zid.toInt ∧ zid.toInt ≤ 23) := bz_0 hw_2 c_4
    refine lv_ldc2 (v := (-1)) hx hb hown (hts (.constantLong RX11 236 (-1)) (by decide +kernel)) dX11_apart_19 ?_
    subst hQ
    exact W.lret (v := (-1 : Int64)) hx hb hr (fun t ht hW => ⟨⟨(-1 : Int64), (zI, zJ), rfl, h_zI, ⟨by rw [ht]; exact hP, va_K.moved hW.alike hK, hD⟩⟩, hS.F ht⟩) hS.2.2 dX11_apart_22
  · have f_5 : 0 ≤ zid.toInt ∧ zid.toInt ≤ 23 := bz_1 hw_2 c_4
    refine lv_iload hx hb dX11_apart_8 (lv_at hl 5 rfl) ?_
    refine lv_i2l (v := zie.toInt64) hx hb dX11_apart_10 rfl ?_
    refine lv_topl (fun zj_6 ezj_6 => ?_)
    have tzj_6 : zj_6.toInt = zie.toInt := by rw [ezj_6]; exact Int32.toInt_toInt64 _
    refine lv_lconst (v := 0) hx hb dX11_apart_11 (by decide) ?_
    refine lv_lconst (v := 1) hx hb dX11_apart_12 (by decide) ?_
    refine hj0_i (ws := (WL cy zL zT zR zI zJ)) (va_runS (As := [.long zj_6, .long 0, .long 1]) (rest := []) ⟨hx, hb, hml, hown, hts⟩ (c_X11_in l dC dI cy H.size zj_6 0 1 0 1 zj_6.toInt (by first | rfl | decide | omega | exact Int32.toInt_toInt64 _) (by first | rfl | decide | omega | exact Int32.toInt_toInt64 _) (by first | rfl | decide | omega | exact Int32.toInt_toInt64 _)) (va_cwS 3 hts gX11_apart_X11_in rfl rfl rfl (by decide +kernel) ⟨(Nat.le_of_ble_eq_true rfl), (Nat.le_of_ble_eq_true rfl)⟩) (PRE.s (hP.sub [] rfl) hK (hD.sub [] (by decide) rfl) hN) rfl rfl hl.1 rfl (lv_room (Nat.le_of_ble_eq_true rfl)) dX11_apart_13 ⟨(Nat.le_of_ble_eq_true rfl), (Nat.le_of_ble_eq_true rfl)⟩) hP hD hS hA (fun zi_7 u_9 H locs hw_8 hP hD hS => ?_)
    have hw_8 : zi_7 = if 0 ≤ zj_6.toInt ∧ zj_6.toInt ≤ 1 then 1 else 0 := hw_8
    have b_zi_7 : 0 ≤ zi_7.toInt ∧ zi_7.toInt ≤ 1 := bz_b hw_8
    refine lv_if_ne (tgt := 23) hx hb dX11_apart_16 (by decide) (fun c_10 => ?_) (fun c_10 => ?_)
    · have f_11 : 0 ≤ zj_6.toInt ∧ zj_6.toInt ≤ 1 := bz_1 hw_8 c_10
      refine lv_aload_n hx hb dX11_apart_23 rfl (lv_at hl 0 rfl) ?_
      refine lv_iload_n hx hb dX11_apart_24 rfl (lv_at hl 1 rfl) ?_
      refine lv_iload_n hx hb dX11_apart_25 rfl (lv_at hl 2 rfl) ?_
      refine lv_iload_n hx hb dX11_apart_26 rfl (lv_at hl 3 rfl) ?_
      refine hj_i (ws := (WL cy zL zT zR zI zJ)) (w1 := fun (u : (Nat → Nat → Int32) × (Nat → Nat → Int64)) => (WL cy zL zT zR u.1 u.2)) (va_runV (As := [.int zia, .int zib, .int zic]) (rest := []) ⟨hx, hb, hml, hown, hts⟩ (t_X11_lacksTwo l dC dI cy H.size zL zT zR zI zJ zy zia zib zic hs h_zI.1 t_zy hz) (cwV 3 hts gX11_apart_X11_lacksTwo rfl rfl rfl (by decide +kernel) ⟨(Nat.le_of_ble_eq_true rfl), (Nat.le_of_ble_eq_true rfl)⟩) (PRE.v hP hK hD hN (ht_recv hK hP hs t_zy (by decide) rfl rfl)) rfl rfl hl.1 rfl (lv_room (Nat.le_of_ble_eq_true rfl)) dX11_apart_27 ⟨(Nat.le_of_ble_eq_true rfl), (Nat.le_of_ble_eq_true rfl)⟩) hP hD hS hA (fun zi_12 u_14 H locs hw_13 hP hD hS => ?_)
      obtain ⟨zI_15, zJ_16⟩ := u_14
      obtain ⟨k_zI_15, b_zi_12, ps_17, ps_18, ps_19, ps_20⟩ : (WM [1806, 1807, 10300, 10400, 10500, 10600, 10700] AL zT zR zI zI_15) ∧ ((-12) ≤ zi_12.toInt ∧ zi_12.toInt ≤ 0) ∧ (zi_12.toInt < 0 ∨ (∃ q : Int, 0 ≤ q ∧ q < (zI_15 zy 6).toInt ∧ zA (zI_15 (zR zy 8)) (q) = zib.toInt)) ∧ (zi_12.toInt < 0 ∨ (∃ q : Int, 0 ≤ q ∧ q < (zI_15 zy 6).toInt ∧ zA (zI_15 (zR zy 8)) (q) = zic.toInt)) ∧ (zi_12.toInt < 0 ∨ ¬ (zJ_16 zy 15).toInt = 0) ∧ (zi_12.toInt < 0 ∨ zJ_16 zy 15 = CT zR zI_15 zy) := hw_13
      have h_zI_15 : WM [1806, 1807, 10300, 10400, 10500, 10600, 10700] AL zT zR zI zI_15 := h_zI.tr k_zI_15 (by decide) (fun _ _ => trivial)
      obtain ⟨zi_21, ezi_21⟩ : ∃ y : Int32, y = zI_15 zy 6 := ⟨_, rfl⟩
      have tzi_21 : 0 ≤ zi_21.toInt ∧ zi_21.toInt ≤ 12 := by rw [ezi_21]; exact h_zI_15.at t_zy _ rfl
      have lk_22 : (zI_15 zy 6).toInt = zi_21.toInt := congrArg Int32.toInt ezi_21.symm
      refine lv_istore (lv' := [(6, .int zi_12), (0, .ref zy), (1, .int zia), (2, .int zib), (3, .int zic), (4, .int zid), (5, .int zie)]) hx hb dX11_apart_30 hl (by decide) rfl (fun ls hl => ?_)
      refine lv_iload hx hb dX11_apart_32 (lv_at hl 0 rfl) ?_
      refine lv_if_ge (tgt := 41) hx hb dX11_apart_34 (by decide) (fun c_23 => ?_) (fun c_23 => ?_)
      · have f_24 : zi_12.toInt ≥ 0 := ic_ge (rfl) (by decide) c_23
        refine lv_aload_n hx hb dX11_apart_41 rfl (lv_at hl 1 rfl) ?_
        refine lv_aload_n hx hb dX11_apart_42 rfl (lv_at hl 1 rfl) ?_
        refine lv_iload_n hx hb dX11_apart_43 rfl (lv_at hl 3 rfl) ?_
        refine hj_i (ws := (WL cy zL zT zR zI_15 zJ_16)) (w1 := fun (u : Unit) => (WL cy zL zT zR zI_15 zJ_16)) (va_runV (As := [.int zib]) (rest := [.ref zy]) ⟨hx, hb, hml, hown, hts⟩ (t_X11_placeOf l dC dI cy H.size zL zT zR zI_15 zJ_16 zy zib hs h_zI_15.1 t_zy (ps_17.resolve_left (by omega))) (cwV 1 hts gX11_apart_X11_placeOf rfl rfl rfl (by decide +kernel) ⟨(Nat.le_of_ble_eq_true rfl), (Nat.le_of_ble_eq_true rfl)⟩) (PRE.v hP hK hD hN (ht_recv hK hP hs t_zy (by decide) rfl rfl)) rfl rfl hl.1 rfl (lv_room (Nat.le_of_ble_eq_true rfl)) dX11_apart_44 ⟨(Nat.le_of_ble_eq_true rfl), (Nat.le_of_ble_eq_true rfl)⟩) hP hD hS hA (fun zi_25 u_27 H locs hw_26 hP hD hS => ?_)
        obtain ⟨b_zi_25, ps_28⟩ : ((-4) ≤ zi_25.toInt ∧ zi_25.toInt ≤ 11) ∧ (0 ≤ zi_25.toInt ∧ zi_25.toInt < (zI_15 zy 6).toInt) := hw_26
        have b8_zi_25 : 0 ≤ zi_25.toInt ∧ zi_25.toInt ≤ 11 := by omega
        refine lv_aload_n hx hb dX11_apart_47 rfl (lv_at hl 1 rfl) ?_
        refine lv_iload_n hx hb dX11_apart_48 rfl (lv_at hl 4 rfl) ?_
        refine hj_i (ws := (WL cy zL zT zR zI_15 zJ_16)) (w1 := fun (u : Unit) => (WL cy zL zT zR zI_15 zJ_16)) (va_runV (As := [.int zic]) (rest := [.int zi_25, .ref zy]) ⟨hx, hb, hml, hown, hts⟩ (t_X11_placeOf l dC dI cy H.size zL zT zR zI_15 zJ_16 zy zic hs h_zI_15.1 t_zy (ps_18.resolve_left (by omega))) (cwV 1 hts gX11_apart_X11_placeOf rfl rfl rfl (by decide +kernel) ⟨(Nat.le_of_ble_eq_true rfl), (Nat.le_of_ble_eq_true rfl)⟩) (PRE.v hP hK hD hN (ht_recv hK hP hs t_zy (by decide) rfl rfl)) rfl rfl hl.1 rfl (lv_room (Nat.le_of_ble_eq_true rfl)) dX11_apart_49 ⟨(Nat.le_of_ble_eq_true rfl), (Nat.le_of_ble_eq_true rfl)⟩) hP hD hS hA (fun zi_29 u_31 H locs hw_30 hP hD hS => ?_)
        obtain ⟨b_zi_29, ps_32⟩ : ((-4) ≤ zi_29.toInt ∧ zi_29.toInt ≤ 11) ∧ (0 ≤ zi_29.toInt ∧ zi_29.toInt < (zI_15 zy 6).toInt) := hw_30
        have b8_zi_29 : 0 ≤ zi_29.toInt ∧ zi_29.toInt ≤ 11 := by omega
        refine hj_v (ws := (WL cy zL zT zR zI_15 zJ_16)) (w1 := fun (u : (Nat → Nat → Int32) × (Nat → Nat → Int64)) => (WL cy zL zT zR u.1 u.2)) (va_runV (As := [.int zi_25, .int zi_29]) (rest := []) ⟨hx, hb, hml, hown, hts⟩ (t_X11_findAparts l dC dI cy H.size zL zT zR zI_15 zJ_16 zy zi_25 zi_29 hs h_zI_15.1 t_zy (by omega) (by omega) (ps_20.resolve_left (by omega))) (cwV 2 hts gX11_apart_X11_findAparts rfl rfl rfl (by decide +kernel) ⟨(Nat.le_of_ble_eq_true rfl), (Nat.le_of_ble_eq_true rfl)⟩) (PRE.v hP hK hD hN (ht_recv hK hP hs t_zy (by decide) rfl rfl)) rfl rfl hl.1 rfl (lv_room (Nat.le_of_ble_eq_true rfl)) dX11_apart_52 ⟨(Nat.le_of_ble_eq_true rfl), (Nat.le_of_ble_eq_true rfl)⟩) hP hD hS hA (fun u_35 H locs hw_34 hP hD hS => ?_)
        obtain ⟨zI_36, zJ_37⟩ := u_35
        obtain ⟨k_zI_36, ps_38⟩ : (WM [10400] AL zT zR zI_15 zI_36) ∧ (zJ_37 zy 15 = zJ_16 zy 15) := hw_34
        have h_zI_36 : WM [1806, 1807, 10300, 10400, 10500, 10600, 10700] AL zT zR zI zI_36 := h_zI_15.tr k_zI_36 (by decide) (fun _ _ => trivial)
        refine lv_lconst (v := 0) hx hb dX11_apart_55 (by decide) ?_
        refine lv_lstore (lv' := [(7, .long 0), (6, .int zi_12), (0, .ref zy), (1, .int zia), (2, .int zib), (3, .int zic), (4, .int zid), (5, .int zie)]) hx hb dX11_apart_56 hl (by decide) rfl (fun ls hl => ?_)
        refine lv_iload hx hb dX11_apart_58 (lv_at hl 6 rfl) ?_
        refine lv_istore (lv' := [(9, .int zid), (7, .long 0), (6, .int zi_12), (0, .ref zy), (1, .int zia), (2, .int zib), (3, .int zic), (4, .int zid), (5, .int zie)]) hx hb dX11_apart_60 hl (by decide) rfl (fun ls hl => ?_)
        have lp_59 : ∀ (n : Nat) (zj_45 : Int64) (zi_46 : Int32) (H : Heap) (locs : List Loc) (ls : Array Slot), (24 - zi_46.toInt).toNat = n → (0 ≤ zi_46.toInt ∧ zi_46.toInt ≤ 24) → (ZI (zI_36 (zR zy 0))) → va_P (dC, dI) vwCl (WL cy zL zT zR zI_36 zJ_37) H → va_D A (WL cy zL zT zR zI_36 zJ_37) → va_S A s.heap H locs → lv_has ls 10 [(0, .ref zy), (1, .int zia), (2, .int zib), (3, .int zic), (4, .int zid), (5, .int zie), (6, .int zi_12), (7, .long zj_45), (9, .int zi_46)] → W p l e ({ frames := 6, cells := 0, slots := 0, locals := 137 } : Room) s m ([.ref zy, .int zia, .int zib, .int zic, .int zid, .int zie] : List Value).toArray below meth c H locs 0 0 Q (F0 m 62 ls []) := by
          intro n
          induction n using Nat.strongRecOn with
          | _ n ih_59 =>
            intro zj_45 zi_46 H locs ls hn b_zi_46 e_lp_59_0 hP hD hS hl
            refine lv_iload hx hb dX11_apart_62 (lv_at hl 8 rfl) ?_
            refine lv_bipush (v := 24) hx hb dX11_apart_64 (by decide) ?_
            refine lv_icmp_ge (tgt := 87) hx hb dX11_apart_66 (by decide) (fun c_60 => ?_) (fun c_60 => ?_)
            · have f_61 : zi_46.toInt ≥ (24 : Int) := ic_ge (rfl) (show (24 : Int32).toInt = 24 by decide) c_60
              refine lv_lload hx hb dX11_apart_87 (lv_at hl 7 rfl) ?_
              refine lv_aload_n hx hb dX11_apart_89 rfl (lv_at hl 0 rfl) ?_
              refine ht_getl (C := RX11) (T := TX11) (N := 28) hx hb hts (by decide +kernel) hown hK hP hs t_zy (by decide) rfl rfl 15 (by decide) (hts (.fieldLink RX11 217 "DripStoneModel" "total" "J") (by decide +kernel)) (fun _ h9 => h9) rfl dX11_apart_90 ?_
              refine lv_topl (fun zj_62 ezj_62 => ?_)
              refine lv_iload hx hb dX11_apart_93 (lv_at hl 5 rfl) ?_
              refine hj0_l (ws := (WL cy zL zT zR zI_36 zJ_37)) (va_runS (As := [.long zj_45, .long zj_62, .int zie]) (rest := []) ⟨hx, hb, hml, hown, hts⟩ (c_X11_part l dC dI cy H.size zj_45 zj_62 zie (by rw [(show zj_62 = zJ_37 zy 15 from ezj_62), ps_38]; exact ps_19.resolve_left (by omega))) (va_cwS 3 hts gX11_apart_X11_part rfl rfl rfl (by decide +kernel) ⟨(Nat.le_of_ble_eq_true rfl), (Nat.le_of_ble_eq_true rfl)⟩) (PRE.s (hP.sub [] rfl) hK (hD.sub [] (by decide) rfl) hN) rfl rfl hl.1 rfl (lv_room (Nat.le_of_ble_eq_true rfl)) dX11_apart_95 ⟨(Nat.le_of_ble_eq_true rfl), (Nat.le_of_ble_eq_true rfl)⟩) hP hD hS hA (fun zj_63 u_65 H locs hw_64 hP hD hS => ?_)
              subst hQ
              exact W.lret (v := zj_63) hx hb hr (fun t ht hW => ⟨⟨zj_63, (zI_36, zJ_37), rfl, h_zI_36, ⟨by rw [ht]; exact hP, va_K.moved hW.alike hK, hD⟩⟩, hS.F ht⟩) hS.2.2 dX11_apart_98
            · have f_61 : ¬ (zi_46.toInt ≥ (24 : Int)) := ic_nge (rfl) (show (24 : Int32).toInt = 24 by decide) c_60
              refine lv_lload hx hb dX11_apart_69 (lv_at hl 7 rfl) ?_
              refine lv_aload_n hx hb dX11_apart_71 rfl (lv_at hl 0 rfl) ?_
              refine ht_getr (C := RX11) (T := TX11) (N := 28) hx hb hts (by decide +kernel) hown hK hP hs t_zy (by decide) rfl rfl 16 (by decide) (hts (.fieldLink RX11 41 "DripStoneModel" "aparts" "[J") (by decide +kernel)) (fun _ h9 => h9) rfl dX11_apart_72 ?_
              have t_66 : zT (zR zy 16) = 115 := sk_f hs t_zy (by decide) rfl (by decide)
              refine lv_iload hx hb dX11_apart_75 (lv_at hl 8 rfl) ?_
              refine ht_lald (n := 24) (q := 1) hx hb hK hP hs t_66 (by decide) rfl rfl ⟨by omega, by omega⟩ dX11_apart_77 ?_
              refine lv_topl (fun zj_67 ezj_67 => ?_)
              refine lv_ladd hx hb dX11_apart_78 ?_
              refine lv_topl (fun zj_68 ezj_68 => ?_)
              refine lv_lstore (lv' := [(7, .long zj_68), (0, .ref zy), (1, .int zia), (2, .int zib), (3, .int zic), (4, .int zid), (5, .int zie), (6, .int zi_12), (9, .int zi_46)]) hx hb dX11_apart_79 hl (by decide) rfl (fun ls hl => ?_)
              obtain ⟨zi_69, ezi_69⟩ : ∃ y : Int32, y = zi_46 + 1 := ⟨_, rfl⟩
              have tzi_69 : zi_69.toInt = zi_46.toInt + 1 := by rw [ezi_69]; exact tadd rfl (show (1 : Int32).toInt = 1 by decide) (by omega) (by omega)
              refine lv_iinc (v := zi_69) (lv' := [(9, .int zi_69), (7, .long zj_68), (0, .ref zy), (1, .int zia), (2, .int zib), (3, .int zic), (4, .int zid), (5, .int zie), (6, .int zi_12)]) hx hb dX11_apart_81 hl (k := 8) rfl (by rw [ezi_69]; rfl) (by decide) rfl (fun ls hl => ?_)
              refine lv_goto (tgt := 62) hx hb dX11_apart_84 (by decide) ?_
              exact ih_59 (24 - zi_69.toInt).toNat (by omega) zj_68 zi_69 _ _ _ rfl (by omega) e_lp_59_0 hP hD hS (lv_sub hl [2, 3, 4, 5, 6, 7, 8, 1, 0] rfl)
        have t_70 : zT (zR zy 0) = 100 := sk_f hs t_zy (by decide) rfl (by decide)
        have zz_71 : ZI (zI_36 (zR zy 0)) := by rw [(k_zI_36.2.row t_70 (by decide) (by decide)), (k_zI_15.2.row t_70 (by decide) (by decide))]; exact hz
        exact lp_59 _ (0 : Int64) zid _ _ _ rfl (by omega) zz_71 hP hD hS (lv_sub hl [3, 4, 5, 6, 7, 8, 2, 1, 0] rfl)
      · have f_24 : ¬ (zi_12.toInt ≥ 0) := ic_nge (rfl) (by decide) c_23
        refine lv_iload hx hb dX11_apart_37 (lv_at hl 0 rfl) ?_
        refine lv_i2l (v := zi_12.toInt64) hx hb dX11_apart_39 rfl ?_
        refine lv_topl (fun zj_72 ezj_72 => ?_)
        have tzj_72 : zj_72.toInt = zi_12.toInt := by rw [ezj_72]; exact Int32.toInt_toInt64 _
        subst hQ
        exact W.lret (v := zj_72) hx hb hr (fun t ht hW => ⟨⟨zj_72, (zI_15, zJ_16), rfl, h_zI_15, ⟨by rw [ht]; exact hP, va_K.moved hW.alike hK, hD⟩⟩, hS.F ht⟩) hS.2.2 dX11_apart_40
    · have f_11 : ¬ (0 ≤ zj_6.toInt ∧ zj_6.toInt ≤ 1) := bz_0 hw_8 c_10
      refine lv_ldc2 (v := (-1)) hx hb hown (hts (.constantLong RX11 236 (-1)) (by decide +kernel)) dX11_apart_19 ?_
      subst hQ
      exact W.lret (v := (-1 : Int64)) hx hb hr (fun t ht hW => ⟨⟨(-1 : Int64), (zI, zJ), rfl, h_zI, ⟨by rw [ht]; exact hP, va_K.moved hW.alike hK, hD⟩⟩, hS.F ht⟩) hS.2.2 dX11_apart_22
set_option maxHeartbeats 8000000 in
set_option maxRecDepth 100000 in
theorem t_X11_lacksAny (l : Launch) (dC : Nat → ClassId) (dI : Nat → Nat → Nat) (cy : Nat → ClassId) (sz : Nat) (zL : List Nat) (zT : Nat → Nat) (zR : Nat → Nat → Nat) (zI : Nat → Nat → Int32) (zJ : Nat → Nat → Int64) (zy : Nat) (zic : Int32) (hs : SKP zL zT zR) (hw : WT zT zR zI) (t_zy : zT zy = 18) (b_zic : 0 ≤ zic.toInt ∧ zic.toInt ≤ 1) (hz : ZI (zI (zR zy 0))) : Met l yX11_lacksAny wsX11_lacksAny ({ frames := 5, cells := 0, slots := 0, locals := 114 } : Room) (va_Pc [.ref zy, .int zic] (PRE dC dI cy (WL cy zL zT zR zI zJ) sz)) (va_Qi (fun (r : Int32) (u : (Nat → Nat → Int32) × (Nat → Nat → Int64)) => (WM [1806, 1807, 10300, 10400, 10500, 10600, 10700] AL zT zR zI u.1) ∧ ((-4) ≤ r.toInt ∧ r.toInt ≤ 0) ∧ (r.toInt < 0 ∨ ¬ (u.2 zy 15).toInt = 0)) (fun u t => POST dC dI cy (va_A (WL cy zL zT zR zI zJ) sz) (WL cy zL zT zR u.1 u.2) t) (va_A (WL cy zL zT zR zI zJ) sz)) 0 0 (va_A (WL cy zL zT zR zI zJ) sz) := by
  refine Met.ofW (cc := cX11_lacksAny) (maxL := 2) (ret := (some .int)) (by decide) rfl ?_
  intro p e s m args below meth c s₁ B hml hv
  obtain ⟨rfl, hsz, hP, hK, hD0, hN⟩ := hv
  have hx := B.exec
  have hb := B.bytes
  have hr := B.returns
  have hts := atoms_spec (ws := wsX11_lacksAny) B.pre
  have hown : s.vm.findClass RX11 = some m.cls := findClass_of_methodNamed B.named
  have hlocks := B.notSynchronized
  subst hsz
  have hD := hD0.self (sz := s.heap.size)
  generalize hAe : va_A (WL cy zL zT zR zI zJ) s.heap.size = A at hD ⊢
  have hA : ∀ q : Nat, s.heap.size ≤ q → A q := fun q h => by rw [← hAe]; exact Or.inr h
  have hS : va_S A s.heap s.heap [] := va_S.rf
  have hP : va_P (dC, dI) vwCl (WL cy zL zT zR zI zJ) s.heap := hP
  have hl := lv_entry ([.ref zy, .int zic] : List Value) (n := 2) (Nat.le_of_ble_eq_true rfl)
  rw [lg_entry_eq]
  generalize (lg_sl ([.ref zy, .int zic] : List Value) ++ List.replicate (2 - (lg_sl ([.ref zy, .int zic] : List Value)).length) Slot.unset).toArray = ls at hl ⊢
  have hl : lv_has ls 2 [(0, .ref zy), (1, .int zic)] := hl
  refine w_q (fun Q hQ => ?_)
  have h_zI : WM [1806, 1807, 10300, 10400, 10500, 10600, 10700] AL zT zR zI zI := WM.rf hw
  refine lv_aload_n hx hb dX11_lacksAny_0 rfl (lv_at hl 0 rfl) ?_
  refine lv_iload_n hx hb dX11_lacksAny_1 rfl (lv_at hl 1 rfl) ?_
  refine hj_i (ws := (WL cy zL zT zR zI zJ)) (w1 := fun (u : Unit) => (WL cy zL zT zR zI zJ)) (va_runV (As := [.int zic]) (rest := []) ⟨hx, hb, hml, hown, hts⟩ (t_X11_placesOf l dC dI cy s.heap.size zL zT zR zI zJ zy zic hs h_zI.1 t_zy (by omega) hz) (cwV 1 hts gX11_lacksAny_X11_placesOf rfl rfl rfl (by decide +kernel) ⟨(Nat.le_of_ble_eq_true rfl), (Nat.le_of_ble_eq_true rfl)⟩) (PRE.v hP hK hD hN (ht_recv hK hP hs t_zy (by decide) rfl rfl)) rfl rfl hl.1 rfl (lv_room (Nat.le_of_ble_eq_true rfl)) dX11_lacksAny_2 ⟨(Nat.le_of_ble_eq_true rfl), (Nat.le_of_ble_eq_true rfl)⟩) hP hD hS hA (fun zi_1 u_3 H locs hw_2 hP hD hS => ?_)
  obtain ⟨b_zi_1, ps_4⟩ : (0 ≤ zi_1.toInt ∧ zi_1.toInt ≤ 12) ∧ (zi_1.toInt = PLZ (zI (zR zy 0)) zic.toInt) := hw_2
  refine lv_if_ne (tgt := 11) hx hb dX11_lacksAny_5 (by decide) (fun c_5 => ?_) (fun c_5 => ?_)
  · have f_6 : zi_1.toInt ≠ 0 := ic_ne (rfl) (by decide) c_5
    refine lv_aload_n hx hb dX11_lacksAny_11 rfl (lv_at hl 0 rfl) ?_
    refine lv_iload_n hx hb dX11_lacksAny_12 rfl (lv_at hl 1 rfl) ?_
    refine hj_v (ws := (WL cy zL zT zR zI zJ)) (w1 := fun (u : (Nat → Nat → Int32) × (Nat → Nat → Int64)) => (WL cy zL zT zR u.1 u.2)) (va_runV (As := [.int zic]) (rest := []) ⟨hx, hb, hml, hown, hts⟩ (t_X11_countNow l dC dI cy H.size zL zT zR zI zJ zy zic hs h_zI.1 t_zy (by omega) hz) (cwV 1 hts gX11_lacksAny_X11_countNow rfl rfl rfl (by decide +kernel) ⟨(Nat.le_of_ble_eq_true rfl), (Nat.le_of_ble_eq_true rfl)⟩) (PRE.v hP hK hD hN (ht_recv hK hP hs t_zy (by decide) rfl rfl)) rfl rfl hl.1 rfl (lv_room (Nat.le_of_ble_eq_true rfl)) dX11_lacksAny_13 ⟨(Nat.le_of_ble_eq_true rfl), (Nat.le_of_ble_eq_true rfl)⟩) hP hD hS hA (fun u_9 H locs hw_8 hP hD hS => ?_)
    obtain ⟨zI_10, zJ_11⟩ := u_9
    obtain ⟨k_zI_10, ps_12, ps_13, ps_14, ps_15, ps_16⟩ : (WM [1806, 1807, 10300, 10400, 10500, 10600, 10700] AL zT zR zI zI_10) ∧ (PO (zI (zR zy 0)) (zI_10 (zR zy 8)) zic.toInt (zI_10 zy 6).toInt) ∧ ((zI_10 zy 6).toInt = PLZ (zI (zR zy 0)) zic.toInt) ∧ (zJ_11 zy 15 = CT zR zI_10 zy) ∧ (0 ≤ (zJ_11 zy 15).toInt ∧ (zJ_11 zy 15).toInt ≤ 1000000000) ∧ (zJ_11 zy 20 = zJ zy 20) := hw_8
    have h_zI_10 : WM [1806, 1807, 10300, 10400, 10500, 10600, 10700] AL zT zR zI zI_10 := h_zI.tr k_zI_10 (by decide) (fun _ _ => trivial)
    obtain ⟨zi_17, ezi_17⟩ : ∃ y : Int32, y = zI_10 zy 6 := ⟨_, rfl⟩
    have tzi_17 : 0 ≤ zi_17.toInt ∧ zi_17.toInt ≤ 12 := by rw [ezi_17]; exact h_zI_10.at t_zy _ rfl
    have lk_18 : (zI_10 zy 6).toInt = zi_17.toInt := congrArg Int32.toInt ezi_17.symm
    refine lv_aload_n hx hb dX11_lacksAny_16 rfl (lv_at hl 0 rfl) ?_
    refine ht_getl (C := RX11) (T := TX11) (N := 28) hx hb hts (by decide +kernel) hown hK hP hs t_zy (by decide) rfl rfl 15 (by decide) (hts (.fieldLink RX11 217 "DripStoneModel" "total" "J") (by decide +kernel)) (fun _ h9 => h9) rfl dX11_lacksAny_17 ?_
    refine lv_topl (fun zj_19 ezj_19 => ?_)
    refine lv_lconst (v := 0) hx hb dX11_lacksAny_20 (by decide) ?_
    refine W.lcmp hx hb dX11_lacksAny_21 ?_
    refine lv_topi (fun zi_20 ezi_20 => ?_)
    refine lv_if_ne (tgt := 30) hx hb dX11_lacksAny_22 (by decide) (fun c_21 => ?_) (fun c_21 => ?_)
    · have f_22 : ¬ (zj_19.toInt = (0 : Int)) := lk_ne ezi_20 (rfl) (show (0 : Int64).toInt = 0 by decide) c_21
      refine lv_iconst (v := 0) hx hb dX11_lacksAny_30 (by decide) ?_
      subst hQ
      have qc_0 : (0 : Int32).toInt = 0 := by decide
      exact W.iret (v := (0 : Int32)) hx hb hr (fun t ht hW => ⟨⟨(0 : Int32), (zI_10, zJ_11), rfl, ⟨h_zI_10, (show (-4) ≤ (0 : Int32).toInt ∧ (0 : Int32).toInt ≤ 0 from by omega), (show (0 : Int32).toInt < 0 ∨ ¬ (zJ_11 zy 15).toInt = 0 from (Or.inr (by rw [(show zJ_11 zy 15 = zj_19 from ezj_19.symm)]; omega)))⟩, ⟨by rw [ht]; exact hP, va_K.moved hW.alike hK, hD⟩⟩, hS.F ht⟩) hS.2.2 dX11_lacksAny_31
    · have f_22 : zj_19.toInt = (0 : Int) := lk_nne ezi_20 (rfl) (show (0 : Int64).toInt = 0 by decide) c_21
      refine lv_bipush (v := (-4)) hx hb dX11_lacksAny_25 (by decide) ?_
      refine lv_goto (tgt := 31) hx hb dX11_lacksAny_27 (by decide) ?_
      subst hQ
      have qc_m4 : (-4 : Int32).toInt = -4 := by decide
      exact W.iret (v := (-4 : Int32)) hx hb hr (fun t ht hW => ⟨⟨(-4 : Int32), (zI_10, zJ_11), rfl, ⟨h_zI_10, (show (-4) ≤ (-4 : Int32).toInt ∧ (-4 : Int32).toInt ≤ 0 from by omega), (show (-4 : Int32).toInt < 0 ∨ ¬ (zJ_11 zy 15).toInt = 0 from (Or.inl (by decide)))⟩, ⟨by rw [ht]; exact hP, va_K.moved hW.alike hK, hD⟩⟩, hS.F ht⟩) hS.2.2 dX11_lacksAny_31
  · have f_6 : ¬ (zi_1.toInt ≠ 0) := ic_nne (rfl) (by decide) c_5
    refine lv_bipush (v := (-2)) hx hb dX11_lacksAny_8 (by decide) ?_
    subst hQ
    have qc_m2 : (-2 : Int32).toInt = -2 := by decide
    exact W.iret (v := (-2 : Int32)) hx hb hr (fun t ht hW => ⟨⟨(-2 : Int32), (zI, zJ), rfl, ⟨h_zI, (show (-4) ≤ (-2 : Int32).toInt ∧ (-2 : Int32).toInt ≤ 0 from by omega), (show (-2 : Int32).toInt < 0 ∨ ¬ (zJ zy 15).toInt = 0 from (Or.inl (by decide)))⟩, ⟨by rw [ht]; exact hP, va_K.moved hW.alike hK, hD⟩⟩, hS.F ht⟩) hS.2.2 dX11_lacksAny_10
set_option maxHeartbeats 8000000 in
set_option maxRecDepth 100000 in
theorem t_X11_next (l : Launch) (dC : Nat → ClassId) (dI : Nat → Nat → Nat) (cy : Nat → ClassId) (sz : Nat) (zL : List Nat) (zT : Nat → Nat) (zR : Nat → Nat → Nat) (zI : Nat → Nat → Int32) (zJ : Nat → Nat → Int64) (zy : Nat) (zia : Int32) (zib : Int32) (hs : SKP zL zT zR) (hw : WT zT zR zI) (t_zy : zT zy = 18) (hz : ZI (zI (zR zy 0))) : Met l yX11_next wsX11_next ({ frames := 6, cells := 0, slots := 0, locals := 135 } : Room) (va_Pc [.ref zy, .int zia, .int zib] (PRE dC dI cy (WL cy zL zT zR zI zJ) sz)) (va_Ql (fun (r : Int64) (u : (Nat → Nat → Int32) × (Nat → Nat → Int64)) => (WM [1806, 1807, 10300, 10400, 10500, 10600, 10700] AL zT zR zI u.1)) (fun u t => POST dC dI cy (va_A (WL cy zL zT zR zI zJ) sz) (WL cy zL zT zR u.1 u.2) t) (va_A (WL cy zL zT zR zI zJ) sz)) 0 0 (va_A (WL cy zL zT zR zI zJ) sz) := by
  refine Met.ofW (cc := cX11_next) (maxL := 11) (ret := (some .long)) (by decide) rfl ?_
  intro p e s m args below meth c s₁ B hml hv
  obtain ⟨rfl, hsz, hP, hK, hD0, hN⟩ := hv
  have hx := B.exec
  have hb := B.bytes
  have hr := B.returns
  have hts := atoms_spec (ws := wsX11_next) B.pre
  have hown : s.vm.findClass RX11 = some m.cls := findClass_of_methodNamed B.named
  have hlocks := B.notSynchronized
  subst hsz
  have hD := hD0.self (sz := s.heap.size)
  generalize hAe : va_A (WL cy zL zT zR zI zJ) s.heap.size = A at hD ⊢
  have hA : ∀ q : Nat, s.heap.size ≤ q → A q := fun q h => by rw [← hAe]; exact Or.inr h
  have hS : va_S A s.heap s.heap [] := va_S.rf
  have hP : va_P (dC, dI) vwCl (WL cy zL zT zR zI zJ) s.heap := hP
  have hl := lv_entry ([.ref zy, .int zia, .int zib] : List Value) (n := 11) (Nat.le_of_ble_eq_true rfl)
  rw [lg_entry_eq]
  generalize (lg_sl ([.ref zy, .int zia, .int zib] : List Value) ++ List.replicate (11 - (lg_sl ([.ref zy, .int zia, .int zib] : List Value)).length) Slot.unset).toArray = ls at hl ⊢
  have hl : lv_has ls 11 [(0, .ref zy), (1, .int zia), (2, .int zib)] := hl
  refine w_q (fun Q hQ => ?_)
  have h_zI : WM [1806, 1807, 10300, 10400, 10500, 10600, 10700] AL zT zR zI zI := WM.rf hw
  refine lv_iload_n hx hb dX11_next_0 rfl (lv_at hl 1 rfl) ?_
  refine hj0_i (ws := (WL cy zL zT zR zI zJ)) (va_runS (As := [.int zia]) (rest := []) ⟨hx, hb, hml, hown, hts⟩ (c_X11_isCandle l dC dI cy s.heap.size zia) (va_cwS 1 hts gX11_next_X11_isCandle rfl rfl rfl (by decide +kernel) ⟨(Nat.le_of_ble_eq_true rfl), (Nat.le_of_ble_eq_true rfl)⟩) (PRE.s (hP.sub [] rfl) hK (hD.sub [] (by decide) rfl) hN) rfl rfl hl.1 rfl (lv_room (Nat.le_of_ble_eq_true rfl)) dX11_next_1 ⟨(Nat.le_of_ble_eq_true rfl), (Nat.le_of_ble_eq_true rfl)⟩) hP hD hS hA (fun zi_1 u_3 H locs hw_2 hP hD hS => ?_)
  have hw_2 : zi_1 = if 0 ≤ zia.toInt ∧ zia.toInt ≤ 1 then 1 else 0 := hw_2
  have b_zi_1 : 0 ≤ zi_1.toInt ∧ zi_1.toInt ≤ 1 := bz_b hw_2
  refine lv_if_eq (tgt := 17) hx hb dX11_next_4 (by decide) (fun c_4 => ?_) (fun c_4 => ?_)
  · have f_5 : ¬ (0 ≤ zia.toInt ∧ zia.toInt ≤ 1) := bz_0 hw_2 c_4
    refine lv_ldc2 (v := (-1)) hx hb hown (hts (.constantLong RX11 236 (-1)) (by decide +kernel)) dX11_next_17 ?_
    subst hQ
    exact W.lret (v := (-1 : Int64)) hx hb hr (fun t ht hW => ⟨⟨(-1 : Int64), (zI, zJ), rfl, h_zI, ⟨by rw [ht]; exact hP, va_K.moved hW.alike hK, hD⟩⟩, hS.F ht⟩) hS.2.2 dX11_next_20
  · have f_5 : 0 ≤ zia.toInt ∧ zia.toInt ≤ 1 := bz_1 hw_2 c_4
    refine lv_iload_n hx hb dX11_next_7 rfl (lv_at hl 2 rfl) ?_
    refine lv_i2l (v := zib.toInt64) hx hb dX11_next_8 rfl ?_
    refine lv_topl (fun zj_6 ezj_6 => ?_)
    have tzj_6 : zj_6.toInt = zib.toInt := by rw [ezj_6]; exact Int32.toInt_toInt64 _
    refine lv_lconst (v := 0) hx hb dX11_next_9 (by decide) ?_
    refine lv_lconst (v := 1) hx hb dX11_next_10 (by decide) ?_
    refine hj0_i (ws := (WL cy zL zT zR zI zJ)) (va_runS (As := [.long zj_6, .long 0, .long 1]) (rest := []) ⟨hx, hb, hml, hown, hts⟩ (c_X11_in l dC dI cy H.size zj_6 0 1 0 1 zj_6.toInt (by first | rfl | decide | omega | exact Int32.toInt_toInt64 _) (by first | rfl | decide | omega | exact Int32.toInt_toInt64 _) (by first | rfl | decide | omega | exact Int32.toInt_toInt64 _)) (va_cwS 3 hts gX11_next_X11_in rfl rfl rfl (by decide +kernel) ⟨(Nat.le_of_ble_eq_true rfl), (Nat.le_of_ble_eq_true rfl)⟩) (PRE.s (hP.sub [] rfl) hK (hD.sub [] (by decide) rfl) hN) rfl rfl hl.1 rfl (lv_room (Nat.le_of_ble_eq_true rfl)) dX11_next_11 ⟨(Nat.le_of_ble_eq_true rfl), (Nat.le_of_ble_eq_true rfl)⟩) hP hD hS hA (fun zi_7 u_9 H locs hw_8 hP hD hS => ?_)
    have hw_8 : zi_7 = if 0 ≤ zj_6.toInt ∧ zj_6.toInt ≤ 1 then 1 else 0 := hw_8
    have b_zi_7 : 0 ≤ zi_7.toInt ∧ zi_7.toInt ≤ 1 := bz_b hw_8
    refine lv_if_ne (tgt := 21) hx hb dX11_next_14 (by decide) (fun c_10 => ?_) (fun c_10 => ?_)
    · have f_11 : 0 ≤ zj_6.toInt ∧ zj_6.toInt ≤ 1 := bz_1 hw_8 c_10
      refine lv_aload_n hx hb dX11_next_21 rfl (lv_at hl 0 rfl) ?_
      refine lv_iload_n hx hb dX11_next_22 rfl (lv_at hl 1 rfl) ?_
      refine hj_i (ws := (WL cy zL zT zR zI zJ)) (w1 := fun (u : (Nat → Nat → Int32) × (Nat → Nat → Int64)) => (WL cy zL zT zR u.1 u.2)) (va_runV (As := [.int zia]) (rest := []) ⟨hx, hb, hml, hown, hts⟩ (t_X11_lacksAny l dC dI cy H.size zL zT zR zI zJ zy zia hs h_zI.1 t_zy (by omega) hz) (cwV 1 hts gX11_next_X11_lacksAny rfl rfl rfl (by decide +kernel) ⟨(Nat.le_of_ble_eq_true rfl), (Nat.le_of_ble_eq_true rfl)⟩) (PRE.v hP hK hD hN (ht_recv hK hP hs t_zy (by decide) rfl rfl)) rfl rfl hl.1 rfl (lv_room (Nat.le_of_ble_eq_true rfl)) dX11_next_23 ⟨(Nat.le_of_ble_eq_true rfl), (Nat.le_of_ble_eq_true rfl)⟩) hP hD hS hA (fun zi_12 u_14 H locs hw_13 hP hD hS => ?_)
      obtain ⟨zI_15, zJ_16⟩ := u_14
      obtain ⟨k_zI_15, b_zi_12, ps_17⟩ : (WM [1806, 1807, 10300, 10400, 10500, 10600, 10700] AL zT zR zI zI_15) ∧ ((-4) ≤ zi_12.toInt ∧ zi_12.toInt ≤ 0) ∧ (zi_12.toInt < 0 ∨ ¬ (zJ_16 zy 15).toInt = 0) := hw_13
      have h_zI_15 : WM [1806, 1807, 10300, 10400, 10500, 10600, 10700] AL zT zR zI zI_15 := h_zI.tr k_zI_15 (by decide) (fun _ _ => trivial)
      refine lv_istore_n (lv' := [(3, .int zi_12), (0, .ref zy), (1, .int zia), (2, .int zib)]) hx hb dX11_next_26 rfl hl (by decide) rfl (fun ls hl => ?_)
      refine lv_iload_n hx hb dX11_next_27 rfl (lv_at hl 0 rfl) ?_
      refine lv_if_ge (tgt := 34) hx hb dX11_next_28 (by decide) (fun c_18 => ?_) (fun c_18 => ?_)
      · have f_19 : zi_12.toInt ≥ 0 := ic_ge (rfl) (by decide) c_18
        refine lv_iconst (v := 0) hx hb dX11_next_34 (by decide) ?_
        refine lv_istore (lv' := [(4, .int 0), (3, .int zi_12), (0, .ref zy), (1, .int zia), (2, .int zib)]) hx hb dX11_next_35 hl (by decide) rfl (fun ls hl => ?_)
        refine lv_lconst (v := 0) hx hb dX11_next_37 (by decide) ?_
        refine lv_lstore (lv' := [(5, .long 0), (4, .int 0), (3, .int zi_12), (0, .ref zy), (1, .int zia), (2, .int zib)]) hx hb dX11_next_38 hl (by decide) rfl (fun ls hl => ?_)
        refine lv_iconst (v := 0) hx hb dX11_next_40 (by decide) ?_
        refine lv_istore (lv' := [(7, .int 0), (5, .long 0), (4, .int 0), (3, .int zi_12), (0, .ref zy), (1, .int zia), (2, .int zib)]) hx hb dX11_next_41 hl (by decide) rfl (fun ls hl => ?_)
        have lp_269 : ∀ (n : Nat) (zi_188 : Int32) (zj_189 : Int64) (zi_190 : Int32) (H : Heap) (locs : List Loc) (ls : Array Slot), (12 - zi_190.toInt).toNat = n → (0 ≤ zi_188.toInt ∧ zi_188.toInt ≤ 11) → (0 ≤ zi_190.toInt ∧ zi_190.toInt ≤ 12) → (ZI (zI_15 (zR zy 0))) → va_P (dC, dI) vwCl (WL cy zL zT zR zI_15 zJ_16) H → va_D A (WL cy zL zT zR zI_15 zJ_16) → va_S A s.heap H locs → lv_has ls 11 [(0, .ref zy), (1, .int zia), (2, .int zib), (3, .int zi_12), (4, .int zi_188), (5, .long zj_189), (7, .int zi_190)] → W p l e ({ frames := 6, cells := 0, slots := 0, locals := 135 } : Room) s m ([.ref zy, .int zia, .int zib] : List Value).toArray below meth c H locs 0 0 Q (F0 m 43 ls []) := by
          intro n
          induction n using Nat.strongRecOn with
          | _ n ih_269 =>
            intro zi_188 zj_189 zi_190 H locs ls hn b_zi_188 b_zi_190 e_lp_269_0 hP hD hS hl
            refine lv_iload hx hb dX11_next_43 (lv_at hl 6 rfl) ?_
            refine lv_aload_n hx hb dX11_next_45 rfl (lv_at hl 0 rfl) ?_
            refine ht_geti (C := RX11) (T := TX11) (N := 28) hx hb hts (by decide +kernel) hown hK hP hs t_zy (by decide) rfl rfl 6 (by decide) (hts (.fieldLink RX11 192 "DripStoneModel" "places" "I") (by decide +kernel)) (fun _ h9 => h9) rfl dX11_next_46 ?_
            refine lv_topi (fun zi_270 ezi_270 => ?_)
            have tzi_270 : 0 ≤ zi_270.toInt ∧ zi_270.toInt ≤ 12 := by rw [ezi_270]; exact h_zI_15.at t_zy _ rfl
            refine lv_icmp_ge (tgt := 127) hx hb dX11_next_49 (by decide) (fun c_271 => ?_) (fun c_271 => ?_)
            · have f_272 : zi_190.toInt ≥ zi_270.toInt := ic_ge (rfl) (rfl) c_271
              refine lv_iload_n hx hb dX11_next_127 rfl (lv_at hl 2 rfl) ?_
              refine lv_if_ne (tgt := 142) hx hb dX11_next_128 (by decide) (fun c_273 => ?_) (fun c_273 => ?_)
              · have f_274 : zib.toInt ≠ 0 := ic_ne (rfl) (by decide) c_273
                refine lv_lload hx hb dX11_next_142 (lv_at hl 5 rfl) ?_
                subst hQ
                exact W.lret (v := zj_189) hx hb hr (fun t ht hW => ⟨⟨zj_189, (zI_15, zJ_16), rfl, h_zI_15, ⟨by rw [ht]; exact hP, va_K.moved hW.alike hK, hD⟩⟩, hS.F ht⟩) hS.2.2 dX11_next_144
              · have f_274 : ¬ (zib.toInt ≠ 0) := ic_nne (rfl) (by decide) c_273
                refine lv_aload_n hx hb dX11_next_131 rfl (lv_at hl 0 rfl) ?_
                refine ht_getr (C := RX11) (T := TX11) (N := 28) hx hb hts (by decide +kernel) hown hK hP hs t_zy (by decide) rfl rfl 8 (by decide) (hts (.fieldLink RX11 19 "DripStoneModel" "placeThing" "[I") (by decide +kernel)) (fun _ h9 => h9) rfl dX11_next_132 ?_
                have t_275 : zT (zR zy 8) = 103 := sk_f hs t_zy (by decide) rfl (by decide)
                refine lv_iload hx hb dX11_next_135 (lv_at hl 4 rfl) ?_
                refine ht_iald (n := 12) (q := 0) hx hb hK hP hs t_275 (by decide) rfl rfl ⟨by omega, by omega⟩ dX11_next_137 ?_
                refine lv_topi (fun zi_276 ezi_276 => ?_)
                have tzi_276 : 0 ≤ zi_276.toInt ∧ zi_276.toInt ≤ 11 := by rw [ezi_276]; exact h_zI_15.at t_275 _ rfl
                have la_277 : zi_276.toInt = zA (zI_15 (zR zy 8)) (zi_188.toInt) := (congrArg Int32.toInt (show zI_15 (zR zy 8) zi_188.toNatClampNeg = zi_276 from ezi_276.symm).symm).trans (congrArg (zA (zI_15 (zR zy 8))) (show zi_188.toInt = zi_188.toInt from by omega))
                refine lv_i2l (v := zi_276.toInt64) hx hb dX11_next_138 rfl ?_
                refine lv_topl (fun zj_278 ezj_278 => ?_)
                have tzj_278 : zj_278.toInt = zi_276.toInt := by rw [ezj_278]; exact Int32.toInt_toInt64 _
                refine lv_goto (tgt := 144) hx hb dX11_next_139 (by decide) ?_
                subst hQ
                exact W.lret (v := zj_278) hx hb hr (fun t ht hW => ⟨⟨zj_278, (zI_15, zJ_16), rfl, h_zI_15, ⟨by rw [ht]; exact hP, va_K.moved hW.alike hK, hD⟩⟩, hS.F ht⟩) hS.2.2 dX11_next_144
            · have f_272 : ¬ (zi_190.toInt ≥ zi_270.toInt) := ic_nge (rfl) (rfl) c_271
              refine lv_lconst (v := 0) hx hb dX11_next_52 (by decide) ?_
              refine lv_lstore (lv' := [(8, .long 0), (0, .ref zy), (1, .int zia), (2, .int zib), (3, .int zi_12), (4, .int zi_188), (5, .long zj_189), (7, .int zi_190)]) hx hb dX11_next_53 hl (by decide) rfl (fun ls hl => ?_)
              refine lv_iconst (v := 0) hx hb dX11_next_55 (by decide) ?_
              refine lv_istore (lv' := [(10, .int 0), (8, .long 0), (0, .ref zy), (1, .int zia), (2, .int zib), (3, .int zi_12), (4, .int zi_188), (5, .long zj_189), (7, .int zi_190)]) hx hb dX11_next_56 hl (by decide) rfl (fun ls hl => ?_)
              have lp_294 : ∀ (n : Nat) (zj_279 : Int64) (zi_280 : Int32) (H : Heap) (locs : List Loc) (ls : Array Slot), (24 - zi_280.toInt).toNat = n → (0 ≤ zi_280.toInt ∧ zi_280.toInt ≤ 24) → (ZI (zI_15 (zR zy 0))) → va_P (dC, dI) vwCl (WL cy zL zT zR zI_15 zJ_16) H → va_D A (WL cy zL zT zR zI_15 zJ_16) → va_S A s.heap H locs → lv_has ls 11 [(0, .ref zy), (1, .int zia), (2, .int zib), (3, .int zi_12), (4, .int zi_188), (5, .long zj_189), (7, .int zi_190), (8, .long zj_279), (10, .int zi_280)] → W p l e ({ frames := 6, cells := 0, slots := 0, locals := 135 } : Room) s m ([.ref zy, .int zia, .int zib] : List Value).toArray below meth c H locs 0 0 Q (F0 m 58 ls []) := by
                intro n
                induction n using Nat.strongRecOn with
                | _ n ih_294 =>
                  intro zj_279 zi_280 H locs ls hn b_zi_280 e_lp_294_0 hP hD hS hl
                  refine lv_iload hx hb dX11_next_58 (lv_at hl 8 rfl) ?_
                  refine lv_bipush (v := 24) hx hb dX11_next_60 (by decide) ?_
                  refine lv_icmp_ge (tgt := 100) hx hb dX11_next_62 (by decide) (fun c_295 => ?_) (fun c_295 => ?_)
                  · have f_296 : zi_280.toInt ≥ (24 : Int) := ic_ge (rfl) (show (24 : Int32).toInt = 24 by decide) c_295
                    refine lv_iload hx hb dX11_next_100 (lv_at hl 6 rfl) ?_
                    refine lv_if_eq (tgt := 113) hx hb dX11_next_102 (by decide) (fun c_297 => ?_) (fun c_297 => ?_)
                    · have f_298 : zi_190.toInt = 0 := ic_eq (rfl) (by decide) c_297
                      refine lv_iload hx hb dX11_next_113 (lv_at hl 6 rfl) ?_
                      refine lv_istore (lv' := [(4, .int zi_190), (0, .ref zy), (1, .int zia), (2, .int zib), (3, .int zi_12), (5, .long zj_189), (7, .int zi_190), (8, .long zj_279), (10, .int zi_280)]) hx hb dX11_next_115 hl (by decide) rfl (fun ls hl => ?_)
                      refine lv_lload hx hb dX11_next_117 (lv_at hl 7 rfl) ?_
                      refine lv_lstore (lv' := [(5, .long zj_279), (4, .int zi_190), (0, .ref zy), (1, .int zia), (2, .int zib), (3, .int zi_12), (7, .int zi_190), (8, .long zj_279), (10, .int zi_280)]) hx hb dX11_next_119 hl (by decide) rfl (fun ls hl => ?_)
                      obtain ⟨zi_299, ezi_299⟩ : ∃ y : Int32, y = zi_190 + 1 := ⟨_, rfl⟩
                      have tzi_299 : zi_299.toInt = zi_190.toInt + 1 := by rw [ezi_299]; exact tadd rfl (show (1 : Int32).toInt = 1 by decide) (by omega) (by omega)
                      refine lv_iinc (v := zi_299) (lv' := [(7, .int zi_299), (5, .long zj_279), (4, .int zi_190), (0, .ref zy), (1, .int zia), (2, .int zib), (3, .int zi_12), (8, .long zj_279), (10, .int zi_280)]) hx hb dX11_next_121 hl (k := 6) rfl (by rw [ezi_299]; rfl) (by decide) rfl (fun ls hl => ?_)
                      refine lv_goto (tgt := 43) hx hb dX11_next_124 (by decide) ?_
                      exact ih_269 (12 - zi_299.toInt).toNat (by omega) zi_190 zj_279 zi_299 _ _ _ rfl (by omega) (by omega) e_lp_294_0 hP hD hS (lv_sub hl [3, 4, 5, 6, 2, 1, 0] rfl)
                    · have f_298 : ¬ (zi_190.toInt = 0) := ic_neq (rfl) (by decide) c_297
                      refine lv_lload hx hb dX11_next_105 (lv_at hl 7 rfl) ?_
                      refine lv_lload hx hb dX11_next_107 (lv_at hl 5 rfl) ?_
                      refine W.lcmp hx hb dX11_next_109 ?_
                      refine lv_topi (fun zi_300 ezi_300 => ?_)
                      refine lv_if_ge (tgt := 121) hx hb dX11_next_110 (by decide) (fun c_301 => ?_) (fun c_301 => ?_)
                      · have f_302 : ¬ (zj_279.toInt < zj_189.toInt) := lk_ge ezi_300 (rfl) (rfl) c_301
                        obtain ⟨zi_303, ezi_303⟩ : ∃ y : Int32, y = zi_190 + 1 := ⟨_, rfl⟩
                        have tzi_303 : zi_303.toInt = zi_190.toInt + 1 := by rw [ezi_303]; exact tadd rfl (show (1 : Int32).toInt = 1 by decide) (by omega) (by omega)
                        refine lv_iinc (v := zi_303) (lv' := [(7, .int zi_303), (0, .ref zy), (1, .int zia), (2, .int zib), (3, .int zi_12), (4, .int zi_188), (5, .long zj_189), (8, .long zj_279), (10, .int zi_280)]) hx hb dX11_next_121 hl (k := 6) rfl (by rw [ezi_303]; rfl) (by decide) rfl (fun ls hl => ?_)
                        refine lv_goto (tgt := 43) hx hb dX11_next_124 (by decide) ?_
                        exact ih_269 (12 - zi_303.toInt).toNat (by omega) zi_188 zj_189 zi_303 _ _ _ rfl (by omega) (by omega) e_lp_294_0 hP hD hS (lv_sub hl [1, 2, 3, 4, 5, 6, 0] rfl)
                      · have f_302 : zj_279.toInt < zj_189.toInt := lk_nge ezi_300 (rfl) (rfl) c_301
                        refine lv_iload hx hb dX11_next_113 (lv_at hl 6 rfl) ?_
                        refine lv_istore (lv' := [(4, .int zi_190), (0, .ref zy), (1, .int zia), (2, .int zib), (3, .int zi_12), (5, .long zj_189), (7, .int zi_190), (8, .long zj_279), (10, .int zi_280)]) hx hb dX11_next_115 hl (by decide) rfl (fun ls hl => ?_)
                        refine lv_lload hx hb dX11_next_117 (lv_at hl 7 rfl) ?_
                        refine lv_lstore (lv' := [(5, .long zj_279), (4, .int zi_190), (0, .ref zy), (1, .int zia), (2, .int zib), (3, .int zi_12), (7, .int zi_190), (8, .long zj_279), (10, .int zi_280)]) hx hb dX11_next_119 hl (by decide) rfl (fun ls hl => ?_)
                        obtain ⟨zi_304, ezi_304⟩ : ∃ y : Int32, y = zi_190 + 1 := ⟨_, rfl⟩
                        have tzi_304 : zi_304.toInt = zi_190.toInt + 1 := by rw [ezi_304]; exact tadd rfl (show (1 : Int32).toInt = 1 by decide) (by omega) (by omega)
                        refine lv_iinc (v := zi_304) (lv' := [(7, .int zi_304), (5, .long zj_279), (4, .int zi_190), (0, .ref zy), (1, .int zia), (2, .int zib), (3, .int zi_12), (8, .long zj_279), (10, .int zi_280)]) hx hb dX11_next_121 hl (k := 6) rfl (by rw [ezi_304]; rfl) (by decide) rfl (fun ls hl => ?_)
                        refine lv_goto (tgt := 43) hx hb dX11_next_124 (by decide) ?_
                        exact ih_269 (12 - zi_304.toInt).toNat (by omega) zi_190 zj_279 zi_304 _ _ _ rfl (by omega) (by omega) e_lp_294_0 hP hD hS (lv_sub hl [3, 4, 5, 6, 2, 1, 0] rfl)
                  · have f_296 : ¬ (zi_280.toInt ≥ (24 : Int)) := ic_nge (rfl) (show (24 : Int32).toInt = 24 by decide) c_295
                    refine lv_aload_n hx hb dX11_next_65 rfl (lv_at hl 0 rfl) ?_
                    refine lv_iload hx hb dX11_next_66 (lv_at hl 6 rfl) ?_
                    refine lv_iload hx hb dX11_next_68 (lv_at hl 8 rfl) ?_
                    refine hj_l (ws := (WL cy zL zT zR zI_15 zJ_16)) (w1 := fun (u : Unit) => (WL cy zL zT zR zI_15 zJ_16)) (va_runV (As := [.int zi_190, .int zi_280]) (rest := []) ⟨hx, hb, hml, hown, hts⟩ (t_X11_waysAt l dC dI cy H.size zL zT zR zI_15 zJ_16 zy zi_190 zi_280 hs h_zI_15.1 t_zy (by omega) (by omega)) (cwV 2 hts gX11_next_X11_waysAt rfl rfl rfl (by decide +kernel) ⟨(Nat.le_of_ble_eq_true rfl), (Nat.le_of_ble_eq_true rfl)⟩) (PRE.v hP hK hD hN (ht_recv hK hP hs t_zy (by decide) rfl rfl)) rfl rfl hl.1 rfl (lv_room (Nat.le_of_ble_eq_true rfl)) dX11_next_70 ⟨(Nat.le_of_ble_eq_true rfl), (Nat.le_of_ble_eq_true rfl)⟩) hP hD hS hA (fun zj_305 u_307 H locs hw_306 hP hD hS => ?_)
                    refine lv_lload hx hb dX11_next_73 (lv_at hl 7 rfl) ?_
                    refine W.lcmp hx hb dX11_next_75 ?_
                    refine lv_topi (fun zi_308 ezi_308 => ?_)
                    refine lv_if_le (tgt := 90) hx hb dX11_next_76 (by decide) (fun c_309 => ?_) (fun c_309 => ?_)
                    · have f_310 : ¬ (zj_305.toInt > zj_279.toInt) := lk_le ezi_308 (rfl) (rfl) c_309
                      refine lv_lload hx hb dX11_next_90 (lv_at hl 7 rfl) ?_
                      refine lv_lstore (lv' := [(8, .long zj_279), (0, .ref zy), (1, .int zia), (2, .int zib), (3, .int zi_12), (4, .int zi_188), (5, .long zj_189), (7, .int zi_190), (10, .int zi_280)]) hx hb dX11_next_92 hl (by decide) rfl (fun ls hl => ?_)
                      obtain ⟨zi_311, ezi_311⟩ : ∃ y : Int32, y = zi_280 + 1 := ⟨_, rfl⟩
                      have tzi_311 : zi_311.toInt = zi_280.toInt + 1 := by rw [ezi_311]; exact tadd rfl (show (1 : Int32).toInt = 1 by decide) (by omega) (by omega)
                      refine lv_iinc (v := zi_311) (lv' := [(10, .int zi_311), (8, .long zj_279), (0, .ref zy), (1, .int zia), (2, .int zib), (3, .int zi_12), (4, .int zi_188), (5, .long zj_189), (7, .int zi_190)]) hx hb dX11_next_94 hl (k := 8) rfl (by rw [ezi_311]; rfl) (by decide) rfl (fun ls hl => ?_)
                      refine lv_goto (tgt := 58) hx hb dX11_next_97 (by decide) ?_
                      exact ih_294 (24 - zi_311.toInt).toNat (by omega) zj_279 zi_311 _ _ _ rfl (by omega) e_lp_294_0 hP hD hS (lv_sub hl [2, 3, 4, 5, 6, 7, 8, 1, 0] rfl)
                    · have f_310 : zj_305.toInt > zj_279.toInt := lk_nle ezi_308 (rfl) (rfl) c_309
                      refine lv_aload_n hx hb dX11_next_79 rfl (lv_at hl 0 rfl) ?_
                      refine lv_iload hx hb dX11_next_80 (lv_at hl 6 rfl) ?_
                      refine lv_iload hx hb dX11_next_82 (lv_at hl 8 rfl) ?_
                      refine hj_l (ws := (WL cy zL zT zR zI_15 zJ_16)) (w1 := fun (u : Unit) => (WL cy zL zT zR zI_15 zJ_16)) (va_runV (As := [.int zi_190, .int zi_280]) (rest := []) ⟨hx, hb, hml, hown, hts⟩ (t_X11_waysAt l dC dI cy H.size zL zT zR zI_15 zJ_16 zy zi_190 zi_280 hs h_zI_15.1 t_zy (by omega) (by omega)) (cwV 2 hts gX11_next_X11_waysAt rfl rfl rfl (by decide +kernel) ⟨(Nat.le_of_ble_eq_true rfl), (Nat.le_of_ble_eq_true rfl)⟩) (PRE.v hP hK hD hN (ht_recv hK hP hs t_zy (by decide) rfl rfl)) rfl rfl hl.1 rfl (lv_room (Nat.le_of_ble_eq_true rfl)) dX11_next_84 ⟨(Nat.le_of_ble_eq_true rfl), (Nat.le_of_ble_eq_true rfl)⟩) hP hD hS hA (fun zj_312 u_314 H locs hw_313 hP hD hS => ?_)
                      refine lv_goto (tgt := 92) hx hb dX11_next_87 (by decide) ?_
                      refine lv_lstore (lv' := [(8, .long zj_312), (0, .ref zy), (1, .int zia), (2, .int zib), (3, .int zi_12), (4, .int zi_188), (5, .long zj_189), (7, .int zi_190), (10, .int zi_280)]) hx hb dX11_next_92 hl (by decide) rfl (fun ls hl => ?_)
                      obtain ⟨zi_315, ezi_315⟩ : ∃ y : Int32, y = zi_280 + 1 := ⟨_, rfl⟩
                      have tzi_315 : zi_315.toInt = zi_280.toInt + 1 := by rw [ezi_315]; exact tadd rfl (show (1 : Int32).toInt = 1 by decide) (by omega) (by omega)
                      refine lv_iinc (v := zi_315) (lv' := [(10, .int zi_315), (8, .long zj_312), (0, .ref zy), (1, .int zia), (2, .int zib), (3, .int zi_12), (4, .int zi_188), (5, .long zj_189), (7, .int zi_190)]) hx hb dX11_next_94 hl (k := 8) rfl (by rw [ezi_315]; rfl) (by decide) rfl (fun ls hl => ?_)
                      refine lv_goto (tgt := 58) hx hb dX11_next_97 (by decide) ?_
                      exact ih_294 (24 - zi_315.toInt).toNat (by omega) zj_312 zi_315 _ _ _ rfl (by omega) e_lp_294_0 hP hD hS (lv_sub hl [2, 3, 4, 5, 6, 7, 8, 1, 0] rfl)
              have qc_0 : (0 : Int32).toInt = 0 := by decide
              exact lp_294 _ (0 : Int64) (0 : Int32) _ _ _ rfl (by decide) e_lp_269_0 hP hD hS (lv_sub hl [2, 3, 4, 5, 6, 7, 8, 1, 0] rfl)
        have qc_0 : (0 : Int32).toInt = 0 := by decide
        have t_316 : zT (zR zy 0) = 100 := sk_f hs t_zy (by decide) rfl (by decide)
        have zz_317 : ZI (zI_15 (zR zy 0)) := by rw [(k_zI_15.2.row t_316 (by decide) (by decide))]; exact hz
        exact lp_269 _ (0 : Int32) (0 : Int64) (0 : Int32) _ _ _ rfl (by decide) (by decide) zz_317 hP hD hS (lv_sub hl [4, 5, 6, 3, 2, 1, 0] rfl)
      · have f_19 : ¬ (zi_12.toInt ≥ 0) := ic_nge (rfl) (by decide) c_18
        refine lv_iload_n hx hb dX11_next_31 rfl (lv_at hl 0 rfl) ?_
        refine lv_i2l (v := zi_12.toInt64) hx hb dX11_next_32 rfl ?_
        refine lv_topl (fun zj_318 ezj_318 => ?_)
        have tzj_318 : zj_318.toInt = zi_12.toInt := by rw [ezj_318]; exact Int32.toInt_toInt64 _
        subst hQ
        exact W.lret (v := zj_318) hx hb hr (fun t ht hW => ⟨⟨zj_318, (zI_15, zJ_16), rfl, h_zI_15, ⟨by rw [ht]; exact hP, va_K.moved hW.alike hK, hD⟩⟩, hS.F ht⟩) hS.2.2 dX11_next_33
    · have f_11 : ¬ (0 ≤ zj_6.toInt ∧ zj_6.toInt ≤ 1) := bz_0 hw_8 c_10
      refine lv_ldc2 (v := (-1)) hx hb hown (hts (.constantLong RX11 236 (-1)) (by decide +kernel)) dX11_next_17 ?_
      subst hQ
      exact W.lret (v := (-1 : Int64)) hx hb hr (fun t ht hW => ⟨⟨(-1 : Int64), (zI, zJ), rfl, h_zI, ⟨by rw [ht]; exact hP, va_K.moved hW.alike hK, hD⟩⟩, hS.F ht⟩) hS.2.2 dX11_next_20
