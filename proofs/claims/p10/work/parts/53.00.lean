set_option maxHeartbeats 8000000 in
set_option maxRecDepth 100000 in
theorem t_X10_waysWith (l : Launch) (dC : Nat → ClassId) (dI : Nat → Nat → Nat) (cy : Nat → ClassId) (sz : Nat) (zL : List Nat) (zT : Nat → Nat) (zR : Nat → Nat → Nat) (zI : Nat → Nat → Int32) (zJ : Nat → Nat → Int64) (zx : Nat) (zia : Int32) (zib : Int32) (hs : SKP zL zT zR) (hw : WT zT zR zI) (t_zx : zT zx = 11) (b_zia : 0 ≤ zia.toInt ∧ zia.toInt ≤ 1) (hj : JX zR zI zx) : Met l yX10_waysWith wsX10_waysWith ({ frames := 3, cells := 0, slots := 0, locals := 82 } : Room) (va_Pc [.ref zx, .int zia, .int zib] (PRE dC dI cy (WL cy zL zT zR zI zJ) sz)) (va_Ql (fun (r : Int64) (u : (Nat → Nat → Int32) × (Nat → Nat → Int64)) => (WM [1013, 1014, 3700, 3800, 3900, 4000, 4200, 4700] AL zT zR zI u.1) ∧ (JX zR u.1 zx) ∧ (LW zR u.1 (zR (zR zx 6) zia.toNatClampNeg) (zR (zR (zR zx 0) 2) zia.toNatClampNeg))) (fun u t => POST dC dI cy (va_A (WL cy zL zT zR zI zJ) sz) (WL cy zL zT zR u.1 u.2) t) (va_A (WL cy zL zT zR zI zJ) sz)) 0 0 (va_A (WL cy zL zT zR zI zJ) sz) := by
  refine Met.ofW (cc := cX10_waysWith) (maxL := 4) (ret := (some .long)) (by decide) rfl ?_
  intro p e s m args below meth c s₁ B hml hv
  obtain ⟨rfl, hsz, hP, hK, hD0, hN⟩ := hv
  have hx := B.exec
  have hb := B.bytes
  have hr := B.returns
  have hts := atoms_spec (ws := wsX10_waysWith) B.pre
  have hown : s.vm.findClass RX10 = some m.cls := findClass_of_methodNamed B.named
  have hlocks := B.notSynchronized
  subst hsz
  have hD := hD0.self (sz := s.heap.size)
  generalize hAe : va_A (WL cy zL zT zR zI zJ) s.heap.size = A at hD ⊢
  have hA : ∀ q : Nat, s.heap.size ≤ q → A q := fun q h => by rw [← hAe]; exact Or.inr h
  have hS : va_S A s.heap s.heap [] := va_S.rf
  have hP : va_P (dC, dI) vwCl (WL cy zL zT zR zI zJ) s.heap := hP
  have hl := lv_entry ([.ref zx, .int zia, .int zib] : List Value) (n := 4) (Nat.le_of_ble_eq_true rfl)
  rw [lg_entry_eq]
  generalize (lg_sl ([.ref zx, .int zia, .int zib] : List Value) ++ List.replicate (4 - (lg_sl ([.ref zx, .int zia, .int zib] : List Value)).length) Slot.unset).toArray = ls at hl ⊢
  have hl : lv_has ls 4 [(0, .ref zx), (1, .int zia), (2, .int zib)] := hl
  refine w_q (fun Q hQ => ?_)
  have h_zI : WM [1013, 1014, 3700, 3800, 3900, 4000, 4200, 4700] AL zT zR zI zI := WM.rf hw
  refine lv_aload_n hx hb dX10_waysWith_0 rfl (lv_at hl 0 rfl) ?_
  refine ht_getr (C := RX10) (T := TX10) (N := 10) hx hb hts (by decide +kernel) hown hK hP hs t_zx (by decide) rfl rfl 6 (by decide) (hts (.fieldLink RX10 50 "DripStone" "lines" "[LDripStone$Ways;") (by decide +kernel)) (fun _ h9 => h9) rfl dX10_waysWith_1 ?_
  have t_1 : zT (zR zx 6) = 64 := sk_f hs t_zx (by decide) rfl (by decide)
  refine lv_iload_n hx hb dX10_waysWith_4 rfl (lv_at hl 1 rfl) ?_
  refine ht_aald (n := 2) (q := 6) hx hb hK hP hs t_1 (by decide) rfl rfl ⟨by omega, by omega⟩ dX10_waysWith_5 ?_
  have t_2 : zT (zR (zR zx 6) zia.toNatClampNeg) = 10 := sk_a (n := 2) hs t_1 rfl rfl (by decide) (cl_lt (by omega) (by omega))
  refine lv_astore_n (lv' := [(3, .ref (zR (zR zx 6) zia.toNatClampNeg)), (0, .ref zx), (1, .int zia), (2, .int zib)]) hx hb dX10_waysWith_6 rfl hl (by decide) rfl (fun ls hl => ?_)
  refine lv_aload_n hx hb dX10_waysWith_7 rfl (lv_at hl 1 rfl) ?_
  refine ht_getr (C := RX10) (T := TX10) (N := 10) hx hb hts (by decide +kernel) hown hK hP hs t_zx (by decide) rfl rfl 7 (by decide) (hts (.fieldLink RX10 54 "DripStone" "counted" "[Z") (by decide +kernel)) (fun _ h9 => h9) rfl dX10_waysWith_8 ?_
  have t_3 : zT (zR zx 7) = 47 := sk_f hs t_zx (by decide) rfl (by decide)
  refine lv_iload_n hx hb dX10_waysWith_11 rfl (lv_at hl 2 rfl) ?_
  refine lv_iconst (v := 0) hx hb dX10_waysWith_12 (by decide) ?_
  refine ht_zast (v := (0 : Int32)) (n := 2) (q := 2) hx hb hK hP hD hS hs t_3 (by decide) rfl rfl ⟨by omega, by omega⟩ dX10_waysWith_13 (fun H locs hP hD hS => ?_)
  have h_zI_4 : WM [1013, 1014, 3700, 3800, 3900, 4000, 4200, 4700] AL zT zR zI (u2 zI (zR zx 7) zia.toNatClampNeg (vp_nar .boolean (0 : Int32))) := h_zI.putA hs t_3 rfl (rgF _) (by decide) (fun h => absurd h (by decide)) (by decide) trivial
  generalize uzI_4 : u2 zI (zR zx 7) zia.toNatClampNeg (vp_nar .boolean (0 : Int32)) = zI_4 at hP hD h_zI_4
  have j_zI_4 : JX zR zI_4 zx := by rw [← uzI_4]; exact hj.c0 hs t_zx bn0
  refine lv_aload_n hx hb dX10_waysWith_14 rfl (lv_at hl 0 rfl) ?_
  refine lv_aload_n hx hb dX10_waysWith_15 rfl (lv_at hl 1 rfl) ?_
  refine ht_getr (C := RX10) (T := TX10) (N := 10) hx hb hts (by decide +kernel) hown hK hP hs t_zx (by decide) rfl rfl 0 (by decide) (hts (.fieldLink RX10 12 "DripStone" "now" "LDripStone$State;") (by decide +kernel)) (fun _ h9 => h9) rfl dX10_waysWith_16 ?_
  have t_5 : zT (zR zx 0) = 9 := sk_f hs t_zx (by decide) rfl (by decide)
  refine ht_getr (C := RX8) (T := TX8) (N := 9) hx hb hts (by decide +kernel) hown hK hP hs t_5 (by decide) rfl rfl 2 (by decide) (hts (.fieldLink RX10 147 "DripStone$State" "candles" "[LDripStone$Candle;") (by decide +kernel)) (fun _ h9 => h9) rfl dX10_waysWith_19 ?_
  have t_6 : zT (zR (zR zx 0) 2) = 61 := sk_f hs t_5 (by decide) rfl (by decide)
  refine lv_iload_n hx hb dX10_waysWith_22 rfl (lv_at hl 2 rfl) ?_
  refine ht_aald (n := 2) (q := 3) hx hb hK hP hs t_6 (by decide) rfl rfl ⟨by omega, by omega⟩ dX10_waysWith_23 ?_
  have t_7 : zT (zR (zR (zR zx 0) 2) zia.toNatClampNeg) = 1 := sk_a (n := 2) hs t_6 rfl rfl (by decide) (cl_lt (by omega) (by omega))
  refine lv_aload_n hx hb dX10_waysWith_24 rfl (lv_at hl 1 rfl) ?_
  refine ht_getr (C := RX10) (T := TX10) (N := 10) hx hb hts (by decide +kernel) hown hK hP hs t_zx (by decide) rfl rfl 0 (by decide) (hts (.fieldLink RX10 12 "DripStone" "now" "LDripStone$State;") (by decide +kernel)) (fun _ h9 => h9) rfl dX10_waysWith_25 ?_
  refine ht_getr (C := RX8) (T := TX8) (N := 9) hx hb hts (by decide +kernel) hown hK hP hs t_5 (by decide) rfl rfl 3 (by decide) (hts (.fieldLink RX10 157 "DripStone$State" "dates" "LDripStone$Dates;") (by decide +kernel)) (fun _ h9 => h9) rfl dX10_waysWith_28 ?_
  have t_8 : zT (zR (zR zx 0) 3) = 3 := sk_f hs t_5 (by decide) rfl (by decide)
  refine lv_iload_n hx hb dX10_waysWith_31 rfl (lv_at hl 3 rfl) ?_
  refine hj_v (ws := (WL cy zL zT zR zI_4 zJ)) (w1 := fun (u : (Nat → Nat → Int32)) => (WL cy zL zT zR u zJ)) (va_runV (As := [.ref (zR (zR (zR zx 0) 2) zia.toNatClampNeg), .ref (zR (zR zx 0) 3), .int zib]) (rest := []) ⟨hx, hb, hml, hown, hts⟩ (t_X9_lay l dC dI cy H.size zL zT zR zI_4 zJ (zR (zR zx 6) zia.toNatClampNeg) (zR (zR (zR zx 0) 2) zia.toNatClampNeg) (zR (zR zx 0) 3) zib hs h_zI_4.1 t_2 t_7 t_8) (cwV 3 hts gX10_waysWith_X9_lay rfl rfl rfl (by decide +kernel) ⟨(Nat.le_of_ble_eq_true rfl), (Nat.le_of_ble_eq_true rfl)⟩) (PRE.v hP hK hD hN (ht_recv hK hP hs t_2 (by decide) rfl rfl)) rfl rfl hl.1 rfl (lv_room (Nat.le_of_ble_eq_true rfl)) dX10_waysWith_32 ⟨(Nat.le_of_ble_eq_true rfl), (Nat.le_of_ble_eq_true rfl)⟩) hP hD hS hA (fun zI_12 H locs hw_10 hP hD hS => ?_)
  obtain ⟨k_zI_12, ps_13⟩ : (WM [1013, 1014, 3700, 3800, 3900, 4000, 4200] (OW zT zR (zR (zR zx 6) zia.toNatClampNeg)) zT zR zI_4 zI_12) ∧ (LW zR zI_12 (zR (zR zx 6) zia.toNatClampNeg) (zR (zR (zR zx 0) 2) zia.toNatClampNeg)) := hw_10
  have h_zI_12 : WM [1013, 1014, 3700, 3800, 3900, 4000, 4200, 4700] AL zT zR zI zI_12 := h_zI_4.tr k_zI_12 (by decide) (fun _ _ => trivial)
  have j_zI_12 : JE zR zI_12 zx zia.toNatClampNeg := JE.o2 (JX.e (c0 := zia.toNatClampNeg) j_zI_4) hs t_zx (cl_lt (by omega) (by omega)) k_zI_12.2 (by decide)
  refine lv_aload_n hx hb dX10_waysWith_35 rfl (lv_at hl 0 rfl) ?_
  refine hj_v (ws := (WL cy zL zT zR zI_12 zJ)) (w1 := fun (u : (Nat → Nat → Int64)) => (WL cy zL zT zR zI_12 u)) (va_runV (As := []) (rest := []) ⟨hx, hb, hml, hown, hts⟩ (t_X9_goForward l dC dI cy H.size zL zT zR zI_12 zJ (zR (zR zx 6) zia.toNatClampNeg) hs h_zI_12.1 t_2) (cwV 0 hts gX10_waysWith_X9_goForward rfl rfl rfl (by decide +kernel) ⟨(Nat.le_of_ble_eq_true rfl), (Nat.le_of_ble_eq_true rfl)⟩) (PRE.v hP hK hD hN (ht_recv hK hP hs t_2 (by decide) rfl rfl)) rfl rfl hl.1 rfl (lv_room (Nat.le_of_ble_eq_true rfl)) dX10_waysWith_36 ⟨(Nat.le_of_ble_eq_true rfl), (Nat.le_of_ble_eq_true rfl)⟩) hP hD hS hA (fun zJ_17 H locs hw_15 hP hD hS => ?_)
  refine lv_aload_n hx hb dX10_waysWith_39 rfl (lv_at hl 0 rfl) ?_
  refine ht_getl (C := RX9) (T := TX9) (N := 16) hx hb hts (by decide +kernel) hown hK hP hs t_2 (by decide) rfl rfl 15 (by decide) (hts (.fieldLink RX10 242 "DripStone$Ways" "total" "J") (by decide +kernel)) (fun _ h9 => h9) rfl dX10_waysWith_40 ?_
  refine lv_topl (fun zj_18 ezj_18 => ?_)
  subst hQ
  exact W.lret (v := zj_18) hx hb hr (fun t ht hW => ⟨⟨zj_18, (zI_12, zJ_17), rfl, ⟨h_zI_12, (show JX zR zI_12 zx from (JE.z j_zI_12 (congrArg Int32.toInt (show zI_12 (zR zx 7) zia.toNatClampNeg = 0 from ((k_zI_12.2 (zR zx 7) zia.toNatClampNeg (Or.inl (by rw [t_3]; exact (by decide : ¬ 4700 ∈ ([1013, 1014, 3700, 3800, 3900, 4000, 4200] : List Nat))))).trans (by rw [← uzI_4]; exact u2_s.trans (by decide))))))), (show LW zR zI_12 (zR (zR zx 6) zia.toNatClampNeg) (zR (zR (zR zx 0) 2) zia.toNatClampNeg) from ps_13)⟩, ⟨by rw [ht]; exact hP, va_K.moved hW.alike hK, hD⟩⟩, hS.F ht⟩) hS.2.2 dX10_waysWith_43
set_option maxHeartbeats 8000000 in
set_option maxRecDepth 100000 in
theorem t_X10_lineOf (l : Launch) (dC : Nat → ClassId) (dI : Nat → Nat → Nat) (cy : Nat → ClassId) (sz : Nat) (zL : List Nat) (zT : Nat → Nat) (zR : Nat → Nat → Nat) (zI : Nat → Nat → Int32) (zJ : Nat → Nat → Int64) (zx : Nat) (zia : Int32) (hs : SKP zL zT zR) (hw : WT zT zR zI) (t_zx : zT zx = 11) (b_zia : 0 ≤ zia.toInt ∧ zia.toInt ≤ 1) (hj : JX zR zI zx) : Met l yX10_lineOf wsX10_lineOf ({ frames := 4, cells := 0, slots := 0, locals := 105 } : Room) (va_Pc [.ref zx, .int zia] (PRE dC dI cy (WL cy zL zT zR zI zJ) sz)) (va_Qr (fun (u : (Nat → Nat → Int32) × (Nat → Nat → Int64)) => (WM [1013, 1014, 3700, 3800, 3900, 4000, 4200, 4700] AL zT zR zI u.1) ∧ (JX zR u.1 zx) ∧ (LW zR u.1 (zR (zR zx 6) zia.toNatClampNeg) (zR (zR (zR zx 0) 2) zia.toNatClampNeg))) (fun u a t => a = (zR (zR zx 6) zia.toNatClampNeg) ∧ POST dC dI cy (va_A (WL cy zL zT zR zI zJ) sz) (WL cy zL zT zR u.1 u.2) t) (va_A (WL cy zL zT zR zI zJ) sz)) 0 0 (va_A (WL cy zL zT zR zI zJ) sz) := by
  refine Met.ofW (cc := cX10_lineOf) (maxL := 2) (ret := (some (.object "DripStone$Ways"))) (by decide) rfl ?_
  intro p e s m args below meth c s₁ B hml hv
  obtain ⟨rfl, hsz, hP, hK, hD0, hN⟩ := hv
  have hx := B.exec
  have hb := B.bytes
  have hr := B.returns
  have hts := atoms_spec (ws := wsX10_lineOf) B.pre
  have hown : s.vm.findClass RX10 = some m.cls := findClass_of_methodNamed B.named
  have hlocks := B.notSynchronized
  subst hsz
  have hD := hD0.self (sz := s.heap.size)
  generalize hAe : va_A (WL cy zL zT zR zI zJ) s.heap.size = A at hD ⊢
  have hA : ∀ q : Nat, s.heap.size ≤ q → A q := fun q h => by rw [← hAe]; exact Or.inr h
  have hS : va_S A s.heap s.heap [] := va_S.rf
  have hP : va_P (dC, dI) vwCl (WL cy zL zT zR zI zJ) s.heap := hP
  have hl := lv_entry ([.ref zx, .int zia] : List Value) (n := 2) (Nat.le_of_ble_eq_true rfl)
  rw [lg_entry_eq]
  generalize (lg_sl ([.ref zx, .int zia] : List Value) ++ List.replicate (2 - (lg_sl ([.ref zx, .int zia] : List Value)).length) Slot.unset).toArray = ls at hl ⊢
  have hl : lv_has ls 2 [(0, .ref zx), (1, .int zia)] := hl
  refine w_q (fun Q hQ => ?_)
  have h_zI : WM [1013, 1014, 3700, 3800, 3900, 4000, 4200, 4700] AL zT zR zI zI := WM.rf hw
  refine lv_aload_n hx hb dX10_lineOf_0 rfl (lv_at hl 0 rfl) ?_
  refine ht_getr (C := RX10) (T := TX10) (N := 10) hx hb hts (by decide +kernel) hown hK hP hs t_zx (by decide) rfl rfl 7 (by decide) (hts (.fieldLink RX10 54 "DripStone" "counted" "[Z") (by decide +kernel)) (fun _ h9 => h9) rfl dX10_lineOf_1 ?_
  have t_1 : zT (zR zx 7) = 47 := sk_f hs t_zx (by decide) rfl (by decide)
  refine lv_iload_n hx hb dX10_lineOf_4 rfl (lv_at hl 1 rfl) ?_
  refine ht_zald (n := 2) (q := 2) hx hb hK hP hs t_1 (by decide) rfl rfl ⟨by omega, by omega⟩ dX10_lineOf_5 ?_
  refine lv_topi (fun zi_2 ezi_2 => ?_)
  refine lv_if_ne (tgt := 42) hx hb dX10_lineOf_6 (by decide) (fun c_3 => ?_) (fun c_3 => ?_)
  · have f_4 : zi_2.toInt ≠ 0 := ic_ne (rfl) (by decide) c_3
    refine lv_aload_n hx hb dX10_lineOf_42 rfl (lv_at hl 0 rfl) ?_
    refine ht_getr (C := RX10) (T := TX10) (N := 10) hx hb hts (by decide +kernel) hown hK hP hs t_zx (by decide) rfl rfl 6 (by decide) (hts (.fieldLink RX10 50 "DripStone" "lines" "[LDripStone$Ways;") (by decide +kernel)) (fun _ h9 => h9) rfl dX10_lineOf_43 ?_
    have t_5 : zT (zR zx 6) = 64 := sk_f hs t_zx (by decide) rfl (by decide)
    refine lv_iload_n hx hb dX10_lineOf_46 rfl (lv_at hl 1 rfl) ?_
    refine ht_aald (n := 2) (q := 6) hx hb hK hP hs t_5 (by decide) rfl rfl ⟨by omega, by omega⟩ dX10_lineOf_47 ?_
    have t_6 : zT (zR (zR zx 6) zia.toNatClampNeg) = 10 := sk_a (n := 2) hs t_5 rfl rfl (by decide) (cl_lt (by omega) (by omega))
    subst hQ
    exact W.aret hx hb hr (Or.inl ⟨_, rfl⟩) (Or.inr ⟨_, rfl⟩) (fun t ht hW => ⟨⟨(zI, zJ), _, rfl, ⟨h_zI, (show JX zR zI zx from hj), (show LW zR zI (zR (zR zx 6) zia.toNatClampNeg) (zR (zR (zR zx 0) 2) zia.toNatClampNeg) from ((hj zia.toNatClampNeg (cl_lt (by omega) (by omega))).resolve_left (by rw [show zI (zR zx 7) zia.toNatClampNeg = zi_2 from ezi_2.symm]; omega)))⟩, rfl, ⟨by rw [ht]; exact hP, va_K.moved hW.alike hK, hD⟩⟩, hS.F ht⟩) hS.2.2 dX10_lineOf_48
  · have f_4 : ¬ (zi_2.toInt ≠ 0) := ic_nne (rfl) (by decide) c_3
    refine lv_aload_n hx hb dX10_lineOf_9 rfl (lv_at hl 0 rfl) ?_
    refine lv_iload_n hx hb dX10_lineOf_10 rfl (lv_at hl 1 rfl) ?_
    refine lv_aload_n hx hb dX10_lineOf_11 rfl (lv_at hl 0 rfl) ?_
    refine ht_getr (C := RX10) (T := TX10) (N := 10) hx hb hts (by decide +kernel) hown hK hP hs t_zx (by decide) rfl rfl 0 (by decide) (hts (.fieldLink RX10 12 "DripStone" "now" "LDripStone$State;") (by decide +kernel)) (fun _ h9 => h9) rfl dX10_lineOf_12 ?_
    have t_7 : zT (zR zx 0) = 9 := sk_f hs t_zx (by decide) rfl (by decide)
    refine ht_getr (C := RX8) (T := TX8) (N := 9) hx hb hts (by decide +kernel) hown hK hP hs t_7 (by decide) rfl rfl 3 (by decide) (hts (.fieldLink RX10 157 "DripStone$State" "dates" "LDripStone$Dates;") (by decide +kernel)) (fun _ h9 => h9) rfl dX10_lineOf_15 ?_
    have t_8 : zT (zR (zR zx 0) 3) = 3 := sk_f hs t_7 (by decide) rfl (by decide)
    refine lv_iload_n hx hb dX10_lineOf_18 rfl (lv_at hl 1 rfl) ?_
    refine hj_i (ws := (WL cy zL zT zR zI zJ)) (w1 := fun (u : Unit) => (WL cy zL zT zR zI zJ)) (va_runV (As := [.int zia]) (rest := [.int zia, .ref zx]) ⟨hx, hb, hml, hown, hts⟩ (t_X2_binding l dC dI cy s.heap.size zL zT zR zI zJ (zR (zR zx 0) 3) zia hs h_zI.1 t_8) (cwV 1 hts gX10_lineOf_X2_binding rfl rfl rfl (by decide +kernel) ⟨(Nat.le_of_ble_eq_true rfl), (Nat.le_of_ble_eq_true rfl)⟩) (PRE.v hP hK hD hN (ht_recv hK hP hs t_8 (by decide) rfl rfl)) rfl rfl hl.1 rfl (lv_room (Nat.le_of_ble_eq_true rfl)) dX10_lineOf_19 ⟨(Nat.le_of_ble_eq_true rfl), (Nat.le_of_ble_eq_true rfl)⟩) hP hD hS hA (fun zi_9 u_11 H locs hw_10 hP hD hS => ?_)
    have rzi_9 := rng zi_9
    refine hj_l (ws := (WL cy zL zT zR zI zJ)) (w1 := fun (u : (Nat → Nat → Int32) × (Nat → Nat → Int64)) => (WL cy zL zT zR u.1 u.2)) (va_runV (As := [.int zia, .int zi_9]) (rest := []) ⟨hx, hb, hml, hown, hts⟩ (t_X10_waysWith l dC dI cy H.size zL zT zR zI zJ zx zia zi_9 hs h_zI.1 t_zx (by omega) (by omega)) (cwV 2 hts gX10_lineOf_X10_waysWith rfl rfl rfl (by decide +kernel) ⟨(Nat.le_of_ble_eq_true rfl), (Nat.le_of_ble_eq_true rfl)⟩) (PRE.v hP hK hD hN (ht_recv hK hP hs t_zx (by decide) rfl rfl)) rfl rfl hl.1 rfl (lv_room (Nat.le_of_ble_eq_true rfl)) dX10_lineOf_22 ⟨(Nat.le_of_ble_eq_true rfl), (Nat.le_of_ble_eq_true rfl)⟩) hP hD hS hA (fun zj_12 u_14 H locs hw_13 hP hD hS => ?_)
    obtain ⟨zI_15, zJ_16⟩ := u_14
    obtain ⟨k_zI_15, ps_17, ps_18⟩ : (WM [1013, 1014, 3700, 3800, 3900, 4000, 4200, 4700] AL zT zR zI zI_15) ∧ (JX zR zI_15 zx) ∧ (LW zR zI_15 (zR (zR zx 6) zia.toNatClampNeg) (zR (zR (zR zx 0) 2) zia.toNatClampNeg)) := hw_13
    have h_zI_15 : WM [1013, 1014, 3700, 3800, 3900, 4000, 4200, 4700] AL zT zR zI zI_15 := h_zI.tr k_zI_15 (by decide) (fun _ _ => trivial)
    refine lv_pop2_2 hx hb dX10_lineOf_25 rfl ?_
    refine lv_aload_n hx hb dX10_lineOf_26 rfl (lv_at hl 0 rfl) ?_
    refine ht_getr (C := RX10) (T := TX10) (N := 10) hx hb hts (by decide +kernel) hown hK hP hs t_zx (by decide) rfl rfl 6 (by decide) (hts (.fieldLink RX10 50 "DripStone" "lines" "[LDripStone$Ways;") (by decide +kernel)) (fun _ h9 => h9) rfl dX10_lineOf_27 ?_
    have t_19 : zT (zR zx 6) = 64 := sk_f hs t_zx (by decide) rfl (by decide)
    refine lv_iload_n hx hb dX10_lineOf_30 rfl (lv_at hl 1 rfl) ?_
    refine ht_aald (n := 2) (q := 6) hx hb hK hP hs t_19 (by decide) rfl rfl ⟨by omega, by omega⟩ dX10_lineOf_31 ?_
    have t_20 : zT (zR (zR zx 6) zia.toNatClampNeg) = 10 := sk_a (n := 2) hs t_19 rfl rfl (by decide) (cl_lt (by omega) (by omega))
    refine hj_v (ws := (WL cy zL zT zR zI_15 zJ_16)) (w1 := fun (u : (Nat → Nat → Int64)) => (WL cy zL zT zR zI_15 u)) (va_runV (As := []) (rest := []) ⟨hx, hb, hml, hown, hts⟩ (t_X9_goBack l dC dI cy H.size zL zT zR zI_15 zJ_16 (zR (zR zx 6) zia.toNatClampNeg) hs h_zI_15.1 t_20) (cwV 0 hts gX10_lineOf_X9_goBack rfl rfl rfl (by decide +kernel) ⟨(Nat.le_of_ble_eq_true rfl), (Nat.le_of_ble_eq_true rfl)⟩) (PRE.v hP hK hD hN (ht_recv hK hP hs t_20 (by decide) rfl rfl)) rfl rfl hl.1 rfl (lv_room (Nat.le_of_ble_eq_true rfl)) dX10_lineOf_32 ⟨(Nat.le_of_ble_eq_true rfl), (Nat.le_of_ble_eq_true rfl)⟩) hP hD hS hA (fun zJ_24 H locs hw_22 hP hD hS => ?_)
    refine lv_aload_n hx hb dX10_lineOf_35 rfl (lv_at hl 0 rfl) ?_
    refine ht_getr (C := RX10) (T := TX10) (N := 10) hx hb hts (by decide +kernel) hown hK hP hs t_zx (by decide) rfl rfl 7 (by decide) (hts (.fieldLink RX10 54 "DripStone" "counted" "[Z") (by decide +kernel)) (fun _ h9 => h9) rfl dX10_lineOf_36 ?_
    refine lv_iload_n hx hb dX10_lineOf_39 rfl (lv_at hl 1 rfl) ?_
    refine lv_iconst (v := 1) hx hb dX10_lineOf_40 (by decide) ?_
    refine ht_zast (v := (1 : Int32)) (n := 2) (q := 2) hx hb hK hP hD hS hs t_1 (by decide) rfl rfl ⟨by omega, by omega⟩ dX10_lineOf_41 (fun H locs hP hD hS => ?_)
    have h_zI_25 : WM [1013, 1014, 3700, 3800, 3900, 4000, 4200, 4700] AL zT zR zI (u2 zI_15 (zR zx 7) zia.toNatClampNeg (vp_nar .boolean (1 : Int32))) := h_zI_15.putA hs t_1 rfl (rgF _) (by decide) (fun h => absurd h (by decide)) (by decide) trivial
    generalize uzI_25 : u2 zI_15 (zR zx 7) zia.toNatClampNeg (vp_nar .boolean (1 : Int32)) = zI_25 at hP hD h_zI_25
    have j_zI_25 : JX zR zI_25 zx := by rw [← uzI_25]; exact ps_17.c1 hs t_zx ps_18
    have lw_zI_25 : LW zR zI_25 (zR (zR zx 6) zia.toNatClampNeg) (zR (zR (zR zx 0) 2) zia.toNatClampNeg) := by rw [← uzI_25]; exact LW.ct hs t_zx (cl_lt (by omega) (by omega)) ps_18
    refine lv_aload_n hx hb dX10_lineOf_42 rfl (lv_at hl 0 rfl) ?_
    refine ht_getr (C := RX10) (T := TX10) (N := 10) hx hb hts (by decide +kernel) hown hK hP hs t_zx (by decide) rfl rfl 6 (by decide) (hts (.fieldLink RX10 50 "DripStone" "lines" "[LDripStone$Ways;") (by decide +kernel)) (fun _ h9 => h9) rfl dX10_lineOf_43 ?_
    refine lv_iload_n hx hb dX10_lineOf_46 rfl (lv_at hl 1 rfl) ?_
    refine ht_aald (n := 2) (q := 6) hx hb hK hP hs t_19 (by decide) rfl rfl ⟨by omega, by omega⟩ dX10_lineOf_47 ?_
    subst hQ
    exact W.aret hx hb hr (Or.inl ⟨_, rfl⟩) (Or.inr ⟨_, rfl⟩) (fun t ht hW => ⟨⟨(zI_25, zJ_24), _, rfl, ⟨h_zI_25, (show JX zR zI_25 zx from j_zI_25), (show LW zR zI_25 (zR (zR zx 6) zia.toNatClampNeg) (zR (zR (zR zx 0) 2) zia.toNatClampNeg) from lw_zI_25)⟩, rfl, ⟨by rw [ht]; exact hP, va_K.moved hW.alike hK, hD⟩⟩, hS.F ht⟩) hS.2.2 dX10_lineOf_48
set_option maxHeartbeats 8000000 in
set_option maxRecDepth 100000 in
theorem t_X10_endWith (l : Launch) (dC : Nat → ClassId) (dI : Nat → Nat → Nat) (cy : Nat → ClassId) (sz : Nat) (zL : List Nat) (zT : Nat → Nat) (zR : Nat → Nat → Nat) (zI : Nat → Nat → Int32) (zJ : Nat → Nat → Int64) (zx : Nat) (zia : Int32) (zib : Int32) (zic : Int32) (zid : Int32) (hs : SKP zL zT zR) (hw : WT zT zR zI) (t_zx : zT zx = 11) (b_zia : 0 ≤ zia.toInt ∧ zia.toInt ≤ 1) (b_zib : 0 ≤ zib.toInt ∧ zib.toInt ≤ 11) (hj : JX zR zI zx) : Met l yX10_endWith wsX10_endWith ({ frames := 4, cells := 0, slots := 0, locals := 105 } : Room) (va_Pc [.ref zx, .int zia, .int zib, .int zic, .int zid] (PRE dC dI cy (WL cy zL zT zR zI zJ) sz)) (va_Qi (fun (r : Int32) (u : (Nat → Nat → Int32) × (Nat → Nat → Int64)) => (WM [1013, 1014, 3700, 3800, 3900, 4000, 4200, 4700] AL zT zR zI u.1) ∧ ((-4) ≤ r.toInt ∧ r.toInt ≤ 23) ∧ (JX zR u.1 zx)) (fun u t => POST dC dI cy (va_A (WL cy zL zT zR zI zJ) sz) (WL cy zL zT zR u.1 u.2) t) (va_A (WL cy zL zT zR zI zJ) sz)) 0 0 (va_A (WL cy zL zT zR zI zJ) sz) := by
  refine Met.ofW (cc := cX10_endWith) (maxL := 6) (ret := (some .int)) (by decide) rfl ?_
  intro p e s m args below meth c s₁ B hml hv
  obtain ⟨rfl, hsz, hP, hK, hD0, hN⟩ := hv
  have hx := B.exec
  have hb := B.bytes
  have hr := B.returns
  have hts := atoms_spec (ws := wsX10_endWith) B.pre
  have hown : s.vm.findClass RX10 = some m.cls := findClass_of_methodNamed B.named
  have hlocks := B.notSynchronized
  subst hsz
  have hD := hD0.self (sz := s.heap.size)
  generalize hAe : va_A (WL cy zL zT zR zI zJ) s.heap.size = A at hD ⊢
  have hA : ∀ q : Nat, s.heap.size ≤ q → A q := fun q h => by rw [← hAe]; exact Or.inr h
  have hS : va_S A s.heap s.heap [] := va_S.rf
  have hP : va_P (dC, dI) vwCl (WL cy zL zT zR zI zJ) s.heap := hP
  have hl := lv_entry ([.ref zx, .int zia, .int zib, .int zic, .int zid] : List Value) (n := 6) (Nat.le_of_ble_eq_true rfl)
  rw [lg_entry_eq]
  generalize (lg_sl ([.ref zx, .int zia, .int zib, .int zic, .int zid] : List Value) ++ List.replicate (6 - (lg_sl ([.ref zx, .int zia, .int zib, .int zic, .int zid] : List Value)).length) Slot.unset).toArray = ls at hl ⊢
  have hl : lv_has ls 6 [(0, .ref zx), (1, .int zia), (2, .int zib), (3, .int zic), (4, .int zid)] := hl
  refine w_q (fun Q hQ => ?_)
  have h_zI : WM [1013, 1014, 3700, 3800, 3900, 4000, 4200, 4700] AL zT zR zI zI := WM.rf hw
  refine lv_aload_n hx hb dX10_endWith_0 rfl (lv_at hl 0 rfl) ?_
  refine lv_iload_n hx hb dX10_endWith_1 rfl (lv_at hl 1 rfl) ?_
  refine lv_iload hx hb dX10_endWith_2 (lv_at hl 4 rfl) ?_
  refine hj_l (ws := (WL cy zL zT zR zI zJ)) (w1 := fun (u : (Nat → Nat → Int32) × (Nat → Nat → Int64)) => (WL cy zL zT zR u.1 u.2)) (va_runV (As := [.int zia, .int zid]) (rest := []) ⟨hx, hb, hml, hown, hts⟩ (t_X10_waysWith l dC dI cy s.heap.size zL zT zR zI zJ zx zia zid hs h_zI.1 t_zx (by omega) (by omega)) (cwV 2 hts gX10_endWith_X10_waysWith rfl rfl rfl (by decide +kernel) ⟨(Nat.le_of_ble_eq_true rfl), (Nat.le_of_ble_eq_true rfl)⟩) (PRE.v hP hK hD hN (ht_recv hK hP hs t_zx (by decide) rfl rfl)) rfl rfl hl.1 rfl (lv_room (Nat.le_of_ble_eq_true rfl)) dX10_endWith_4 ⟨(Nat.le_of_ble_eq_true rfl), (Nat.le_of_ble_eq_true rfl)⟩) hP hD hS hA (fun zj_1 u_3 H locs hw_2 hP hD hS => ?_)
  obtain ⟨zI_4, zJ_5⟩ := u_3
  obtain ⟨k_zI_4, ps_6, ps_7⟩ : (WM [1013, 1014, 3700, 3800, 3900, 4000, 4200, 4700] AL zT zR zI zI_4) ∧ (JX zR zI_4 zx) ∧ (LW zR zI_4 (zR (zR zx 6) zia.toNatClampNeg) (zR (zR (zR zx 0) 2) zia.toNatClampNeg)) := hw_2
  have h_zI_4 : WM [1013, 1014, 3700, 3800, 3900, 4000, 4200, 4700] AL zT zR zI zI_4 := h_zI.tr k_zI_4 (by decide) (fun _ _ => trivial)
  refine lv_lconst (v := 0) hx hb dX10_endWith_7 (by decide) ?_
  refine W.lcmp hx hb dX10_endWith_8 ?_
  refine lv_topi (fun zi_8 ezi_8 => ?_)
  refine lv_if_ne (tgt := 15) hx hb dX10_endWith_9 (by decide) (fun c_9 => ?_) (fun c_9 => ?_)
  · have f_10 : ¬ (zj_1.toInt = (0 : Int)) := lk_ne ezi_8 (rfl) (show (0 : Int64).toInt = 0 by decide) c_9
    refine lv_aload_n hx hb dX10_endWith_15 rfl (lv_at hl 0 rfl) ?_
    refine ht_getr (C := RX10) (T := TX10) (N := 10) hx hb hts (by decide +kernel) hown hK hP hs t_zx (by decide) rfl rfl 6 (by decide) (hts (.fieldLink RX10 50 "DripStone" "lines" "[LDripStone$Ways;") (by decide +kernel)) (fun _ h9 => h9) rfl dX10_endWith_16 ?_
    have t_11 : zT (zR zx 6) = 64 := sk_f hs t_zx (by decide) rfl (by decide)
    refine lv_iload_n hx hb dX10_endWith_19 rfl (lv_at hl 1 rfl) ?_
    refine ht_aald (n := 2) (q := 6) hx hb hK hP hs t_11 (by decide) rfl rfl ⟨by omega, by omega⟩ dX10_endWith_20 ?_
    have t_12 : zT (zR (zR zx 6) zia.toNatClampNeg) = 10 := sk_a (n := 2) hs t_11 rfl rfl (by decide) (cl_lt (by omega) (by omega))
    refine lv_astore (lv' := [(5, .ref (zR (zR zx 6) zia.toNatClampNeg)), (0, .ref zx), (1, .int zia), (2, .int zib), (3, .int zic), (4, .int zid)]) hx hb dX10_endWith_21 hl (by decide) rfl (fun ls hl => ?_)
    refine lv_aload hx hb dX10_endWith_23 (lv_at hl 0 rfl) ?_
    refine hj_v (ws := (WL cy zL zT zR zI_4 zJ_5)) (w1 := fun (u : (Nat → Nat → Int64)) => (WL cy zL zT zR zI_4 u)) (va_runV (As := []) (rest := []) ⟨hx, hb, hml, hown, hts⟩ (t_X9_goBack l dC dI cy H.size zL zT zR zI_4 zJ_5 (zR (zR zx 6) zia.toNatClampNeg) hs h_zI_4.1 t_12) (cwV 0 hts gX10_endWith_X9_goBack rfl rfl rfl (by decide +kernel) ⟨(Nat.le_of_ble_eq_true rfl), (Nat.le_of_ble_eq_true rfl)⟩) (PRE.v hP hK hD hN (ht_recv hK hP hs t_12 (by decide) rfl rfl)) rfl rfl hl.1 rfl (lv_room (Nat.le_of_ble_eq_true rfl)) dX10_endWith_25 ⟨(Nat.le_of_ble_eq_true rfl), (Nat.le_of_ble_eq_true rfl)⟩) hP hD hS hA (fun zJ_16 H locs hw_14 hP hD hS => ?_)
    refine lv_aload hx hb dX10_endWith_28 (lv_at hl 0 rfl) ?_
    refine lv_aload hx hb dX10_endWith_30 (lv_at hl 0 rfl) ?_
    refine ht_getr (C := RX9) (T := TX9) (N := 16) hx hb hts (by decide +kernel) hown hK hP hs t_12 (by decide) rfl rfl 1 (by decide) (hts (.fieldLink RX10 246 "DripStone$Ways" "placeOf" "[I") (by decide +kernel)) (fun _ h9 => h9) rfl dX10_endWith_32 ?_
    have t_17 : zT (zR (zR (zR zx 6) zia.toNatClampNeg) 1) = 38 := sk_f hs t_12 (by decide) rfl (by decide)
    refine lv_iload_n hx hb dX10_endWith_35 rfl (lv_at hl 3 rfl) ?_
    refine ht_iald (n := 12) (q := 0) hx hb hK hP hs t_17 (by decide) rfl rfl ⟨by omega, by omega⟩ dX10_endWith_36 ?_
    refine lv_topi (fun zi_18 ezi_18 => ?_)
    have tzi_18 : 0 ≤ zi_18.toInt ∧ zi_18.toInt ≤ 11 := by rw [ezi_18]; exact h_zI_4.at t_17 _ rfl
    refine lv_iload_n hx hb dX10_endWith_37 rfl (lv_at hl 4 rfl) ?_
    refine hj_i (ws := (WL cy zL zT zR zI_4 zJ_16)) (w1 := fun (u : Unit) => (WL cy zL zT zR zI_4 zJ_16)) (va_runV (As := [.int zi_18, .int zic]) (rest := []) ⟨hx, hb, hml, hown, hts⟩ (t_X9_endOf l dC dI cy H.size zL zT zR zI_4 zJ_16 (zR (zR zx 6) zia.toNatClampNeg) zi_18 zic hs h_zI_4.1 t_12 (by omega)) (cwV 2 hts gX10_endWith_X9_endOf rfl rfl rfl (by decide +kernel) ⟨(Nat.le_of_ble_eq_true rfl), (Nat.le_of_ble_eq_true rfl)⟩) (PRE.v hP hK hD hN (ht_recv hK hP hs t_12 (by decide) rfl rfl)) rfl rfl hl.1 rfl (lv_room (Nat.le_of_ble_eq_true rfl)) dX10_endWith_38 ⟨(Nat.le_of_ble_eq_true rfl), (Nat.le_of_ble_eq_true rfl)⟩) hP hD hS hA (fun zi_19 u_21 H locs hw_20 hP hD hS => ?_)
    have b_zi_19 : 0 ≤ zi_19.toInt ∧ zi_19.toInt ≤ 23 := hw_20
    subst hQ
    exact W.iret (v := zi_19) hx hb hr (fun t ht hW => ⟨⟨zi_19, (zI_4, zJ_16), rfl, ⟨h_zI_4, (show (-4) ≤ zi_19.toInt ∧ zi_19.toInt ≤ 23 from by omega), (show JX zR zI_4 zx from ps_6)⟩, ⟨by rw [ht]; exact hP, va_K.moved hW.alike hK, hD⟩⟩, hS.F ht⟩) hS.2.2 dX10_endWith_41
  · have f_10 : zj_1.toInt = (0 : Int) := lk_nne ezi_8 (rfl) (show (0 : Int64).toInt = 0 by decide) c_9
    refine lv_bipush (v := (-4)) hx hb dX10_endWith_12 (by decide) ?_
    subst hQ
    have qc_m4 : (-4 : Int32).toInt = -4 := by decide
    exact W.iret (v := (-4 : Int32)) hx hb hr (fun t ht hW => ⟨⟨(-4 : Int32), (zI_4, zJ_5), rfl, ⟨h_zI_4, (show (-4) ≤ (-4 : Int32).toInt ∧ (-4 : Int32).toInt ≤ 23 from by omega), (show JX zR zI_4 zx from ps_6)⟩, ⟨by rw [ht]; exact hP, va_K.moved hW.alike hK, hD⟩⟩, hS.F ht⟩) hS.2.2 dX10_endWith_14
