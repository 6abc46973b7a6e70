set_option maxHeartbeats 8000000 in
set_option maxRecDepth 100000 in
theorem t_X10_isThing (l : Launch) (dC : Nat → ClassId) (dI : Nat → Nat → Nat) (cy : Nat → ClassId) (sz : Nat) (zL : List Nat) (zT : Nat → Nat) (zR : Nat → Nat → Nat) (zI : Nat → Nat → Int32) (zJ : Nat → Nat → Int64) (zx : Nat) (ziv : Int32) (ziw : Int32) (hs : SKP zL zT zR) (hw : WT zT zR zI) (t_zx : zT zx = 11) : Met l yX10_isThing wsX10_isThing ({ frames := 2, cells := 0, slots := 0, locals := 42 } : Room) (va_Pc [.ref zx, .int ziv, .int ziw] (PRE dC dI cy (WL cy zL zT zR zI zJ) sz)) (va_Qi (fun (r : Int32) (u : Unit) => (0 ≤ r.toInt ∧ r.toInt ≤ 1) ∧ (r.toInt = 0 ∨ (0 ≤ ziv.toInt ∧ ziv.toInt ≤ 1 ∧ 0 ≤ ziw.toInt ∧ ziw.toInt ≤ 11)) ∧ (r.toInt = 0 ∨ ziw.toInt < (zI (zR (zR (zR zx 0) 2) ziv.toNatClampNeg) 7).toInt)) (fun u t => POST dC dI cy (va_A (WL cy zL zT zR zI zJ) sz) (WL cy zL zT zR zI zJ) t) (va_A (WL cy zL zT zR zI zJ) sz)) 0 0 (va_A (WL cy zL zT zR zI zJ) sz) := by
  refine Met.ofW (cc := cX10_isThing) (maxL := 3) (ret := (some .boolean)) (by decide) rfl ?_
  intro p e s m args below meth c s₁ B hml hv
  obtain ⟨rfl, hsz, hP, hK, hD0, hN⟩ := hv
  have hx := B.exec
  have hb := B.bytes
  have hr := B.returns
  have hts := atoms_spec (ws := wsX10_isThing) B.pre
  have hown : s.vm.findClass RX10 = some m.cls := findClass_of_methodNamed B.named
  have hlocks := B.notSynchronized
  subst hsz
  have hD := hD0.self (sz := s.heap.size)
  generalize hAe : va_A (WL cy zL zT zR zI zJ) s.heap.size = A at hD ⊢
  have hA : ∀ q : Nat, s.heap.size ≤ q → A q := fun q h => by rw [← hAe]; exact Or.inr h
  have hS : va_S A s.heap s.heap [] := va_S.rf
  have hP : va_P (dC, dI) vwCl (WL cy zL zT zR zI zJ) s.heap := hP
  have hl := lv_entry ([.ref zx, .int ziv, .int ziw] : List Value) (n := 3) (Nat.le_of_ble_eq_true rfl)
  rw [lg_entry_eq]
  generalize (lg_sl ([.ref zx, .int ziv, .int ziw] : List Value) ++ List.replicate (3 - (lg_sl ([.ref zx, .int ziv, .int ziw] : List Value)).length) Slot.unset).toArray = ls at hl ⊢
  have hl : lv_has ls 3 [(0, .ref zx), (1, .int ziv), (2, .int ziw)] := hl
  refine w_q (fun Q hQ => ?_)
  have h_zI : WM [] AL zT zR zI zI := WM.rf hw
  refine lv_iload_n hx hb dX10_isThing_0 rfl (lv_at hl 1 rfl) ?_
  refine hj0_i (ws := (WL cy zL zT zR zI zJ)) (va_runS (As := [.int ziv]) (rest := []) ⟨hx, hb, hml, hown, hts⟩ (c_X10_isCandle l dC dI cy s.heap.size ziv) (va_cwS 1 hts gX10_isThing_X10_isCandle rfl rfl rfl (by decide +kernel) ⟨(Nat.le_of_ble_eq_true rfl), (Nat.le_of_ble_eq_true rfl)⟩) (PRE.s (hP.sub [] rfl) hK (hD.sub [] (by decide) rfl) hN) rfl rfl hl.1 rfl (lv_room (Nat.le_of_ble_eq_true rfl)) dX10_isThing_1 ⟨(Nat.le_of_ble_eq_true rfl), (Nat.le_of_ble_eq_true rfl)⟩) hP hD hS hA (fun zi_1 u_3 H locs hw_2 hP hD hS => ?_)
  have hw_2 : zi_1 = if 0 ≤ ziv.toInt ∧ ziv.toInt ≤ 1 then 1 else 0 := hw_2
  have b_zi_1 : 0 ≤ zi_1.toInt ∧ zi_1.toInt ≤ 1 := bz_b hw_2
  refine lv_if_eq (tgt := 33) hx hb dX10_isThing_4 (by decide) (fun c_4 => ?_) (fun c_4 => ?_)
  · have f_5 : ¬ (0 ≤ ziv.toInt ∧ ziv.toInt ≤ 1) := bz_0 hw_2 c_4
    refine lv_iconst (v := 0) hx hb dX10_isThing_33 (by decide) ?_
    subst hQ
    have qc_0 : (0 : Int32).toInt = 0 := by decide
    exact W.zret (v := (0 : Int32)) hx hb hr rfl (fun t ht hW => ⟨⟨(0 : Int32), (), rfl, ⟨(show 0 ≤ (0 : Int32).toInt ∧ (0 : Int32).toInt ≤ 1 from by omega), (show (0 : Int32).toInt = 0 ∨ (0 ≤ ziv.toInt ∧ ziv.toInt ≤ 1 ∧ 0 ≤ ziw.toInt ∧ ziw.toInt ≤ 11) from by omega), (show (0 : Int32).toInt = 0 ∨ ziw.toInt < (zI (zR (zR (zR zx 0) 2) ziv.toNatClampNeg) 7).toInt from by omega)⟩, ⟨by rw [ht]; exact hP, va_K.moved hW.alike hK, hD⟩⟩, hS.F ht⟩) hS.2.2 dX10_isThing_34
  · have f_5 : 0 ≤ ziv.toInt ∧ ziv.toInt ≤ 1 := bz_1 hw_2 c_4
    refine lv_iload_n hx hb dX10_isThing_7 rfl (lv_at hl 2 rfl) ?_
    refine lv_iconst (v := 0) hx hb dX10_isThing_8 (by decide) ?_
    refine lv_aload_n hx hb dX10_isThing_9 rfl (lv_at hl 0 rfl) ?_
    refine ht_getr (C := RX10) (T := TX10) (N := 10) hx hb hts (by decide +kernel) hown hK hP hs t_zx (by decide) rfl rfl 0 (by decide) (hts (.fieldLink RX10 12 "DripStone" "now" "LDripStone$State;") (by decide +kernel)) (fun _ h9 => h9) rfl dX10_isThing_10 ?_
    have t_6 : zT (zR zx 0) = 9 := sk_f hs t_zx (by decide) rfl (by decide)
    refine ht_getr (C := RX8) (T := TX8) (N := 9) hx hb hts (by decide +kernel) hown hK hP hs t_6 (by decide) rfl rfl 2 (by decide) (hts (.fieldLink RX10 147 "DripStone$State" "candles" "[LDripStone$Candle;") (by decide +kernel)) (fun _ h9 => h9) rfl dX10_isThing_13 ?_
    have t_7 : zT (zR (zR zx 0) 2) = 61 := sk_f hs t_6 (by decide) rfl (by decide)
    refine lv_iload_n hx hb dX10_isThing_16 rfl (lv_at hl 1 rfl) ?_
    refine ht_aald (n := 2) (q := 3) hx hb hK hP hs t_7 (by decide) rfl rfl ⟨by omega, by omega⟩ dX10_isThing_17 ?_
    have t_8 : zT (zR (zR (zR zx 0) 2) ziv.toNatClampNeg) = 1 := sk_a (n := 2) hs t_7 rfl rfl (by decide) (cl_lt (by omega) (by omega))
    refine ht_geti (C := RX0) (T := TX0) (N := 11) hx hb hts (by decide +kernel) hown hK hP hs t_8 (by decide) rfl rfl 7 (by decide) (hts (.fieldLink RX10 167 "DripStone$Candle" "things" "I") (by decide +kernel)) (fun _ h9 => h9) rfl dX10_isThing_18 ?_
    refine lv_topi (fun zi_9 ezi_9 => ?_)
    have tzi_9 : 0 ≤ zi_9.toInt ∧ zi_9.toInt ≤ 12 := by rw [ezi_9]; exact h_zI.at t_8 _ rfl
    have lzi_9 : (zI (zR (zR (zR zx 0) 2) ziv.toNatClampNeg) 7).toInt = zi_9.toInt := by rw [ezi_9]
    refine lv_iconst (v := 1) hx hb dX10_isThing_21 (by decide) ?_
    refine lv_isub hx hb dX10_isThing_22 ?_
    refine lv_topi (fun zi_10 ezi_10 => ?_)
    have tzi_10 : zi_10.toInt = zi_9.toInt - (1 : Int) := by rw [ezi_10]; exact tisub (rfl) (show (1 : Int32).toInt = 1 by decide) (by omega) (by omega)
    refine hj0_i (ws := (WL cy zL zT zR zI zJ)) (va_runS (As := [.int ziw, .int 0, .int zi_10]) (rest := []) ⟨hx, hb, hml, hown, hts⟩ (c_X10_isWithin l dC dI cy H.size ziw 0 zi_10 0 zi_10.toInt (by first | rfl | decide | omega | exact Int32.toInt_toInt64 _) (by first | rfl | decide | omega | exact Int32.toInt_toInt64 _)) (va_cwS 3 hts gX10_isThing_X10_isWithin rfl rfl rfl (by decide +kernel) ⟨(Nat.le_of_ble_eq_true rfl), (Nat.le_of_ble_eq_true rfl)⟩) (PRE.s (hP.sub [] rfl) hK (hD.sub [] (by decide) rfl) hN) rfl rfl hl.1 rfl (lv_room (Nat.le_of_ble_eq_true rfl)) dX10_isThing_23 ⟨(Nat.le_of_ble_eq_true rfl), (Nat.le_of_ble_eq_true rfl)⟩) hP hD hS hA (fun zi_11 u_13 H locs hw_12 hP hD hS => ?_)
    have hw_12 : zi_11 = if 0 ≤ ziw.toInt ∧ ziw.toInt ≤ zi_10.toInt then 1 else 0 := hw_12
    have b_zi_11 : 0 ≤ zi_11.toInt ∧ zi_11.toInt ≤ 1 := bz_b hw_12
    refine lv_if_eq (tgt := 33) hx hb dX10_isThing_26 (by decide) (fun c_14 => ?_) (fun c_14 => ?_)
    · have f_15 : ¬ (0 ≤ ziw.toInt ∧ ziw.toInt ≤ zi_10.toInt) := bz_0 hw_12 c_14
      refine lv_iconst (v := 0) hx hb dX10_isThing_33 (by decide) ?_
      subst hQ
      have qc_0 : (0 : Int32).toInt = 0 := by decide
      have lk_16 : (zI (zR (zR (zR zx 0) 2) ziv.toNatClampNeg) 7).toInt = zi_9.toInt := congrArg Int32.toInt ezi_9.symm
      exact W.zret (v := (0 : Int32)) hx hb hr rfl (fun t ht hW => ⟨⟨(0 : Int32), (), rfl, ⟨(show 0 ≤ (0 : Int32).toInt ∧ (0 : Int32).toInt ≤ 1 from by omega), (show (0 : Int32).toInt = 0 ∨ (0 ≤ ziv.toInt ∧ ziv.toInt ≤ 1 ∧ 0 ≤ ziw.toInt ∧ ziw.toInt ≤ 11) from by omega), (show (0 : Int32).toInt = 0 ∨ ziw.toInt < (zI (zR (zR (zR zx 0) 2) ziv.toNatClampNeg) 7).toInt from by omega)⟩, ⟨by rw [ht]; exact hP, va_K.moved hW.alike hK, hD⟩⟩, hS.F ht⟩) hS.2.2 dX10_isThing_34
    · have f_15 : 0 ≤ ziw.toInt ∧ ziw.toInt ≤ zi_10.toInt := bz_1 hw_12 c_14
      refine lv_iconst (v := 1) hx hb dX10_isThing_29 (by decide) ?_
      refine lv_goto (tgt := 34) hx hb dX10_isThing_30 (by decide) ?_
      subst hQ
      have qc_1 : (1 : Int32).toInt = 1 := by decide
      have lk_17 : (zI (zR (zR (zR zx 0) 2) ziv.toNatClampNeg) 7).toInt = zi_9.toInt := congrArg Int32.toInt ezi_9.symm
      exact W.zret (v := (1 : Int32)) hx hb hr rfl (fun t ht hW => ⟨⟨(1 : Int32), (), rfl, ⟨(show 0 ≤ (1 : Int32).toInt ∧ (1 : Int32).toInt ≤ 1 from by omega), (show (1 : Int32).toInt = 0 ∨ (0 ≤ ziv.toInt ∧ ziv.toInt ≤ 1 ∧ 0 ≤ ziw.toInt ∧ ziw.toInt ≤ 11) from by omega), (show (1 : Int32).toInt = 0 ∨ ziw.toInt < (zI (zR (zR (zR zx 0) 2) ziv.toNatClampNeg) 7).toInt from by omega)⟩, ⟨by rw [ht]; exact hP, va_K.moved hW.alike hK, hD⟩⟩, hS.F ht⟩) hS.2.2 dX10_isThing_34
set_option maxHeartbeats 8000000 in
set_option maxRecDepth 100000 in
theorem t_X10_isPair (l : Launch) (dC : Nat → ClassId) (dI : Nat → Nat → Nat) (cy : Nat → ClassId) (sz : Nat) (zL : List Nat) (zT : Nat → Nat) (zR : Nat → Nat → Nat) (zI : Nat → Nat → Int32) (zJ : Nat → Nat → Int64) (zx : Nat) (ziv : Int32) (ziw : Int32) (zix : Int32) (hs : SKP zL zT zR) (hw : WT zT zR zI) (t_zx : zT zx = 11) : Met l yX10_isPair wsX10_isPair ({ frames := 3, cells := 0, slots := 0, locals := 64 } : Room) (va_Pc [.ref zx, .int ziv, .int ziw, .int zix] (PRE dC dI cy (WL cy zL zT zR zI zJ) sz)) (va_Qi (fun (r : Int32) (u : Unit) => (0 ≤ r.toInt ∧ r.toInt ≤ 1) ∧ (r.toInt = 0 ∨ (0 ≤ ziv.toInt ∧ ziv.toInt ≤ 1 ∧ 0 ≤ ziw.toInt ∧ ziw.toInt ≤ 11 ∧ 0 ≤ zix.toInt ∧ zix.toInt ≤ 11)) ∧ (r.toInt = 0 ∨ zix.toInt < (zI (zR (zR (zR zx 0) 2) ziv.toNatClampNeg) 7).toInt)) (fun u t => POST dC dI cy (va_A (WL cy zL zT zR zI zJ) sz) (WL cy zL zT zR zI zJ) t) (va_A (WL cy zL zT zR zI zJ) sz)) 0 0 (va_A (WL cy zL zT zR zI zJ) sz) := by
  refine Met.ofW (cc := cX10_isPair) (maxL := 4) (ret := (some .boolean)) (by decide) rfl ?_
  intro p e s m args below meth c s₁ B hml hv
  obtain ⟨rfl, hsz, hP, hK, hD0, hN⟩ := hv
  have hx := B.exec
  have hb := B.bytes
  have hr := B.returns
  have hts := atoms_spec (ws := wsX10_isPair) B.pre
  have hown : s.vm.findClass RX10 = some m.cls := findClass_of_methodNamed B.named
  have hlocks := B.notSynchronized
  subst hsz
  have hD := hD0.self (sz := s.heap.size)
  generalize hAe : va_A (WL cy zL zT zR zI zJ) s.heap.size = A at hD ⊢
  have hA : ∀ q : Nat, s.heap.size ≤ q → A q := fun q h => by rw [← hAe]; exact Or.inr h
  have hS : va_S A s.heap s.heap [] := va_S.rf
  have hP : va_P (dC, dI) vwCl (WL cy zL zT zR zI zJ) s.heap := hP
  have hl := lv_entry ([.ref zx, .int ziv, .int ziw, .int zix] : List Value) (n := 4) (Nat.le_of_ble_eq_true rfl)
  rw [lg_entry_eq]
  generalize (lg_sl ([.ref zx, .int ziv, .int ziw, .int zix] : List Value) ++ List.replicate (4 - (lg_sl ([.ref zx, .int ziv, .int ziw, .int zix] : List Value)).length) Slot.unset).toArray = ls at hl ⊢
  have hl : lv_has ls 4 [(0, .ref zx), (1, .int ziv), (2, .int ziw), (3, .int zix)] := hl
  refine w_q (fun Q hQ => ?_)
  have h_zI : WM [] AL zT zR zI zI := WM.rf hw
  refine lv_aload_n hx hb dX10_isPair_0 rfl (lv_at hl 0 rfl) ?_
  refine lv_iload_n hx hb dX10_isPair_1 rfl (lv_at hl 1 rfl) ?_
  refine lv_iload_n hx hb dX10_isPair_2 rfl (lv_at hl 2 rfl) ?_
  refine hj_i (ws := (WL cy zL zT zR zI zJ)) (w1 := fun (u : Unit) => (WL cy zL zT zR zI zJ)) (va_runV (As := [.int ziv, .int ziw]) (rest := []) ⟨hx, hb, hml, hown, hts⟩ (t_X10_isThing l dC dI cy s.heap.size zL zT zR zI zJ zx ziv ziw hs h_zI.1 t_zx) (cwV 2 hts gX10_isPair_X10_isThing rfl rfl rfl (by decide +kernel) ⟨(Nat.le_of_ble_eq_true rfl), (Nat.le_of_ble_eq_true rfl)⟩) (PRE.v hP hK hD hN (ht_recv hK hP hs t_zx (by decide) rfl rfl)) rfl rfl hl.1 rfl (lv_room (Nat.le_of_ble_eq_true rfl)) dX10_isPair_3 ⟨(Nat.le_of_ble_eq_true rfl), (Nat.le_of_ble_eq_true rfl)⟩) hP hD hS hA (fun zi_1 u_3 H locs hw_2 hP hD hS => ?_)
  obtain ⟨b_zi_1, ps_4, ps_5⟩ : (0 ≤ zi_1.toInt ∧ zi_1.toInt ≤ 1) ∧ (zi_1.toInt = 0 ∨ (0 ≤ ziv.toInt ∧ ziv.toInt ≤ 1 ∧ 0 ≤ ziw.toInt ∧ ziw.toInt ≤ 11)) ∧ (zi_1.toInt = 0 ∨ ziw.toInt < (zI (zR (zR (zR zx 0) 2) ziv.toNatClampNeg) 7).toInt) := hw_2
  refine lv_if_eq (tgt := 27) hx hb dX10_isPair_6 (by decide) (fun c_6 => ?_) (fun c_6 => ?_)
  · have f_7 : zi_1.toInt = 0 := ic_eq (rfl) (by decide) c_6
    refine lv_iconst (v := 0) hx hb dX10_isPair_27 (by decide) ?_
    subst hQ
    have qc_0 : (0 : Int32).toInt = 0 := by decide
    exact W.zret (v := (0 : Int32)) hx hb hr rfl (fun t ht hW => ⟨⟨(0 : Int32), (), rfl, ⟨(show 0 ≤ (0 : Int32).toInt ∧ (0 : Int32).toInt ≤ 1 from by omega), (show (0 : Int32).toInt = 0 ∨ (0 ≤ ziv.toInt ∧ ziv.toInt ≤ 1 ∧ 0 ≤ ziw.toInt ∧ ziw.toInt ≤ 11 ∧ 0 ≤ zix.toInt ∧ zix.toInt ≤ 11) from by omega), (show (0 : Int32).toInt = 0 ∨ zix.toInt < (zI (zR (zR (zR zx 0) 2) ziv.toNatClampNeg) 7).toInt from by omega)⟩, ⟨by rw [ht]; exact hP, va_K.moved hW.alike hK, hD⟩⟩, hS.F ht⟩) hS.2.2 dX10_isPair_28
  · have f_7 : ¬ (zi_1.toInt = 0) := ic_neq (rfl) (by decide) c_6
    have b9_ziv : 0 ≤ ziv.toInt ∧ ziv.toInt ≤ 1 := by omega
    have b9_ziw : 0 ≤ ziw.toInt ∧ ziw.toInt ≤ 11 := by omega
    refine lv_aload_n hx hb dX10_isPair_9 rfl (lv_at hl 0 rfl) ?_
    refine lv_iload_n hx hb dX10_isPair_10 rfl (lv_at hl 1 rfl) ?_
    refine lv_iload_n hx hb dX10_isPair_11 rfl (lv_at hl 3 rfl) ?_
    refine hj_i (ws := (WL cy zL zT zR zI zJ)) (w1 := fun (u : Unit) => (WL cy zL zT zR zI zJ)) (va_runV (As := [.int ziv, .int zix]) (rest := []) ⟨hx, hb, hml, hown, hts⟩ (t_X10_isThing l dC dI cy H.size zL zT zR zI zJ zx ziv zix hs h_zI.1 t_zx) (cwV 2 hts gX10_isPair_X10_isThing rfl rfl rfl (by decide +kernel) ⟨(Nat.le_of_ble_eq_true rfl), (Nat.le_of_ble_eq_true rfl)⟩) (PRE.v hP hK hD hN (ht_recv hK hP hs t_zx (by decide) rfl rfl)) rfl rfl hl.1 rfl (lv_room (Nat.le_of_ble_eq_true rfl)) dX10_isPair_12 ⟨(Nat.le_of_ble_eq_true rfl), (Nat.le_of_ble_eq_true rfl)⟩) hP hD hS hA (fun zi_8 u_10 H locs hw_9 hP hD hS => ?_)
    obtain ⟨b_zi_8, ps_11, ps_12⟩ : (0 ≤ zi_8.toInt ∧ zi_8.toInt ≤ 1) ∧ (zi_8.toInt = 0 ∨ (0 ≤ ziv.toInt ∧ ziv.toInt ≤ 1 ∧ 0 ≤ zix.toInt ∧ zix.toInt ≤ 11)) ∧ (zi_8.toInt = 0 ∨ zix.toInt < (zI (zR (zR (zR zx 0) 2) ziv.toNatClampNeg) 7).toInt) := hw_9
    refine lv_if_eq (tgt := 27) hx hb dX10_isPair_15 (by decide) (fun c_13 => ?_) (fun c_13 => ?_)
    · have f_14 : zi_8.toInt = 0 := ic_eq (rfl) (by decide) c_13
      refine lv_iconst (v := 0) hx hb dX10_isPair_27 (by decide) ?_
      subst hQ
      have qc_0 : (0 : Int32).toInt = 0 := by decide
      exact W.zret (v := (0 : Int32)) hx hb hr rfl (fun t ht hW => ⟨⟨(0 : Int32), (), rfl, ⟨(show 0 ≤ (0 : Int32).toInt ∧ (0 : Int32).toInt ≤ 1 from by omega), (show (0 : Int32).toInt = 0 ∨ (0 ≤ ziv.toInt ∧ ziv.toInt ≤ 1 ∧ 0 ≤ ziw.toInt ∧ ziw.toInt ≤ 11 ∧ 0 ≤ zix.toInt ∧ zix.toInt ≤ 11) from by omega), (show (0 : Int32).toInt = 0 ∨ zix.toInt < (zI (zR (zR (zR zx 0) 2) ziv.toNatClampNeg) 7).toInt from by omega)⟩, ⟨by rw [ht]; exact hP, va_K.moved hW.alike hK, hD⟩⟩, hS.F ht⟩) hS.2.2 dX10_isPair_28
    · have f_14 : ¬ (zi_8.toInt = 0) := ic_neq (rfl) (by decide) c_13
      have b9_ziv : 0 ≤ ziv.toInt ∧ ziv.toInt ≤ 1 := by omega
      have b9_zix : 0 ≤ zix.toInt ∧ zix.toInt ≤ 11 := by omega
      refine lv_iload_n hx hb dX10_isPair_18 rfl (lv_at hl 2 rfl) ?_
      refine lv_iload_n hx hb dX10_isPair_19 rfl (lv_at hl 3 rfl) ?_
      refine lv_icmp_ge (tgt := 27) hx hb dX10_isPair_20 (by decide) (fun c_15 => ?_) (fun c_15 => ?_)
      · have f_16 : ziw.toInt ≥ zix.toInt := ic_ge (rfl) (rfl) c_15
        refine lv_iconst (v := 0) hx hb dX10_isPair_27 (by decide) ?_
        subst hQ
        have qc_0 : (0 : Int32).toInt = 0 := by decide
        exact W.zret (v := (0 : Int32)) hx hb hr rfl (fun t ht hW => ⟨⟨(0 : Int32), (), rfl, ⟨(show 0 ≤ (0 : Int32).toInt ∧ (0 : Int32).toInt ≤ 1 from by omega), (show (0 : Int32).toInt = 0 ∨ (0 ≤ ziv.toInt ∧ ziv.toInt ≤ 1 ∧ 0 ≤ ziw.toInt ∧ ziw.toInt ≤ 11 ∧ 0 ≤ zix.toInt ∧ zix.toInt ≤ 11) from by omega), (show (0 : Int32).toInt = 0 ∨ zix.toInt < (zI (zR (zR (zR zx 0) 2) ziv.toNatClampNeg) 7).toInt from by omega)⟩, ⟨by rw [ht]; exact hP, va_K.moved hW.alike hK, hD⟩⟩, hS.F ht⟩) hS.2.2 dX10_isPair_28
      · have f_16 : ¬ (ziw.toInt ≥ zix.toInt) := ic_nge (rfl) (rfl) c_15
        refine lv_iconst (v := 1) hx hb dX10_isPair_23 (by decide) ?_
        refine lv_goto (tgt := 28) hx hb dX10_isPair_24 (by decide) ?_
        subst hQ
        have qc_1 : (1 : Int32).toInt = 1 := by decide
        exact W.zret (v := (1 : Int32)) hx hb hr rfl (fun t ht hW => ⟨⟨(1 : Int32), (), rfl, ⟨(show 0 ≤ (1 : Int32).toInt ∧ (1 : Int32).toInt ≤ 1 from by omega), (show (1 : Int32).toInt = 0 ∨ (0 ≤ ziv.toInt ∧ ziv.toInt ≤ 1 ∧ 0 ≤ ziw.toInt ∧ ziw.toInt ≤ 11 ∧ 0 ≤ zix.toInt ∧ zix.toInt ≤ 11) from by omega), (show (1 : Int32).toInt = 0 ∨ zix.toInt < (zI (zR (zR (zR zx 0) 2) ziv.toNatClampNeg) 7).toInt from by omega)⟩, ⟨by rw [ht]; exact hP, va_K.moved hW.alike hK, hD⟩⟩, hS.F ht⟩) hS.2.2 dX10_isPair_28
set_option maxHeartbeats 8000000 in
set_option maxRecDepth 100000 in
theorem t_X10_isClaim (l : Launch) (dC : Nat → ClassId) (dI : Nat → Nat → Nat) (cy : Nat → ClassId) (sz : Nat) (zL : List Nat) (zT : Nat → Nat) (zR : Nat → Nat → Nat) (zI : Nat → Nat → Int32) (zJ : Nat → Nat → Int64) (zx : Nat) (ziv : Int32) (hs : SKP zL zT zR) (hw : WT zT zR zI) (t_zx : zT zx = 11) : Met l yX10_isClaim wsX10_isClaim ({ frames := 1, cells := 0, slots := 0, locals := 22 } : Room) (va_Pc [.ref zx, .int ziv] (PRE dC dI cy (WL cy zL zT zR zI zJ) sz)) (va_Qi (fun (r : Int32) (u : Unit) => (0 ≤ r.toInt ∧ r.toInt ≤ 1) ∧ (r.toInt = 0 ∨ (0 ≤ ziv.toInt ∧ ziv.toInt ≤ 3))) (fun u t => POST dC dI cy (va_A (WL cy zL zT zR zI zJ) sz) (WL cy zL zT zR zI zJ) t) (va_A (WL cy zL zT zR zI zJ) sz)) 0 0 (va_A (WL cy zL zT zR zI zJ) sz) := by
  refine Met.ofW (cc := cX10_isClaim) (maxL := 2) (ret := (some .boolean)) (by decide) rfl ?_
  intro p e s m args below meth c s₁ B hml hv
  obtain ⟨rfl, hsz, hP, hK, hD0, hN⟩ := hv
  have hx := B.exec
  have hb := B.bytes
  have hr := B.returns
  have hts := atoms_spec (ws := wsX10_isClaim) B.pre
  have hown : s.vm.findClass RX10 = some m.cls := findClass_of_methodNamed B.named
  have hlocks := B.notSynchronized
  subst hsz
  have hD := hD0.self (sz := s.heap.size)
  generalize hAe : va_A (WL cy zL zT zR zI zJ) s.heap.size = A at hD ⊢
  have hA : ∀ q : Nat, s.heap.size ≤ q → A q := fun q h => by rw [← hAe]; exact Or.inr h
  have hS : va_S A s.heap s.heap [] := va_S.rf
  have hP : va_P (dC, dI) vwCl (WL cy zL zT zR zI zJ) s.heap := hP
  have hl := lv_entry ([.ref zx, .int ziv] : List Value) (n := 2) (Nat.le_of_ble_eq_true rfl)
  rw [lg_entry_eq]
  generalize (lg_sl ([.ref zx, .int ziv] : List Value) ++ List.replicate (2 - (lg_sl ([.ref zx, .int ziv] : List Value)).length) Slot.unset).toArray = ls at hl ⊢
  have hl : lv_has ls 2 [(0, .ref zx), (1, .int ziv)] := hl
  refine w_q (fun Q hQ => ?_)
  have h_zI : WM [] AL zT zR zI zI := WM.rf hw
  refine lv_iload_n hx hb dX10_isClaim_0 rfl (lv_at hl 1 rfl) ?_
  refine lv_iconst (v := 0) hx hb dX10_isClaim_1 (by decide) ?_
  refine lv_aload_n hx hb dX10_isClaim_2 rfl (lv_at hl 0 rfl) ?_
  refine ht_getr (C := RX10) (T := TX10) (N := 10) hx hb hts (by decide +kernel) hown hK hP hs t_zx (by decide) rfl rfl 0 (by decide) (hts (.fieldLink RX10 12 "DripStone" "now" "LDripStone$State;") (by decide +kernel)) (fun _ h9 => h9) rfl dX10_isClaim_3 ?_
  have t_1 : zT (zR zx 0) = 9 := sk_f hs t_zx (by decide) rfl (by decide)
  refine ht_geti (C := RX8) (T := TX8) (N := 9) hx hb hts (by decide +kernel) hown hK hP hs t_1 (by decide) rfl rfl 7 (by decide) (hts (.fieldLink RX10 225 "DripStone$State" "claimed" "I") (by decide +kernel)) (fun _ h9 => h9) rfl dX10_isClaim_6 ?_
  refine lv_topi (fun zi_2 ezi_2 => ?_)
  have tzi_2 : 0 ≤ zi_2.toInt ∧ zi_2.toInt ≤ 4 := by rw [ezi_2]; exact h_zI.at t_1 _ rfl
  refine lv_iconst (v := 1) hx hb dX10_isClaim_9 (by decide) ?_
  refine lv_isub hx hb dX10_isClaim_10 ?_
  refine lv_topi (fun zi_3 ezi_3 => ?_)
  have tzi_3 : zi_3.toInt = zi_2.toInt - (1 : Int) := by rw [ezi_3]; exact tisub (rfl) (show (1 : Int32).toInt = 1 by decide) (by omega) (by omega)
  refine hj0_i (ws := (WL cy zL zT zR zI zJ)) (va_runS (As := [.int ziv, .int 0, .int zi_3]) (rest := []) ⟨hx, hb, hml, hown, hts⟩ (c_X10_isWithin l dC dI cy s.heap.size ziv 0 zi_3 0 zi_3.toInt (by first | rfl | decide | omega | exact Int32.toInt_toInt64 _) (by first | rfl | decide | omega | exact Int32.toInt_toInt64 _)) (va_cwS 3 hts gX10_isClaim_X10_isWithin rfl rfl rfl (by decide +kernel) ⟨(Nat.le_of_ble_eq_true rfl), (Nat.le_of_ble_eq_true rfl)⟩) (PRE.s (hP.sub [] rfl) hK (hD.sub [] (by decide) rfl) hN) rfl rfl hl.1 rfl (lv_room (Nat.le_of_ble_eq_true rfl)) dX10_isClaim_11 ⟨(Nat.le_of_ble_eq_true rfl), (Nat.le_of_ble_eq_true rfl)⟩) hP hD hS hA (fun zi_4 u_6 H locs hw_5 hP hD hS => ?_)
  have hw_5 : zi_4 = if 0 ≤ ziv.toInt ∧ ziv.toInt ≤ zi_3.toInt then 1 else 0 := hw_5
  have b_zi_4 : 0 ≤ zi_4.toInt ∧ zi_4.toInt ≤ 1 := bz_b hw_5
  have i_7 := bz_or hw_5
  subst hQ
  exact W.zret (v := zi_4) hx hb hr (zb_n2 (by omega)) (fun t ht hW => ⟨⟨zi_4, (), rfl, ⟨(show 0 ≤ zi_4.toInt ∧ zi_4.toInt ≤ 1 from by omega), (show zi_4.toInt = 0 ∨ (0 ≤ ziv.toInt ∧ ziv.toInt ≤ 3) from by omega)⟩, ⟨by rw [ht]; exact hP, va_K.moved hW.alike hK, hD⟩⟩, hS.F ht⟩) hS.2.2 dX10_isClaim_14
