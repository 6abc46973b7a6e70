set_option maxHeartbeats 8000000 in
set_option maxRecDepth 100000 in
theorem t_X11_hasWay (l : Launch) (dC : Nat → ClassId) (dI : Nat → Nat → Nat) (cy : Nat → ClassId) (sz : Nat) (zL : List Nat) (zT : Nat → Nat) (zR : Nat → Nat → Nat) (zI : Nat → Nat → Int32) (zJ : Nat → Nat → Int64) (zy : Nat) (zia : Int32) (zib : Int32) (hs : SKP zL zT zR) (hw : WT zT zR zI) (t_zy : zT zy = 18) (b_zia : 0 ≤ zia.toInt ∧ zia.toInt ≤ 1) (hz : ZI (zI (zR zy 0))) (hx1 : BQ (zI (zR zy 0)) zia.toInt zib) : Met l yX11_hasWay wsX11_hasWay ({ frames := 3, cells := 0, slots := 0, locals := 71 } : Room) (va_Pc [.ref zy, .int zia, .int zib] (PRE dC dI cy (WL cy zL zT zR zI zJ) sz)) (va_Qi (fun (r : Int32) (u : (Nat → Nat → Int32) × (Nat → Nat → Int64)) => (WM [1806, 1807, 10300, 10400, 10500, 10600, 10700] AL zT zR zI u.1) ∧ (0 ≤ r.toInt ∧ r.toInt ≤ 1)) (fun u t => POST dC dI cy (va_A (WL cy zL zT zR zI zJ) sz) (WL cy zL zT zR u.1 u.2) t) (va_A (WL cy zL zT zR zI zJ) sz)) 0 0 (va_A (WL cy zL zT zR zI zJ) sz) := by
  refine Met.ofW (cc := cX11_hasWay) (maxL := 3) (ret := (some .boolean)) (by decide) rfl ?_
  intro p e s m args below meth c s₁ B hml hv
  obtain ⟨rfl, hsz, hP, hK, hD0, hN⟩ := hv
  have hx := B.exec
  have hb := B.bytes
  have hr := B.returns
  have hts := atoms_spec (ws := wsX11_hasWay) B.pre
  have hown : s.vm.findClass RX11 = some m.cls := findClass_of_methodNamed B.named
  have hlocks := B.notSynchronized
  subst hsz
  have hD := hD0.self (sz := s.heap.size)
  generalize hAe : va_A (WL cy zL zT zR zI zJ) s.heap.size = A at hD ⊢
  have hA : ∀ q : Nat, s.heap.size ≤ q → A q := fun q h => by rw [← hAe]; exact Or.inr h
  have hS : va_S A s.heap s.heap [] := va_S.rf
  have hP : va_P (dC, dI) vwCl (WL cy zL zT zR zI zJ) s.heap := hP
  have hl := lv_entry ([.ref zy, .int zia, .int zib] : List Value) (n := 3) (Nat.le_of_ble_eq_true rfl)
  rw [lg_entry_eq]
  generalize (lg_sl ([.ref zy, .int zia, .int zib] : List Value) ++ List.replicate (3 - (lg_sl ([.ref zy, .int zia, .int zib] : List Value)).length) Slot.unset).toArray = ls at hl ⊢
  have hl : lv_has ls 3 [(0, .ref zy), (1, .int zia), (2, .int zib)] := hl
  refine w_q (fun Q hQ => ?_)
  have h_zI : WM [1806, 1807, 10300, 10400, 10500, 10600, 10700] AL zT zR zI zI := WM.rf hw
  refine lv_aload_n hx hb dX11_hasWay_0 rfl (lv_at hl 0 rfl) ?_
  refine lv_iload_n hx hb dX11_hasWay_1 rfl (lv_at hl 1 rfl) ?_
  refine lv_iload_n hx hb dX11_hasWay_2 rfl (lv_at hl 2 rfl) ?_
  refine hj_v (ws := (WL cy zL zT zR zI zJ)) (w1 := fun (u : (Nat → Nat → Int32)) => (WL cy zL zT zR u zJ)) (va_runV (As := [.int zia, .int zib]) (rest := []) ⟨hx, hb, hml, hown, hts⟩ (t_X11_lay l dC dI cy s.heap.size zL zT zR zI zJ zy zia zib hs h_zI.1 t_zy (by omega) hz (by omega)) (cwV 2 hts gX11_hasWay_X11_lay rfl rfl rfl (by decide +kernel) ⟨(Nat.le_of_ble_eq_true rfl), (Nat.le_of_ble_eq_true rfl)⟩) (PRE.v hP hK hD hN (ht_recv hK hP hs t_zy (by decide) rfl rfl)) rfl rfl hl.1 rfl (lv_room (Nat.le_of_ble_eq_true rfl)) dX11_hasWay_3 ⟨(Nat.le_of_ble_eq_true rfl), (Nat.le_of_ble_eq_true rfl)⟩) hP hD hS hA (fun zI_4 H locs hw_2 hP hD hS => ?_)
  obtain ⟨k_zI_4, ps_5, ps_6⟩ : (WM [1806, 1807, 10300, 10400, 10500, 10600, 10700] AL zT zR zI zI_4) ∧ (PO (zI (zR zy 0)) (zI_4 (zR zy 8)) zia.toInt (zI_4 zy 6).toInt) ∧ ((zI_4 zy 6).toInt = PLZ (zI (zR zy 0)) zia.toInt) := hw_2
  have h_zI_4 : WM [1806, 1807, 10300, 10400, 10500, 10600, 10700] AL zT zR zI zI_4 := h_zI.tr k_zI_4 (by decide) (fun _ _ => trivial)
  obtain ⟨zi_7, ezi_7⟩ : ∃ y : Int32, y = zI_4 zy 6 := ⟨_, rfl⟩
  have tzi_7 : 0 ≤ zi_7.toInt ∧ zi_7.toInt ≤ 12 := by rw [ezi_7]; exact h_zI_4.at t_zy _ rfl
  have lk_8 : (zI_4 zy 6).toInt = zi_7.toInt := congrArg Int32.toInt ezi_7.symm
  refine lv_aload_n hx hb dX11_hasWay_6 rfl (lv_at hl 0 rfl) ?_
  refine hj_v (ws := (WL cy zL zT zR zI_4 zJ)) (w1 := fun (u : (Nat → Nat → Int64)) => (WL cy zL zT zR zI_4 u)) (va_runV (As := []) (rest := []) ⟨hx, hb, hml, hown, hts⟩ (t_X11_countFront l dC dI cy H.size zL zT zR zI_4 zJ zy hs h_zI_4.1 t_zy) (cwV 0 hts gX11_hasWay_X11_countFront rfl rfl rfl (by decide +kernel) ⟨(Nat.le_of_ble_eq_true rfl), (Nat.le_of_ble_eq_true rfl)⟩) (PRE.v hP hK hD hN (ht_recv hK hP hs t_zy (by decide) rfl rfl)) rfl rfl hl.1 rfl (lv_room (Nat.le_of_ble_eq_true rfl)) dX11_hasWay_7 ⟨(Nat.le_of_ble_eq_true rfl), (Nat.le_of_ble_eq_true rfl)⟩) hP hD hS hA (fun zJ_12 H locs hw_10 hP hD hS => ?_)
  obtain ⟨ps_13, ps_14, ps_15⟩ : (zJ_12 zy 15 = CT zR zI_4 zy) ∧ (0 ≤ (zJ_12 zy 15).toInt ∧ (zJ_12 zy 15).toInt ≤ 1000000000) ∧ (zJ_12 zy 20 = zJ zy 20) := hw_10
  refine lv_aload_n hx hb dX11_hasWay_10 rfl (lv_at hl 0 rfl) ?_
  refine ht_getl (C := RX11) (T := TX11) (N := 28) hx hb hts (by decide +kernel) hown hK hP hs t_zy (by decide) rfl rfl 15 (by decide) (hts (.fieldLink RX11 217 "DripStoneModel" "total" "J") (by decide +kernel)) (fun _ h9 => h9) rfl dX11_hasWay_11 ?_
  refine lv_topl (fun zj_16 ezj_16 => ?_)
  refine lv_lconst (v := 0) hx hb dX11_hasWay_14 (by decide) ?_
  refine W.lcmp hx hb dX11_hasWay_15 ?_
  refine lv_topi (fun zi_17 ezi_17 => ?_)
  refine lv_if_le (tgt := 23) hx hb dX11_hasWay_16 (by decide) (fun c_18 => ?_) (fun c_18 => ?_)
  · have f_19 : ¬ (zj_16.toInt > (0 : Int)) := lk_le ezi_17 (rfl) (show (0 : Int64).toInt = 0 by decide) c_18
    refine lv_iconst (v := 0) hx hb dX11_hasWay_23 (by decide) ?_
    subst hQ
    have qc_0 : (0 : Int32).toInt = 0 := by decide
    exact W.zret (v := (0 : Int32)) hx hb hr rfl (fun t ht hW => ⟨⟨(0 : Int32), (zI_4, zJ_12), rfl, ⟨h_zI_4, (show 0 ≤ (0 : Int32).toInt ∧ (0 : Int32).toInt ≤ 1 from by omega)⟩, ⟨by rw [ht]; exact hP, va_K.moved hW.alike hK, hD⟩⟩, hS.F ht⟩) hS.2.2 dX11_hasWay_24
  · have f_19 : zj_16.toInt > (0 : Int) := lk_nle ezi_17 (rfl) (show (0 : Int64).toInt = 0 by decide) c_18
    refine lv_iconst (v := 1) hx hb dX11_hasWay_19 (by decide) ?_
    refine lv_goto (tgt := 24) hx hb dX11_hasWay_20 (by decide) ?_
    subst hQ
    have qc_1 : (1 : Int32).toInt = 1 := by decide
    exact W.zret (v := (1 : Int32)) hx hb hr rfl (fun t ht hW => ⟨⟨(1 : Int32), (zI_4, zJ_12), rfl, ⟨h_zI_4, (show 0 ≤ (1 : Int32).toInt ∧ (1 : Int32).toInt ≤ 1 from by omega)⟩, ⟨by rw [ht]; exact hP, va_K.moved hW.alike hK, hD⟩⟩, hS.F ht⟩) hS.2.2 dX11_hasWay_24
set_option maxHeartbeats 8000000 in
set_option maxRecDepth 100000 in
theorem t_X11_mustGo (l : Launch) (dC : Nat → ClassId) (dI : Nat → Nat → Nat) (cy : Nat → ClassId) (sz : Nat) (zL : List Nat) (zT : Nat → Nat) (zR : Nat → Nat → Nat) (zI : Nat → Nat → Int32) (zJ : Nat → Nat → Int64) (zy : Nat) (zia : Int32) (hs : SKP zL zT zR) (hw : WT zT zR zI) (t_zy : zT zy = 18) (hz : ZI (zI (zR zy 0))) : Met l yX11_mustGo wsX11_mustGo ({ frames := 4, cells := 0, slots := 0, locals := 93 } : Room) (va_Pc [.ref zy, .int zia] (PRE dC dI cy (WL cy zL zT zR zI zJ) sz)) (va_Qi (fun (r : Int32) (u : (Nat → Nat → Int32) × (Nat → Nat → Int64)) => (WM [1806, 1807, 10300, 10400, 10500, 10600, 10700] AL zT zR zI u.1) ∧ ((-4) ≤ r.toInt ∧ r.toInt ≤ 255)) (fun u t => POST dC dI cy (va_A (WL cy zL zT zR zI zJ) sz) (WL cy zL zT zR u.1 u.2) t) (va_A (WL cy zL zT zR zI zJ) sz)) 0 0 (va_A (WL cy zL zT zR zI zJ) sz) := by
  refine Met.ofW (cc := cX11_mustGo) (maxL := 6) (ret := (some .int)) (by decide) rfl ?_
  intro p e s m args below meth c s₁ B hml hv
  obtain ⟨rfl, hsz, hP, hK, hD0, hN⟩ := hv
  have hx := B.exec
  have hb := B.bytes
  have hr := B.returns
  have hts := atoms_spec (ws := wsX11_mustGo) B.pre
  have hown : s.vm.findClass RX11 = some m.cls := findClass_of_methodNamed B.named
  have hlocks := B.notSynchronized
  subst hsz
  have hD := hD0.self (sz := s.heap.size)
  generalize hAe : va_A (WL cy zL zT zR zI zJ) s.heap.size = A at hD ⊢
  have hA : ∀ q : Nat, s.heap.size ≤ q → A q := fun q h => by rw [← hAe]; exact Or.inr h
  have hS : va_S A s.heap s.heap [] := va_S.rf
  have hP : va_P (dC, dI) vwCl (WL cy zL zT zR zI zJ) s.heap := hP
  have hl := lv_entry ([.ref zy, .int zia] : List Value) (n := 6) (Nat.le_of_ble_eq_true rfl)
  rw [lg_entry_eq]
  generalize (lg_sl ([.ref zy, .int zia] : List Value) ++ List.replicate (6 - (lg_sl ([.ref zy, .int zia] : List Value)).length) Slot.unset).toArray = ls at hl ⊢
  have hl : lv_has ls 6 [(0, .ref zy), (1, .int zia)] := hl
  refine w_q (fun Q hQ => ?_)
  have h_zI : WM [1806, 1807, 10300, 10400, 10500, 10600, 10700] AL zT zR zI zI := WM.rf hw
  refine lv_iload_n hx hb dX11_mustGo_0 rfl (lv_at hl 1 rfl) ?_
  refine hj0_i (ws := (WL cy zL zT zR zI zJ)) (va_runS (As := [.int zia]) (rest := []) ⟨hx, hb, hml, hown, hts⟩ (c_X11_isCandle l dC dI cy s.heap.size zia) (va_cwS 1 hts gX11_mustGo_X11_isCandle rfl rfl rfl (by decide +kernel) ⟨(Nat.le_of_ble_eq_true rfl), (Nat.le_of_ble_eq_true rfl)⟩) (PRE.s (hP.sub [] rfl) hK (hD.sub [] (by decide) rfl) hN) rfl rfl hl.1 rfl (lv_room (Nat.le_of_ble_eq_true rfl)) dX11_mustGo_1 ⟨(Nat.le_of_ble_eq_true rfl), (Nat.le_of_ble_eq_true rfl)⟩) hP hD hS hA (fun zi_1 u_3 H locs hw_2 hP hD hS => ?_)
  have hw_2 : zi_1 = if 0 ≤ zia.toInt ∧ zia.toInt ≤ 1 then 1 else 0 := hw_2
  have b_zi_1 : 0 ≤ zi_1.toInt ∧ zi_1.toInt ≤ 1 := bz_b hw_2
  refine lv_if_ne (tgt := 9) hx hb dX11_mustGo_4 (by decide) (fun c_4 => ?_) (fun c_4 => ?_)
  · have f_5 : 0 ≤ zia.toInt ∧ zia.toInt ≤ 1 := bz_1 hw_2 c_4
    refine lv_aload_n hx hb dX11_mustGo_9 rfl (lv_at hl 0 rfl) ?_
    refine lv_iload_n hx hb dX11_mustGo_10 rfl (lv_at hl 1 rfl) ?_
    refine hj_i (ws := (WL cy zL zT zR zI zJ)) (w1 := fun (u : Unit) => (WL cy zL zT zR zI zJ)) (va_runV (As := [.int zia]) (rest := []) ⟨hx, hb, hml, hown, hts⟩ (t_X11_placesOf l dC dI cy H.size zL zT zR zI zJ zy zia hs h_zI.1 t_zy (by omega) hz) (cwV 1 hts gX11_mustGo_X11_placesOf rfl rfl rfl (by decide +kernel) ⟨(Nat.le_of_ble_eq_true rfl), (Nat.le_of_ble_eq_true rfl)⟩) (PRE.v hP hK hD hN (ht_recv hK hP hs t_zy (by decide) rfl rfl)) rfl rfl hl.1 rfl (lv_room (Nat.le_of_ble_eq_true rfl)) dX11_mustGo_11 ⟨(Nat.le_of_ble_eq_true rfl), (Nat.le_of_ble_eq_true rfl)⟩) hP hD hS hA (fun zi_6 u_8 H locs hw_7 hP hD hS => ?_)
    obtain ⟨b_zi_6, ps_9⟩ : (0 ≤ zi_6.toInt ∧ zi_6.toInt ≤ 12) ∧ (zi_6.toInt = PLZ (zI (zR zy 0)) zia.toInt) := hw_7
    refine lv_if_ne (tgt := 20) hx hb dX11_mustGo_14 (by decide) (fun c_10 => ?_) (fun c_10 => ?_)
    · have f_11 : zi_6.toInt ≠ 0 := ic_ne (rfl) (by decide) c_10
      refine lv_aload_n hx hb dX11_mustGo_20 rfl (lv_at hl 0 rfl) ?_
      refine lv_iload_n hx hb dX11_mustGo_21 rfl (lv_at hl 1 rfl) ?_
      refine hj_i (ws := (WL cy zL zT zR zI zJ)) (w1 := fun (u : Unit) => (WL cy zL zT zR zI zJ)) (va_runV (As := [.int zia]) (rest := []) ⟨hx, hb, hml, hown, hts⟩ (t_X11_binding l dC dI cy H.size zL zT zR zI zJ zy zia hs h_zI.1 t_zy (by omega) hz) (cwV 1 hts gX11_mustGo_X11_binding rfl rfl rfl (by decide +kernel) ⟨(Nat.le_of_ble_eq_true rfl), (Nat.le_of_ble_eq_true rfl)⟩) (PRE.v hP hK hD hN (ht_recv hK hP hs t_zy (by decide) rfl rfl)) rfl rfl hl.1 rfl (lv_room (Nat.le_of_ble_eq_true rfl)) dX11_mustGo_22 ⟨(Nat.le_of_ble_eq_true rfl), (Nat.le_of_ble_eq_true rfl)⟩) hP hD hS hA (fun zi_12 u_14 H locs hw_13 hP hD hS => ?_)
      obtain ⟨b_zi_12, ps_15⟩ : (0 ≤ zi_12.toInt ∧ zi_12.toInt ≤ 255) ∧ (BQ (zI (zR zy 0)) zia.toInt zi_12) := hw_13
      refine lv_istore_n (lv' := [(2, .int zi_12), (0, .ref zy), (1, .int zia)]) hx hb dX11_mustGo_25 rfl hl (by decide) rfl (fun ls hl => ?_)
      refine lv_bipush (v := (-4)) hx hb dX11_mustGo_26 (by decide) ?_
      refine lv_istore_n (lv' := [(3, .int (-4)), (2, .int zi_12), (0, .ref zy), (1, .int zia)]) hx hb dX11_mustGo_28 rfl hl (by decide) rfl (fun ls hl => ?_)
      refine lv_iconst (v := 0) hx hb dX11_mustGo_29 (by decide) ?_
      refine lv_istore (lv' := [(4, .int 0), (3, .int (-4)), (2, .int zi_12), (0, .ref zy), (1, .int zia)]) hx hb dX11_mustGo_30 hl (by decide) rfl (fun ls hl => ?_)
      have lp_200 : ∀ (n : Nat) (zi_90 : Int32) (zi_91 : Int32) (zI_92 : Nat → Nat → Int32) (zJ_93 : Nat → Nat → Int64) (H : Heap) (locs : List Loc) (ls : Array Slot), (zi_12.toInt - zi_91.toInt + 1).toNat = n → ((-4) ≤ zi_90.toInt ∧ zi_90.toInt ≤ 255) → (0 ≤ zi_91.toInt ∧ zi_91.toInt ≤ 256) → (WM [1806, 1807, 10300, 10400, 10500, 10600, 10700] AL zT zR zI zI_92) → (ZI (zI_92 (zR zy 0))) → va_P (dC, dI) vwCl (WL cy zL zT zR zI_92 zJ_93) H → va_D A (WL cy zL zT zR zI_92 zJ_93) → va_S A s.heap H locs → lv_has ls 6 [(0, .ref zy), (1, .int zia), (2, .int zi_12), (3, .int zi_90), (4, .int zi_91)] → W p l e ({ frames := 4, cells := 0, slots := 0, locals := 93 } : Room) s m ([.ref zy, .int zia] : List Value).toArray below meth c H locs 0 0 Q (F0 m 32 ls []) := by
        intro n
        induction n using Nat.strongRecOn with
        | _ n ih_200 =>
          intro zi_90 zi_91 zI_92 zJ_93 H locs ls hn b_zi_90 b_zi_91 h_zI_92 e_lp_200_0 hP hD hS hl
          refine lv_iload hx hb dX11_mustGo_32 (lv_at hl 4 rfl) ?_
          refine lv_iload_n hx hb dX11_mustGo_34 rfl (lv_at hl 2 rfl) ?_
          refine lv_icmp_gt (tgt := 98) hx hb dX11_mustGo_35 (by decide) (fun c_201 => ?_) (fun c_201 => ?_)
          · have f_202 : zi_91.toInt > zi_12.toInt := ic_gt (rfl) (rfl) c_201
            refine lv_iload_n hx hb dX11_mustGo_98 rfl (lv_at hl 3 rfl) ?_
            subst hQ
            exact W.iret (v := zi_90) hx hb hr (fun t ht hW => ⟨⟨zi_90, (zI_92, zJ_93), rfl, ⟨h_zI_92, (show (-4) ≤ zi_90.toInt ∧ zi_90.toInt ≤ 255 from by omega)⟩, ⟨by rw [ht]; exact hP, va_K.moved hW.alike hK, hD⟩⟩, hS.F ht⟩) hS.2.2 dX11_mustGo_99
          · have f_202 : ¬ (zi_91.toInt > zi_12.toInt) := ic_ngt (rfl) (rfl) c_201
            refine lv_iload_n hx hb dX11_mustGo_38 rfl (lv_at hl 3 rfl) ?_
            refine lv_if_lt (tgt := 54) hx hb dX11_mustGo_39 (by decide) (fun c_203 => ?_) (fun c_203 => ?_)
            · have f_204 : zi_90.toInt < 0 := ic_lt (rfl) (by decide) c_203
              refine lv_iconst (v := 1) hx hb dX11_mustGo_54 (by decide) ?_
              refine lv_goto (tgt := 59) hx hb dX11_mustGo_55 (by decide) ?_
              refine lv_istore (lv' := [(5, .int 1), (0, .ref zy), (1, .int zia), (2, .int zi_12), (3, .int zi_90), (4, .int zi_91)]) hx hb dX11_mustGo_59 hl (by decide) rfl (fun ls hl => ?_)
              refine lv_iload hx hb dX11_mustGo_61 (lv_at hl 5 rfl) ?_
              refine lv_iload_n hx hb dX11_mustGo_63 rfl (lv_at hl 3 rfl) ?_
              refine lv_iconst (v := (-1)) hx hb dX11_mustGo_64 (by decide) ?_
              refine lv_ixor hx hb dX11_mustGo_65 ?_
              refine lv_topi (fun zi_205 ezi_205 => ?_)
              have rzi_205 := rng zi_205
              refine lv_iand hx hb dX11_mustGo_66 ?_
              refine lv_topi (fun zi_206 ezi_206 => ?_)
              have rzi_206 := rng zi_206
              refine lv_if_ne (tgt := 92) hx hb dX11_mustGo_67 (by decide) (fun c_207 => ?_) (fun c_207 => ?_)
              · have f_208 : zi_206.toInt ≠ 0 := ic_ne (rfl) (by decide) c_207
                obtain ⟨zi_209, ezi_209⟩ : ∃ y : Int32, y = zi_91 + 1 := ⟨_, rfl⟩
                have tzi_209 : zi_209.toInt = zi_91.toInt + 1 := by rw [ezi_209]; exact tadd rfl (show (1 : Int32).toInt = 1 by decide) (by omega) (by omega)
                refine lv_iinc (v := zi_209) (lv' := [(4, .int zi_209), (5, .int 1), (0, .ref zy), (1, .int zia), (2, .int zi_12), (3, .int zi_90)]) hx hb dX11_mustGo_92 hl (k := 5) rfl (by rw [ezi_209]; rfl) (by decide) rfl (fun ls hl => ?_)
                refine lv_goto (tgt := 32) hx hb dX11_mustGo_95 (by decide) ?_
                exact ih_200 (zi_12.toInt - zi_209.toInt + 1).toNat (by omega) zi_90 zi_209 zI_92 zJ_93 _ _ _ rfl (by omega) (by omega) h_zI_92 e_lp_200_0 hP hD hS (lv_sub hl [2, 3, 4, 5, 0] rfl)
              · have f_208 : ¬ (zi_206.toInt ≠ 0) := ic_nne (rfl) (by decide) c_207
                refine lv_iload hx hb dX11_mustGo_70 (lv_at hl 0 rfl) ?_
                refine lv_if_eq (tgt := 92) hx hb dX11_mustGo_72 (by decide) (fun c_210 => absurd c_210 (by decide)) (fun c_210 => ?_)
                refine lv_aload_n hx hb dX11_mustGo_75 rfl (lv_at hl 1 rfl) ?_
                refine lv_iload_n hx hb dX11_mustGo_76 rfl (lv_at hl 2 rfl) ?_
                refine lv_iload_n hx hb dX11_mustGo_77 rfl (lv_at hl 3 rfl) ?_
                refine lv_iload hx hb dX11_mustGo_78 (lv_at hl 5 rfl) ?_
                refine lv_iconst (v := (-1)) hx hb dX11_mustGo_80 (by decide) ?_
                refine lv_ixor hx hb dX11_mustGo_81 ?_
                refine lv_topi (fun zi_211 ezi_211 => ?_)
                have rzi_211 := rng zi_211
                refine lv_iand hx hb dX11_mustGo_82 ?_
                refine lv_topi (fun zi_212 ezi_212 => ?_)
                have rzi_212 := rng zi_212
                have t_213 : zT (zR zy 0) = 100 := sk_f hs t_zy (by decide) rfl (by decide)
                refine hj_i (ws := (WL cy zL zT zR zI_92 zJ_93)) (w1 := fun (u : (Nat → Nat → Int32) × (Nat → Nat → Int64)) => (WL cy zL zT zR u.1 u.2)) (va_runV (As := [.int zia, .int zi_212]) (rest := []) ⟨hx, hb, hml, hown, hts⟩ (t_X11_hasWay l dC dI cy H.size zL zT zR zI_92 zJ_93 zy zia zi_212 hs h_zI_92.1 t_zy (by omega) e_lp_200_0 (by rw [(h_zI_92.2.row t_213 (by decide) (by decide))]; exact BQ.a ps_15 ezi_212)) (cwV 2 hts gX11_mustGo_X11_hasWay rfl rfl rfl (by decide +kernel) ⟨(Nat.le_of_ble_eq_true rfl), (Nat.le_of_ble_eq_true rfl)⟩) (PRE.v hP hK hD hN (ht_recv hK hP hs t_zy (by decide) rfl rfl)) rfl rfl hl.1 rfl (lv_room (Nat.le_of_ble_eq_true rfl)) dX11_mustGo_83 ⟨(Nat.le_of_ble_eq_true rfl), (Nat.le_of_ble_eq_true rfl)⟩) hP hD hS hA (fun zi_214 u_216 H locs hw_215 hP hD hS => ?_)
                obtain ⟨zI_217, zJ_218⟩ := u_216
                obtain ⟨k_zI_217, b_zi_214⟩ : (WM [1806, 1807, 10300, 10400, 10500, 10600, 10700] AL zT zR zI_92 zI_217) ∧ (0 ≤ zi_214.toInt ∧ zi_214.toInt ≤ 1) := hw_215
                have h_zI_217 : WM [1806, 1807, 10300, 10400, 10500, 10600, 10700] AL zT zR zI zI_217 := h_zI_92.tr k_zI_217 (by decide) (fun _ _ => trivial)
                refine lv_if_eq (tgt := 92) hx hb dX11_mustGo_86 (by decide) (fun c_219 => ?_) (fun c_219 => ?_)
                · have f_220 : zi_214.toInt = 0 := ic_eq (rfl) (by decide) c_219
                  obtain ⟨zi_221, ezi_221⟩ : ∃ y : Int32, y = zi_91 + 1 := ⟨_, rfl⟩
                  have tzi_221 : zi_221.toInt = zi_91.toInt + 1 := by rw [ezi_221]; exact tadd rfl (show (1 : Int32).toInt = 1 by decide) (by omega) (by omega)
                  refine lv_iinc (v := zi_221) (lv' := [(4, .int zi_221), (5, .int 1), (0, .ref zy), (1, .int zia), (2, .int zi_12), (3, .int zi_90)]) hx hb dX11_mustGo_92 hl (k := 5) rfl (by rw [ezi_221]; rfl) (by decide) rfl (fun ls hl => ?_)
                  refine lv_goto (tgt := 32) hx hb dX11_mustGo_95 (by decide) ?_
                  have zz_222 : ZI (zI_217 (zR zy 0)) := by rw [(k_zI_217.2.row t_213 (by decide) (by decide))]; exact e_lp_200_0
                  exact ih_200 (zi_12.toInt - zi_221.toInt + 1).toNat (by omega) zi_90 zi_221 zI_217 zJ_218 _ _ _ rfl (by omega) (by omega) h_zI_217 zz_222 hP hD hS (lv_sub hl [2, 3, 4, 5, 0] rfl)
                · have f_220 : ¬ (zi_214.toInt = 0) := ic_neq (rfl) (by decide) c_219
                  refine lv_iload hx hb dX11_mustGo_89 (lv_at hl 5 rfl) ?_
                  refine lv_istore_n (lv' := [(3, .int zi_91), (5, .int 1), (0, .ref zy), (1, .int zia), (2, .int zi_12), (4, .int zi_91)]) hx hb dX11_mustGo_91 rfl hl (by decide) rfl (fun ls hl => ?_)
                  obtain ⟨zi_223, ezi_223⟩ : ∃ y : Int32, y = zi_91 + 1 := ⟨_, rfl⟩
                  have tzi_223 : zi_223.toInt = zi_91.toInt + 1 := by rw [ezi_223]; exact tadd rfl (show (1 : Int32).toInt = 1 by decide) (by omega) (by omega)
                  refine lv_iinc (v := zi_223) (lv' := [(4, .int zi_223), (3, .int zi_91), (5, .int 1), (0, .ref zy), (1, .int zia), (2, .int zi_12)]) hx hb dX11_mustGo_92 hl (k := 5) rfl (by rw [ezi_223]; rfl) (by decide) rfl (fun ls hl => ?_)
                  refine lv_goto (tgt := 32) hx hb dX11_mustGo_95 (by decide) ?_
                  have zz_224 : ZI (zI_217 (zR zy 0)) := by rw [(k_zI_217.2.row t_213 (by decide) (by decide))]; exact e_lp_200_0
                  exact ih_200 (zi_12.toInt - zi_223.toInt + 1).toNat (by omega) zi_91 zi_223 zI_217 zJ_218 _ _ _ rfl (by omega) (by omega) h_zI_217 zz_224 hP hD hS (lv_sub hl [3, 4, 5, 1, 0] rfl)
            · have f_204 : ¬ (zi_90.toInt < 0) := ic_nlt (rfl) (by decide) c_203
              refine lv_iload hx hb dX11_mustGo_42 (lv_at hl 4 rfl) ?_
              refine hj0_i (ws := (WL cy zL zT zR zI_92 zJ_93)) (va_runS (As := [.int zi_91]) (rest := []) ⟨hx, hb, hml, hown, hts⟩ (c_X11_ones l dC dI cy H.size zi_91 (by omega)) (va_cwS 1 hts gX11_mustGo_X11_ones rfl rfl rfl (by decide +kernel) ⟨(Nat.le_of_ble_eq_true rfl), (Nat.le_of_ble_eq_true rfl)⟩) (PRE.s (hP.sub [] rfl) hK (hD.sub [] (by decide) rfl) hN) rfl rfl hl.1 rfl (lv_room (Nat.le_of_ble_eq_true rfl)) dX11_mustGo_44 ⟨(Nat.le_of_ble_eq_true rfl), (Nat.le_of_ble_eq_true rfl)⟩) hP hD hS hA (fun zi_225 u_227 H locs hw_226 hP hD hS => ?_)
              have rzi_225 := rng zi_225
              refine lv_iload_n hx hb dX11_mustGo_47 rfl (lv_at hl 3 rfl) ?_
              refine hj0_i (ws := (WL cy zL zT zR zI_92 zJ_93)) (va_runS (As := [.int zi_90]) (rest := [.int zi_225]) ⟨hx, hb, hml, hown, hts⟩ (c_X11_ones l dC dI cy H.size zi_90 (by omega)) (va_cwS 1 hts gX11_mustGo_X11_ones rfl rfl rfl (by decide +kernel) ⟨(Nat.le_of_ble_eq_true rfl), (Nat.le_of_ble_eq_true rfl)⟩) (PRE.s (hP.sub [] rfl) hK (hD.sub [] (by decide) rfl) hN) rfl rfl hl.1 rfl (lv_room (Nat.le_of_ble_eq_true rfl)) dX11_mustGo_48 ⟨(Nat.le_of_ble_eq_true rfl), (Nat.le_of_ble_eq_true rfl)⟩) hP hD hS hA (fun zi_228 u_230 H locs hw_229 hP hD hS => ?_)
              have rzi_228 := rng zi_228
              refine lv_icmp_ge (tgt := 58) hx hb dX11_mustGo_51 (by decide) (fun c_231 => ?_) (fun c_231 => ?_)
              · have f_232 : zi_225.toInt ≥ zi_228.toInt := ic_ge (rfl) (rfl) c_231
                refine lv_iconst (v := 0) hx hb dX11_mustGo_58 (by decide) ?_
                refine lv_istore (lv' := [(5, .int 0), (0, .ref zy), (1, .int zia), (2, .int zi_12), (3, .int zi_90), (4, .int zi_91)]) hx hb dX11_mustGo_59 hl (by decide) rfl (fun ls hl => ?_)
                refine lv_iload hx hb dX11_mustGo_61 (lv_at hl 5 rfl) ?_
                refine lv_iload_n hx hb dX11_mustGo_63 rfl (lv_at hl 3 rfl) ?_
                refine lv_iconst (v := (-1)) hx hb dX11_mustGo_64 (by decide) ?_
                refine lv_ixor hx hb dX11_mustGo_65 ?_
                refine lv_topi (fun zi_233 ezi_233 => ?_)
                have rzi_233 := rng zi_233
                refine lv_iand hx hb dX11_mustGo_66 ?_
                refine lv_topi (fun zi_234 ezi_234 => ?_)
                have rzi_234 := rng zi_234
                refine lv_if_ne (tgt := 92) hx hb dX11_mustGo_67 (by decide) (fun c_235 => ?_) (fun c_235 => ?_)
                · have f_236 : zi_234.toInt ≠ 0 := ic_ne (rfl) (by decide) c_235
                  obtain ⟨zi_237, ezi_237⟩ : ∃ y : Int32, y = zi_91 + 1 := ⟨_, rfl⟩
                  have tzi_237 : zi_237.toInt = zi_91.toInt + 1 := by rw [ezi_237]; exact tadd rfl (show (1 : Int32).toInt = 1 by decide) (by omega) (by omega)
                  refine lv_iinc (v := zi_237) (lv' := [(4, .int zi_237), (5, .int 0), (0, .ref zy), (1, .int zia), (2, .int zi_12), (3, .int zi_90)]) hx hb dX11_mustGo_92 hl (k := 5) rfl (by rw [ezi_237]; rfl) (by decide) rfl (fun ls hl => ?_)
                  refine lv_goto (tgt := 32) hx hb dX11_mustGo_95 (by decide) ?_
                  exact ih_200 (zi_12.toInt - zi_237.toInt + 1).toNat (by omega) zi_90 zi_237 zI_92 zJ_93 _ _ _ rfl (by omega) (by omega) h_zI_92 e_lp_200_0 hP hD hS (lv_sub hl [2, 3, 4, 5, 0] rfl)
                · have f_236 : ¬ (zi_234.toInt ≠ 0) := ic_nne (rfl) (by decide) c_235
                  refine lv_iload hx hb dX11_mustGo_70 (lv_at hl 0 rfl) ?_
                  refine lv_if_eq (tgt := 92) hx hb dX11_mustGo_72 (by decide) (fun c_238 => ?_) (fun c_238 => absurd (by decide) c_238)
                  obtain ⟨zi_239, ezi_239⟩ : ∃ y : Int32, y = zi_91 + 1 := ⟨_, rfl⟩
                  have tzi_239 : zi_239.toInt = zi_91.toInt + 1 := by rw [ezi_239]; exact tadd rfl (show (1 : Int32).toInt = 1 by decide) (by omega) (by omega)
                  refine lv_iinc (v := zi_239) (lv' := [(4, .int zi_239), (5, .int 0), (0, .ref zy), (1, .int zia), (2, .int zi_12), (3, .int zi_90)]) hx hb dX11_mustGo_92 hl (k := 5) rfl (by rw [ezi_239]; rfl) (by decide) rfl (fun ls hl => ?_)
                  refine lv_goto (tgt := 32) hx hb dX11_mustGo_95 (by decide) ?_
                  exact ih_200 (zi_12.toInt - zi_239.toInt + 1).toNat (by omega) zi_90 zi_239 zI_92 zJ_93 _ _ _ rfl (by omega) (by omega) h_zI_92 e_lp_200_0 hP hD hS (lv_sub hl [2, 3, 4, 5, 0] rfl)
              · have f_232 : ¬ (zi_225.toInt ≥ zi_228.toInt) := ic_nge (rfl) (rfl) c_231
                refine lv_iconst (v := 1) hx hb dX11_mustGo_54 (by decide) ?_
                refine lv_goto (tgt := 59) hx hb dX11_mustGo_55 (by decide) ?_
                refine lv_istore (lv' := [(5, .int 1), (0, .ref zy), (1, .int zia), (2, .int zi_12), (3, .int zi_90), (4, .int zi_91)]) hx hb dX11_mustGo_59 hl (by decide) rfl (fun ls hl => ?_)
                refine lv_iload hx hb dX11_mustGo_61 (lv_at hl 5 rfl) ?_
                refine lv_iload_n hx hb dX11_mustGo_63 rfl (lv_at hl 3 rfl) ?_
                refine lv_iconst (v := (-1)) hx hb dX11_mustGo_64 (by decide) ?_
                refine lv_ixor hx hb dX11_mustGo_65 ?_
                refine lv_topi (fun zi_240 ezi_240 => ?_)
                have rzi_240 := rng zi_240
                refine lv_iand hx hb dX11_mustGo_66 ?_
                refine lv_topi (fun zi_241 ezi_241 => ?_)
                have rzi_241 := rng zi_241
                refine lv_if_ne (tgt := 92) hx hb dX11_mustGo_67 (by decide) (fun c_242 => ?_) (fun c_242 => ?_)
                · have f_243 : zi_241.toInt ≠ 0 := ic_ne (rfl) (by decide) c_242
                  obtain ⟨zi_244, ezi_244⟩ : ∃ y : Int32, y = zi_91 + 1 := ⟨_, rfl⟩
                  have tzi_244 : zi_244.toInt = zi_91.toInt + 1 := by rw [ezi_244]; exact tadd rfl (show (1 : Int32).toInt = 1 by decide) (by omega) (by omega)
                  refine lv_iinc (v := zi_244) (lv' := [(4, .int zi_244), (5, .int 1), (0, .ref zy), (1, .int zia), (2, .int zi_12), (3, .int zi_90)]) hx hb dX11_mustGo_92 hl (k := 5) rfl (by rw [ezi_244]; rfl) (by decide) rfl (fun ls hl => ?_)
                  refine lv_goto (tgt := 32) hx hb dX11_mustGo_95 (by decide) ?_
                  exact ih_200 (zi_12.toInt - zi_244.toInt + 1).toNat (by omega) zi_90 zi_244 zI_92 zJ_93 _ _ _ rfl (by omega) (by omega) h_zI_92 e_lp_200_0 hP hD hS (lv_sub hl [2, 3, 4, 5, 0] rfl)
                · have f_243 : ¬ (zi_241.toInt ≠ 0) := ic_nne (rfl) (by decide) c_242
                  refine lv_iload hx hb dX11_mustGo_70 (lv_at hl 0 rfl) ?_
                  refine lv_if_eq (tgt := 92) hx hb dX11_mustGo_72 (by decide) (fun c_245 => absurd c_245 (by decide)) (fun c_245 => ?_)
                  refine lv_aload_n hx hb dX11_mustGo_75 rfl (lv_at hl 1 rfl) ?_
                  refine lv_iload_n hx hb dX11_mustGo_76 rfl (lv_at hl 2 rfl) ?_
                  refine lv_iload_n hx hb dX11_mustGo_77 rfl (lv_at hl 3 rfl) ?_
                  refine lv_iload hx hb dX11_mustGo_78 (lv_at hl 5 rfl) ?_
                  refine lv_iconst (v := (-1)) hx hb dX11_mustGo_80 (by decide) ?_
                  refine lv_ixor hx hb dX11_mustGo_81 ?_
                  refine lv_topi (fun zi_246 ezi_246 => ?_)
                  have rzi_246 := rng zi_246
                  refine lv_iand hx hb dX11_mustGo_82 ?_
                  refine lv_topi (fun zi_247 ezi_247 => ?_)
                  have rzi_247 := rng zi_247
                  have t_248 : zT (zR zy 0) = 100 := sk_f hs t_zy (by decide) rfl (by decide)
                  refine hj_i (ws := (WL cy zL zT zR zI_92 zJ_93)) (w1 := fun (u : (Nat → Nat → Int32) × (Nat → Nat → Int64)) => (WL cy zL zT zR u.1 u.2)) (va_runV (As := [.int zia, .int zi_247]) (rest := []) ⟨hx, hb, hml, hown, hts⟩ (t_X11_hasWay l dC dI cy H.size zL zT zR zI_92 zJ_93 zy zia zi_247 hs h_zI_92.1 t_zy (by omega) e_lp_200_0 (by rw [(h_zI_92.2.row t_248 (by decide) (by decide))]; exact BQ.a ps_15 ezi_247)) (cwV 2 hts gX11_mustGo_X11_hasWay rfl rfl rfl (by decide +kernel) ⟨(Nat.le_of_ble_eq_true rfl), (Nat.le_of_ble_eq_true rfl)⟩) (PRE.v hP hK hD hN (ht_recv hK hP hs t_zy (by decide) rfl rfl)) rfl rfl hl.1 rfl (lv_room (Nat.le_of_ble_eq_true rfl)) dX11_mustGo_83 ⟨(Nat.le_of_ble_eq_true rfl), (Nat.le_of_ble_eq_true rfl)⟩) hP hD hS hA (fun zi_249 u_251 H locs hw_250 hP hD hS => ?_)
                  obtain ⟨zI_252, zJ_253⟩ := u_251
                  obtain ⟨k_zI_252, b_zi_249⟩ : (WM [1806, 1807, 10300, 10400, 10500, 10600, 10700] AL zT zR zI_92 zI_252) ∧ (0 ≤ zi_249.toInt ∧ zi_249.toInt ≤ 1) := hw_250
                  have h_zI_252 : WM [1806, 1807, 10300, 10400, 10500, 10600, 10700] AL zT zR zI zI_252 := h_zI_92.tr k_zI_252 (by decide) (fun _ _ => trivial)
                  refine lv_if_eq (tgt := 92) hx hb dX11_mustGo_86 (by decide) (fun c_254 => ?_) (fun c_254 => ?_)
                  · have f_255 : zi_249.toInt = 0 := ic_eq (rfl) (by decide) c_254
                    obtain ⟨zi_256, ezi_256⟩ : ∃ y : Int32, y = zi_91 + 1 := ⟨_, rfl⟩
                    have tzi_256 : zi_256.toInt = zi_91.toInt + 1 := by rw [ezi_256]; exact tadd rfl (show (1 : Int32).toInt = 1 by decide) (by omega) (by omega)
                    refine lv_iinc (v := zi_256) (lv' := [(4, .int zi_256), (5, .int 1), (0, .ref zy), (1, .int zia), (2, .int zi_12), (3, .int zi_90)]) hx hb dX11_mustGo_92 hl (k := 5) rfl (by rw [ezi_256]; rfl) (by decide) rfl (fun ls hl => ?_)
                    refine lv_goto (tgt := 32) hx hb dX11_mustGo_95 (by decide) ?_
                    have zz_257 : ZI (zI_252 (zR zy 0)) := by rw [(k_zI_252.2.row t_248 (by decide) (by decide))]; exact e_lp_200_0
                    exact ih_200 (zi_12.toInt - zi_256.toInt + 1).toNat (by omega) zi_90 zi_256 zI_252 zJ_253 _ _ _ rfl (by omega) (by omega) h_zI_252 zz_257 hP hD hS (lv_sub hl [2, 3, 4, 5, 0] rfl)
                  · have f_255 : ¬ (zi_249.toInt = 0) := ic_neq (rfl) (by decide) c_254
                    refine lv_iload hx hb dX11_mustGo_89 (lv_at hl 5 rfl) ?_
                    refine lv_istore_n (lv' := [(3, .int zi_91), (5, .int 1), (0, .ref zy), (1, .int zia), (2, .int zi_12), (4, .int zi_91)]) hx hb dX11_mustGo_91 rfl hl (by decide) rfl (fun ls hl => ?_)
                    obtain ⟨zi_258, ezi_258⟩ : ∃ y : Int32, y = zi_91 + 1 := ⟨_, rfl⟩
                    have tzi_258 : zi_258.toInt = zi_91.toInt + 1 := by rw [ezi_258]; exact tadd rfl (show (1 : Int32).toInt = 1 by decide) (by omega) (by omega)
                    refine lv_iinc (v := zi_258) (lv' := [(4, .int zi_258), (3, .int zi_91), (5, .int 1), (0, .ref zy), (1, .int zia), (2, .int zi_12)]) hx hb dX11_mustGo_92 hl (k := 5) rfl (by rw [ezi_258]; rfl) (by decide) rfl (fun ls hl => ?_)
                    refine lv_goto (tgt := 32) hx hb dX11_mustGo_95 (by decide) ?_
                    have zz_259 : ZI (zI_252 (zR zy 0)) := by rw [(k_zI_252.2.row t_248 (by decide) (by decide))]; exact e_lp_200_0
                    exact ih_200 (zi_12.toInt - zi_258.toInt + 1).toNat (by omega) zi_91 zi_258 zI_252 zJ_253 _ _ _ rfl (by omega) (by omega) h_zI_252 zz_259 hP hD hS (lv_sub hl [3, 4, 5, 1, 0] rfl)
      have qc_m4 : ((-4) : Int32).toInt = -4 := by decide
      have qc_0 : (0 : Int32).toInt = 0 := by decide
      exact lp_200 _ (-4 : Int32) (0 : Int32) zI zJ _ _ _ rfl (by decide) (by decide) h_zI hz hP hD hS (lv_sub hl [3, 4, 2, 1, 0] rfl)
    · have f_11 : ¬ (zi_6.toInt ≠ 0) := ic_nne (rfl) (by decide) c_10
      refine lv_bipush (v := (-2)) hx hb dX11_mustGo_17 (by decide) ?_
      subst hQ
      have qc_m2 : (-2 : Int32).toInt = -2 := by decide
      exact W.iret (v := (-2 : Int32)) hx hb hr (fun t ht hW => ⟨⟨(-2 : Int32), (zI, zJ), rfl, ⟨h_zI, (show (-4) ≤ (-2 : Int32).toInt ∧ (-2 : Int32).toInt ≤ 255 from by omega)⟩, ⟨by rw [ht]; exact hP, va_K.moved hW.alike hK, hD⟩⟩, hS.F ht⟩) hS.2.2 dX11_mustGo_19
  · have f_5 : ¬ (0 ≤ zia.toInt ∧ zia.toInt ≤ 1) := bz_0 hw_2 c_4
    refine lv_iconst (v := (-1)) hx hb dX11_mustGo_7 (by decide) ?_
    subst hQ
    have qc_m1 : (-1 : Int32).toInt = -1 := by decide
    exact W.iret (v := (-1 : Int32)) hx hb hr (fun t ht hW => ⟨⟨(-1 : Int32), (zI, zJ), rfl, ⟨h_zI, (show (-4) ≤ (-1 : Int32).toInt ∧ (-1 : Int32).toInt ≤ 255 from by omega)⟩, ⟨by rw [ht]; exact hP, va_K.moved hW.alike hK, hD⟩⟩, hS.F ht⟩) hS.2.2 dX11_mustGo_8
set_option maxHeartbeats 8000000 in
set_option maxRecDepth 100000 in
theorem t_X11_leans (l : Launch) (dC : Nat → ClassId) (dI : Nat → Nat → Nat) (cy : Nat → ClassId) (sz : Nat) (zL : List Nat) (zT : Nat → Nat) (zR : Nat → Nat → Nat) (zI : Nat → Nat → Int32) (zJ : Nat → Nat → Int64) (zy : Nat) (zia : Int32) (zib : Int32) (zic : Int32) (hs : SKP zL zT zR) (hw : WT zT zR zI) (t_zy : zT zy = 18) (hz : ZI (zI (zR zy 0))) : Met l yX11_leans wsX11_leans ({ frames := 4, cells := 0, slots := 0, locals := 93 } : Room) (va_Pc [.ref zy, .int zia, .int zib, .int zic] (PRE dC dI cy (WL cy zL zT zR zI zJ) sz)) (va_Qi (fun (r : Int32) (u : (Nat → Nat → Int32) × (Nat → Nat → Int64)) => (WM [1806, 1807, 10300, 10400, 10500, 10600, 10700] AL zT zR zI u.1) ∧ ((-1012) ≤ r.toInt ∧ r.toInt ≤ 23)) (fun u t => POST dC dI cy (va_A (WL cy zL zT zR zI zJ) sz) (WL cy zL zT zR u.1 u.2) t) (va_A (WL cy zL zT zR zI zJ) sz)) 0 0 (va_A (WL cy zL zT zR zI zJ) sz) := by
  refine Met.ofW (cc := cX11_leans) (maxL := 8) (ret := (some .int)) (by decide) rfl ?_
  intro p e s m args below meth c s₁ B hml hv
  obtain ⟨rfl, hsz, hP, hK, hD0, hN⟩ := hv
  have hx := B.exec
  have hb := B.bytes
  have hr := B.returns
  have hts := atoms_spec (ws := wsX11_leans) B.pre
  have hown : s.vm.findClass RX11 = some m.cls := findClass_of_methodNamed B.named
  have hlocks := B.notSynchronized
  subst hsz
  have hD := hD0.self (sz := s.heap.size)
  generalize hAe : va_A (WL cy zL zT zR zI zJ) s.heap.size = A at hD ⊢
  have hA : ∀ q : Nat, s.heap.size ≤ q → A q := fun q h => by rw [← hAe]; exact Or.inr h
  have hS : va_S A s.heap s.heap [] := va_S.rf
  have hP : va_P (dC, dI) vwCl (WL cy zL zT zR zI zJ) s.heap := hP
  have hl := lv_entry ([.ref zy, .int zia, .int zib, .int zic] : List Value) (n := 8) (Nat.le_of_ble_eq_true rfl)
  rw [lg_entry_eq]
  generalize (lg_sl ([.ref zy, .int zia, .int zib, .int zic] : List Value) ++ List.replicate (8 - (lg_sl ([.ref zy, .int zia, .int zib, .int zic] : List Value)).length) Slot.unset).toArray = ls at hl ⊢
  have hl : lv_has ls 8 [(0, .ref zy), (1, .int zia), (2, .int zib), (3, .int zic)] := hl
  refine w_q (fun Q hQ => ?_)
  have h_zI : WM [1806, 1807, 10300, 10400, 10500, 10600, 10700] AL zT zR zI zI := WM.rf hw
  refine lv_iload_n hx hb dX11_leans_0 rfl (lv_at hl 1 rfl) ?_
  refine lv_i2l (v := zia.toInt64) hx hb dX11_leans_1 rfl ?_
  refine lv_topl (fun zj_1 ezj_1 => ?_)
  have tzj_1 : zj_1.toInt = zia.toInt := by rw [ezj_1]; exact Int32.toInt_toInt64 _
  refine lv_lconst (v := 0) hx hb dX11_leans_2 (by decide) ?_
  refine lv_aload_n hx hb dX11_leans_3 rfl (lv_at hl 0 rfl) ?_
  refine ht_getr (C := RX11) (T := TX11) (N := 28) hx hb hts (by decide +kernel) hown hK hP hs t_zy (by decide) rfl rfl 0 (by decide) (hts (.fieldLink RX11 7 "DripStoneModel" "z" "[I") (by decide +kernel)) (fun _ h9 => h9) rfl dX11_leans_4 ?_
  have t_2 : zT (zR zy 0) = 100 := sk_f hs t_zy (by decide) rfl (by decide)
  refine lv_bipush (v := 11) hx hb dX11_leans_7 (by decide) ?_
  refine ht_iald (n := 392) (q := 0) hx hb hK hP hs t_2 (by decide) rfl rfl ⟨by decide, by decide⟩ dX11_leans_9 ?_
  refine lv_topi (fun zi_3 ezi_3 => ?_)
  have la_4 : zi_3.toInt = zA (zI (zR zy 0)) (11) := (congrArg Int32.toInt (show zI (zR zy 0) (11 : Int32).toNatClampNeg = zi_3 from ezi_3.symm).symm).trans (congrArg (zA (zI (zR zy 0))) (show (11 : Int32).toInt = 11 from by decide))
  have tz_5 : 0 ≤ zi_3.toInt ∧ zi_3.toInt ≤ 8 := by rw [← (show zI (zR zy 0) (11 : Int32).toNatClampNeg = zi_3 from ezi_3.symm)]; exact ZI.g11 hz (by decide) (by decide)
  refine lv_iconst (v := 1) hx hb dX11_leans_10 (by decide) ?_
  refine lv_isub hx hb dX11_leans_11 ?_
  refine lv_topi (fun zi_6 ezi_6 => ?_)
  have tzi_6 : zi_6.toInt = zi_3.toInt - (1 : Int) := by rw [ezi_6]; exact tisub (rfl) (show (1 : Int32).toInt = 1 by decide) (by omega) (by omega)
  refine lv_i2l (v := zi_6.toInt64) hx hb dX11_leans_12 rfl ?_
  refine lv_topl (fun zj_7 ezj_7 => ?_)
  have tzj_7 : zj_7.toInt = zi_6.toInt := by rw [ezj_7]; exact Int32.toInt_toInt64 _
  refine hj0_i (ws := (WL cy zL zT zR zI zJ)) (va_runS (As := [.long zj_1, .long 0, .long zj_7]) (rest := []) ⟨hx, hb, hml, hown, hts⟩ (c_X11_in l dC dI cy s.heap.size zj_1 0 zj_7 0 zj_7.toInt zj_1.toInt (by first | rfl | decide | omega | exact Int32.toInt_toInt64 _) (by first | rfl | decide | omega | exact Int32.toInt_toInt64 _) (by first | rfl | decide | omega | exact Int32.toInt_toInt64 _)) (va_cwS 3 hts gX11_leans_X11_in rfl rfl rfl (by decide +kernel) ⟨(Nat.le_of_ble_eq_true rfl), (Nat.le_of_ble_eq_true rfl)⟩) (PRE.s (hP.sub [] rfl) hK (hD.sub [] (by decide) rfl) hN) rfl rfl hl.1 rfl (lv_room (Nat.le_of_ble_eq_true rfl)) dX11_leans_13 ⟨(Nat.le_of_ble_eq_true rfl), (Nat.le_of_ble_eq_true rfl)⟩) hP hD hS hA (fun zi_8 u_10 H locs hw_9 hP hD hS => ?_)
  have hw_9 : zi_8 = if 0 ≤ zj_1.toInt ∧ zj_1.toInt ≤ zj_7.toInt then 1 else 0 := hw_9
  have b_zi_8 : 0 ≤ zi_8.toInt ∧ zi_8.toInt ≤ 1 := bz_b hw_9
  refine lv_if_eq (tgt := 47) hx hb dX11_leans_16 (by decide) (fun c_11 => ?_) (fun c_11 => ?_)
  · have f_12 : ¬ (0 ≤ zj_1.toInt ∧ zj_1.toInt ≤ zj_7.toInt) := bz_0 hw_9 c_11
    refine lv_sipush (v := (-1001)) hx hb dX11_leans_47 (by decide) ?_
    subst hQ
    have qc_m1001 : (-1001 : Int32).toInt = -1001 := by decide
    exact W.iret (v := (-1001 : Int32)) hx hb hr (fun t ht hW => ⟨⟨(-1001 : Int32), (zI, zJ), rfl, ⟨h_zI, (show (-1012) ≤ (-1001 : Int32).toInt ∧ (-1001 : Int32).toInt ≤ 23 from by omega)⟩, ⟨by rw [ht]; exact hP, va_K.moved hW.alike hK, hD⟩⟩, hS.F ht⟩) hS.2.2 dX11_leans_50
  · have f_12 : 0 ≤ zj_1.toInt ∧ zj_1.toInt ≤ zj_7.toInt := bz_1 hw_9 c_11
    refine lv_iload_n hx hb dX11_leans_19 rfl (lv_at hl 3 rfl) ?_
    refine lv_i2l (v := zic.toInt64) hx hb dX11_leans_20 rfl ?_
    refine lv_topl (fun zj_13 ezj_13 => ?_)
    have tzj_13 : zj_13.toInt = zic.toInt := by rw [ezj_13]; exact Int32.toInt_toInt64 _
    refine lv_lconst (v := 0) hx hb dX11_leans_21 (by decide) ?_
    refine lv_lconst (v := 1) hx hb dX11_leans_22 (by decide) ?_
    refine hj0_i (ws := (WL cy zL zT zR zI zJ)) (va_runS (As := [.long zj_13, .long 0, .long 1]) (rest := []) ⟨hx, hb, hml, hown, hts⟩ (c_X11_in l dC dI cy H.size zj_13 0 1 0 1 zj_13.toInt (by first | rfl | decide | omega | exact Int32.toInt_toInt64 _) (by first | rfl | decide | omega | exact Int32.toInt_toInt64 _) (by first | rfl | decide | omega | exact Int32.toInt_toInt64 _)) (va_cwS 3 hts gX11_leans_X11_in rfl rfl rfl (by decide +kernel) ⟨(Nat.le_of_ble_eq_true rfl), (Nat.le_of_ble_eq_true rfl)⟩) (PRE.s (hP.sub [] rfl) hK (hD.sub [] (by decide) rfl) hN) rfl rfl hl.1 rfl (lv_room (Nat.le_of_ble_eq_true rfl)) dX11_leans_23 ⟨(Nat.le_of_ble_eq_true rfl), (Nat.le_of_ble_eq_true rfl)⟩) hP hD hS hA (fun zi_14 u_16 H locs hw_15 hP hD hS => ?_)
    have hw_15 : zi_14 = if 0 ≤ zj_13.toInt ∧ zj_13.toInt ≤ 1 then 1 else 0 := hw_15
    have b_zi_14 : 0 ≤ zi_14.toInt ∧ zi_14.toInt ≤ 1 := bz_b hw_15
    refine lv_if_eq (tgt := 47) hx hb dX11_leans_26 (by decide) (fun c_17 => ?_) (fun c_17 => ?_)
    · have f_18 : ¬ (0 ≤ zj_13.toInt ∧ zj_13.toInt ≤ 1) := bz_0 hw_15 c_17
      refine lv_sipush (v := (-1001)) hx hb dX11_leans_47 (by decide) ?_
      subst hQ
      have qc_m1001 : (-1001 : Int32).toInt = -1001 := by decide
      exact W.iret (v := (-1001 : Int32)) hx hb hr (fun t ht hW => ⟨⟨(-1001 : Int32), (zI, zJ), rfl, ⟨h_zI, (show (-1012) ≤ (-1001 : Int32).toInt ∧ (-1001 : Int32).toInt ≤ 23 from by omega)⟩, ⟨by rw [ht]; exact hP, va_K.moved hW.alike hK, hD⟩⟩, hS.F ht⟩) hS.2.2 dX11_leans_50
    · have f_18 : 0 ≤ zj_13.toInt ∧ zj_13.toInt ≤ 1 := bz_1 hw_15 c_17
      have dc_19 : 0 ≤ zA (zI (zR zy 0)) (278 + 6 * zia.toInt) ∧ zA (zI (zR zy 0)) (278 + 6 * zia.toInt) ≤ 1 := hz.dc (by omega) (by omega)
      refine lv_aload_n hx hb dX11_leans_29 rfl (lv_at hl 0 rfl) ?_
      refine lv_aload_n hx hb dX11_leans_30 rfl (lv_at hl 0 rfl) ?_
      refine ht_getr (C := RX11) (T := TX11) (N := 28) hx hb hts (by decide +kernel) hown hK hP hs t_zy (by decide) rfl rfl 0 (by decide) (hts (.fieldLink RX11 7 "DripStoneModel" "z" "[I") (by decide +kernel)) (fun _ h9 => h9) rfl dX11_leans_31 ?_
      refine lv_aload_n hx hb dX11_leans_34 rfl (lv_at hl 0 rfl) ?_
      refine lv_iload_n hx hb dX11_leans_35 rfl (lv_at hl 1 rfl) ?_
      refine hj_i (ws := (WL cy zL zT zR zI zJ)) (w1 := fun (u : Unit) => (WL cy zL zT zR zI zJ)) (va_runV (As := [.int zia]) (rest := [.ref (zR zy 0), .ref zy]) ⟨hx, hb, hml, hown, hts⟩ (t_X11_dateAt l dC dI cy H.size zL zT zR zI zJ zy zia hs h_zI.1 t_zy (by omega)) (cwV 1 hts gX11_leans_X11_dateAt rfl rfl rfl (by decide +kernel) ⟨(Nat.le_of_ble_eq_true rfl), (Nat.le_of_ble_eq_true rfl)⟩) (PRE.v hP hK hD hN (ht_recv hK hP hs t_zy (by decide) rfl rfl)) rfl rfl hl.1 rfl (lv_room (Nat.le_of_ble_eq_true rfl)) dX11_leans_36 ⟨(Nat.le_of_ble_eq_true rfl), (Nat.le_of_ble_eq_true rfl)⟩) hP hD hS hA (fun zi_20 u_22 H locs hw_21 hP hD hS => ?_)
      obtain ⟨b_zi_20, ps_23⟩ : (278 ≤ zi_20.toInt ∧ zi_20.toInt ≤ 326) ∧ (zi_20.toInt = 278 + 6 * zia.toInt) := hw_21
      refine ht_iald (n := 392) (q := 0) hx hb hK hP hs t_2 (by decide) rfl rfl ⟨by omega, by omega⟩ dX11_leans_39 ?_
      refine lv_topi (fun zi_24 ezi_24 => ?_)
      have la_25 : zi_24.toInt = zA (zI (zR zy 0)) (278 + 6 * zia.toInt) := (congrArg Int32.toInt (show zI (zR zy 0) zi_20.toNatClampNeg = zi_24 from ezi_24.symm).symm).trans (congrArg (zA (zI (zR zy 0))) (show zi_20.toInt = 278 + 6 * zia.toInt from by omega))
      have bz_26 : 0 ≤ zi_24.toInt ∧ zi_24.toInt ≤ 1 := by omega
      refine lv_iload_n hx hb dX11_leans_40 rfl (lv_at hl 2 rfl) ?_
      refine hj_i (ws := (WL cy zL zT zR zI zJ)) (w1 := fun (u : Unit) => (WL cy zL zT zR zI zJ)) (va_runV (As := [.int zi_24, .int zib]) (rest := []) ⟨hx, hb, hml, hown, hts⟩ (t_X11_isThing l dC dI cy H.size zL zT zR zI zJ zy zi_24 zib hs h_zI.1 t_zy (by omega) hz) (cwV 2 hts gX11_leans_X11_isThing rfl rfl rfl (by decide +kernel) ⟨(Nat.le_of_ble_eq_true rfl), (Nat.le_of_ble_eq_true rfl)⟩) (PRE.v hP hK hD hN (ht_recv hK hP hs t_zy (by decide) rfl rfl)) rfl rfl hl.1 rfl (lv_room (Nat.le_of_ble_eq_true rfl)) dX11_leans_41 ⟨(Nat.le_of_ble_eq_true rfl), (Nat.le_of_ble_eq_true rfl)⟩) hP hD hS hA (fun zi_27 u_29 H locs hw_28 hP hD hS => ?_)
      obtain ⟨b_zi_27, ps_30, ps_31⟩ : (0 ≤ zi_27.toInt ∧ zi_27.toInt ≤ 1) ∧ (zi_27.toInt = 0 ∨ (0 ≤ zib.toInt ∧ zib.toInt ≤ 11)) ∧ (zi_27.toInt = 0 ∨ zib.toInt < zA (zI (zR zy 0)) (5 + zi_24.toInt)) := hw_28
      refine lv_if_ne (tgt := 51) hx hb dX11_leans_44 (by decide) (fun c_32 => ?_) (fun c_32 => ?_)
      · have f_33 : zi_27.toInt ≠ 0 := ic_ne (rfl) (by decide) c_32
        have b9_zib : 0 ≤ zib.toInt ∧ zib.toInt ≤ 11 := by omega
        have dc_34 : 0 ≤ zA (zI (zR zy 0)) (278 + 6 * zia.toInt) ∧ zA (zI (zR zy 0)) (278 + 6 * zia.toInt) ≤ 1 := hz.dc (by omega) (by omega)
        refine lv_aload_n hx hb dX11_leans_51 rfl (lv_at hl 0 rfl) ?_
        refine ht_getr (C := RX11) (T := TX11) (N := 28) hx hb hts (by decide +kernel) hown hK hP hs t_zy (by decide) rfl rfl 0 (by decide) (hts (.fieldLink RX11 7 "DripStoneModel" "z" "[I") (by decide +kernel)) (fun _ h9 => h9) rfl dX11_leans_52 ?_
        refine lv_aload_n hx hb dX11_leans_55 rfl (lv_at hl 0 rfl) ?_
        refine lv_iload_n hx hb dX11_leans_56 rfl (lv_at hl 1 rfl) ?_
        refine hj_i (ws := (WL cy zL zT zR zI zJ)) (w1 := fun (u : Unit) => (WL cy zL zT zR zI zJ)) (va_runV (As := [.int zia]) (rest := [.ref (zR zy 0)]) ⟨hx, hb, hml, hown, hts⟩ (t_X11_dateAt l dC dI cy H.size zL zT zR zI zJ zy zia hs h_zI.1 t_zy (by omega)) (cwV 1 hts gX11_leans_X11_dateAt rfl rfl rfl (by decide +kernel) ⟨(Nat.le_of_ble_eq_true rfl), (Nat.le_of_ble_eq_true rfl)⟩) (PRE.v hP hK hD hN (ht_recv hK hP hs t_zy (by decide) rfl rfl)) rfl rfl hl.1 rfl (lv_room (Nat.le_of_ble_eq_true rfl)) dX11_leans_57 ⟨(Nat.le_of_ble_eq_true rfl), (Nat.le_of_ble_eq_true rfl)⟩) hP hD hS hA (fun zi_35 u_37 H locs hw_36 hP hD hS => ?_)
        obtain ⟨b_zi_35, ps_38⟩ : (278 ≤ zi_35.toInt ∧ zi_35.toInt ≤ 326) ∧ (zi_35.toInt = 278 + 6 * zia.toInt) := hw_36
        refine ht_iald (n := 392) (q := 0) hx hb hK hP hs t_2 (by decide) rfl rfl ⟨by omega, by omega⟩ dX11_leans_60 ?_
        refine lv_topi (fun zi_39 ezi_39 => ?_)
        have la_40 : zi_39.toInt = zA (zI (zR zy 0)) (278 + 6 * zia.toInt) := (congrArg Int32.toInt (show zI (zR zy 0) zi_35.toNatClampNeg = zi_39 from ezi_39.symm).symm).trans (congrArg (zA (zI (zR zy 0))) (show zi_35.toInt = 278 + 6 * zia.toInt from by omega))
        have bz_41 : 0 ≤ zi_39.toInt ∧ zi_39.toInt ≤ 1 := by omega
        have cc_42 : zA (zI (zR zy 0)) (5 + zi_39.toInt) = zA (zI (zR zy 0)) (5 + zi_24.toInt) := congrArg (zA (zI (zR zy 0))) (by omega)
        refine lv_istore (lv' := [(4, .int zi_39), (0, .ref zy), (1, .int zia), (2, .int zib), (3, .int zic)]) hx hb dX11_leans_61 hl (by decide) rfl (fun ls hl => ?_)
        refine lv_aload_n hx hb dX11_leans_63 rfl (lv_at hl 1 rfl) ?_
        refine lv_iload hx hb dX11_leans_64 (lv_at hl 0 rfl) ?_
        refine lv_iload_n hx hb dX11_leans_66 rfl (lv_at hl 3 rfl) ?_
        refine hj_i (ws := (WL cy zL zT zR zI zJ)) (w1 := fun (u : Unit) => (WL cy zL zT zR zI zJ)) (va_runV (As := [.int zi_39, .int zib]) (rest := []) ⟨hx, hb, hml, hown, hts⟩ (t_X11_kindOf l dC dI cy H.size zL zT zR zI zJ zy zi_39 zib hs h_zI.1 t_zy (by omega) (by omega) hz) (cwV 2 hts gX11_leans_X11_kindOf rfl rfl rfl (by decide +kernel) ⟨(Nat.le_of_ble_eq_true rfl), (Nat.le_of_ble_eq_true rfl)⟩) (PRE.v hP hK hD hN (ht_recv hK hP hs t_zy (by decide) rfl rfl)) rfl rfl hl.1 rfl (lv_room (Nat.le_of_ble_eq_true rfl)) dX11_leans_67 ⟨(Nat.le_of_ble_eq_true rfl), (Nat.le_of_ble_eq_true rfl)⟩) hP hD hS hA (fun zi_43 u_45 H locs hw_44 hP hD hS => ?_)
        have ps_46 : zi_43.toInt = zA (zI (zR zy 0)) (158 + 12 * zi_39.toInt + zib.toInt) := hw_44
        have rzi_43 := rng zi_43
        refine lv_iconst (v := 2) hx hb dX11_leans_70 (by decide) ?_
        refine lv_icmp_ne (tgt := 78) hx hb dX11_leans_71 (by decide) (fun c_47 => ?_) (fun c_47 => ?_)
        · have f_48 : zi_43.toInt ≠ (2 : Int) := ic_ne (rfl) (show (2 : Int32).toInt = 2 by decide) c_47
          refine lv_aload_n hx hb dX11_leans_78 rfl (lv_at hl 1 rfl) ?_
          refine lv_iload hx hb dX11_leans_79 (lv_at hl 0 rfl) ?_
          refine hj_i (ws := (WL cy zL zT zR zI zJ)) (w1 := fun (u : Unit) => (WL cy zL zT zR zI zJ)) (va_runV (As := [.int zi_39]) (rest := []) ⟨hx, hb, hml, hown, hts⟩ (t_X11_binding l dC dI cy H.size zL zT zR zI zJ zy zi_39 hs h_zI.1 t_zy (by omega) hz) (cwV 1 hts gX11_leans_X11_binding rfl rfl rfl (by decide +kernel) ⟨(Nat.le_of_ble_eq_true rfl), (Nat.le_of_ble_eq_true rfl)⟩) (PRE.v hP hK hD hN (ht_recv hK hP hs t_zy (by decide) rfl rfl)) rfl rfl hl.1 rfl (lv_room (Nat.le_of_ble_eq_true rfl)) dX11_leans_81 ⟨(Nat.le_of_ble_eq_true rfl), (Nat.le_of_ble_eq_true rfl)⟩) hP hD hS hA (fun zi_49 u_51 H locs hw_50 hP hD hS => ?_)
          obtain ⟨b_zi_49, ps_52⟩ : (0 ≤ zi_49.toInt ∧ zi_49.toInt ≤ 255) ∧ (BQ (zI (zR zy 0)) zi_39.toInt zi_49) := hw_50
          refine lv_iconst (v := 1) hx hb dX11_leans_84 (by decide) ?_
          refine lv_iload_n hx hb dX11_leans_85 rfl (lv_at hl 2 rfl) ?_
          refine lv_ishl hx hb dX11_leans_86 ?_
          refine lv_topi (fun zi_53 ezi_53 => ?_)
          have rzi_53 := rng zi_53
          refine lv_iconst (v := (-1)) hx hb dX11_leans_87 (by decide) ?_
          refine lv_ixor hx hb dX11_leans_88 ?_
          refine lv_topi (fun zi_54 ezi_54 => ?_)
          have rzi_54 := rng zi_54
          refine lv_iand hx hb dX11_leans_89 ?_
          refine lv_topi (fun zi_55 ezi_55 => ?_)
          have rzi_55 := rng zi_55
          refine lv_istore (lv' := [(5, .int zi_55), (4, .int zi_39), (0, .ref zy), (1, .int zia), (2, .int zib), (3, .int zic)]) hx hb dX11_leans_90 hl (by decide) rfl (fun ls hl => ?_)
          refine lv_aload_n hx hb dX11_leans_92 rfl (lv_at hl 2 rfl) ?_
          refine lv_iload hx hb dX11_leans_93 (lv_at hl 1 rfl) ?_
          refine lv_iload hx hb dX11_leans_95 (lv_at hl 0 rfl) ?_
          refine lv_iconst (v := 1) hx hb dX11_leans_97 (by decide) ?_
          refine lv_iload_n hx hb dX11_leans_98 rfl (lv_at hl 3 rfl) ?_
          refine lv_ishl hx hb dX11_leans_99 ?_
          refine lv_topi (fun zi_56 ezi_56 => ?_)
          have rzi_56 := rng zi_56
          refine lv_ior hx hb dX11_leans_100 ?_
          refine lv_topi (fun zi_57 ezi_57 => ?_)
          have rzi_57 := rng zi_57
          refine hj_v (ws := (WL cy zL zT zR zI zJ)) (w1 := fun (u : (Nat → Nat → Int32) × (Nat → Nat → Int64)) => (WL cy zL zT zR u.1 u.2)) (va_runV (As := [.int zi_39, .int zi_57]) (rest := []) ⟨hx, hb, hml, hown, hts⟩ (t_X11_countAll l dC dI cy H.size zL zT zR zI zJ zy zi_39 zi_57 hs h_zI.1 t_zy (by omega) hz (BQ.o (d := zia) (BQ.a ps_52 ezi_55) (by omega) (by omega) (by omega) ezi_56 ezi_57)) (cwV 2 hts gX11_leans_X11_countAll rfl rfl rfl (by decide +kernel) ⟨(Nat.le_of_ble_eq_true rfl), (Nat.le_of_ble_eq_true rfl)⟩) (PRE.v hP hK hD hN (ht_recv hK hP hs t_zy (by decide) rfl rfl)) rfl rfl hl.1 rfl (lv_room (Nat.le_of_ble_eq_true rfl)) dX11_leans_101 ⟨(Nat.le_of_ble_eq_true rfl), (Nat.le_of_ble_eq_true rfl)⟩) hP hD hS hA (fun u_60 H locs hw_59 hP hD hS => ?_)
          obtain ⟨zI_61, zJ_62⟩ := u_60
          obtain ⟨k_zI_61, ps_63, ps_64, ps_65, ps_66, ps_67⟩ : (WM [1806, 1807, 10300, 10400, 10500, 10600, 10700] AL zT zR zI zI_61) ∧ (PO (zI (zR zy 0)) (zI_61 (zR zy 8)) zi_39.toInt (zI_61 zy 6).toInt) ∧ ((zI_61 zy 6).toInt = PLZ (zI (zR zy 0)) zi_39.toInt) ∧ (zJ_62 zy 15 = CT zR zI_61 zy) ∧ (0 ≤ (zJ_62 zy 15).toInt ∧ (zJ_62 zy 15).toInt ≤ 1000000000) ∧ (zJ_62 zy 20 = zJ zy 20) := hw_59
          have h_zI_61 : WM [1806, 1807, 10300, 10400, 10500, 10600, 10700] AL zT zR zI zI_61 := h_zI.tr k_zI_61 (by decide) (fun _ _ => trivial)
          obtain ⟨zi_68, ezi_68⟩ : ∃ y : Int32, y = zI_61 zy 6 := ⟨_, rfl⟩
          have tzi_68 : 0 ≤ zi_68.toInt ∧ zi_68.toInt ≤ 12 := by rw [ezi_68]; exact h_zI_61.at t_zy _ rfl
          have lk_69 : (zI_61 zy 6).toInt = zi_68.toInt := congrArg Int32.toInt ezi_68.symm
          refine lv_aload_n hx hb dX11_leans_104 rfl (lv_at hl 2 rfl) ?_
          refine lv_aload_n hx hb dX11_leans_105 rfl (lv_at hl 2 rfl) ?_
          refine lv_iload_n hx hb dX11_leans_106 rfl (lv_at hl 4 rfl) ?_
          refine hj_i (ws := (WL cy zL zT zR zI_61 zJ_62)) (w1 := fun (u : Unit) => (WL cy zL zT zR zI_61 zJ_62)) (va_runV (As := [.int zib]) (rest := [.ref zy]) ⟨hx, hb, hml, hown, hts⟩ (t_X11_placeOf l dC dI cy H.size zL zT zR zI_61 zJ_62 zy zib hs h_zI_61.1 t_zy (PO.at ps_63 (by omega) (by omega) (by omega))) (cwV 1 hts gX11_leans_X11_placeOf rfl rfl rfl (by decide +kernel) ⟨(Nat.le_of_ble_eq_true rfl), (Nat.le_of_ble_eq_true rfl)⟩) (PRE.v hP hK hD hN (ht_recv hK hP hs t_zy (by decide) rfl rfl)) rfl rfl hl.1 rfl (lv_room (Nat.le_of_ble_eq_true rfl)) dX11_leans_107 ⟨(Nat.le_of_ble_eq_true rfl), (Nat.le_of_ble_eq_true rfl)⟩) hP hD hS hA (fun zi_70 u_72 H locs hw_71 hP hD hS => ?_)
          obtain ⟨b_zi_70, ps_73⟩ : ((-4) ≤ zi_70.toInt ∧ zi_70.toInt ≤ 11) ∧ (0 ≤ zi_70.toInt ∧ zi_70.toInt < (zI_61 zy 6).toInt) := hw_71
          have b8_zi_70 : 0 ≤ zi_70.toInt ∧ zi_70.toInt ≤ 11 := by omega
          refine lv_iload_n hx hb dX11_leans_110 rfl (lv_at hl 5 rfl) ?_
          refine hj_i (ws := (WL cy zL zT zR zI_61 zJ_62)) (w1 := fun (u : Unit) => (WL cy zL zT zR zI_61 zJ_62)) (va_runV (As := [.int zi_70, .int zic]) (rest := []) ⟨hx, hb, hml, hown, hts⟩ (t_X11_endOf l dC dI cy H.size zL zT zR zI_61 zJ_62 zy zi_70 zic hs h_zI_61.1 t_zy (by omega)) (cwV 2 hts gX11_leans_X11_endOf rfl rfl rfl (by decide +kernel) ⟨(Nat.le_of_ble_eq_true rfl), (Nat.le_of_ble_eq_true rfl)⟩) (PRE.v hP hK hD hN (ht_recv hK hP hs t_zy (by decide) rfl rfl)) rfl rfl hl.1 rfl (lv_room (Nat.le_of_ble_eq_true rfl)) dX11_leans_111 ⟨(Nat.le_of_ble_eq_true rfl), (Nat.le_of_ble_eq_true rfl)⟩) hP hD hS hA (fun zi_74 u_76 H locs hw_75 hP hD hS => ?_)
          have b_zi_74 : (-4) ≤ zi_74.toInt ∧ zi_74.toInt ≤ 23 := hw_75
          refine lv_istore (lv' := [(6, .int zi_74), (5, .int zi_55), (4, .int zi_39), (0, .ref zy), (1, .int zia), (2, .int zib), (3, .int zic)]) hx hb dX11_leans_114 hl (by decide) rfl (fun ls hl => ?_)
          refine lv_aload_n hx hb dX11_leans_116 rfl (lv_at hl 3 rfl) ?_
          refine lv_iload hx hb dX11_leans_117 (lv_at hl 2 rfl) ?_
          refine lv_iload hx hb dX11_leans_119 (lv_at hl 1 rfl) ?_
          have zz_77 : ZI (zI_61 (zR zy 0)) := by rw [(k_zI_61.2.row t_2 (by decide) (by decide))]; exact hz
          refine hj_v (ws := (WL cy zL zT zR zI_61 zJ_62)) (w1 := fun (u : (Nat → Nat → Int32) × (Nat → Nat → Int64)) => (WL cy zL zT zR u.1 u.2)) (va_runV (As := [.int zi_39, .int zi_55]) (rest := []) ⟨hx, hb, hml, hown, hts⟩ (t_X11_countAll l dC dI cy H.size zL zT zR zI_61 zJ_62 zy zi_39 zi_55 hs h_zI_61.1 t_zy (by omega) zz_77 (by rw [(h_zI_61.2.row t_2 (by decide) (by decide))]; exact BQ.a ps_52 ezi_55)) (cwV 2 hts gX11_leans_X11_countAll rfl rfl rfl (by decide +kernel) ⟨(Nat.le_of_ble_eq_true rfl), (Nat.le_of_ble_eq_true rfl)⟩) (PRE.v hP hK hD hN (ht_recv hK hP hs t_zy (by decide) rfl rfl)) rfl rfl hl.1 rfl (lv_room (Nat.le_of_ble_eq_true rfl)) dX11_leans_121 ⟨(Nat.le_of_ble_eq_true rfl), (Nat.le_of_ble_eq_true rfl)⟩) hP hD hS hA (fun u_80 H locs hw_79 hP hD hS => ?_)
          obtain ⟨zI_81, zJ_82⟩ := u_80
          obtain ⟨k_zI_81, ps_83, ps_84, ps_85, ps_86, ps_87⟩ : (WM [1806, 1807, 10300, 10400, 10500, 10600, 10700] AL zT zR zI_61 zI_81) ∧ (PO (zI_61 (zR zy 0)) (zI_81 (zR zy 8)) zi_39.toInt (zI_81 zy 6).toInt) ∧ ((zI_81 zy 6).toInt = PLZ (zI_61 (zR zy 0)) zi_39.toInt) ∧ (zJ_82 zy 15 = CT zR zI_81 zy) ∧ (0 ≤ (zJ_82 zy 15).toInt ∧ (zJ_82 zy 15).toInt ≤ 1000000000) ∧ (zJ_82 zy 20 = zJ_62 zy 20) := hw_79
          have h_zI_81 : WM [1806, 1807, 10300, 10400, 10500, 10600, 10700] AL zT zR zI zI_81 := h_zI_61.tr k_zI_81 (by decide) (fun _ _ => trivial)
          obtain ⟨zi_88, ezi_88⟩ : ∃ y : Int32, y = zI_81 zy 6 := ⟨_, rfl⟩
          have tzi_88 : 0 ≤ zi_88.toInt ∧ zi_88.toInt ≤ 12 := by rw [ezi_88]; exact h_zI_81.at t_zy _ rfl
          have lk_89 : (zI_81 zy 6).toInt = zi_88.toInt := congrArg Int32.toInt ezi_88.symm
          refine lv_aload_n hx hb dX11_leans_124 rfl (lv_at hl 3 rfl) ?_
          refine lv_aload_n hx hb dX11_leans_125 rfl (lv_at hl 3 rfl) ?_
          refine lv_iload_n hx hb dX11_leans_126 rfl (lv_at hl 5 rfl) ?_
          refine hj_i (ws := (WL cy zL zT zR zI_81 zJ_82)) (w1 := fun (u : Unit) => (WL cy zL zT zR zI_81 zJ_82)) (va_runV (As := [.int zib]) (rest := [.ref zy]) ⟨hx, hb, hml, hown, hts⟩ (t_X11_placeOf l dC dI cy H.size zL zT zR zI_81 zJ_82 zy zib hs h_zI_81.1 t_zy (by have q9 := ps_83; rw [show zI_61 (zR zy 0) = zI (zR zy 0) from h_zI_61.2.row t_2 (by decide) (by decide)] at q9; exact PO.at q9 (by omega) (by omega) (by omega))) (cwV 1 hts gX11_leans_X11_placeOf rfl rfl rfl (by decide +kernel) ⟨(Nat.le_of_ble_eq_true rfl), (Nat.le_of_ble_eq_true rfl)⟩) (PRE.v hP hK hD hN (ht_recv hK hP hs t_zy (by decide) rfl rfl)) rfl rfl hl.1 rfl (lv_room (Nat.le_of_ble_eq_true rfl)) dX11_leans_127 ⟨(Nat.le_of_ble_eq_true rfl), (Nat.le_of_ble_eq_true rfl)⟩) hP hD hS hA (fun zi_90 u_92 H locs hw_91 hP hD hS => ?_)
          obtain ⟨b_zi_90, ps_93⟩ : ((-4) ≤ zi_90.toInt ∧ zi_90.toInt ≤ 11) ∧ (0 ≤ zi_90.toInt ∧ zi_90.toInt < (zI_81 zy 6).toInt) := hw_91
          have b8_zi_90 : 0 ≤ zi_90.toInt ∧ zi_90.toInt ≤ 11 := by omega
          refine lv_iload_n hx hb dX11_leans_130 rfl (lv_at hl 6 rfl) ?_
          refine hj_i (ws := (WL cy zL zT zR zI_81 zJ_82)) (w1 := fun (u : Unit) => (WL cy zL zT zR zI_81 zJ_82)) (va_runV (As := [.int zi_90, .int zic]) (rest := []) ⟨hx, hb, hml, hown, hts⟩ (t_X11_endOf l dC dI cy H.size zL zT zR zI_81 zJ_82 zy zi_90 zic hs h_zI_81.1 t_zy (by omega)) (cwV 2 hts gX11_leans_X11_endOf rfl rfl rfl (by decide +kernel) ⟨(Nat.le_of_ble_eq_true rfl), (Nat.le_of_ble_eq_true rfl)⟩) (PRE.v hP hK hD hN (ht_recv hK hP hs t_zy (by decide) rfl rfl)) rfl rfl hl.1 rfl (lv_room (Nat.le_of_ble_eq_true rfl)) dX11_leans_131 ⟨(Nat.le_of_ble_eq_true rfl), (Nat.le_of_ble_eq_true rfl)⟩) hP hD hS hA (fun zi_94 u_96 H locs hw_95 hP hD hS => ?_)
          have b_zi_94 : (-4) ≤ zi_94.toInt ∧ zi_94.toInt ≤ 23 := hw_95
          refine lv_istore (lv' := [(7, .int zi_94), (6, .int zi_74), (5, .int zi_55), (4, .int zi_39), (0, .ref zy), (1, .int zia), (2, .int zib), (3, .int zic)]) hx hb dX11_leans_134 hl (by decide) rfl (fun ls hl => ?_)
          refine lv_iload hx hb dX11_leans_136 (lv_at hl 1 rfl) ?_
          refine lv_if_lt (tgt := 146) hx hb dX11_leans_138 (by decide) (fun c_97 => ?_) (fun c_97 => ?_)
          · have f_98 : zi_74.toInt < 0 := ic_lt (rfl) (by decide) c_97
            refine lv_sipush (v := (-1004)) hx hb dX11_leans_146 (by decide) ?_
            refine lv_goto (tgt := 157) hx hb dX11_leans_149 (by decide) ?_
            subst hQ
            have qc_m1004 : (-1004 : Int32).toInt = -1004 := by decide
            exact W.iret (v := (-1004 : Int32)) hx hb hr (fun t ht hW => ⟨⟨(-1004 : Int32), (zI_81, zJ_82), rfl, ⟨h_zI_81, (show (-1012) ≤ (-1004 : Int32).toInt ∧ (-1004 : Int32).toInt ≤ 23 from by omega)⟩, ⟨by rw [ht]; exact hP, va_K.moved hW.alike hK, hD⟩⟩, hS.F ht⟩) hS.2.2 dX11_leans_157
          · have f_98 : ¬ (zi_74.toInt < 0) := ic_nlt (rfl) (by decide) c_97
            refine lv_iload hx hb dX11_leans_141 (lv_at hl 0 rfl) ?_
            refine lv_if_ge (tgt := 152) hx hb dX11_leans_143 (by decide) (fun c_99 => ?_) (fun c_99 => ?_)
            · have f_100 : zi_94.toInt ≥ 0 := ic_ge (rfl) (by decide) c_99
              refine lv_iload hx hb dX11_leans_152 (lv_at hl 0 rfl) ?_
              refine lv_iload hx hb dX11_leans_154 (lv_at hl 1 rfl) ?_
              refine lv_isub hx hb dX11_leans_156 ?_
              refine lv_topi (fun zi_101 ezi_101 => ?_)
              have tzi_101 : zi_101.toInt = zi_94.toInt - zi_74.toInt := by rw [ezi_101]; exact tisub (rfl) (rfl) (by omega) (by omega)
              subst hQ
              exact W.iret (v := zi_101) hx hb hr (fun t ht hW => ⟨⟨zi_101, (zI_81, zJ_82), rfl, ⟨h_zI_81, (show (-1012) ≤ zi_101.toInt ∧ zi_101.toInt ≤ 23 from by omega)⟩, ⟨by rw [ht]; exact hP, va_K.moved hW.alike hK, hD⟩⟩, hS.F ht⟩) hS.2.2 dX11_leans_157
            · have f_100 : ¬ (zi_94.toInt ≥ 0) := ic_nge (rfl) (by decide) c_99
              refine lv_sipush (v := (-1004)) hx hb dX11_leans_146 (by decide) ?_
              refine lv_goto (tgt := 157) hx hb dX11_leans_149 (by decide) ?_
              subst hQ
              have qc_m1004 : (-1004 : Int32).toInt = -1004 := by decide
              exact W.iret (v := (-1004 : Int32)) hx hb hr (fun t ht hW => ⟨⟨(-1004 : Int32), (zI_81, zJ_82), rfl, ⟨h_zI_81, (show (-1012) ≤ (-1004 : Int32).toInt ∧ (-1004 : Int32).toInt ≤ 23 from by omega)⟩, ⟨by rw [ht]; exact hP, va_K.moved hW.alike hK, hD⟩⟩, hS.F ht⟩) hS.2.2 dX11_leans_157
        · have f_48 : ¬ (zi_43.toInt ≠ (2 : Int)) := ic_nne (rfl) (show (2 : Int32).toInt = 2 by decide) c_47
          refine lv_sipush (v := (-1012)) hx hb dX11_leans_74 (by decide) ?_
          subst hQ
          have qc_m1012 : (-1012 : Int32).toInt = -1012 := by decide
          exact W.iret (v := (-1012 : Int32)) hx hb hr (fun t ht hW => ⟨⟨(-1012 : Int32), (zI, zJ), rfl, ⟨h_zI, (show (-1012) ≤ (-1012 : Int32).toInt ∧ (-1012 : Int32).toInt ≤ 23 from by omega)⟩, ⟨by rw [ht]; exact hP, va_K.moved hW.alike hK, hD⟩⟩, hS.F ht⟩) hS.2.2 dX11_leans_77
      · have f_33 : ¬ (zi_27.toInt ≠ 0) := ic_nne (rfl) (by decide) c_32
        refine lv_sipush (v := (-1001)) hx hb dX11_leans_47 (by decide) ?_
        subst hQ
        have qc_m1001 : (-1001 : Int32).toInt = -1001 := by decide
        exact W.iret (v := (-1001 : Int32)) hx hb hr (fun t ht hW => ⟨⟨(-1001 : Int32), (zI, zJ), rfl, ⟨h_zI, (show (-1012) ≤ (-1001 : Int32).toInt ∧ (-1001 : Int32).toInt ≤ 23 from by omega)⟩, ⟨by rw [ht]; exact hP, va_K.moved hW.alike hK, hD⟩⟩, hS.F ht⟩) hS.2.2 dX11_leans_50
set_option maxHeartbeats 8000000 in
set_option maxRecDepth 100000 in
theorem t_X11_judge (l : Launch) (dC : Nat → ClassId) (dI : Nat → Nat → Nat) (cy : Nat → ClassId) (sz : Nat) (zL : List Nat) (zT : Nat → Nat) (zR : Nat → Nat → Nat) (zI : Nat → Nat → Int32) (zJ : Nat → Nat → Int64) (zy : Nat) (zia : Int32) (zib : Int32) (zic : Int32) (zid : Int32) (hs : SKP zL zT zR) (hw : WT zT zR zI) (t_zy : zT zy = 18) (hz : ZI (zI (zR zy 0))) : Met l yX11_judge wsX11_judge ({ frames := 3, cells := 0, slots := 0, locals := 71 } : Room) (va_Pc [.ref zy, .int zia, .int zib, .int zic, .int zid] (PRE dC dI cy (WL cy zL zT zR zI zJ) sz)) (va_Qi (fun (r : Int32) (u : (Nat → Nat → Int32)) => (WM [1806, 1807, 10300, 10400, 10500, 10600, 10700] AL zT zR zI u) ∧ ((-13) ≤ r.toInt ∧ r.toInt ≤ 11)) (fun u t => POST dC dI cy (va_A (WL cy zL zT zR zI zJ) sz) (WL cy zL zT zR u zJ) t) (va_A (WL cy zL zT zR zI zJ) sz)) 0 0 (va_A (WL cy zL zT zR zI zJ) sz) := by
  refine Met.ofW (cc := cX11_judge) (maxL := 10) (ret := (some .int)) (by decide) rfl ?_
  intro p e s m args below meth c s₁ B hml hv
  obtain ⟨rfl, hsz, hP, hK, hD0, hN⟩ := hv
  have hx := B.exec
  have hb := B.bytes
  have hr := B.returns
  have hts := atoms_spec (ws := wsX11_judge) B.pre
  have hown : s.vm.findClass RX11 = some m.cls := findClass_of_methodNamed B.named
  have hlocks := B.notSynchronized
  subst hsz
  have hD := hD0.self (sz := s.heap.size)
  generalize hAe : va_A (WL cy zL zT zR zI zJ) s.heap.size = A at hD ⊢
  have hA : ∀ q : Nat, s.heap.size ≤ q → A q := fun q h => by rw [← hAe]; exact Or.inr h
  have hS : va_S A s.heap s.heap [] := va_S.rf
  have hP : va_P (dC, dI) vwCl (WL cy zL zT zR zI zJ) s.heap := hP
  have hl := lv_entry ([.ref zy, .int zia, .int zib, .int zic, .int zid] : List Value) (n := 10) (Nat.le_of_ble_eq_true rfl)
  rw [lg_entry_eq]
  generalize (lg_sl ([.ref zy, .int zia, .int zib, .int zic, .int zid] : List Value) ++ List.replicate (10 - (lg_sl ([.ref zy, .int zia, .int zib, .int zic, .int zid] : List Value)).length) Slot.unset).toArray = ls at hl ⊢
  have hl : lv_has ls 10 [(0, .ref zy), (1, .int zia), (2, .int zib), (3, .int zic), (4, .int zid)] := hl
  refine w_q (fun Q hQ => ?_)
  have h_zI : WM [1806, 1807, 10300, 10400, 10500, 10600, 10700] AL zT zR zI zI := WM.rf hw
  refine lv_iload_n hx hb dX11_judge_0 rfl (lv_at hl 1 rfl) ?_
  refine hj0_i (ws := (WL cy zL zT zR zI zJ)) (va_runS (As := [.int zia]) (rest := []) ⟨hx, hb, hml, hown, hts⟩ (c_X11_isCandle l dC dI cy s.heap.size zia) (va_cwS 1 hts gX11_judge_X11_isCandle rfl rfl rfl (by decide +kernel) ⟨(Nat.le_of_ble_eq_true rfl), (Nat.le_of_ble_eq_true rfl)⟩) (PRE.s (hP.sub [] rfl) hK (hD.sub [] (by decide) rfl) hN) rfl rfl hl.1 rfl (lv_room (Nat.le_of_ble_eq_true rfl)) dX11_judge_1 ⟨(Nat.le_of_ble_eq_true rfl), (Nat.le_of_ble_eq_true rfl)⟩) hP hD hS hA (fun zi_1 u_3 H locs hw_2 hP hD hS => ?_)
  have hw_2 : zi_1 = if 0 ≤ zia.toInt ∧ zia.toInt ≤ 1 then 1 else 0 := hw_2
  have b_zi_1 : 0 ≤ zi_1.toInt ∧ zi_1.toInt ≤ 1 := bz_b hw_2
  refine lv_if_eq (tgt := 15) hx hb dX11_judge_4 (by decide) (fun c_4 => ?_) (fun c_4 => ?_)
  · have f_5 : ¬ (0 ≤ zia.toInt ∧ zia.toInt ≤ 1) := bz_0 hw_2 c_4
    refine lv_iconst (v := (-1)) hx hb dX11_judge_15 (by decide) ?_
    subst hQ
    have qc_m1 : (-1 : Int32).toInt = -1 := by decide
    exact W.iret (v := (-1 : Int32)) hx hb hr (fun t ht hW => ⟨⟨(-1 : Int32), zI, rfl, ⟨h_zI, (show (-13) ≤ (-1 : Int32).toInt ∧ (-1 : Int32).toInt ≤ 11 from by omega)⟩, ⟨by rw [ht]; exact hP, va_K.moved hW.alike hK, hD⟩⟩, hS.F ht⟩) hS.2.2 dX11_judge_16
  · have f_5 : 0 ≤ zia.toInt ∧ zia.toInt ≤ 1 := bz_1 hw_2 c_4
    refine lv_iload_n hx hb dX11_judge_7 rfl (lv_at hl 2 rfl) ?_
    refine lv_iload_n hx hb dX11_judge_8 rfl (lv_at hl 3 rfl) ?_
    refine hj0_i (ws := (WL cy zL zT zR zI zJ)) (va_runS (As := [.int zib, .int zic]) (rest := []) ⟨hx, hb, hml, hown, hts⟩ (c_X11_isSheet l dC dI cy H.size zib zic) (va_cwS 2 hts gX11_judge_X11_isSheet rfl rfl rfl (by decide +kernel) ⟨(Nat.le_of_ble_eq_true rfl), (Nat.le_of_ble_eq_true rfl)⟩) (PRE.s (hP.sub [] rfl) hK (hD.sub [] (by decide) rfl) hN) rfl rfl hl.1 rfl (lv_room (Nat.le_of_ble_eq_true rfl)) dX11_judge_9 ⟨(Nat.le_of_ble_eq_true rfl), (Nat.le_of_ble_eq_true rfl)⟩) hP hD hS hA (fun zi_6 u_8 H locs hw_7 hP hD hS => ?_)
    have hw_7 : zi_6 = if (0 ≤ zib.toInt ∧ zib.toInt ≤ 3) ∧ 0 ≤ zic.toInt ∧ zic.toInt ≤ 2 then 1 else 0 := hw_7
    have b_zi_6 : 0 ≤ zi_6.toInt ∧ zi_6.toInt ≤ 1 := bz_b hw_7
    refine lv_if_ne (tgt := 17) hx hb dX11_judge_12 (by decide) (fun c_9 => ?_) (fun c_9 => ?_)
    · have f_10 : (0 ≤ zib.toInt ∧ zib.toInt ≤ 3) ∧ 0 ≤ zic.toInt ∧ zic.toInt ≤ 2 := bz_1 hw_7 c_9
      refine lv_aload_n hx hb dX11_judge_17 rfl (lv_at hl 0 rfl) ?_
      refine lv_iload_n hx hb dX11_judge_18 rfl (lv_at hl 1 rfl) ?_
      refine hj_i (ws := (WL cy zL zT zR zI zJ)) (w1 := fun (u : Unit) => (WL cy zL zT zR zI zJ)) (va_runV (As := [.int zia]) (rest := []) ⟨hx, hb, hml, hown, hts⟩ (t_X11_placesOf l dC dI cy H.size zL zT zR zI zJ zy zia hs h_zI.1 t_zy (by omega) hz) (cwV 1 hts gX11_judge_X11_placesOf rfl rfl rfl (by decide +kernel) ⟨(Nat.le_of_ble_eq_true rfl), (Nat.le_of_ble_eq_true rfl)⟩) (PRE.v hP hK hD hN (ht_recv hK hP hs t_zy (by decide) rfl rfl)) rfl rfl hl.1 rfl (lv_room (Nat.le_of_ble_eq_true rfl)) dX11_judge_19 ⟨(Nat.le_of_ble_eq_true rfl), (Nat.le_of_ble_eq_true rfl)⟩) hP hD hS hA (fun zi_11 u_13 H locs hw_12 hP hD hS => ?_)
      obtain ⟨b_zi_11, ps_14⟩ : (0 ≤ zi_11.toInt ∧ zi_11.toInt ≤ 12) ∧ (zi_11.toInt = PLZ (zI (zR zy 0)) zia.toInt) := hw_12
      refine lv_if_ne (tgt := 28) hx hb dX11_judge_22 (by decide) (fun c_15 => ?_) (fun c_15 => ?_)
      · have f_16 : zi_11.toInt ≠ 0 := ic_ne (rfl) (by decide) c_15
        refine lv_aload_n hx hb dX11_judge_28 rfl (lv_at hl 0 rfl) ?_
        refine lv_iload_n hx hb dX11_judge_29 rfl (lv_at hl 2 rfl) ?_
        refine lv_iload_n hx hb dX11_judge_30 rfl (lv_at hl 3 rfl) ?_
        refine lv_iload hx hb dX11_judge_31 (lv_at hl 4 rfl) ?_
        refine lv_aload_n hx hb dX11_judge_33 rfl (lv_at hl 0 rfl) ?_
        refine lv_iload_n hx hb dX11_judge_34 rfl (lv_at hl 1 rfl) ?_
        refine hj_i (ws := (WL cy zL zT zR zI zJ)) (w1 := fun (u : Unit) => (WL cy zL zT zR zI zJ)) (va_runV (As := [.int zia]) (rest := [.int zid, .int zic, .int zib, .ref zy]) ⟨hx, hb, hml, hown, hts⟩ (t_X11_placesOf l dC dI cy H.size zL zT zR zI zJ zy zia hs h_zI.1 t_zy (by omega) hz) (cwV 1 hts gX11_judge_X11_placesOf rfl rfl rfl (by decide +kernel) ⟨(Nat.le_of_ble_eq_true rfl), (Nat.le_of_ble_eq_true rfl)⟩) (PRE.v hP hK hD hN (ht_recv hK hP hs t_zy (by decide) rfl rfl)) rfl rfl hl.1 rfl (lv_room (Nat.le_of_ble_eq_true rfl)) dX11_judge_35 ⟨(Nat.le_of_ble_eq_true rfl), (Nat.le_of_ble_eq_true rfl)⟩) hP hD hS hA (fun zi_17 u_19 H locs hw_18 hP hD hS => ?_)
        obtain ⟨b_zi_17, ps_20⟩ : (0 ≤ zi_17.toInt ∧ zi_17.toInt ≤ 12) ∧ (zi_17.toInt = PLZ (zI (zR zy 0)) zia.toInt) := hw_18
        refine hj_i (ws := (WL cy zL zT zR zI zJ)) (w1 := fun (u : Unit) => (WL cy zL zT zR zI zJ)) (va_runV (As := [.int zib, .int zic, .int zid, .int zi_17]) (rest := []) ⟨hx, hb, hml, hown, hts⟩ (t_X11_lacksRow l dC dI cy H.size zL zT zR zI zJ zy zib zic zid zi_17 hs h_zI.1 t_zy (by omega) (by omega) (by omega)) (cwV 4 hts gX11_judge_X11_lacksRow rfl rfl rfl (by decide +kernel) ⟨(Nat.le_of_ble_eq_true rfl), (Nat.le_of_ble_eq_true rfl)⟩) (PRE.v hP hK hD hN (ht_recv hK hP hs t_zy (by decide) rfl rfl)) rfl rfl hl.1 rfl (lv_room (Nat.le_of_ble_eq_true rfl)) dX11_judge_38 ⟨(Nat.le_of_ble_eq_true rfl), (Nat.le_of_ble_eq_true rfl)⟩) hP hD hS hA (fun zi_21 u_23 H locs hw_22 hP hD hS => ?_)
        obtain ⟨b_zi_21, ps_24, ps_25, ps_26⟩ : ((-13) ≤ zi_21.toInt ∧ zi_21.toInt ≤ 0) ∧ (¬ (zi_21.toInt = 0) ∨ (0 ≤ zid.toInt ∧ zid.toInt ≤ 24)) ∧ (¬ (zi_21.toInt = 0) ∨ zid.toInt + zi_17.toInt ≤ 24) ∧ (zi_21.toInt = LKS (zI (zR zy 25) zib.toNatClampNeg).toInt (zI (zR zy 26) zib.toNatClampNeg).toInt zic.toInt zid.toInt zi_17.toInt) := hw_22
        refine lv_istore (lv' := [(5, .int zi_21), (0, .ref zy), (1, .int zia), (2, .int zib), (3, .int zic), (4, .int zid)]) hx hb dX11_judge_41 hl (by decide) rfl (fun ls hl => ?_)
        refine lv_iload hx hb dX11_judge_43 (lv_at hl 0 rfl) ?_
        refine lv_if_ge (tgt := 51) hx hb dX11_judge_45 (by decide) (fun c_27 => ?_) (fun c_27 => ?_)
        · have f_28 : zi_21.toInt ≥ 0 := ic_ge (rfl) (by decide) c_27
          have b9_zid : 0 ≤ zid.toInt ∧ zid.toInt ≤ 24 := by omega
          refine lv_aload_n hx hb dX11_judge_51 rfl (lv_at hl 1 rfl) ?_
          refine lv_iload_n hx hb dX11_judge_52 rfl (lv_at hl 2 rfl) ?_
          refine lv_aload_n hx hb dX11_judge_53 rfl (lv_at hl 1 rfl) ?_
          refine lv_iload_n hx hb dX11_judge_54 rfl (lv_at hl 2 rfl) ?_
          refine hj_i (ws := (WL cy zL zT zR zI zJ)) (w1 := fun (u : Unit) => (WL cy zL zT zR zI zJ)) (va_runV (As := [.int zia]) (rest := [.int zia, .ref zy]) ⟨hx, hb, hml, hown, hts⟩ (t_X11_binding l dC dI cy H.size zL zT zR zI zJ zy zia hs h_zI.1 t_zy (by omega) hz) (cwV 1 hts gX11_judge_X11_binding rfl rfl rfl (by decide +kernel) ⟨(Nat.le_of_ble_eq_true rfl), (Nat.le_of_ble_eq_true rfl)⟩) (PRE.v hP hK hD hN (ht_recv hK hP hs t_zy (by decide) rfl rfl)) rfl rfl hl.1 rfl (lv_room (Nat.le_of_ble_eq_true rfl)) dX11_judge_55 ⟨(Nat.le_of_ble_eq_true rfl), (Nat.le_of_ble_eq_true rfl)⟩) hP hD hS hA (fun zi_29 u_31 H locs hw_30 hP hD hS => ?_)
          obtain ⟨b_zi_29, ps_32⟩ : (0 ≤ zi_29.toInt ∧ zi_29.toInt ≤ 255) ∧ (BQ (zI (zR zy 0)) zia.toInt zi_29) := hw_30
          refine hj_v (ws := (WL cy zL zT zR zI zJ)) (w1 := fun (u : (Nat → Nat → Int32)) => (WL cy zL zT zR u zJ)) (va_runV (As := [.int zia, .int zi_29]) (rest := []) ⟨hx, hb, hml, hown, hts⟩ (t_X11_lay l dC dI cy H.size zL zT zR zI zJ zy zia zi_29 hs h_zI.1 t_zy (by omega) hz ps_32) (cwV 2 hts gX11_judge_X11_lay rfl rfl rfl (by decide +kernel) ⟨(Nat.le_of_ble_eq_true rfl), (Nat.le_of_ble_eq_true rfl)⟩) (PRE.v hP hK hD hN (ht_recv hK hP hs t_zy (by decide) rfl rfl)) rfl rfl hl.1 rfl (lv_room (Nat.le_of_ble_eq_true rfl)) dX11_judge_58 ⟨(Nat.le_of_ble_eq_true rfl), (Nat.le_of_ble_eq_true rfl)⟩) hP hD hS hA (fun zI_36 H locs hw_34 hP hD hS => ?_)
          obtain ⟨k_zI_36, ps_37, ps_38⟩ : (WM [1806, 1807, 10300, 10400, 10500, 10600, 10700] AL zT zR zI zI_36) ∧ (PO (zI (zR zy 0)) (zI_36 (zR zy 8)) zia.toInt (zI_36 zy 6).toInt) ∧ ((zI_36 zy 6).toInt = PLZ (zI (zR zy 0)) zia.toInt) := hw_34
          have h_zI_36 : WM [1806, 1807, 10300, 10400, 10500, 10600, 10700] AL zT zR zI zI_36 := h_zI.tr k_zI_36 (by decide) (fun _ _ => trivial)
          obtain ⟨zi_39, ezi_39⟩ : ∃ y : Int32, y = zI_36 zy 6 := ⟨_, rfl⟩
          have tzi_39 : 0 ≤ zi_39.toInt ∧ zi_39.toInt ≤ 12 := by rw [ezi_39]; exact h_zI_36.at t_zy _ rfl
          have lk_40 : (zI_36 zy 6).toInt = zi_39.toInt := congrArg Int32.toInt ezi_39.symm
          refine lv_iconst (v := 1) hx hb dX11_judge_61 (by decide) ?_
          refine lv_istore (lv' := [(6, .int 1), (5, .int zi_21), (0, .ref zy), (1, .int zia), (2, .int zib), (3, .int zic), (4, .int zid)]) hx hb dX11_judge_62 hl (by decide) rfl (fun ls hl => ?_)
          refine lv_iconst (v := 0) hx hb dX11_judge_64 (by decide) ?_
          refine lv_istore (lv' := [(7, .int 0), (6, .int 1), (5, .int zi_21), (0, .ref zy), (1, .int zia), (2, .int zib), (3, .int zic), (4, .int zid)]) hx hb dX11_judge_65 hl (by decide) rfl (fun ls hl => ?_)
          have lp_193 : ∀ (n : Nat) (zi_109 : Int32) (zi_110 : Int32) (H : Heap) (locs : List Loc) (ls : Array Slot), (12 - zi_110.toInt).toNat = n → (1 ≤ zi_109.toInt ∧ zi_109.toInt ≤ 4) → (0 ≤ zi_110.toInt ∧ zi_110.toInt ≤ 12) → (ZI (zI_36 (zR zy 0))) → va_P (dC, dI) vwCl (WL cy zL zT zR zI_36 zJ) H → va_D A (WL cy zL zT zR zI_36 zJ) → va_S A s.heap H locs → lv_has ls 10 [(0, .ref zy), (1, .int zia), (2, .int zib), (3, .int zic), (4, .int zid), (5, .int zi_21), (6, .int zi_109), (7, .int zi_110)] → W p l e ({ frames := 3, cells := 0, slots := 0, locals := 71 } : Room) s m ([.ref zy, .int zia, .int zib, .int zic, .int zid] : List Value).toArray below meth c H locs 0 0 Q (F0 m 67 ls []) := by
            intro n
            induction n using Nat.strongRecOn with
            | _ n ih_193 =>
              intro zi_109 zi_110 H locs ls hn b_zi_109 b_zi_110 e_lp_193_0 hP hD hS hl
              refine lv_iload hx hb dX11_judge_67 (lv_at hl 7 rfl) ?_
              refine lv_aload_n hx hb dX11_judge_69 rfl (lv_at hl 0 rfl) ?_
              refine ht_geti (C := RX11) (T := TX11) (N := 28) hx hb hts (by decide +kernel) hown hK hP hs t_zy (by decide) rfl rfl 6 (by decide) (hts (.fieldLink RX11 192 "DripStoneModel" "places" "I") (by decide +kernel)) (fun _ h9 => h9) rfl dX11_judge_70 ?_
              refine lv_topi (fun zi_194 ezi_194 => ?_)
              obtain rfl : zi_39 = zi_194 := (ezi_194.trans ezi_39.symm).symm
              refine lv_icmp_ge (tgt := 194) hx hb dX11_judge_73 (by decide) (fun c_195 => ?_) (fun c_195 => ?_)
              · have f_196 : zi_110.toInt ≥ zi_39.toInt := ic_ge (rfl) (rfl) c_195
                refine lv_bipush (v := (-4)) hx hb dX11_judge_194 (by decide) ?_
                subst hQ
                have qc_m4 : (-4 : Int32).toInt = -4 := by decide
                exact W.iret (v := (-4 : Int32)) hx hb hr (fun t ht hW => ⟨⟨(-4 : Int32), zI_36, rfl, ⟨h_zI_36, (show (-13) ≤ (-4 : Int32).toInt ∧ (-4 : Int32).toInt ≤ 11 from by omega)⟩, ⟨by rw [ht]; exact hP, va_K.moved hW.alike hK, hD⟩⟩, hS.F ht⟩) hS.2.2 dX11_judge_196
              · have f_196 : ¬ (zi_110.toInt ≥ zi_39.toInt) := ic_nge (rfl) (rfl) c_195
                refine lv_aload_n hx hb dX11_judge_76 rfl (lv_at hl 0 rfl) ?_
                refine ht_getr (C := RX11) (T := TX11) (N := 28) hx hb hts (by decide +kernel) hown hK hP hs t_zy (by decide) rfl rfl 27 (by decide) (hts (.fieldLink RX11 65 "DripStoneModel" "items" "[I") (by decide +kernel)) (fun _ h9 => h9) rfl dX11_judge_77 ?_
                have t_197 : zT (zR zy 27) = 112 := sk_f hs t_zy (by decide) rfl (by decide)
                refine lv_bipush (v := 24) hx hb dX11_judge_80 (by decide) ?_
                refine lv_iload_n hx hb dX11_judge_82 rfl (lv_at hl 2 rfl) ?_
                refine lv_imul hx hb dX11_judge_83 ?_
                refine lv_topi (fun zi_198 ezi_198 => ?_)
                have tzi_198 : zi_198.toInt = (24 : Int) * zib.toInt := by rw [ezi_198]; exact timul (show (24 : Int32).toInt = 24 by decide) (rfl) (by omega) (by omega)
                refine lv_iload hx hb dX11_judge_84 (lv_at hl 4 rfl) ?_
                refine lv_iadd hx hb dX11_judge_86 ?_
                refine lv_topi (fun zi_199 ezi_199 => ?_)
                have tzi_199 : zi_199.toInt = zi_198.toInt + zid.toInt := by rw [ezi_199]; exact tiadd (rfl) (rfl) (by omega) (by omega)
                refine lv_iload hx hb dX11_judge_87 (lv_at hl 7 rfl) ?_
                refine lv_iadd hx hb dX11_judge_89 ?_
                refine lv_topi (fun zi_200 ezi_200 => ?_)
                have tzi_200 : zi_200.toInt = zi_199.toInt + zi_110.toInt := by rw [ezi_200]; exact tiadd (rfl) (rfl) (by omega) (by omega)
                refine ht_iald (n := 96) (q := 0) hx hb hK hP hs t_197 (by decide) rfl rfl ⟨by omega, by omega⟩ dX11_judge_90 ?_
                refine lv_topi (fun zi_201 ezi_201 => ?_)
                refine lv_istore (lv' := [(8, .int zi_201), (0, .ref zy), (1, .int zia), (2, .int zib), (3, .int zic), (4, .int zid), (5, .int zi_21), (6, .int zi_109), (7, .int zi_110)]) hx hb dX11_judge_91 hl (by decide) rfl (fun ls hl => ?_)
                refine lv_iload hx hb dX11_judge_93 (lv_at hl 0 rfl) ?_
                refine hj0_i (ws := (WL cy zL zT zR zI_36 zJ)) (va_runS (As := [.int zi_201]) (rest := []) ⟨hx, hb, hml, hown, hts⟩ (c_X11_isYear l dC dI cy H.size zi_201) (va_cwS 1 hts gX11_judge_X11_isYear rfl rfl rfl (by decide +kernel) ⟨(Nat.le_of_ble_eq_true rfl), (Nat.le_of_ble_eq_true rfl)⟩) (PRE.s (hP.sub [] rfl) hK (hD.sub [] (by decide) rfl) hN) rfl rfl hl.1 rfl (lv_room (Nat.le_of_ble_eq_true rfl)) dX11_judge_95 ⟨(Nat.le_of_ble_eq_true rfl), (Nat.le_of_ble_eq_true rfl)⟩) hP hD hS hA (fun zi_202 u_204 H locs hw_203 hP hD hS => ?_)
                have hw_203 : zi_202 = if 0 ≤ zi_201.toInt ∧ zi_201.toInt ≤ 23 then 1 else 0 := hw_203
                have b_zi_202 : 0 ≤ zi_202.toInt ∧ zi_202.toInt ≤ 1 := bz_b hw_203
                refine lv_if_eq (tgt := 121) hx hb dX11_judge_98 (by decide) (fun c_205 => ?_) (fun c_205 => ?_)
                · have f_206 : ¬ (0 ≤ zi_201.toInt ∧ zi_201.toInt ≤ 23) := bz_0 hw_203 c_205
                  refine lv_iconst (v := 0) hx hb dX11_judge_121 (by decide) ?_
                  refine lv_istore (lv' := [(9, .int 0), (8, .int zi_201), (0, .ref zy), (1, .int zia), (2, .int zib), (3, .int zic), (4, .int zid), (5, .int zi_21), (6, .int zi_109), (7, .int zi_110)]) hx hb dX11_judge_122 hl (by decide) rfl (fun ls hl => ?_)
                  refine lv_iload hx hb dX11_judge_124 (lv_at hl 0 rfl) ?_
                  refine lv_if_eq (tgt := 175) hx hb dX11_judge_126 (by decide) (fun c_207 => ?_) (fun c_207 => absurd (by decide) c_207)
                  refine lv_iload hx hb dX11_judge_175 (lv_at hl 0 rfl) ?_
                  refine lv_if_ne (tgt := 188) hx hb dX11_judge_177 (by decide) (fun c_208 => absurd (by decide) c_208) (fun c_208 => ?_)
                  refine lv_aload_n hx hb dX11_judge_180 rfl (lv_at hl 2 rfl) ?_
                  refine ht_getr (C := RX11) (T := TX11) (N := 28) hx hb hts (by decide +kernel) hown hK hP hs t_zy (by decide) rfl rfl 8 (by decide) (hts (.fieldLink RX11 19 "DripStoneModel" "placeThing" "[I") (by decide +kernel)) (fun _ h9 => h9) rfl dX11_judge_181 ?_
                  have t_209 : zT (zR zy 8) = 103 := sk_f hs t_zy (by decide) rfl (by decide)
                  refine lv_iload hx hb dX11_judge_184 (lv_at hl 9 rfl) ?_
                  refine ht_iald (n := 12) (q := 0) hx hb hK hP hs t_209 (by decide) rfl rfl ⟨by omega, by omega⟩ dX11_judge_186 ?_
                  refine lv_topi (fun zi_210 ezi_210 => ?_)
                  have tzi_210 : 0 ≤ zi_210.toInt ∧ zi_210.toInt ≤ 11 := by rw [ezi_210]; exact h_zI_36.at t_209 _ rfl
                  have la_211 : zi_210.toInt = zA (zI_36 (zR zy 8)) (zi_110.toInt) := (congrArg Int32.toInt (show zI_36 (zR zy 8) zi_110.toNatClampNeg = zi_210 from ezi_210.symm).symm).trans (congrArg (zA (zI_36 (zR zy 8))) (show zi_110.toInt = zi_110.toInt from by omega))
                  subst hQ
                  exact W.iret (v := zi_210) hx hb hr (fun t ht hW => ⟨⟨zi_210, zI_36, rfl, ⟨h_zI_36, (show (-13) ≤ zi_210.toInt ∧ zi_210.toInt ≤ 11 from by omega)⟩, ⟨by rw [ht]; exact hP, va_K.moved hW.alike hK, hD⟩⟩, hS.F ht⟩) hS.2.2 dX11_judge_187
                · have f_206 : 0 ≤ zi_201.toInt ∧ zi_201.toInt ≤ 23 := bz_1 hw_203 c_205
                  refine lv_aload_n hx hb dX11_judge_101 rfl (lv_at hl 1 rfl) ?_
                  refine ht_getr (C := RX11) (T := TX11) (N := 28) hx hb hts (by decide +kernel) hown hK hP hs t_zy (by decide) rfl rfl 9 (by decide) (hts (.fieldLink RX11 22 "DripStoneModel" "mayYears" "[I") (by decide +kernel)) (fun _ h9 => h9) rfl dX11_judge_102 ?_
                  have t_212 : zT (zR zy 9) = 104 := sk_f hs t_zy (by decide) rfl (by decide)
                  refine lv_iload hx hb dX11_judge_105 (lv_at hl 8 rfl) ?_
                  refine ht_iald (n := 12) (q := 0) hx hb hK hP hs t_212 (by decide) rfl rfl ⟨by omega, by omega⟩ dX11_judge_107 ?_
                  refine lv_topi (fun zi_213 ezi_213 => ?_)
                  refine lv_iload hx hb dX11_judge_108 (lv_at hl 0 rfl) ?_
                  refine lv_ishr hx hb dX11_judge_110 ?_
                  refine lv_topi (fun zi_214 ezi_214 => ?_)
                  have rzi_214 := rng zi_214
                  refine lv_iconst (v := 1) hx hb dX11_judge_111 (by decide) ?_
                  refine lv_iand hx hb dX11_judge_112 ?_
                  refine lv_topi (fun zi_215 ezi_215 => ?_)
                  have tzi_215 : 0 ≤ zi_215.toInt ∧ zi_215.toInt ≤ 1 := by rw [ezi_215]; exact andb (k := 1) (by decide) (by decide) (by decide)
                  refine lv_iconst (v := 1) hx hb dX11_judge_113 (by decide) ?_
                  refine lv_icmp_ne (tgt := 121) hx hb dX11_judge_114 (by decide) (fun c_216 => ?_) (fun c_216 => ?_)
                  · have f_217 : zi_215.toInt ≠ (1 : Int) := ic_ne (rfl) (show (1 : Int32).toInt = 1 by decide) c_216
                    refine lv_iconst (v := 0) hx hb dX11_judge_121 (by decide) ?_
                    refine lv_istore (lv' := [(9, .int 0), (8, .int zi_201), (0, .ref zy), (1, .int zia), (2, .int zib), (3, .int zic), (4, .int zid), (5, .int zi_21), (6, .int zi_109), (7, .int zi_110)]) hx hb dX11_judge_122 hl (by decide) rfl (fun ls hl => ?_)
                    refine lv_iload hx hb dX11_judge_124 (lv_at hl 0 rfl) ?_
                    refine lv_if_eq (tgt := 175) hx hb dX11_judge_126 (by decide) (fun c_218 => ?_) (fun c_218 => absurd (by decide) c_218)
                    refine lv_iload hx hb dX11_judge_175 (lv_at hl 0 rfl) ?_
                    refine lv_if_ne (tgt := 188) hx hb dX11_judge_177 (by decide) (fun c_219 => absurd (by decide) c_219) (fun c_219 => ?_)
                    refine lv_aload_n hx hb dX11_judge_180 rfl (lv_at hl 2 rfl) ?_
                    refine ht_getr (C := RX11) (T := TX11) (N := 28) hx hb hts (by decide +kernel) hown hK hP hs t_zy (by decide) rfl rfl 8 (by decide) (hts (.fieldLink RX11 19 "DripStoneModel" "placeThing" "[I") (by decide +kernel)) (fun _ h9 => h9) rfl dX11_judge_181 ?_
                    have t_220 : zT (zR zy 8) = 103 := sk_f hs t_zy (by decide) rfl (by decide)
                    refine lv_iload hx hb dX11_judge_184 (lv_at hl 9 rfl) ?_
                    refine ht_iald (n := 12) (q := 0) hx hb hK hP hs t_220 (by decide) rfl rfl ⟨by omega, by omega⟩ dX11_judge_186 ?_
                    refine lv_topi (fun zi_221 ezi_221 => ?_)
                    have tzi_221 : 0 ≤ zi_221.toInt ∧ zi_221.toInt ≤ 11 := by rw [ezi_221]; exact h_zI_36.at t_220 _ rfl
                    have la_222 : zi_221.toInt = zA (zI_36 (zR zy 8)) (zi_110.toInt) := (congrArg Int32.toInt (show zI_36 (zR zy 8) zi_110.toNatClampNeg = zi_221 from ezi_221.symm).symm).trans (congrArg (zA (zI_36 (zR zy 8))) (show zi_110.toInt = zi_110.toInt from by omega))
                    subst hQ
                    exact W.iret (v := zi_221) hx hb hr (fun t ht hW => ⟨⟨zi_221, zI_36, rfl, ⟨h_zI_36, (show (-13) ≤ zi_221.toInt ∧ zi_221.toInt ≤ 11 from by omega)⟩, ⟨by rw [ht]; exact hP, va_K.moved hW.alike hK, hD⟩⟩, hS.F ht⟩) hS.2.2 dX11_judge_187
                  · have f_217 : ¬ (zi_215.toInt ≠ (1 : Int)) := ic_nne (rfl) (show (1 : Int32).toInt = 1 by decide) c_216
                    refine lv_iconst (v := 1) hx hb dX11_judge_117 (by decide) ?_
                    refine lv_goto (tgt := 122) hx hb dX11_judge_118 (by decide) ?_
                    refine lv_istore (lv' := [(9, .int 1), (8, .int zi_201), (0, .ref zy), (1, .int zia), (2, .int zib), (3, .int zic), (4, .int zid), (5, .int zi_21), (6, .int zi_109), (7, .int zi_110)]) hx hb dX11_judge_122 hl (by decide) rfl (fun ls hl => ?_)
                    refine lv_iload hx hb dX11_judge_124 (lv_at hl 0 rfl) ?_
                    refine lv_if_eq (tgt := 175) hx hb dX11_judge_126 (by decide) (fun c_223 => absurd c_223 (by decide)) (fun c_223 => ?_)
                    refine lv_iload hx hb dX11_judge_129 (lv_at hl 9 rfl) ?_
                    refine lv_if_le (tgt := 175) hx hb dX11_judge_131 (by decide) (fun c_224 => ?_) (fun c_224 => ?_)
                    · have f_225 : zi_110.toInt ≤ 0 := ic_le (rfl) (by decide) c_224
                      refine lv_iload hx hb dX11_judge_175 (lv_at hl 0 rfl) ?_
                      refine lv_if_ne (tgt := 188) hx hb dX11_judge_177 (by decide) (fun c_226 => ?_) (fun c_226 => absurd c_226 (by decide))
                      obtain ⟨zi_227, ezi_227⟩ : ∃ y : Int32, y = zi_110 + 1 := ⟨_, rfl⟩
                      have tzi_227 : zi_227.toInt = zi_110.toInt + 1 := by rw [ezi_227]; exact tadd rfl (show (1 : Int32).toInt = 1 by decide) (by omega) (by omega)
                      refine lv_iinc (v := zi_227) (lv' := [(7, .int zi_227), (9, .int 1), (8, .int zi_201), (0, .ref zy), (1, .int zia), (2, .int zib), (3, .int zic), (4, .int zid), (5, .int zi_21), (6, .int zi_109)]) hx hb dX11_judge_188 hl (k := 9) rfl (by rw [ezi_227]; rfl) (by decide) rfl (fun ls hl => ?_)
                      refine lv_goto (tgt := 67) hx hb dX11_judge_191 (by decide) ?_
                      exact ih_193 (12 - zi_227.toInt).toNat (by omega) zi_109 zi_227 _ _ _ rfl (by omega) (by omega) e_lp_193_0 hP hD hS (lv_sub hl [3, 4, 5, 6, 7, 8, 9, 0] rfl)
                    · have f_225 : ¬ (zi_110.toInt ≤ 0) := ic_nle (rfl) (by decide) c_224
                      refine lv_aload_n hx hb dX11_judge_134 rfl (lv_at hl 2 rfl) ?_
                      refine lv_iload hx hb dX11_judge_135 (lv_at hl 9 rfl) ?_
                      refine lv_aload_n hx hb dX11_judge_137 rfl (lv_at hl 2 rfl) ?_
                      refine ht_getr (C := RX11) (T := TX11) (N := 28) hx hb hts (by decide +kernel) hown hK hP hs t_zy (by decide) rfl rfl 27 (by decide) (hts (.fieldLink RX11 65 "DripStoneModel" "items" "[I") (by decide +kernel)) (fun _ h9 => h9) rfl dX11_judge_138 ?_
                      refine lv_bipush (v := 24) hx hb dX11_judge_141 (by decide) ?_
                      refine lv_iload_n hx hb dX11_judge_143 rfl (lv_at hl 4 rfl) ?_
                      refine lv_imul hx hb dX11_judge_144 ?_
                      refine lv_topi (fun zi_228 ezi_228 => ?_)
                      have tzi_228 : zi_228.toInt = (24 : Int) * zib.toInt := by rw [ezi_228]; exact timul (show (24 : Int32).toInt = 24 by decide) (rfl) (by omega) (by omega)
                      refine lv_iload hx hb dX11_judge_145 (lv_at hl 6 rfl) ?_
                      refine lv_iadd hx hb dX11_judge_147 ?_
                      refine lv_topi (fun zi_229 ezi_229 => ?_)
                      have tzi_229 : zi_229.toInt = zi_228.toInt + zid.toInt := by rw [ezi_229]; exact tiadd (rfl) (rfl) (by omega) (by omega)
                      refine lv_iload hx hb dX11_judge_148 (lv_at hl 9 rfl) ?_
                      refine lv_iadd hx hb dX11_judge_150 ?_
                      refine lv_topi (fun zi_230 ezi_230 => ?_)
                      have tzi_230 : zi_230.toInt = zi_229.toInt + zi_110.toInt := by rw [ezi_230]; exact tiadd (rfl) (rfl) (by omega) (by omega)
                      refine lv_iconst (v := 1) hx hb dX11_judge_151 (by decide) ?_
                      refine lv_isub hx hb dX11_judge_152 ?_
                      refine lv_topi (fun zi_231 ezi_231 => ?_)
                      have tzi_231 : zi_231.toInt = zi_230.toInt - (1 : Int) := by rw [ezi_231]; exact tisub (rfl) (show (1 : Int32).toInt = 1 by decide) (by omega) (by omega)
                      refine ht_iald (n := 96) (q := 0) hx hb hK hP hs t_197 (by decide) rfl rfl ⟨by omega, by omega⟩ dX11_judge_153 ?_
                      refine lv_topi (fun zi_232 ezi_232 => ?_)
                      refine lv_iload hx hb dX11_judge_154 (lv_at hl 8 rfl) ?_
                      refine lv_iload hx hb dX11_judge_156 (lv_at hl 1 rfl) ?_
                      refine hj_i (ws := (WL cy zL zT zR zI_36 zJ)) (w1 := fun (u : Unit) => (WL cy zL zT zR zI_36 zJ)) (va_runV (As := [.int zi_110, .int zi_232, .int zi_109, .int zi_201]) (rest := []) ⟨hx, hb, hml, hown, hts⟩ (t_X11_runBehind l dC dI cy H.size zL zT zR zI_36 zJ zy zi_110 zi_232 zi_109 zi_201 hs h_zI_36.1 t_zy (by omega) (by omega)) (cwV 4 hts gX11_judge_X11_runBehind rfl rfl rfl (by decide +kernel) ⟨(Nat.le_of_ble_eq_true rfl), (Nat.le_of_ble_eq_true rfl)⟩) (PRE.v hP hK hD hN (ht_recv hK hP hs t_zy (by decide) rfl rfl)) rfl rfl hl.1 rfl (lv_room (Nat.le_of_ble_eq_true rfl)) dX11_judge_158 ⟨(Nat.le_of_ble_eq_true rfl), (Nat.le_of_ble_eq_true rfl)⟩) hP hD hS hA (fun zi_233 u_235 H locs hw_234 hP hD hS => ?_)
                      have b_zi_233 : 0 ≤ zi_233.toInt ∧ zi_233.toInt ≤ 4 := hw_234
                      refine lv_istore (lv' := [(6, .int zi_233), (9, .int 1), (8, .int zi_201), (0, .ref zy), (1, .int zia), (2, .int zib), (3, .int zic), (4, .int zid), (5, .int zi_21), (7, .int zi_110)]) hx hb dX11_judge_161 hl (by decide) rfl (fun ls hl => ?_)
                      refine lv_iload hx hb dX11_judge_163 (lv_at hl 0 rfl) ?_
                      refine lv_if_le (tgt := 172) hx hb dX11_judge_165 (by decide) (fun c_236 => ?_) (fun c_236 => ?_)
                      · have f_237 : zi_233.toInt ≤ 0 := ic_le (rfl) (by decide) c_236
                        refine lv_iconst (v := 0) hx hb dX11_judge_172 (by decide) ?_
                        refine lv_istore (lv' := [(9, .int 0), (6, .int zi_233), (8, .int zi_201), (0, .ref zy), (1, .int zia), (2, .int zib), (3, .int zic), (4, .int zid), (5, .int zi_21), (7, .int zi_110)]) hx hb dX11_judge_173 hl (by decide) rfl (fun ls hl => ?_)
                        refine lv_iload hx hb dX11_judge_175 (lv_at hl 0 rfl) ?_
                        refine lv_if_ne (tgt := 188) hx hb dX11_judge_177 (by decide) (fun c_238 => absurd (by decide) c_238) (fun c_238 => ?_)
                        refine lv_aload_n hx hb dX11_judge_180 rfl (lv_at hl 3 rfl) ?_
                        refine ht_getr (C := RX11) (T := TX11) (N := 28) hx hb hts (by decide +kernel) hown hK hP hs t_zy (by decide) rfl rfl 8 (by decide) (hts (.fieldLink RX11 19 "DripStoneModel" "placeThing" "[I") (by decide +kernel)) (fun _ h9 => h9) rfl dX11_judge_181 ?_
                        have t_239 : zT (zR zy 8) = 103 := sk_f hs t_zy (by decide) rfl (by decide)
                        refine lv_iload hx hb dX11_judge_184 (lv_at hl 9 rfl) ?_
                        refine ht_iald (n := 12) (q := 0) hx hb hK hP hs t_239 (by decide) rfl rfl ⟨by omega, by omega⟩ dX11_judge_186 ?_
                        refine lv_topi (fun zi_240 ezi_240 => ?_)
                        have tzi_240 : 0 ≤ zi_240.toInt ∧ zi_240.toInt ≤ 11 := by rw [ezi_240]; exact h_zI_36.at t_239 _ rfl
                        have la_241 : zi_240.toInt = zA (zI_36 (zR zy 8)) (zi_110.toInt) := (congrArg Int32.toInt (show zI_36 (zR zy 8) zi_110.toNatClampNeg = zi_240 from ezi_240.symm).symm).trans (congrArg (zA (zI_36 (zR zy 8))) (show zi_110.toInt = zi_110.toInt from by omega))
                        subst hQ
                        exact W.iret (v := zi_240) hx hb hr (fun t ht hW => ⟨⟨zi_240, zI_36, rfl, ⟨h_zI_36, (show (-13) ≤ zi_240.toInt ∧ zi_240.toInt ≤ 11 from by omega)⟩, ⟨by rw [ht]; exact hP, va_K.moved hW.alike hK, hD⟩⟩, hS.F ht⟩) hS.2.2 dX11_judge_187
                      · have f_237 : ¬ (zi_233.toInt ≤ 0) := ic_nle (rfl) (by decide) c_236
                        refine lv_iconst (v := 1) hx hb dX11_judge_168 (by decide) ?_
                        refine lv_goto (tgt := 173) hx hb dX11_judge_169 (by decide) ?_
                        refine lv_istore (lv' := [(9, .int 1), (6, .int zi_233), (8, .int zi_201), (0, .ref zy), (1, .int zia), (2, .int zib), (3, .int zic), (4, .int zid), (5, .int zi_21), (7, .int zi_110)]) hx hb dX11_judge_173 hl (by decide) rfl (fun ls hl => ?_)
                        refine lv_iload hx hb dX11_judge_175 (lv_at hl 0 rfl) ?_
                        refine lv_if_ne (tgt := 188) hx hb dX11_judge_177 (by decide) (fun c_242 => ?_) (fun c_242 => absurd c_242 (by decide))
                        obtain ⟨zi_243, ezi_243⟩ : ∃ y : Int32, y = zi_110 + 1 := ⟨_, rfl⟩
                        have tzi_243 : zi_243.toInt = zi_110.toInt + 1 := by rw [ezi_243]; exact tadd rfl (show (1 : Int32).toInt = 1 by decide) (by omega) (by omega)
                        refine lv_iinc (v := zi_243) (lv' := [(7, .int zi_243), (9, .int 1), (6, .int zi_233), (8, .int zi_201), (0, .ref zy), (1, .int zia), (2, .int zib), (3, .int zic), (4, .int zid), (5, .int zi_21)]) hx hb dX11_judge_188 hl (k := 9) rfl (by rw [ezi_243]; rfl) (by decide) rfl (fun ls hl => ?_)
                        refine lv_goto (tgt := 67) hx hb dX11_judge_191 (by decide) ?_
                        exact ih_193 (12 - zi_243.toInt).toNat (by omega) zi_233 zi_243 _ _ _ rfl (by omega) (by omega) e_lp_193_0 hP hD hS (lv_sub hl [4, 5, 6, 7, 8, 9, 2, 0] rfl)
          have qc_1 : (1 : Int32).toInt = 1 := by decide
          have qc_0 : (0 : Int32).toInt = 0 := by decide
          have t_244 : zT (zR zy 0) = 100 := sk_f hs t_zy (by decide) rfl (by decide)
          have zz_245 : ZI (zI_36 (zR zy 0)) := by rw [(k_zI_36.2.row t_244 (by decide) (by decide))]; exact hz
          exact lp_193 _ (1 : Int32) (0 : Int32) _ _ _ rfl (by decide) (by decide) zz_245 hP hD hS (lv_sub hl [3, 4, 5, 6, 7, 2, 1, 0] rfl)
        · have f_28 : ¬ (zi_21.toInt ≥ 0) := ic_nge (rfl) (by decide) c_27
          refine lv_iload hx hb dX11_judge_48 (lv_at hl 0 rfl) ?_
          subst hQ
          exact W.iret (v := zi_21) hx hb hr (fun t ht hW => ⟨⟨zi_21, zI, rfl, ⟨h_zI, (show (-13) ≤ zi_21.toInt ∧ zi_21.toInt ≤ 11 from by omega)⟩, ⟨by rw [ht]; exact hP, va_K.moved hW.alike hK, hD⟩⟩, hS.F ht⟩) hS.2.2 dX11_judge_50
      · have f_16 : ¬ (zi_11.toInt ≠ 0) := ic_nne (rfl) (by decide) c_15
        refine lv_bipush (v := (-2)) hx hb dX11_judge_25 (by decide) ?_
        subst hQ
        have qc_m2 : (-2 : Int32).toInt = -2 := by decide
        exact W.iret (v := (-2 : Int32)) hx hb hr (fun t ht hW => ⟨⟨(-2 : Int32), zI, rfl, ⟨h_zI, (show (-13) ≤ (-2 : Int32).toInt ∧ (-2 : Int32).toInt ≤ 11 from by omega)⟩, ⟨by rw [ht]; exact hP, va_K.moved hW.alike hK, hD⟩⟩, hS.F ht⟩) hS.2.2 dX11_judge_27
    · have f_10 : ¬ ((0 ≤ zib.toInt ∧ zib.toInt ≤ 3) ∧ 0 ≤ zic.toInt ∧ zic.toInt ≤ 2) := bz_0 hw_7 c_9
      refine lv_iconst (v := (-1)) hx hb dX11_judge_15 (by decide) ?_
      subst hQ
      have qc_m1 : (-1 : Int32).toInt = -1 := by decide
      exact W.iret (v := (-1 : Int32)) hx hb hr (fun t ht hW => ⟨⟨(-1 : Int32), zI, rfl, ⟨h_zI, (show (-13) ≤ (-1 : Int32).toInt ∧ (-1 : Int32).toInt ≤ 11 from by omega)⟩, ⟨by rw [ht]; exact hP, va_K.moved hW.alike hK, hD⟩⟩, hS.F ht⟩) hS.2.2 dX11_judge_16
