set_option maxHeartbeats 8000000 in
set_option maxRecDepth 100000 in
theorem t_X11_wetBy (l : Launch) (dC : Nat → ClassId) (dI : Nat → Nat → Nat) (cy : Nat → ClassId) (sz : Nat) (zL : List Nat) (zT : Nat → Nat) (zR : Nat → Nat → Nat) (zI : Nat → Nat → Int32) (zJ : Nat → Nat → Int64) (zy : Nat) (ziy : Int32) (zik : Int32) (hs : SKP zL zT zR) (hw : WT zT zR zI) (t_zy : zT zy = 18) (b_ziy : 0 ≤ ziy.toInt ∧ ziy.toInt ≤ 23) (b_zik : 1 ≤ zik.toInt ∧ zik.toInt ≤ 5) : Met l yX11_wetBy wsX11_wetBy ({ frames := 0, cells := 0, slots := 0, locals := 0 } : Room) (va_Pc [.ref zy, .int ziy, .int zik] (PRE dC dI cy (WL cy zL zT zR zI zJ) sz)) (va_Qi (fun (r : Int32) (u : Unit) => (r = WS (zI (zR zy 0)) (zik.toInt).toNat ziy.toInt 0)) (fun u t => POST dC dI cy (va_A (WL cy zL zT zR zI zJ) sz) (WL cy zL zT zR zI zJ) t) (va_A (WL cy zL zT zR zI zJ) sz)) 0 0 (va_A (WL cy zL zT zR zI zJ) sz) := by
  refine Met.ofW (cc := cX11_wetBy) (maxL := 5) (ret := (some .int)) (by decide) rfl ?_
  intro p e s m args below meth c s₁ B hml hv
  obtain ⟨rfl, hsz, hP, hK, hD0, hN⟩ := hv
  have hx := B.exec
  have hb := B.bytes
  have hr := B.returns
  have hts := atoms_spec (ws := wsX11_wetBy) B.pre
  have hown : s.vm.findClass RX11 = some m.cls := findClass_of_methodNamed B.named
  have hlocks := B.notSynchronized
  subst hsz
  have hD := hD0.self (sz := s.heap.size)
  generalize hAe : va_A (WL cy zL zT zR zI zJ) s.heap.size = A at hD ⊢
  have hA : ∀ q : Nat, s.heap.size ≤ q → A q := fun q h => by rw [← hAe]; exact Or.inr h
  have hS : va_S A s.heap s.heap [] := va_S.rf
  have hP : va_P (dC, dI) vwCl (WL cy zL zT zR zI zJ) s.heap := hP
  have hl := lv_entry ([.ref zy, .int ziy, .int zik] : List Value) (n := 5) (Nat.le_of_ble_eq_true rfl)
  rw [lg_entry_eq]
  generalize (lg_sl ([.ref zy, .int ziy, .int zik] : List Value) ++ List.replicate (5 - (lg_sl ([.ref zy, .int ziy, .int zik] : List Value)).length) Slot.unset).toArray = ls at hl ⊢
  have hl : lv_has ls 5 [(0, .ref zy), (1, .int ziy), (2, .int zik)] := hl
  refine w_q (fun Q hQ => ?_)
  have h_zI : WM [] AL zT zR zI zI := WM.rf hw
  refine lv_iconst (v := 0) hx hb dX11_wetBy_0 (by decide) ?_
  refine lv_istore_n (lv' := [(3, .int 0), (0, .ref zy), (1, .int ziy), (2, .int zik)]) hx hb dX11_wetBy_1 rfl hl (by decide) rfl (fun ls hl => ?_)
  refine lv_iload_n hx hb dX11_wetBy_2 rfl (lv_at hl 2 rfl) ?_
  refine lv_istore (lv' := [(4, .int ziy), (3, .int 0), (0, .ref zy), (1, .int ziy), (2, .int zik)]) hx hb dX11_wetBy_3 hl (by decide) rfl (fun ls hl => ?_)
  have lp_263 : ∀ (n : Nat) (zi_13 : Int32) (zi_14 : Int32) (H : Heap) (locs : List Loc) (ls : Array Slot), (zi_14.toInt + 1).toNat = n → ((-1) ≤ zi_14.toInt ∧ zi_14.toInt ≤ 23) → (WS (zI (zR zy 0)) (zik.toInt).toNat ziy.toInt 0 = WS (zI (zR zy 0)) (zi_14.toInt - (ziy.toInt - zik.toInt)).toNat zi_14.toInt zi_13) → (ziy.toInt - zik.toInt ≤ zi_14.toInt ∧ zi_14.toInt ≤ ziy.toInt) → va_P (dC, dI) vwCl (WL cy zL zT zR zI zJ) H → va_D A (WL cy zL zT zR zI zJ) → va_S A s.heap H locs → lv_has ls 5 [(0, .ref zy), (1, .int ziy), (2, .int zik), (3, .int zi_13), (4, .int zi_14)] → W p l e ({ frames := 0, cells := 0, slots := 0, locals := 0 } : Room) s m ([.ref zy, .int ziy, .int zik] : List Value).toArray below meth c H locs 0 0 Q (F0 m 5 ls []) := by
    intro n
    induction n using Nat.strongRecOn with
    | _ n ih_263 =>
      intro zi_13 zi_14 H locs ls hn b_zi_14 e_lp_263_0 e_lp_263_1 hP hD hS hl
      refine lv_iload hx hb dX11_wetBy_5 (lv_at hl 4 rfl) ?_
      refine lv_iload_n hx hb dX11_wetBy_7 rfl (lv_at hl 1 rfl) ?_
      refine lv_iload_n hx hb dX11_wetBy_8 rfl (lv_at hl 2 rfl) ?_
      refine lv_isub hx hb dX11_wetBy_9 ?_
      refine lv_topi (fun zi_264 ezi_264 => ?_)
      have tzi_264 : zi_264.toInt = ziy.toInt - zik.toInt := by rw [ezi_264]; exact tisub (rfl) (rfl) (by omega) (by omega)
      refine lv_icmp_le (tgt := 39) hx hb dX11_wetBy_10 (by decide) (fun c_265 => ?_) (fun c_265 => ?_)
      · have f_266 : zi_14.toInt ≤ zi_264.toInt := ic_le (rfl) (rfl) c_265
        refine lv_iload_n hx hb dX11_wetBy_39 rfl (lv_at hl 3 rfl) ?_
        subst hQ
        exact W.iret (v := zi_13) hx hb hr (fun t ht hW => ⟨⟨zi_13, (), rfl, (show zi_13 = WS (zI (zR zy 0)) (zik.toInt).toNat ziy.toInt 0 from (WS.e e_lp_263_0 (by omega))), ⟨by rw [ht]; exact hP, va_K.moved hW.alike hK, hD⟩⟩, hS.F ht⟩) hS.2.2 dX11_wetBy_40
      · have f_266 : ¬ (zi_14.toInt ≤ zi_264.toInt) := ic_nle (rfl) (rfl) c_265
        refine lv_iload hx hb dX11_wetBy_13 (lv_at hl 4 rfl) ?_
        refine lv_if_lt (tgt := 39) hx hb dX11_wetBy_15 (by decide) (fun c_267 => ?_) (fun c_267 => ?_)
        · have f_268 : zi_14.toInt < 0 := ic_lt (rfl) (by decide) c_267
          refine lv_iload_n hx hb dX11_wetBy_39 rfl (lv_at hl 3 rfl) ?_
          subst hQ
          exact W.iret (v := zi_13) hx hb hr (fun t ht hW => ⟨⟨zi_13, (), rfl, (show zi_13 = WS (zI (zR zy 0)) (zik.toInt).toNat ziy.toInt 0 from (WS.e e_lp_263_0 (by omega))), ⟨by rw [ht]; exact hP, va_K.moved hW.alike hK, hD⟩⟩, hS.F ht⟩) hS.2.2 dX11_wetBy_40
        · have f_268 : ¬ (zi_14.toInt < 0) := ic_nlt (rfl) (by decide) c_267
          refine lv_iload_n hx hb dX11_wetBy_18 rfl (lv_at hl 3 rfl) ?_
          refine lv_aload_n hx hb dX11_wetBy_19 rfl (lv_at hl 0 rfl) ?_
          refine ht_getr (C := RX11) (T := TX11) (N := 28) hx hb hts (by decide +kernel) hown hK hP hs t_zy (by decide) rfl rfl 0 (by decide) (hts (.fieldLink RX11 7 "DripStoneModel" "z" "[I") (by decide +kernel)) (fun _ h9 => h9) rfl dX11_wetBy_20 ?_
          have t_269 : zT (zR zy 0) = 100 := sk_f hs t_zy (by decide) rfl (by decide)
          refine lv_bipush (v := 20) hx hb dX11_wetBy_23 (by decide) ?_
          refine lv_iconst (v := 3) hx hb dX11_wetBy_25 (by decide) ?_
          refine lv_iload hx hb dX11_wetBy_26 (lv_at hl 4 rfl) ?_
          refine lv_imul hx hb dX11_wetBy_28 ?_
          refine lv_topi (fun zi_270 ezi_270 => ?_)
          have tzi_270 : zi_270.toInt = (3 : Int) * zi_14.toInt := by rw [ezi_270]; exact timul (show (3 : Int32).toInt = 3 by decide) (rfl) (by omega) (by omega)
          refine lv_iadd hx hb dX11_wetBy_29 ?_
          refine lv_topi (fun zi_271 ezi_271 => ?_)
          have tzi_271 : zi_271.toInt = (20 : Int) + zi_270.toInt := by rw [ezi_271]; exact tiadd (show (20 : Int32).toInt = 20 by decide) (rfl) (by omega) (by omega)
          refine ht_iald (n := 392) (q := 0) hx hb hK hP hs t_269 (by decide) rfl rfl ⟨by omega, by omega⟩ dX11_wetBy_30 ?_
          refine lv_topi (fun zi_272 ezi_272 => ?_)
          have la_273 : zi_272.toInt = zA (zI (zR zy 0)) (20 + 3 * zi_14.toInt) := (congrArg Int32.toInt (show zI (zR zy 0) zi_271.toNatClampNeg = zi_272 from ezi_272.symm).symm).trans (congrArg (zA (zI (zR zy 0))) (show zi_271.toInt = 20 + 3 * zi_14.toInt from by omega))
          refine lv_iadd hx hb dX11_wetBy_31 ?_
          refine lv_topi (fun zi_274 ezi_274 => ?_)
          refine lv_istore_n (lv' := [(3, .int zi_274), (0, .ref zy), (1, .int ziy), (2, .int zik), (4, .int zi_14)]) hx hb dX11_wetBy_32 rfl hl (by decide) rfl (fun ls hl => ?_)
          obtain ⟨zi_275, ezi_275⟩ : ∃ y : Int32, y = zi_14 + (-1) := ⟨_, rfl⟩
          have tzi_275 : zi_275.toInt = zi_14.toInt + (-1) := by rw [ezi_275]; exact tadd rfl (show ((-1) : Int32).toInt = -1 by decide) (by omega) (by omega)
          refine lv_iinc (v := zi_275) (lv' := [(4, .int zi_275), (3, .int zi_274), (0, .ref zy), (1, .int ziy), (2, .int zik)]) hx hb dX11_wetBy_33 hl (k := 4) rfl (by rw [ezi_275]; rfl) (by decide) rfl (fun ls hl => ?_)
          refine lv_goto (tgt := 5) hx hb dX11_wetBy_36 (by decide) ?_
          exact ih_263 (zi_275.toInt + 1).toNat (by omega) zi_274 zi_275 _ _ _ rfl (by omega) (WS.s (y := zi_14.toInt) (i := zi_271) (v := zi_272) e_lp_263_0 (by omega) (by omega) (by omega) (by omega) (show zi_272 = zI (zR zy 0) zi_271.toNatClampNeg from (ezi_272.symm).symm) ezi_274) (by omega) hP hD hS (lv_sub hl [2, 3, 4, 1, 0] rfl)
  have qc_0 : (0 : Int32).toInt = 0 := by decide
  exact lp_263 _ (0 : Int32) ziy _ _ _ rfl (by omega) (by rw [show ziy.toInt - (ziy.toInt - zik.toInt) = zik.toInt from by omega]) (by omega) hP hD hS (lv_sub hl [2, 3, 4, 1, 0] rfl)
set_option maxHeartbeats 8000000 in
set_option maxRecDepth 100000 in
theorem t_X11_waterBy (l : Launch) (dC : Nat → ClassId) (dI : Nat → Nat → Nat) (cy : Nat → ClassId) (sz : Nat) (zL : List Nat) (zT : Nat → Nat) (zR : Nat → Nat → Nat) (zI : Nat → Nat → Int32) (zJ : Nat → Nat → Int64) (zy : Nat) (ziy : Int32) (zik : Int32) (hs : SKP zL zT zR) (hw : WT zT zR zI) (t_zy : zT zy = 18) (b_ziy : 0 ≤ ziy.toInt ∧ ziy.toInt ≤ 23) (b_zik : 1 ≤ zik.toInt ∧ zik.toInt ≤ 5) (hx1 : ¬ WS (zI (zR zy 0)) (zik.toInt).toNat ziy.toInt 0 = 0) : Met l yX11_waterBy wsX11_waterBy ({ frames := 1, cells := 0, slots := 0, locals := 24 } : Room) (va_Pc [.ref zy, .int ziy, .int zik] (PRE dC dI cy (WL cy zL zT zR zI zJ) sz)) (va_Qi (fun (r : Int32) (u : Unit) => (r = WSP (zI (zR zy 0)) (zik.toInt).toNat ziy.toInt 0 / WS (zI (zR zy 0)) (zik.toInt).toNat ziy.toInt 0)) (fun u t => POST dC dI cy (va_A (WL cy zL zT zR zI zJ) sz) (WL cy zL zT zR zI zJ) t) (va_A (WL cy zL zT zR zI zJ) sz)) 0 0 (va_A (WL cy zL zT zR zI zJ) sz) := by
  refine Met.ofW (cc := cX11_waterBy) (maxL := 5) (ret := (some .int)) (by decide) rfl ?_
  intro p e s m args below meth c s₁ B hml hv
  obtain ⟨rfl, hsz, hP, hK, hD0, hN⟩ := hv
  have hx := B.exec
  have hb := B.bytes
  have hr := B.returns
  have hts := atoms_spec (ws := wsX11_waterBy) B.pre
  have hown : s.vm.findClass RX11 = some m.cls := findClass_of_methodNamed B.named
  have hlocks := B.notSynchronized
  subst hsz
  have hD := hD0.self (sz := s.heap.size)
  generalize hAe : va_A (WL cy zL zT zR zI zJ) s.heap.size = A at hD ⊢
  have hA : ∀ q : Nat, s.heap.size ≤ q → A q := fun q h => by rw [← hAe]; exact Or.inr h
  have hS : va_S A s.heap s.heap [] := va_S.rf
  have hP : va_P (dC, dI) vwCl (WL cy zL zT zR zI zJ) s.heap := hP
  have hl := lv_entry ([.ref zy, .int ziy, .int zik] : List Value) (n := 5) (Nat.le_of_ble_eq_true rfl)
  rw [lg_entry_eq]
  generalize (lg_sl ([.ref zy, .int ziy, .int zik] : List Value) ++ List.replicate (5 - (lg_sl ([.ref zy, .int ziy, .int zik] : List Value)).length) Slot.unset).toArray = ls at hl ⊢
  have hl : lv_has ls 5 [(0, .ref zy), (1, .int ziy), (2, .int zik)] := hl
  refine w_q (fun Q hQ => ?_)
  have h_zI : WM [] AL zT zR zI zI := WM.rf hw
  refine lv_iconst (v := 0) hx hb dX11_waterBy_0 (by decide) ?_
  refine lv_istore_n (lv' := [(3, .int 0), (0, .ref zy), (1, .int ziy), (2, .int zik)]) hx hb dX11_waterBy_1 rfl hl (by decide) rfl (fun ls hl => ?_)
  refine lv_iload_n hx hb dX11_waterBy_2 rfl (lv_at hl 2 rfl) ?_
  refine lv_istore (lv' := [(4, .int ziy), (3, .int 0), (0, .ref zy), (1, .int ziy), (2, .int zik)]) hx hb dX11_waterBy_3 hl (by decide) rfl (fun ls hl => ?_)
  have lp_377 : ∀ (n : Nat) (zi_19 : Int32) (zi_20 : Int32) (H : Heap) (locs : List Loc) (ls : Array Slot), (zi_20.toInt + 1).toNat = n → ((-1) ≤ zi_20.toInt ∧ zi_20.toInt ≤ 23) → (WSP (zI (zR zy 0)) (zik.toInt).toNat ziy.toInt 0 = WSP (zI (zR zy 0)) (zi_20.toInt - (ziy.toInt - zik.toInt)).toNat zi_20.toInt zi_19) → (ziy.toInt - zik.toInt ≤ zi_20.toInt ∧ zi_20.toInt ≤ ziy.toInt) → va_P (dC, dI) vwCl (WL cy zL zT zR zI zJ) H → va_D A (WL cy zL zT zR zI zJ) → va_S A s.heap H locs → lv_has ls 5 [(0, .ref zy), (1, .int ziy), (2, .int zik), (3, .int zi_19), (4, .int zi_20)] → W p l e ({ frames := 1, cells := 0, slots := 0, locals := 24 } : Room) s m ([.ref zy, .int ziy, .int zik] : List Value).toArray below meth c H locs 0 0 Q (F0 m 5 ls []) := by
    intro n
    induction n using Nat.strongRecOn with
    | _ n ih_377 =>
      intro zi_19 zi_20 H locs ls hn b_zi_20 e_lp_377_0 e_lp_377_1 hP hD hS hl
      refine lv_iload hx hb dX11_waterBy_5 (lv_at hl 4 rfl) ?_
      refine lv_iload_n hx hb dX11_waterBy_7 rfl (lv_at hl 1 rfl) ?_
      refine lv_iload_n hx hb dX11_waterBy_8 rfl (lv_at hl 2 rfl) ?_
      refine lv_isub hx hb dX11_waterBy_9 ?_
      refine lv_topi (fun zi_378 ezi_378 => ?_)
      have tzi_378 : zi_378.toInt = ziy.toInt - zik.toInt := by rw [ezi_378]; exact tisub (rfl) (rfl) (by omega) (by omega)
      refine lv_icmp_le (tgt := 54) hx hb dX11_waterBy_10 (by decide) (fun c_379 => ?_) (fun c_379 => ?_)
      · have f_380 : zi_20.toInt ≤ zi_378.toInt := ic_le (rfl) (rfl) c_379
        refine lv_iload_n hx hb dX11_waterBy_54 rfl (lv_at hl 3 rfl) ?_
        refine lv_aload_n hx hb dX11_waterBy_55 rfl (lv_at hl 0 rfl) ?_
        refine lv_iload_n hx hb dX11_waterBy_56 rfl (lv_at hl 1 rfl) ?_
        refine lv_iload_n hx hb dX11_waterBy_57 rfl (lv_at hl 2 rfl) ?_
        refine hj_i (ws := (WL cy zL zT zR zI zJ)) (w1 := fun (u : Unit) => (WL cy zL zT zR zI zJ)) (va_runV (As := [.int ziy, .int zik]) (rest := [.int zi_19]) ⟨hx, hb, hml, hown, hts⟩ (t_X11_wetBy l dC dI cy H.size zL zT zR zI zJ zy ziy zik hs h_zI.1 t_zy (by omega) (by omega)) (cwV 2 hts gX11_waterBy_X11_wetBy rfl rfl rfl (by decide +kernel) ⟨(Nat.le_of_ble_eq_true rfl), (Nat.le_of_ble_eq_true rfl)⟩) (PRE.v hP hK hD hN (ht_recv hK hP hs t_zy (by decide) rfl rfl)) rfl rfl hl.1 rfl (lv_room (Nat.le_of_ble_eq_true rfl)) dX11_waterBy_58 ⟨(Nat.le_of_ble_eq_true rfl), (Nat.le_of_ble_eq_true rfl)⟩) hP hD hS hA (fun zi_381 u_383 H locs hw_382 hP hD hS => ?_)
        have ps_384 : zi_381 = WS (zI (zR zy 0)) (zik.toInt).toNat ziy.toInt 0 := hw_382
        have rzi_381 := rng zi_381
        refine lv_idiv hx hb dX11_waterBy_61 (fun e9 => hx1 ((show zi_381 = _ from ps_384).symm.trans e9)) ?_
        refine lv_topi (fun zi_385 ezi_385 => ?_)
        subst hQ
        exact W.iret (v := zi_385) hx hb hr (fun t ht hW => ⟨⟨zi_385, (), rfl, (show zi_385 = WSP (zI (zR zy 0)) (zik.toInt).toNat ziy.toInt 0 / WS (zI (zR zy 0)) (zik.toInt).toNat ziy.toInt 0 from (WSP.dv (WSP.e e_lp_377_0 (by omega)) (show zi_381 = WS (zI (zR zy 0)) (zik.toInt).toNat ziy.toInt 0 from ps_384) ezi_385)), ⟨by rw [ht]; exact hP, va_K.moved hW.alike hK, hD⟩⟩, hS.F ht⟩) hS.2.2 dX11_waterBy_62
      · have f_380 : ¬ (zi_20.toInt ≤ zi_378.toInt) := ic_nle (rfl) (rfl) c_379
        refine lv_iload hx hb dX11_waterBy_13 (lv_at hl 4 rfl) ?_
        refine lv_if_lt (tgt := 54) hx hb dX11_waterBy_15 (by decide) (fun c_386 => ?_) (fun c_386 => ?_)
        · have f_387 : zi_20.toInt < 0 := ic_lt (rfl) (by decide) c_386
          refine lv_iload_n hx hb dX11_waterBy_54 rfl (lv_at hl 3 rfl) ?_
          refine lv_aload_n hx hb dX11_waterBy_55 rfl (lv_at hl 0 rfl) ?_
          refine lv_iload_n hx hb dX11_waterBy_56 rfl (lv_at hl 1 rfl) ?_
          refine lv_iload_n hx hb dX11_waterBy_57 rfl (lv_at hl 2 rfl) ?_
          refine hj_i (ws := (WL cy zL zT zR zI zJ)) (w1 := fun (u : Unit) => (WL cy zL zT zR zI zJ)) (va_runV (As := [.int ziy, .int zik]) (rest := [.int zi_19]) ⟨hx, hb, hml, hown, hts⟩ (t_X11_wetBy l dC dI cy H.size zL zT zR zI zJ zy ziy zik hs h_zI.1 t_zy (by omega) (by omega)) (cwV 2 hts gX11_waterBy_X11_wetBy rfl rfl rfl (by decide +kernel) ⟨(Nat.le_of_ble_eq_true rfl), (Nat.le_of_ble_eq_true rfl)⟩) (PRE.v hP hK hD hN (ht_recv hK hP hs t_zy (by decide) rfl rfl)) rfl rfl hl.1 rfl (lv_room (Nat.le_of_ble_eq_true rfl)) dX11_waterBy_58 ⟨(Nat.le_of_ble_eq_true rfl), (Nat.le_of_ble_eq_true rfl)⟩) hP hD hS hA (fun zi_388 u_390 H locs hw_389 hP hD hS => ?_)
          have ps_391 : zi_388 = WS (zI (zR zy 0)) (zik.toInt).toNat ziy.toInt 0 := hw_389
          have rzi_388 := rng zi_388
          refine lv_idiv hx hb dX11_waterBy_61 (fun e9 => hx1 ((show zi_388 = _ from ps_391).symm.trans e9)) ?_
          refine lv_topi (fun zi_392 ezi_392 => ?_)
          subst hQ
          exact W.iret (v := zi_392) hx hb hr (fun t ht hW => ⟨⟨zi_392, (), rfl, (show zi_392 = WSP (zI (zR zy 0)) (zik.toInt).toNat ziy.toInt 0 / WS (zI (zR zy 0)) (zik.toInt).toNat ziy.toInt 0 from (WSP.dv (WSP.e e_lp_377_0 (by omega)) (show zi_388 = WS (zI (zR zy 0)) (zik.toInt).toNat ziy.toInt 0 from ps_391) ezi_392)), ⟨by rw [ht]; exact hP, va_K.moved hW.alike hK, hD⟩⟩, hS.F ht⟩) hS.2.2 dX11_waterBy_62
        · have f_387 : ¬ (zi_20.toInt < 0) := ic_nlt (rfl) (by decide) c_386
          refine lv_iload_n hx hb dX11_waterBy_18 rfl (lv_at hl 3 rfl) ?_
          refine lv_aload_n hx hb dX11_waterBy_19 rfl (lv_at hl 0 rfl) ?_
          refine ht_getr (C := RX11) (T := TX11) (N := 28) hx hb hts (by decide +kernel) hown hK hP hs t_zy (by decide) rfl rfl 0 (by decide) (hts (.fieldLink RX11 7 "DripStoneModel" "z" "[I") (by decide +kernel)) (fun _ h9 => h9) rfl dX11_waterBy_20 ?_
          have t_393 : zT (zR zy 0) = 100 := sk_f hs t_zy (by decide) rfl (by decide)
          refine lv_bipush (v := 20) hx hb dX11_waterBy_23 (by decide) ?_
          refine lv_iconst (v := 3) hx hb dX11_waterBy_25 (by decide) ?_
          refine lv_iload hx hb dX11_waterBy_26 (lv_at hl 4 rfl) ?_
          refine lv_imul hx hb dX11_waterBy_28 ?_
          refine lv_topi (fun zi_394 ezi_394 => ?_)
          have tzi_394 : zi_394.toInt = (3 : Int) * zi_20.toInt := by rw [ezi_394]; exact timul (show (3 : Int32).toInt = 3 by decide) (rfl) (by omega) (by omega)
          refine lv_iadd hx hb dX11_waterBy_29 ?_
          refine lv_topi (fun zi_395 ezi_395 => ?_)
          have tzi_395 : zi_395.toInt = (20 : Int) + zi_394.toInt := by rw [ezi_395]; exact tiadd (show (20 : Int32).toInt = 20 by decide) (rfl) (by omega) (by omega)
          refine ht_iald (n := 392) (q := 0) hx hb hK hP hs t_393 (by decide) rfl rfl ⟨by omega, by omega⟩ dX11_waterBy_30 ?_
          refine lv_topi (fun zi_396 ezi_396 => ?_)
          have la_397 : zi_396.toInt = zA (zI (zR zy 0)) (20 + 3 * zi_20.toInt) := (congrArg Int32.toInt (show zI (zR zy 0) zi_395.toNatClampNeg = zi_396 from ezi_396.symm).symm).trans (congrArg (zA (zI (zR zy 0))) (show zi_395.toInt = 20 + 3 * zi_20.toInt from by omega))
          refine lv_aload_n hx hb dX11_waterBy_31 rfl (lv_at hl 0 rfl) ?_
          refine ht_getr (C := RX11) (T := TX11) (N := 28) hx hb hts (by decide +kernel) hown hK hP hs t_zy (by decide) rfl rfl 0 (by decide) (hts (.fieldLink RX11 7 "DripStoneModel" "z" "[I") (by decide +kernel)) (fun _ h9 => h9) rfl dX11_waterBy_32 ?_
          refine lv_bipush (v := 20) hx hb dX11_waterBy_35 (by decide) ?_
          refine lv_iconst (v := 3) hx hb dX11_waterBy_37 (by decide) ?_
          refine lv_iload hx hb dX11_waterBy_38 (lv_at hl 4 rfl) ?_
          refine lv_imul hx hb dX11_waterBy_40 ?_
          refine lv_topi (fun zi_398 ezi_398 => ?_)
          have tzi_398 : zi_398.toInt = (3 : Int) * zi_20.toInt := by rw [ezi_398]; exact timul (show (3 : Int32).toInt = 3 by decide) (rfl) (by omega) (by omega)
          refine lv_iadd hx hb dX11_waterBy_41 ?_
          refine lv_topi (fun zi_399 ezi_399 => ?_)
          have tzi_399 : zi_399.toInt = (20 : Int) + zi_398.toInt := by rw [ezi_399]; exact tiadd (show (20 : Int32).toInt = 20 by decide) (rfl) (by omega) (by omega)
          refine lv_iconst (v := 1) hx hb dX11_waterBy_42 (by decide) ?_
          refine lv_iadd hx hb dX11_waterBy_43 ?_
          refine lv_topi (fun zi_400 ezi_400 => ?_)
          have tzi_400 : zi_400.toInt = zi_399.toInt + (1 : Int) := by rw [ezi_400]; exact tiadd (rfl) (show (1 : Int32).toInt = 1 by decide) (by omega) (by omega)
          refine ht_iald (n := 392) (q := 0) hx hb hK hP hs t_393 (by decide) rfl rfl ⟨by omega, by omega⟩ dX11_waterBy_44 ?_
          refine lv_topi (fun zi_401 ezi_401 => ?_)
          have la_402 : zi_401.toInt = zA (zI (zR zy 0)) (21 + 3 * zi_20.toInt) := (congrArg Int32.toInt (show zI (zR zy 0) zi_400.toNatClampNeg = zi_401 from ezi_401.symm).symm).trans (congrArg (zA (zI (zR zy 0))) (show zi_400.toInt = 21 + 3 * zi_20.toInt from by omega))
          refine lv_imul hx hb dX11_waterBy_45 ?_
          refine lv_topi (fun zi_403 ezi_403 => ?_)
          refine lv_iadd hx hb dX11_waterBy_46 ?_
          refine lv_topi (fun zi_404 ezi_404 => ?_)
          refine lv_istore_n (lv' := [(3, .int zi_404), (0, .ref zy), (1, .int ziy), (2, .int zik), (4, .int zi_20)]) hx hb dX11_waterBy_47 rfl hl (by decide) rfl (fun ls hl => ?_)
          obtain ⟨zi_405, ezi_405⟩ : ∃ y : Int32, y = zi_20 + (-1) := ⟨_, rfl⟩
          have tzi_405 : zi_405.toInt = zi_20.toInt + (-1) := by rw [ezi_405]; exact tadd rfl (show ((-1) : Int32).toInt = -1 by decide) (by omega) (by omega)
          refine lv_iinc (v := zi_405) (lv' := [(4, .int zi_405), (3, .int zi_404), (0, .ref zy), (1, .int ziy), (2, .int zik)]) hx hb dX11_waterBy_48 hl (k := 4) rfl (by rw [ezi_405]; rfl) (by decide) rfl (fun ls hl => ?_)
          refine lv_goto (tgt := 5) hx hb dX11_waterBy_51 (by decide) ?_
          exact ih_377 (zi_405.toInt + 1).toNat (by omega) zi_404 zi_405 _ _ _ rfl (by omega) (WSP.s (y := zi_20.toInt) (i := zi_395) (i2 := zi_400) e_lp_377_0 (by omega) (by omega) (by omega) (by omega) (by omega) (show zi_396 = zI (zR zy 0) zi_395.toNatClampNeg from (ezi_396.symm).symm) (show zi_401 = zI (zR zy 0) zi_400.toNatClampNeg from (ezi_401.symm).symm) ezi_403 ezi_404) (by omega) hP hD hS (lv_sub hl [2, 3, 4, 1, 0] rfl)
  have qc_0 : (0 : Int32).toInt = 0 := by decide
  exact lp_377 _ (0 : Int32) ziy _ _ _ rfl (by omega) (by rw [show ziy.toInt - (ziy.toInt - zik.toInt) = zik.toInt from by omega]) (by omega) hP hD hS (lv_sub hl [2, 3, 4, 1, 0] rfl)
set_option maxHeartbeats 8000000 in
set_option maxRecDepth 100000 in
theorem t_X11_wet (l : Launch) (dC : Nat → ClassId) (dI : Nat → Nat → Nat) (cy : Nat → ClassId) (sz : Nat) (zL : List Nat) (zT : Nat → Nat) (zR : Nat → Nat → Nat) (zI : Nat → Nat → Int32) (zJ : Nat → Nat → Int64) (zy : Nat) (zia : Int32) (hs : SKP zL zT zR) (hw : WT zT zR zI) (t_zy : zT zy = 18) (hz : ZI (zI (zR zy 0))) : Met l yX11_wet wsX11_wet ({ frames := 2, cells := 0, slots := 0, locals := 45 } : Room) (va_Pc [.ref zy, .int zia] (PRE dC dI cy (WL cy zL zT zR zI zJ) sz)) (va_Qi (fun (r : Int32) (u : Unit) => (¬ (0 ≤ zia.toInt ∧ zia.toInt ≤ 23) → r.toInt = -1) ∧ ((0 ≤ zia.toInt ∧ zia.toInt ≤ 23) → r = WS (zI (zR zy 0)) (zA (zI (zR zy 0)) (0)).toNat zia.toInt 0)) (fun u t => POST dC dI cy (va_A (WL cy zL zT zR zI zJ) sz) (WL cy zL zT zR zI zJ) t) (va_A (WL cy zL zT zR zI zJ) sz)) 0 0 (va_A (WL cy zL zT zR zI zJ) sz) := by
  refine Met.ofW (cc := cX11_wet) (maxL := 2) (ret := (some .int)) (by decide) rfl ?_
  intro p e s m args below meth c s₁ B hml hv
  obtain ⟨rfl, hsz, hP, hK, hD0, hN⟩ := hv
  have hx := B.exec
  have hb := B.bytes
  have hr := B.returns
  have hts := atoms_spec (ws := wsX11_wet) B.pre
  have hown : s.vm.findClass RX11 = some m.cls := findClass_of_methodNamed B.named
  have hlocks := B.notSynchronized
  subst hsz
  have hD := hD0.self (sz := s.heap.size)
  generalize hAe : va_A (WL cy zL zT zR zI zJ) s.heap.size = A at hD ⊢
  have hA : ∀ q : Nat, s.heap.size ≤ q → A q := fun q h => by rw [← hAe]; exact Or.inr h
  have hS : va_S A s.heap s.heap [] := va_S.rf
  have hP : va_P (dC, dI) vwCl (WL cy zL zT zR zI zJ) s.heap := hP
  have hl := lv_entry ([.ref zy, .int zia] : List Value) (n := 2) (Nat.le_of_ble_eq_true rfl)
  rw [lg_entry_eq]
  generalize (lg_sl ([.ref zy, .int zia] : List Value) ++ List.replicate (2 - (lg_sl ([.ref zy, .int zia] : List Value)).length) Slot.unset).toArray = ls at hl ⊢
  have hl : lv_has ls 2 [(0, .ref zy), (1, .int zia)] := hl
  refine w_q (fun Q hQ => ?_)
  have h_zI : WM [] AL zT zR zI zI := WM.rf hw
  refine lv_iload_n hx hb dX11_wet_0 rfl (lv_at hl 1 rfl) ?_
  refine hj0_i (ws := (WL cy zL zT zR zI zJ)) (va_runS (As := [.int zia]) (rest := []) ⟨hx, hb, hml, hown, hts⟩ (c_X11_isYear l dC dI cy s.heap.size zia) (va_cwS 1 hts gX11_wet_X11_isYear rfl rfl rfl (by decide +kernel) ⟨(Nat.le_of_ble_eq_true rfl), (Nat.le_of_ble_eq_true rfl)⟩) (PRE.s (hP.sub [] rfl) hK (hD.sub [] (by decide) rfl) hN) rfl rfl hl.1 rfl (lv_room (Nat.le_of_ble_eq_true rfl)) dX11_wet_1 ⟨(Nat.le_of_ble_eq_true rfl), (Nat.le_of_ble_eq_true rfl)⟩) hP hD hS hA (fun zi_1 u_3 H locs hw_2 hP hD hS => ?_)
  have hw_2 : zi_1 = if 0 ≤ zia.toInt ∧ zia.toInt ≤ 23 then 1 else 0 := hw_2
  have b_zi_1 : 0 ≤ zi_1.toInt ∧ zi_1.toInt ≤ 1 := bz_b hw_2
  refine lv_if_eq (tgt := 21) hx hb dX11_wet_4 (by decide) (fun c_4 => ?_) (fun c_4 => ?_)
  · have f_5 : ¬ (0 ≤ zia.toInt ∧ zia.toInt ≤ 23) := bz_0 hw_2 c_4
    refine lv_iconst (v := (-1)) hx hb dX11_wet_21 (by decide) ?_
    subst hQ
    exact W.iret (v := (-1 : Int32)) hx hb hr (fun t ht hW => ⟨⟨(-1 : Int32), (), rfl, ⟨(show ¬ (0 ≤ zia.toInt ∧ zia.toInt ≤ 23) → (-1 : Int32).toInt = -1 from (fun _ => by decide)), (show (0 ≤ zia.toInt ∧ zia.toInt ≤ 23) → (-1 : Int32) = WS (zI (zR zy 0)) (zA (zI (zR zy 0)) (0)).toNat zia.toInt 0 from (fun h9 => absurd h9 (by omega)))⟩, ⟨by rw [ht]; exact hP, va_K.moved hW.alike hK, hD⟩⟩, hS.F ht⟩) hS.2.2 dX11_wet_22
  · have f_5 : 0 ≤ zia.toInt ∧ zia.toInt ≤ 23 := bz_1 hw_2 c_4
    refine lv_aload_n hx hb dX11_wet_7 rfl (lv_at hl 0 rfl) ?_
    refine lv_iload_n hx hb dX11_wet_8 rfl (lv_at hl 1 rfl) ?_
    refine lv_aload_n hx hb dX11_wet_9 rfl (lv_at hl 0 rfl) ?_
    refine ht_getr (C := RX11) (T := TX11) (N := 28) hx hb hts (by decide +kernel) hown hK hP hs t_zy (by decide) rfl rfl 0 (by decide) (hts (.fieldLink RX11 7 "DripStoneModel" "z" "[I") (by decide +kernel)) (fun _ h9 => h9) rfl dX11_wet_10 ?_
    have t_6 : zT (zR zy 0) = 100 := sk_f hs t_zy (by decide) rfl (by decide)
    refine lv_iconst (v := 0) hx hb dX11_wet_13 (by decide) ?_
    refine ht_iald (n := 392) (q := 0) hx hb hK hP hs t_6 (by decide) rfl rfl ⟨by decide, by decide⟩ dX11_wet_14 ?_
    refine lv_topi (fun zi_7 ezi_7 => ?_)
    have la_8 : zi_7.toInt = zA (zI (zR zy 0)) (0) := (congrArg Int32.toInt (show zI (zR zy 0) (0 : Int32).toNatClampNeg = zi_7 from ezi_7.symm).symm).trans (congrArg (zA (zI (zR zy 0))) (show (0 : Int32).toInt = 0 from by decide))
    have tz_9 : 1 ≤ zi_7.toInt ∧ zi_7.toInt ≤ 5 := by rw [← (show zI (zR zy 0) (0 : Int32).toNatClampNeg = zi_7 from ezi_7.symm)]; exact ZI.g0 hz (by decide) (by decide)
    refine hj_i (ws := (WL cy zL zT zR zI zJ)) (w1 := fun (u : Unit) => (WL cy zL zT zR zI zJ)) (va_runV (As := [.int zia, .int zi_7]) (rest := []) ⟨hx, hb, hml, hown, hts⟩ (t_X11_wetBy l dC dI cy H.size zL zT zR zI zJ zy zia zi_7 hs h_zI.1 t_zy (by omega) (by omega)) (cwV 2 hts gX11_wet_X11_wetBy rfl rfl rfl (by decide +kernel) ⟨(Nat.le_of_ble_eq_true rfl), (Nat.le_of_ble_eq_true rfl)⟩) (PRE.v hP hK hD hN (ht_recv hK hP hs t_zy (by decide) rfl rfl)) rfl rfl hl.1 rfl (lv_room (Nat.le_of_ble_eq_true rfl)) dX11_wet_15 ⟨(Nat.le_of_ble_eq_true rfl), (Nat.le_of_ble_eq_true rfl)⟩) hP hD hS hA (fun zi_10 u_12 H locs hw_11 hP hD hS => ?_)
    have ps_13 : zi_10 = WS (zI (zR zy 0)) (zi_7.toInt).toNat zia.toInt 0 := hw_11
    have rzi_10 := rng zi_10
    refine lv_goto (tgt := 22) hx hb dX11_wet_18 (by decide) ?_
    subst hQ
    exact W.iret (v := zi_10) hx hb hr (fun t ht hW => ⟨⟨zi_10, (), rfl, ⟨(show ¬ (0 ≤ zia.toInt ∧ zia.toInt ≤ 23) → zi_10.toInt = -1 from (fun h9 => absurd (by omega) h9)), (show (0 ≤ zia.toInt ∧ zia.toInt ≤ 23) → zi_10 = WS (zI (zR zy 0)) (zA (zI (zR zy 0)) (0)).toNat zia.toInt 0 from (fun _ => by rw [show zA (zI (zR zy 0)) (0) = zi_7.toInt from by omega]; exact ps_13))⟩, ⟨by rw [ht]; exact hP, va_K.moved hW.alike hK, hD⟩⟩, hS.F ht⟩) hS.2.2 dX11_wet_22
set_option maxHeartbeats 8000000 in
set_option maxRecDepth 100000 in
theorem t_X11_water (l : Launch) (dC : Nat → ClassId) (dI : Nat → Nat → Nat) (cy : Nat → ClassId) (sz : Nat) (zL : List Nat) (zT : Nat → Nat) (zR : Nat → Nat → Nat) (zI : Nat → Nat → Int32) (zJ : Nat → Nat → Int64) (zy : Nat) (zia : Int32) (hs : SKP zL zT zR) (hw : WT zT zR zI) (t_zy : zT zy = 18) (hz : ZI (zI (zR zy 0))) : Met l yX11_water wsX11_water ({ frames := 2, cells := 0, slots := 0, locals := 48 } : Room) (va_Pc [.ref zy, .int zia] (PRE dC dI cy (WL cy zL zT zR zI zJ) sz)) (va_Qi (fun (r : Int32) (u : Unit) => (¬ (0 ≤ zia.toInt ∧ zia.toInt ≤ 23) → r.toInt = -1001) ∧ ((0 ≤ zia.toInt ∧ zia.toInt ≤ 23) → r = WRZ (zI (zR zy 0)) (zA (zI (zR zy 0)) (0)).toNat zia.toInt)) (fun u t => POST dC dI cy (va_A (WL cy zL zT zR zI zJ) sz) (WL cy zL zT zR zI zJ) t) (va_A (WL cy zL zT zR zI zJ) sz)) 0 0 (va_A (WL cy zL zT zR zI zJ) sz) := by
  refine Met.ofW (cc := cX11_water) (maxL := 2) (ret := (some .int)) (by decide) rfl ?_
  intro p e s m args below meth c s₁ B hml hv
  obtain ⟨rfl, hsz, hP, hK, hD0, hN⟩ := hv
  have hx := B.exec
  have hb := B.bytes
  have hr := B.returns
  have hts := atoms_spec (ws := wsX11_water) B.pre
  have hown : s.vm.findClass RX11 = some m.cls := findClass_of_methodNamed B.named
  have hlocks := B.notSynchronized
  subst hsz
  have hD := hD0.self (sz := s.heap.size)
  generalize hAe : va_A (WL cy zL zT zR zI zJ) s.heap.size = A at hD ⊢
  have hA : ∀ q : Nat, s.heap.size ≤ q → A q := fun q h => by rw [← hAe]; exact Or.inr h
  have hS : va_S A s.heap s.heap [] := va_S.rf
  have hP : va_P (dC, dI) vwCl (WL cy zL zT zR zI zJ) s.heap := hP
  have hl := lv_entry ([.ref zy, .int zia] : List Value) (n := 2) (Nat.le_of_ble_eq_true rfl)
  rw [lg_entry_eq]
  generalize (lg_sl ([.ref zy, .int zia] : List Value) ++ List.replicate (2 - (lg_sl ([.ref zy, .int zia] : List Value)).length) Slot.unset).toArray = ls at hl ⊢
  have hl : lv_has ls 2 [(0, .ref zy), (1, .int zia)] := hl
  refine w_q (fun Q hQ => ?_)
  have h_zI : WM [] AL zT zR zI zI := WM.rf hw
  refine lv_iload_n hx hb dX11_water_0 rfl (lv_at hl 1 rfl) ?_
  refine hj0_i (ws := (WL cy zL zT zR zI zJ)) (va_runS (As := [.int zia]) (rest := []) ⟨hx, hb, hml, hown, hts⟩ (c_X11_isYear l dC dI cy s.heap.size zia) (va_cwS 1 hts gX11_water_X11_isYear rfl rfl rfl (by decide +kernel) ⟨(Nat.le_of_ble_eq_true rfl), (Nat.le_of_ble_eq_true rfl)⟩) (PRE.s (hP.sub [] rfl) hK (hD.sub [] (by decide) rfl) hN) rfl rfl hl.1 rfl (lv_room (Nat.le_of_ble_eq_true rfl)) dX11_water_1 ⟨(Nat.le_of_ble_eq_true rfl), (Nat.le_of_ble_eq_true rfl)⟩) hP hD hS hA (fun zi_1 u_3 H locs hw_2 hP hD hS => ?_)
  have hw_2 : zi_1 = if 0 ≤ zia.toInt ∧ zia.toInt ≤ 23 then 1 else 0 := hw_2
  have b_zi_1 : 0 ≤ zi_1.toInt ∧ zi_1.toInt ≤ 1 := bz_b hw_2
  refine lv_if_ne (tgt := 11) hx hb dX11_water_4 (by decide) (fun c_4 => ?_) (fun c_4 => ?_)
  · have f_5 : 0 ≤ zia.toInt ∧ zia.toInt ≤ 23 := bz_1 hw_2 c_4
    refine lv_aload_n hx hb dX11_water_11 rfl (lv_at hl 0 rfl) ?_
    refine lv_iload_n hx hb dX11_water_12 rfl (lv_at hl 1 rfl) ?_
    refine lv_aload_n hx hb dX11_water_13 rfl (lv_at hl 0 rfl) ?_
    refine ht_getr (C := RX11) (T := TX11) (N := 28) hx hb hts (by decide +kernel) hown hK hP hs t_zy (by decide) rfl rfl 0 (by decide) (hts (.fieldLink RX11 7 "DripStoneModel" "z" "[I") (by decide +kernel)) (fun _ h9 => h9) rfl dX11_water_14 ?_
    have t_6 : zT (zR zy 0) = 100 := sk_f hs t_zy (by decide) rfl (by decide)
    refine lv_iconst (v := 0) hx hb dX11_water_17 (by decide) ?_
    refine ht_iald (n := 392) (q := 0) hx hb hK hP hs t_6 (by decide) rfl rfl ⟨by decide, by decide⟩ dX11_water_18 ?_
    refine lv_topi (fun zi_7 ezi_7 => ?_)
    have la_8 : zi_7.toInt = zA (zI (zR zy 0)) (0) := (congrArg Int32.toInt (show zI (zR zy 0) (0 : Int32).toNatClampNeg = zi_7 from ezi_7.symm).symm).trans (congrArg (zA (zI (zR zy 0))) (show (0 : Int32).toInt = 0 from by decide))
    have tz_9 : 1 ≤ zi_7.toInt ∧ zi_7.toInt ≤ 5 := by rw [← (show zI (zR zy 0) (0 : Int32).toNatClampNeg = zi_7 from ezi_7.symm)]; exact ZI.g0 hz (by decide) (by decide)
    refine hj_i (ws := (WL cy zL zT zR zI zJ)) (w1 := fun (u : Unit) => (WL cy zL zT zR zI zJ)) (va_runV (As := [.int zia, .int zi_7]) (rest := []) ⟨hx, hb, hml, hown, hts⟩ (t_X11_wetBy l dC dI cy H.size zL zT zR zI zJ zy zia zi_7 hs h_zI.1 t_zy (by omega) (by omega)) (cwV 2 hts gX11_water_X11_wetBy rfl rfl rfl (by decide +kernel) ⟨(Nat.le_of_ble_eq_true rfl), (Nat.le_of_ble_eq_true rfl)⟩) (PRE.v hP hK hD hN (ht_recv hK hP hs t_zy (by decide) rfl rfl)) rfl rfl hl.1 rfl (lv_room (Nat.le_of_ble_eq_true rfl)) dX11_water_19 ⟨(Nat.le_of_ble_eq_true rfl), (Nat.le_of_ble_eq_true rfl)⟩) hP hD hS hA (fun zi_10 u_12 H locs hw_11 hP hD hS => ?_)
    have ps_13 : zi_10 = WS (zI (zR zy 0)) (zi_7.toInt).toNat zia.toInt 0 := hw_11
    have rzi_10 := rng zi_10
    refine lv_if_ne (tgt := 31) hx hb dX11_water_22 (by decide) (fun c_14 => ?_) (fun c_14 => ?_)
    · have f_15 : zi_10.toInt ≠ 0 := ic_ne (rfl) (by decide) c_14
      refine lv_aload_n hx hb dX11_water_31 rfl (lv_at hl 0 rfl) ?_
      refine lv_iload_n hx hb dX11_water_32 rfl (lv_at hl 1 rfl) ?_
      refine lv_aload_n hx hb dX11_water_33 rfl (lv_at hl 0 rfl) ?_
      refine ht_getr (C := RX11) (T := TX11) (N := 28) hx hb hts (by decide +kernel) hown hK hP hs t_zy (by decide) rfl rfl 0 (by decide) (hts (.fieldLink RX11 7 "DripStoneModel" "z" "[I") (by decide +kernel)) (fun _ h9 => h9) rfl dX11_water_34 ?_
      refine lv_iconst (v := 0) hx hb dX11_water_37 (by decide) ?_
      refine ht_iald (n := 392) (q := 0) hx hb hK hP hs t_6 (by decide) rfl rfl ⟨by decide, by decide⟩ dX11_water_38 ?_
      refine lv_topi (fun zi_16 ezi_16 => ?_)
      obtain rfl : zi_7 = zi_16 := (ezi_16.trans ezi_7.symm).symm
      refine hj_i (ws := (WL cy zL zT zR zI zJ)) (w1 := fun (u : Unit) => (WL cy zL zT zR zI zJ)) (va_runV (As := [.int zia, .int zi_7]) (rest := []) ⟨hx, hb, hml, hown, hts⟩ (t_X11_waterBy l dC dI cy H.size zL zT zR zI zJ zy zia zi_7 hs h_zI.1 t_zy (by omega) (by omega) (ne_ws (show zi_10 = _ from ps_13) (by omega))) (cwV 2 hts gX11_water_X11_waterBy rfl rfl rfl (by decide +kernel) ⟨(Nat.le_of_ble_eq_true rfl), (Nat.le_of_ble_eq_true rfl)⟩) (PRE.v hP hK hD hN (ht_recv hK hP hs t_zy (by decide) rfl rfl)) rfl rfl hl.1 rfl (lv_room (Nat.le_of_ble_eq_true rfl)) dX11_water_39 ⟨(Nat.le_of_ble_eq_true rfl), (Nat.le_of_ble_eq_true rfl)⟩) hP hD hS hA (fun zi_17 u_19 H locs hw_18 hP hD hS => ?_)
      have ps_20 : zi_17 = WSP (zI (zR zy 0)) (zi_7.toInt).toNat zia.toInt 0 / WS (zI (zR zy 0)) (zi_7.toInt).toNat zia.toInt 0 := hw_18
      have rzi_17 := rng zi_17
      subst hQ
      exact W.iret (v := zi_17) hx hb hr (fun t ht hW => ⟨⟨zi_17, (), rfl, ⟨(show ¬ (0 ≤ zia.toInt ∧ zia.toInt ≤ 23) → zi_17.toInt = -1001 from (fun h9 => absurd (by omega) h9)), (show (0 ≤ zia.toInt ∧ zia.toInt ≤ 23) → zi_17 = WRZ (zI (zR zy 0)) (zA (zI (zR zy 0)) (0)).toNat zia.toInt from (fun _ => by rw [show zA (zI (zR zy 0)) (0) = zi_7.toInt from by omega]; exact WRZ.d (show zi_10 = _ from ps_13) (by omega) rfl (show zi_17 = _ from ps_20)))⟩, ⟨by rw [ht]; exact hP, va_K.moved hW.alike hK, hD⟩⟩, hS.F ht⟩) hS.2.2 dX11_water_42
    · have f_15 : ¬ (zi_10.toInt ≠ 0) := ic_nne (rfl) (by decide) c_14
      refine lv_sipush (v := (-1004)) hx hb dX11_water_25 (by decide) ?_
      refine lv_goto (tgt := 42) hx hb dX11_water_28 (by decide) ?_
      subst hQ
      exact W.iret (v := (-1004 : Int32)) hx hb hr (fun t ht hW => ⟨⟨(-1004 : Int32), (), rfl, ⟨(show ¬ (0 ≤ zia.toInt ∧ zia.toInt ≤ 23) → (-1004 : Int32).toInt = -1001 from (fun h9 => absurd (by omega) h9)), (show (0 ≤ zia.toInt ∧ zia.toInt ≤ 23) → (-1004 : Int32) = WRZ (zI (zR zy 0)) (zA (zI (zR zy 0)) (0)).toNat zia.toInt from (fun _ => by rw [show zA (zI (zR zy 0)) (0) = zi_7.toInt from by omega]; exact WRZ.z (show zi_10 = _ from ps_13) (by omega)))⟩, ⟨by rw [ht]; exact hP, va_K.moved hW.alike hK, hD⟩⟩, hS.F ht⟩) hS.2.2 dX11_water_42
  · have f_5 : ¬ (0 ≤ zia.toInt ∧ zia.toInt ≤ 23) := bz_0 hw_2 c_4
    refine lv_sipush (v := (-1001)) hx hb dX11_water_7 (by decide) ?_
    subst hQ
    exact W.iret (v := (-1001 : Int32)) hx hb hr (fun t ht hW => ⟨⟨(-1001 : Int32), (), rfl, ⟨(show ¬ (0 ≤ zia.toInt ∧ zia.toInt ≤ 23) → (-1001 : Int32).toInt = -1001 from (fun _ => by decide)), (show (0 ≤ zia.toInt ∧ zia.toInt ≤ 23) → (-1001 : Int32) = WRZ (zI (zR zy 0)) (zA (zI (zR zy 0)) (0)).toNat zia.toInt from (fun h9 => absurd h9 (by omega)))⟩, ⟨by rw [ht]; exact hP, va_K.moved hW.alike hK, hD⟩⟩, hS.F ht⟩) hS.2.2 dX11_water_10
set_option maxHeartbeats 8000000 in
set_option maxRecDepth 100000 in
theorem t_X11_clauseHolds (l : Launch) (dC : Nat → ClassId) (dI : Nat → Nat → Nat) (cy : Nat → ClassId) (sz : Nat) (zL : List Nat) (zT : Nat → Nat) (zR : Nat → Nat → Nat) (zI : Nat → Nat → Int32) (zJ : Nat → Nat → Int64) (zy : Nat) (zia : Int32) (zib : Int32) (hs : SKP zL zT zR) (hw : WT zT zR zI) (t_zy : zT zy = 18) (b_zia : 92 ≤ zia.toInt ∧ zia.toInt ≤ 147) (b_zib : 0 ≤ zib.toInt ∧ zib.toInt ≤ 23) (hz : ZI (zI (zR zy 0))) (hx1 : 0 ≤ zA (zI (zR zy 0)) (zia.toInt) ∧ zA (zI (zR zy 0)) (zia.toInt) ≤ 3) : Met l yX11_clauseHolds wsX11_clauseHolds ({ frames := 1, cells := 0, slots := 0, locals := 24 } : Room) (va_Pc [.ref zy, .int zia, .int zib] (PRE dC dI cy (WL cy zL zT zR zI zJ) sz)) (va_Qi (fun (r : Int32) (u : Unit) => (0 ≤ r.toInt ∧ r.toInt ≤ 1)) (fun u t => POST dC dI cy (va_A (WL cy zL zT zR zI zJ) sz) (WL cy zL zT zR zI zJ) t) (va_A (WL cy zL zT zR zI zJ) sz)) 0 0 (va_A (WL cy zL zT zR zI zJ) sz) := by
  refine Met.ofW (cc := cX11_clauseHolds) (maxL := 9) (ret := (some .boolean)) (by decide) rfl ?_
  intro p e s m args below meth c s₁ B hml hv
  obtain ⟨rfl, hsz, hP, hK, hD0, hN⟩ := hv
  have hx := B.exec
  have hb := B.bytes
  have hr := B.returns
  have hts := atoms_spec (ws := wsX11_clauseHolds) B.pre
  have hown : s.vm.findClass RX11 = some m.cls := findClass_of_methodNamed B.named
  have hlocks := B.notSynchronized
  subst hsz
  have hD := hD0.self (sz := s.heap.size)
  generalize hAe : va_A (WL cy zL zT zR zI zJ) s.heap.size = A at hD ⊢
  have hA : ∀ q : Nat, s.heap.size ≤ q → A q := fun q h => by rw [← hAe]; exact Or.inr h
  have hS : va_S A s.heap s.heap [] := va_S.rf
  have hP : va_P (dC, dI) vwCl (WL cy zL zT zR zI zJ) s.heap := hP
  have hl := lv_entry ([.ref zy, .int zia, .int zib] : List Value) (n := 9) (Nat.le_of_ble_eq_true rfl)
  rw [lg_entry_eq]
  generalize (lg_sl ([.ref zy, .int zia, .int zib] : List Value) ++ List.replicate (9 - (lg_sl ([.ref zy, .int zia, .int zib] : List Value)).length) Slot.unset).toArray = ls at hl ⊢
  have hl : lv_has ls 9 [(0, .ref zy), (1, .int zia), (2, .int zib)] := hl
  refine w_q (fun Q hQ => ?_)
  have h_zI : WM [] AL zT zR zI zI := WM.rf hw
  refine lv_iconst (v := 1) hx hb dX11_clauseHolds_0 (by decide) ?_
  refine lv_istore_n (lv' := [(3, .int 1), (0, .ref zy), (1, .int zia), (2, .int zib)]) hx hb dX11_clauseHolds_1 rfl hl (by decide) rfl (fun ls hl => ?_)
  refine lv_iconst (v := 0) hx hb dX11_clauseHolds_2 (by decide) ?_
  refine lv_istore (lv' := [(4, .int 0), (3, .int 1), (0, .ref zy), (1, .int zia), (2, .int zib)]) hx hb dX11_clauseHolds_3 hl (by decide) rfl (fun ls hl => ?_)
  have lp_1167 : ∀ (n : Nat) (zi_1033 : Int32) (zi_1034 : Int32) (H : Heap) (locs : List Loc) (ls : Array Slot), (zA (zI (zR zy 0)) (zia.toInt) - zi_1034.toInt).toNat = n → (0 ≤ zi_1033.toInt ∧ zi_1033.toInt ≤ 1) → (0 ≤ zi_1034.toInt ∧ zi_1034.toInt ≤ 3) → (zi_1034.toInt ≤ zA (zI (zR zy 0)) (zia.toInt)) → (ZI (zI (zR zy 0))) → va_P (dC, dI) vwCl (WL cy zL zT zR zI zJ) H → va_D A (WL cy zL zT zR zI zJ) → va_S A s.heap H locs → lv_has ls 9 [(0, .ref zy), (1, .int zia), (2, .int zib), (3, .int zi_1033), (4, .int zi_1034)] → W p l e ({ frames := 1, cells := 0, slots := 0, locals := 24 } : Room) s m ([.ref zy, .int zia, .int zib] : List Value).toArray below meth c H locs 0 0 Q (F0 m 5 ls []) := by
    intro n
    induction n using Nat.strongRecOn with
    | _ n ih_1167 =>
      intro zi_1033 zi_1034 H locs ls hn b_zi_1033 b_zi_1034 e_lp_1167_0 e_lp_1167_1 hP hD hS hl
      refine lv_iload hx hb dX11_clauseHolds_5 (lv_at hl 4 rfl) ?_
      refine lv_aload_n hx hb dX11_clauseHolds_7 rfl (lv_at hl 0 rfl) ?_
      refine ht_getr (C := RX11) (T := TX11) (N := 28) hx hb hts (by decide +kernel) hown hK hP hs t_zy (by decide) rfl rfl 0 (by decide) (hts (.fieldLink RX11 7 "DripStoneModel" "z" "[I") (by decide +kernel)) (fun _ h9 => h9) rfl dX11_clauseHolds_8 ?_
      have t_1168 : zT (zR zy 0) = 100 := sk_f hs t_zy (by decide) rfl (by decide)
      refine lv_iload_n hx hb dX11_clauseHolds_11 rfl (lv_at hl 1 rfl) ?_
      refine ht_iald (n := 392) (q := 0) hx hb hK hP hs t_1168 (by decide) rfl rfl ⟨by omega, by omega⟩ dX11_clauseHolds_12 ?_
      refine lv_topi (fun zi_1169 ezi_1169 => ?_)
      have la_1170 : zi_1169.toInt = zA (zI (zR zy 0)) (zia.toInt) := (congrArg Int32.toInt (show zI (zR zy 0) zia.toNatClampNeg = zi_1169 from ezi_1169.symm).symm).trans (congrArg (zA (zI (zR zy 0))) (show zia.toInt = zia.toInt from by omega))
      refine lv_icmp_ge (tgt := 175) hx hb dX11_clauseHolds_13 (by decide) (fun c_1171 => ?_) (fun c_1171 => ?_)
      · have f_1172 : zi_1034.toInt ≥ zi_1169.toInt := ic_ge (rfl) (rfl) c_1171
        refine lv_iload_n hx hb dX11_clauseHolds_175 rfl (lv_at hl 3 rfl) ?_
        subst hQ
        exact W.zret (v := zi_1033) hx hb hr (zb_n2 (by omega)) (fun t ht hW => ⟨⟨zi_1033, (), rfl, (show 0 ≤ zi_1033.toInt ∧ zi_1033.toInt ≤ 1 from by omega), ⟨by rw [ht]; exact hP, va_K.moved hW.alike hK, hD⟩⟩, hS.F ht⟩) hS.2.2 dX11_clauseHolds_176
      · have f_1172 : ¬ (zi_1034.toInt ≥ zi_1169.toInt) := ic_nge (rfl) (rfl) c_1171
        refine lv_aload_n hx hb dX11_clauseHolds_16 rfl (lv_at hl 0 rfl) ?_
        refine ht_getr (C := RX11) (T := TX11) (N := 28) hx hb hts (by decide +kernel) hown hK hP hs t_zy (by decide) rfl rfl 0 (by decide) (hts (.fieldLink RX11 7 "DripStoneModel" "z" "[I") (by decide +kernel)) (fun _ h9 => h9) rfl dX11_clauseHolds_17 ?_
        refine lv_iload_n hx hb dX11_clauseHolds_20 rfl (lv_at hl 1 rfl) ?_
        refine lv_iconst (v := 2) hx hb dX11_clauseHolds_21 (by decide) ?_
        refine lv_iadd hx hb dX11_clauseHolds_22 ?_
        refine lv_topi (fun zi_1173 ezi_1173 => ?_)
        have tzi_1173 : zi_1173.toInt = zia.toInt + (2 : Int) := by rw [ezi_1173]; exact tiadd (rfl) (show (2 : Int32).toInt = 2 by decide) (by omega) (by omega)
        refine lv_iconst (v := 3) hx hb dX11_clauseHolds_23 (by decide) ?_
        refine lv_iload hx hb dX11_clauseHolds_24 (lv_at hl 4 rfl) ?_
        refine lv_imul hx hb dX11_clauseHolds_26 ?_
        refine lv_topi (fun zi_1174 ezi_1174 => ?_)
        have tzi_1174 : zi_1174.toInt = (3 : Int) * zi_1034.toInt := by rw [ezi_1174]; exact timul (show (3 : Int32).toInt = 3 by decide) (rfl) (by omega) (by omega)
        refine lv_iadd hx hb dX11_clauseHolds_27 ?_
        refine lv_topi (fun zi_1175 ezi_1175 => ?_)
        have tzi_1175 : zi_1175.toInt = zi_1173.toInt + zi_1174.toInt := by rw [ezi_1175]; exact tiadd (rfl) (rfl) (by omega) (by omega)
        refine ht_iald (n := 392) (q := 0) hx hb hK hP hs t_1168 (by decide) rfl rfl ⟨by omega, by omega⟩ dX11_clauseHolds_28 ?_
        refine lv_topi (fun zi_1176 ezi_1176 => ?_)
        have la_1177 : zi_1176.toInt = zA (zI (zR zy 0)) (2 + 3 * zi_1034.toInt + zia.toInt) := (congrArg Int32.toInt (show zI (zR zy 0) zi_1175.toNatClampNeg = zi_1176 from ezi_1176.symm).symm).trans (congrArg (zA (zI (zR zy 0))) (show zi_1175.toInt = 2 + 3 * zi_1034.toInt + zia.toInt from by omega))
        refine lv_istore (lv' := [(5, .int zi_1176), (0, .ref zy), (1, .int zia), (2, .int zib), (3, .int zi_1033), (4, .int zi_1034)]) hx hb dX11_clauseHolds_29 hl (by decide) rfl (fun ls hl => ?_)
        refine lv_aload_n hx hb dX11_clauseHolds_31 rfl (lv_at hl 1 rfl) ?_
        refine ht_getr (C := RX11) (T := TX11) (N := 28) hx hb hts (by decide +kernel) hown hK hP hs t_zy (by decide) rfl rfl 0 (by decide) (hts (.fieldLink RX11 7 "DripStoneModel" "z" "[I") (by decide +kernel)) (fun _ h9 => h9) rfl dX11_clauseHolds_32 ?_
        refine lv_iload_n hx hb dX11_clauseHolds_35 rfl (lv_at hl 2 rfl) ?_
        refine lv_iconst (v := 3) hx hb dX11_clauseHolds_36 (by decide) ?_
        refine lv_iadd hx hb dX11_clauseHolds_37 ?_
        refine lv_topi (fun zi_1178 ezi_1178 => ?_)
        have tzi_1178 : zi_1178.toInt = zia.toInt + (3 : Int) := by rw [ezi_1178]; exact tiadd (rfl) (show (3 : Int32).toInt = 3 by decide) (by omega) (by omega)
        refine lv_iconst (v := 3) hx hb dX11_clauseHolds_38 (by decide) ?_
        refine lv_iload hx hb dX11_clauseHolds_39 (lv_at hl 5 rfl) ?_
        refine lv_imul hx hb dX11_clauseHolds_41 ?_
        refine lv_topi (fun zi_1179 ezi_1179 => ?_)
        have tzi_1179 : zi_1179.toInt = (3 : Int) * zi_1034.toInt := by rw [ezi_1179]; exact timul (show (3 : Int32).toInt = 3 by decide) (rfl) (by omega) (by omega)
        refine lv_iadd hx hb dX11_clauseHolds_42 ?_
        refine lv_topi (fun zi_1180 ezi_1180 => ?_)
        have tzi_1180 : zi_1180.toInt = zi_1178.toInt + zi_1179.toInt := by rw [ezi_1180]; exact tiadd (rfl) (rfl) (by omega) (by omega)
        refine ht_iald (n := 392) (q := 0) hx hb hK hP hs t_1168 (by decide) rfl rfl ⟨by omega, by omega⟩ dX11_clauseHolds_43 ?_
        refine lv_topi (fun zi_1181 ezi_1181 => ?_)
        have la_1182 : zi_1181.toInt = zA (zI (zR zy 0)) (3 + 3 * zi_1034.toInt + zia.toInt) := (congrArg Int32.toInt (show zI (zR zy 0) zi_1180.toNatClampNeg = zi_1181 from ezi_1181.symm).symm).trans (congrArg (zA (zI (zR zy 0))) (show zi_1180.toInt = 3 + 3 * zi_1034.toInt + zia.toInt from by omega))
        refine lv_istore (lv' := [(6, .int zi_1181), (5, .int zi_1176), (0, .ref zy), (1, .int zia), (2, .int zib), (3, .int zi_1033), (4, .int zi_1034)]) hx hb dX11_clauseHolds_44 hl (by decide) rfl (fun ls hl => ?_)
        refine lv_aload_n hx hb dX11_clauseHolds_46 rfl (lv_at hl 2 rfl) ?_
        refine ht_getr (C := RX11) (T := TX11) (N := 28) hx hb hts (by decide +kernel) hown hK hP hs t_zy (by decide) rfl rfl 0 (by decide) (hts (.fieldLink RX11 7 "DripStoneModel" "z" "[I") (by decide +kernel)) (fun _ h9 => h9) rfl dX11_clauseHolds_47 ?_
        refine lv_iload_n hx hb dX11_clauseHolds_50 rfl (lv_at hl 3 rfl) ?_
        refine lv_iconst (v := 4) hx hb dX11_clauseHolds_51 (by decide) ?_
        refine lv_iadd hx hb dX11_clauseHolds_52 ?_
        refine lv_topi (fun zi_1183 ezi_1183 => ?_)
        have tzi_1183 : zi_1183.toInt = zia.toInt + (4 : Int) := by rw [ezi_1183]; exact tiadd (rfl) (show (4 : Int32).toInt = 4 by decide) (by omega) (by omega)
        refine lv_iconst (v := 3) hx hb dX11_clauseHolds_53 (by decide) ?_
        refine lv_iload hx hb dX11_clauseHolds_54 (lv_at hl 6 rfl) ?_
        refine lv_imul hx hb dX11_clauseHolds_56 ?_
        refine lv_topi (fun zi_1184 ezi_1184 => ?_)
        have tzi_1184 : zi_1184.toInt = (3 : Int) * zi_1034.toInt := by rw [ezi_1184]; exact timul (show (3 : Int32).toInt = 3 by decide) (rfl) (by omega) (by omega)
        refine lv_iadd hx hb dX11_clauseHolds_57 ?_
        refine lv_topi (fun zi_1185 ezi_1185 => ?_)
        have tzi_1185 : zi_1185.toInt = zi_1183.toInt + zi_1184.toInt := by rw [ezi_1185]; exact tiadd (rfl) (rfl) (by omega) (by omega)
        refine ht_iald (n := 392) (q := 0) hx hb hK hP hs t_1168 (by decide) rfl rfl ⟨by omega, by omega⟩ dX11_clauseHolds_58 ?_
        refine lv_topi (fun zi_1186 ezi_1186 => ?_)
        have la_1187 : zi_1186.toInt = zA (zI (zR zy 0)) (4 + 3 * zi_1034.toInt + zia.toInt) := (congrArg Int32.toInt (show zI (zR zy 0) zi_1185.toNatClampNeg = zi_1186 from ezi_1186.symm).symm).trans (congrArg (zA (zI (zR zy 0))) (show zi_1185.toInt = 4 + 3 * zi_1034.toInt + zia.toInt from by omega))
        refine lv_istore (lv' := [(7, .int zi_1186), (6, .int zi_1181), (5, .int zi_1176), (0, .ref zy), (1, .int zia), (2, .int zib), (3, .int zi_1033), (4, .int zi_1034)]) hx hb dX11_clauseHolds_59 hl (by decide) rfl (fun ls hl => ?_)
        refine lv_iload hx hb dX11_clauseHolds_61 (lv_at hl 2 rfl) ?_
        refine lv_bipush (v := 97) hx hb dX11_clauseHolds_63 (by decide) ?_
        have jn_1209 : ∀ (zi_1208 : Int32) (H : Heap) (locs : List Loc) (ls : Array Slot), (ZI (zI (zR zy 0))) → va_P (dC, dI) vwCl (WL cy zL zT zR zI zJ) H → va_D A (WL cy zL zT zR zI zJ) → va_S A s.heap H locs → lv_has ls 9 [(0, .ref zy), (1, .int zia), (2, .int zib), (3, .int zi_1033), (4, .int zi_1034), (5, .int zi_1176), (6, .int zi_1181), (7, .int zi_1186)] → W p l e ({ frames := 1, cells := 0, slots := 0, locals := 24 } : Room) s m ([.ref zy, .int zia, .int zib] : List Value).toArray below meth c H locs 0 0 Q (F0 m 116 ls [.int zi_1208]) := by
          intro zi_1208 H locs ls e_jn_1209_0 hP hD hS hl
          refine lv_istore (lv' := [(8, .int zi_1208), (0, .ref zy), (1, .int zia), (2, .int zib), (3, .int zi_1033), (4, .int zi_1034), (5, .int zi_1176), (6, .int zi_1181), (7, .int zi_1186)]) hx hb dX11_clauseHolds_116 hl (by decide) rfl (fun ls hl => ?_)
          refine lv_iload_n hx hb dX11_clauseHolds_118 rfl (lv_at hl 4 rfl) ?_
          have jn_1245 : ∀  (H : Heap) (locs : List Loc) (ls : Array Slot), (ZI (zI (zR zy 0))) → va_P (dC, dI) vwCl (WL cy zL zT zR zI zJ) H → va_D A (WL cy zL zT zR zI zJ) → va_S A s.heap H locs → lv_has ls 9 [(0, .ref zy), (1, .int zia), (2, .int zib), (3, .int zi_1033), (4, .int zi_1034), (5, .int zi_1176), (6, .int zi_1181), (7, .int zi_1186), (8, .int zi_1208)] → W p l e ({ frames := 1, cells := 0, slots := 0, locals := 24 } : Room) s m ([.ref zy, .int zia, .int zib] : List Value).toArray below meth c H locs 0 0 Q (F0 m 167 ls []) := by
            intro  H locs ls e_jn_1245_0 hP hD hS hl
            refine lv_iconst (v := 0) hx hb dX11_clauseHolds_167 (by decide) ?_
            refine lv_istore_n (lv' := [(3, .int 0), (0, .ref zy), (1, .int zia), (2, .int zib), (4, .int zi_1034), (5, .int zi_1176), (6, .int zi_1181), (7, .int zi_1186), (8, .int zi_1208)]) hx hb dX11_clauseHolds_168 rfl hl (by decide) rfl (fun ls hl => ?_)
            obtain ⟨zi_1246, ezi_1246⟩ : ∃ y : Int32, y = zi_1034 + 1 := ⟨_, rfl⟩
            have tzi_1246 : zi_1246.toInt = zi_1034.toInt + 1 := by rw [ezi_1246]; exact tadd rfl (show (1 : Int32).toInt = 1 by decide) (by omega) (by omega)
            refine lv_iinc (v := zi_1246) (lv' := [(4, .int zi_1246), (3, .int 0), (0, .ref zy), (1, .int zia), (2, .int zib), (5, .int zi_1176), (6, .int zi_1181), (7, .int zi_1186), (8, .int zi_1208)]) hx hb dX11_clauseHolds_169 hl (k := 4) rfl (by rw [ezi_1246]; rfl) (by decide) rfl (fun ls hl => ?_)
            refine lv_goto (tgt := 5) hx hb dX11_clauseHolds_172 (by decide) ?_
            have qc_0 : (0 : Int32).toInt = 0 := by decide
            exact ih_1167 (zA (zI (zR zy 0)) (zia.toInt) - zi_1246.toInt).toNat (by omega) (0 : Int32) zi_1246 _ _ _ rfl (by decide) (by omega) (by omega) e_jn_1245_0 hP hD hS (lv_sub hl [2, 3, 4, 1, 0] rfl)
          refine lv_if_eq (tgt := 167) hx hb dX11_clauseHolds_119 (by decide) (fun c_1247 => ?_) (fun c_1247 => ?_)
          · have f_1248 : zi_1033.toInt = 0 := ic_eq (rfl) (by decide) c_1247
            exact jn_1245  _ _ _ e_jn_1209_0 hP hD hS (lv_sub hl [1, 2, 3, 4, 5, 6, 7, 8, 0] rfl)
          · have f_1248 : ¬ (zi_1033.toInt = 0) := ic_neq (rfl) (by decide) c_1247
            refine lv_iload hx hb dX11_clauseHolds_122 (lv_at hl 7 rfl) ?_
            refine lv_bipush (v := 60) hx hb dX11_clauseHolds_124 (by decide) ?_
            have jn_1265 : ∀  (H : Heap) (locs : List Loc) (ls : Array Slot), (ZI (zI (zR zy 0))) → va_P (dC, dI) vwCl (WL cy zL zT zR zI zJ) H → va_D A (WL cy zL zT zR zI zJ) → va_S A s.heap H locs → lv_has ls 9 [(0, .ref zy), (1, .int zia), (2, .int zib), (3, .int zi_1033), (4, .int zi_1034), (5, .int zi_1176), (6, .int zi_1181), (7, .int zi_1186), (8, .int zi_1208)] → W p l e ({ frames := 1, cells := 0, slots := 0, locals := 24 } : Room) s m ([.ref zy, .int zia, .int zib] : List Value).toArray below meth c H locs 0 0 Q (F0 m 163 ls []) := by
              intro  H locs ls e_jn_1265_0 hP hD hS hl
              refine lv_iconst (v := 1) hx hb dX11_clauseHolds_163 (by decide) ?_
              refine lv_goto (tgt := 168) hx hb dX11_clauseHolds_164 (by decide) ?_
              refine lv_istore_n (lv' := [(3, .int 1), (0, .ref zy), (1, .int zia), (2, .int zib), (4, .int zi_1034), (5, .int zi_1176), (6, .int zi_1181), (7, .int zi_1186), (8, .int zi_1208)]) hx hb dX11_clauseHolds_168 rfl hl (by decide) rfl (fun ls hl => ?_)
              obtain ⟨zi_1266, ezi_1266⟩ : ∃ y : Int32, y = zi_1034 + 1 := ⟨_, rfl⟩
              have tzi_1266 : zi_1266.toInt = zi_1034.toInt + 1 := by rw [ezi_1266]; exact tadd rfl (show (1 : Int32).toInt = 1 by decide) (by omega) (by omega)
              refine lv_iinc (v := zi_1266) (lv' := [(4, .int zi_1266), (3, .int 1), (0, .ref zy), (1, .int zia), (2, .int zib), (5, .int zi_1176), (6, .int zi_1181), (7, .int zi_1186), (8, .int zi_1208)]) hx hb dX11_clauseHolds_169 hl (k := 4) rfl (by rw [ezi_1266]; rfl) (by decide) rfl (fun ls hl => ?_)
              refine lv_goto (tgt := 5) hx hb dX11_clauseHolds_172 (by decide) ?_
              have qc_1 : (1 : Int32).toInt = 1 := by decide
              exact ih_1167 (zA (zI (zR zy 0)) (zia.toInt) - zi_1266.toInt).toNat (by omega) (1 : Int32) zi_1266 _ _ _ rfl (by decide) (by omega) (by omega) e_jn_1265_0 hP hD hS (lv_sub hl [2, 3, 4, 1, 0] rfl)
            refine lv_icmp_ne (tgt := 139) hx hb dX11_clauseHolds_126 (by decide) (fun c_1267 => ?_) (fun c_1267 => ?_)
            · have f_1268 : zi_1181.toInt ≠ (60 : Int) := ic_ne (rfl) (show (60 : Int32).toInt = 60 by decide) c_1267
              refine lv_iload hx hb dX11_clauseHolds_139 (lv_at hl 7 rfl) ?_
              refine lv_bipush (v := 62) hx hb dX11_clauseHolds_141 (by decide) ?_
              refine lv_icmp_ne (tgt := 156) hx hb dX11_clauseHolds_143 (by decide) (fun c_1269 => ?_) (fun c_1269 => ?_)
              · have f_1270 : zi_1181.toInt ≠ (62 : Int) := ic_ne (rfl) (show (62 : Int32).toInt = 62 by decide) c_1269
                refine lv_iload hx hb dX11_clauseHolds_156 (lv_at hl 0 rfl) ?_
                refine lv_iload hx hb dX11_clauseHolds_158 (lv_at hl 8 rfl) ?_
                refine lv_icmp_ne (tgt := 167) hx hb dX11_clauseHolds_160 (by decide) (fun c_1273 => ?_) (fun c_1273 => ?_)
                · have f_1274 : zi_1208.toInt ≠ zi_1186.toInt := ic_ne (rfl) (rfl) c_1273
                  exact jn_1245  _ _ _ e_jn_1209_0 hP hD hS (lv_sub hl [1, 2, 3, 4, 5, 6, 7, 8, 0] rfl)
                · have f_1274 : ¬ (zi_1208.toInt ≠ zi_1186.toInt) := ic_nne (rfl) (rfl) c_1273
                  exact jn_1265  _ _ _ e_jn_1209_0 hP hD hS (lv_sub hl [1, 2, 3, 4, 5, 6, 7, 8, 0] rfl)
              · have f_1270 : ¬ (zi_1181.toInt ≠ (62 : Int)) := ic_nne (rfl) (show (62 : Int32).toInt = 62 by decide) c_1269
                refine lv_iload hx hb dX11_clauseHolds_146 (lv_at hl 0 rfl) ?_
                refine lv_iload hx hb dX11_clauseHolds_148 (lv_at hl 8 rfl) ?_
                refine lv_icmp_le (tgt := 167) hx hb dX11_clauseHolds_150 (by decide) (fun c_1277 => ?_) (fun c_1277 => ?_)
                · have f_1278 : zi_1208.toInt ≤ zi_1186.toInt := ic_le (rfl) (rfl) c_1277
                  exact jn_1245  _ _ _ e_jn_1209_0 hP hD hS (lv_sub hl [1, 2, 3, 4, 5, 6, 7, 8, 0] rfl)
                · have f_1278 : ¬ (zi_1208.toInt ≤ zi_1186.toInt) := ic_nle (rfl) (rfl) c_1277
                  refine lv_goto (tgt := 163) hx hb dX11_clauseHolds_153 (by decide) ?_
                  exact jn_1265  _ _ _ e_jn_1209_0 hP hD hS (lv_sub hl [1, 2, 3, 4, 5, 6, 7, 8, 0] rfl)
            · have f_1268 : ¬ (zi_1181.toInt ≠ (60 : Int)) := ic_nne (rfl) (show (60 : Int32).toInt = 60 by decide) c_1267
              refine lv_iload hx hb dX11_clauseHolds_129 (lv_at hl 0 rfl) ?_
              refine lv_iload hx hb dX11_clauseHolds_131 (lv_at hl 8 rfl) ?_
              refine lv_icmp_ge (tgt := 167) hx hb dX11_clauseHolds_133 (by decide) (fun c_1281 => ?_) (fun c_1281 => ?_)
              · have f_1282 : zi_1208.toInt ≥ zi_1186.toInt := ic_ge (rfl) (rfl) c_1281
                exact jn_1245  _ _ _ e_jn_1209_0 hP hD hS (lv_sub hl [1, 2, 3, 4, 5, 6, 7, 8, 0] rfl)
              · have f_1282 : ¬ (zi_1208.toInt ≥ zi_1186.toInt) := ic_nge (rfl) (rfl) c_1281
                refine lv_goto (tgt := 163) hx hb dX11_clauseHolds_136 (by decide) ?_
                exact jn_1265  _ _ _ e_jn_1209_0 hP hD hS (lv_sub hl [1, 2, 3, 4, 5, 6, 7, 8, 0] rfl)
        refine lv_icmp_ne (tgt := 82) hx hb dX11_clauseHolds_65 (by decide) (fun c_1283 => ?_) (fun c_1283 => ?_)
        · have f_1284 : zi_1176.toInt ≠ (97 : Int) := ic_ne (rfl) (show (97 : Int32).toInt = 97 by decide) c_1283
          refine lv_iload hx hb dX11_clauseHolds_82 (lv_at hl 2 rfl) ?_
          refine lv_bipush (v := 104) hx hb dX11_clauseHolds_84 (by decide) ?_
          refine lv_icmp_ne (tgt := 105) hx hb dX11_clauseHolds_86 (by decide) (fun c_1285 => ?_) (fun c_1285 => ?_)
          · have f_1286 : zi_1176.toInt ≠ (104 : Int) := ic_ne (rfl) (show (104 : Int32).toInt = 104 by decide) c_1285
            refine lv_aload_n hx hb dX11_clauseHolds_105 rfl (lv_at hl 3 rfl) ?_
            refine lv_iload_n hx hb dX11_clauseHolds_106 rfl (lv_at hl 5 rfl) ?_
            refine lv_aload_n hx hb dX11_clauseHolds_107 rfl (lv_at hl 3 rfl) ?_
            refine ht_getr (C := RX11) (T := TX11) (N := 28) hx hb hts (by decide +kernel) hown hK hP hs t_zy (by decide) rfl rfl 0 (by decide) (hts (.fieldLink RX11 7 "DripStoneModel" "z" "[I") (by decide +kernel)) (fun _ h9 => h9) rfl dX11_clauseHolds_108 ?_
            refine lv_iconst (v := 0) hx hb dX11_clauseHolds_111 (by decide) ?_
            refine ht_iald (n := 392) (q := 0) hx hb hK hP hs t_1168 (by decide) rfl rfl ⟨by decide, by decide⟩ dX11_clauseHolds_112 ?_
            refine lv_topi (fun zi_1287 ezi_1287 => ?_)
            have la_1288 : zi_1287.toInt = zA (zI (zR zy 0)) (0) := (congrArg Int32.toInt (show zI (zR zy 0) (0 : Int32).toNatClampNeg = zi_1287 from ezi_1287.symm).symm).trans (congrArg (zA (zI (zR zy 0))) (show (0 : Int32).toInt = 0 from by decide))
            have tz_1289 : 1 ≤ zi_1287.toInt ∧ zi_1287.toInt ≤ 5 := by rw [← (show zI (zR zy 0) (0 : Int32).toNatClampNeg = zi_1287 from ezi_1287.symm)]; exact ZI.g0 e_lp_1167_1 (by decide) (by decide)
            refine hj_i (ws := (WL cy zL zT zR zI zJ)) (w1 := fun (u : Unit) => (WL cy zL zT zR zI zJ)) (va_runV (As := [.int zib, .int zi_1287]) (rest := []) ⟨hx, hb, hml, hown, hts⟩ (t_X11_wetBy l dC dI cy H.size zL zT zR zI zJ zy zib zi_1287 hs h_zI.1 t_zy (by omega) (by omega)) (cwV 2 hts gX11_clauseHolds_X11_wetBy rfl rfl rfl (by decide +kernel) ⟨(Nat.le_of_ble_eq_true rfl), (Nat.le_of_ble_eq_true rfl)⟩) (PRE.v hP hK hD hN (ht_recv hK hP hs t_zy (by decide) rfl rfl)) rfl rfl hl.1 rfl (lv_room (Nat.le_of_ble_eq_true rfl)) dX11_clauseHolds_113 ⟨(Nat.le_of_ble_eq_true rfl), (Nat.le_of_ble_eq_true rfl)⟩) hP hD hS hA (fun zi_1290 u_1292 H locs hw_1291 hP hD hS => ?_)
            have ps_1293 : zi_1290 = WS (zI (zR zy 0)) (zi_1287.toInt).toNat zib.toInt 0 := hw_1291
            have rzi_1290 := rng zi_1290
            exact jn_1209 zi_1290 _ _ _ e_lp_1167_1 hP hD hS (lv_sub hl [3, 4, 5, 6, 7, 2, 1, 0] rfl)
          · have f_1286 : ¬ (zi_1176.toInt ≠ (104 : Int)) := ic_nne (rfl) (show (104 : Int32).toInt = 104 by decide) c_1285
            refine lv_aload_n hx hb dX11_clauseHolds_89 rfl (lv_at hl 3 rfl) ?_
            refine ht_getr (C := RX11) (T := TX11) (N := 28) hx hb hts (by decide +kernel) hown hK hP hs t_zy (by decide) rfl rfl 0 (by decide) (hts (.fieldLink RX11 7 "DripStoneModel" "z" "[I") (by decide +kernel)) (fun _ h9 => h9) rfl dX11_clauseHolds_90 ?_
            refine lv_bipush (v := 20) hx hb dX11_clauseHolds_93 (by decide) ?_
            refine lv_iconst (v := 3) hx hb dX11_clauseHolds_95 (by decide) ?_
            refine lv_iload_n hx hb dX11_clauseHolds_96 rfl (lv_at hl 5 rfl) ?_
            refine lv_imul hx hb dX11_clauseHolds_97 ?_
            refine lv_topi (fun zi_1294 ezi_1294 => ?_)
            have tzi_1294 : zi_1294.toInt = (3 : Int) * zib.toInt := by rw [ezi_1294]; exact timul (show (3 : Int32).toInt = 3 by decide) (rfl) (by omega) (by omega)
            refine lv_iadd hx hb dX11_clauseHolds_98 ?_
            refine lv_topi (fun zi_1295 ezi_1295 => ?_)
            have tzi_1295 : zi_1295.toInt = (20 : Int) + zi_1294.toInt := by rw [ezi_1295]; exact tiadd (show (20 : Int32).toInt = 20 by decide) (rfl) (by omega) (by omega)
            refine lv_iconst (v := 2) hx hb dX11_clauseHolds_99 (by decide) ?_
            refine lv_iadd hx hb dX11_clauseHolds_100 ?_
            refine lv_topi (fun zi_1296 ezi_1296 => ?_)
            have tzi_1296 : zi_1296.toInt = zi_1295.toInt + (2 : Int) := by rw [ezi_1296]; exact tiadd (rfl) (show (2 : Int32).toInt = 2 by decide) (by omega) (by omega)
            refine ht_iald (n := 392) (q := 0) hx hb hK hP hs t_1168 (by decide) rfl rfl ⟨by omega, by omega⟩ dX11_clauseHolds_101 ?_
            refine lv_topi (fun zi_1297 ezi_1297 => ?_)
            have la_1298 : zi_1297.toInt = zA (zI (zR zy 0)) (22 + 3 * zib.toInt) := (congrArg Int32.toInt (show zI (zR zy 0) zi_1296.toNatClampNeg = zi_1297 from ezi_1297.symm).symm).trans (congrArg (zA (zI (zR zy 0))) (show zi_1296.toInt = 22 + 3 * zib.toInt from by omega))
            refine lv_goto (tgt := 116) hx hb dX11_clauseHolds_102 (by decide) ?_
            exact jn_1209 zi_1297 _ _ _ e_lp_1167_1 hP hD hS (lv_sub hl [3, 4, 5, 6, 7, 2, 1, 0] rfl)
        · have f_1284 : ¬ (zi_1176.toInt ≠ (97 : Int)) := ic_nne (rfl) (show (97 : Int32).toInt = 97 by decide) c_1283
          refine lv_aload_n hx hb dX11_clauseHolds_68 rfl (lv_at hl 3 rfl) ?_
          refine ht_getr (C := RX11) (T := TX11) (N := 28) hx hb hts (by decide +kernel) hown hK hP hs t_zy (by decide) rfl rfl 0 (by decide) (hts (.fieldLink RX11 7 "DripStoneModel" "z" "[I") (by decide +kernel)) (fun _ h9 => h9) rfl dX11_clauseHolds_69 ?_
          refine lv_bipush (v := 20) hx hb dX11_clauseHolds_72 (by decide) ?_
          refine lv_iconst (v := 3) hx hb dX11_clauseHolds_74 (by decide) ?_
          refine lv_iload_n hx hb dX11_clauseHolds_75 rfl (lv_at hl 5 rfl) ?_
          refine lv_imul hx hb dX11_clauseHolds_76 ?_
          refine lv_topi (fun zi_1299 ezi_1299 => ?_)
          have tzi_1299 : zi_1299.toInt = (3 : Int) * zib.toInt := by rw [ezi_1299]; exact timul (show (3 : Int32).toInt = 3 by decide) (rfl) (by omega) (by omega)
          refine lv_iadd hx hb dX11_clauseHolds_77 ?_
          refine lv_topi (fun zi_1300 ezi_1300 => ?_)
          have tzi_1300 : zi_1300.toInt = (20 : Int) + zi_1299.toInt := by rw [ezi_1300]; exact tiadd (show (20 : Int32).toInt = 20 by decide) (rfl) (by omega) (by omega)
          refine ht_iald (n := 392) (q := 0) hx hb hK hP hs t_1168 (by decide) rfl rfl ⟨by omega, by omega⟩ dX11_clauseHolds_78 ?_
          refine lv_topi (fun zi_1301 ezi_1301 => ?_)
          have la_1302 : zi_1301.toInt = zA (zI (zR zy 0)) (20 + 3 * zib.toInt) := (congrArg Int32.toInt (show zI (zR zy 0) zi_1300.toNatClampNeg = zi_1301 from ezi_1301.symm).symm).trans (congrArg (zA (zI (zR zy 0))) (show zi_1300.toInt = 20 + 3 * zib.toInt from by omega))
          refine lv_goto (tgt := 116) hx hb dX11_clauseHolds_79 (by decide) ?_
          exact jn_1209 zi_1301 _ _ _ e_lp_1167_1 hP hD hS (lv_sub hl [3, 4, 5, 6, 7, 2, 1, 0] rfl)
  have qc_1 : (1 : Int32).toInt = 1 := by decide
  have qc_0 : (0 : Int32).toInt = 0 := by decide
  exact lp_1167 _ (1 : Int32) (0 : Int32) _ _ _ rfl (by decide) (by decide) (by omega) hz hP hD hS (lv_sub hl [2, 3, 4, 1, 0] rfl)
set_option maxHeartbeats 8000000 in
set_option maxRecDepth 100000 in
theorem t_X11_growthOf (l : Launch) (dC : Nat → ClassId) (dI : Nat → Nat → Nat) (cy : Nat → ClassId) (sz : Nat) (zL : List Nat) (zT : Nat → Nat) (zR : Nat → Nat → Nat) (zI : Nat → Nat → Int32) (zJ : Nat → Nat → Int64) (zy : Nat) (ziy : Int32) (hs : SKP zL zT zR) (hw : WT zT zR zI) (t_zy : zT zy = 18) (b_ziy : 0 ≤ ziy.toInt ∧ ziy.toInt ≤ 23) (hz : ZI (zI (zR zy 0))) : Met l yX11_growthOf wsX11_growthOf ({ frames := 2, cells := 0, slots := 0, locals := 52 } : Room) (va_Pc [.ref zy, .int ziy] (PRE dC dI cy (WL cy zL zT zR zI zJ) sz)) (va_Qi (fun (r : Int32) (u : Unit) => (r.toInt ≤ 0 ∨ ¬ WS (zI (zR zy 0)) (zA (zI (zR zy 0)) (0)).toNat ziy.toInt 0 = 0)) (fun u t => POST dC dI cy (va_A (WL cy zL zT zR zI zJ) sz) (WL cy zL zT zR zI zJ) t) (va_A (WL cy zL zT zR zI zJ) sz)) 0 0 (va_A (WL cy zL zT zR zI zJ) sz) := by
  refine Met.ofW (cc := cX11_growthOf) (maxL := 3) (ret := (some .int)) (by decide) rfl ?_
  intro p e s m args below meth c s₁ B hml hv
  obtain ⟨rfl, hsz, hP, hK, hD0, hN⟩ := hv
  have hx := B.exec
  have hb := B.bytes
  have hr := B.returns
  have hts := atoms_spec (ws := wsX11_growthOf) B.pre
  have hown : s.vm.findClass RX11 = some m.cls := findClass_of_methodNamed B.named
  have hlocks := B.notSynchronized
  subst hsz
  have hD := hD0.self (sz := s.heap.size)
  generalize hAe : va_A (WL cy zL zT zR zI zJ) s.heap.size = A at hD ⊢
  have hA : ∀ q : Nat, s.heap.size ≤ q → A q := fun q h => by rw [← hAe]; exact Or.inr h
  have hS : va_S A s.heap s.heap [] := va_S.rf
  have hP : va_P (dC, dI) vwCl (WL cy zL zT zR zI zJ) s.heap := hP
  have hl := lv_entry ([.ref zy, .int ziy] : List Value) (n := 3) (Nat.le_of_ble_eq_true rfl)
  rw [lg_entry_eq]
  generalize (lg_sl ([.ref zy, .int ziy] : List Value) ++ List.replicate (3 - (lg_sl ([.ref zy, .int ziy] : List Value)).length) Slot.unset).toArray = ls at hl ⊢
  have hl : lv_has ls 3 [(0, .ref zy), (1, .int ziy)] := hl
  refine w_q (fun Q hQ => ?_)
  have h_zI : WM [] AL zT zR zI zI := WM.rf hw
  refine lv_aload_n hx hb dX11_growthOf_0 rfl (lv_at hl 0 rfl) ?_
  refine lv_iload_n hx hb dX11_growthOf_1 rfl (lv_at hl 1 rfl) ?_
  refine lv_aload_n hx hb dX11_growthOf_2 rfl (lv_at hl 0 rfl) ?_
  refine ht_getr (C := RX11) (T := TX11) (N := 28) hx hb hts (by decide +kernel) hown hK hP hs t_zy (by decide) rfl rfl 0 (by decide) (hts (.fieldLink RX11 7 "DripStoneModel" "z" "[I") (by decide +kernel)) (fun _ h9 => h9) rfl dX11_growthOf_3 ?_
  have t_1 : zT (zR zy 0) = 100 := sk_f hs t_zy (by decide) rfl (by decide)
  refine lv_iconst (v := 0) hx hb dX11_growthOf_6 (by decide) ?_
  refine ht_iald (n := 392) (q := 0) hx hb hK hP hs t_1 (by decide) rfl rfl ⟨by decide, by decide⟩ dX11_growthOf_7 ?_
  refine lv_topi (fun zi_2 ezi_2 => ?_)
  have la_3 : zi_2.toInt = zA (zI (zR zy 0)) (0) := (congrArg Int32.toInt (show zI (zR zy 0) (0 : Int32).toNatClampNeg = zi_2 from ezi_2.symm).symm).trans (congrArg (zA (zI (zR zy 0))) (show (0 : Int32).toInt = 0 from by decide))
  have tz_4 : 1 ≤ zi_2.toInt ∧ zi_2.toInt ≤ 5 := by rw [← (show zI (zR zy 0) (0 : Int32).toNatClampNeg = zi_2 from ezi_2.symm)]; exact ZI.g0 hz (by decide) (by decide)
  refine hj_i (ws := (WL cy zL zT zR zI zJ)) (w1 := fun (u : Unit) => (WL cy zL zT zR zI zJ)) (va_runV (As := [.int ziy, .int zi_2]) (rest := []) ⟨hx, hb, hml, hown, hts⟩ (t_X11_wetBy l dC dI cy s.heap.size zL zT zR zI zJ zy ziy zi_2 hs h_zI.1 t_zy (by omega) (by omega)) (cwV 2 hts gX11_growthOf_X11_wetBy rfl rfl rfl (by decide +kernel) ⟨(Nat.le_of_ble_eq_true rfl), (Nat.le_of_ble_eq_true rfl)⟩) (PRE.v hP hK hD hN (ht_recv hK hP hs t_zy (by decide) rfl rfl)) rfl rfl hl.1 rfl (lv_room (Nat.le_of_ble_eq_true rfl)) dX11_growthOf_8 ⟨(Nat.le_of_ble_eq_true rfl), (Nat.le_of_ble_eq_true rfl)⟩) hP hD hS hA (fun zi_5 u_7 H locs hw_6 hP hD hS => ?_)
  have ps_8 : zi_5 = WS (zI (zR zy 0)) (zi_2.toInt).toNat ziy.toInt 0 := hw_6
  have rzi_5 := rng zi_5
  refine lv_if_ne (tgt := 16) hx hb dX11_growthOf_11 (by decide) (fun c_9 => ?_) (fun c_9 => ?_)
  · have f_10 : zi_5.toInt ≠ 0 := ic_ne (rfl) (by decide) c_9
    refine lv_iconst (v := 0) hx hb dX11_growthOf_16 (by decide) ?_
    refine lv_istore_n (lv' := [(2, .int 0), (0, .ref zy), (1, .int ziy)]) hx hb dX11_growthOf_17 rfl hl (by decide) rfl (fun ls hl => ?_)
    have lp_78 : ∀ (n : Nat) (zi_64 : Int32) (H : Heap) (locs : List Loc) (ls : Array Slot), (6 - zi_64.toInt).toNat = n → (0 ≤ zi_64.toInt ∧ zi_64.toInt ≤ 6) → (ZI (zI (zR zy 0))) → va_P (dC, dI) vwCl (WL cy zL zT zR zI zJ) H → va_D A (WL cy zL zT zR zI zJ) → va_S A s.heap H locs → lv_has ls 3 [(0, .ref zy), (1, .int ziy), (2, .int zi_64)] → W p l e ({ frames := 2, cells := 0, slots := 0, locals := 52 } : Room) s m ([.ref zy, .int ziy] : List Value).toArray below meth c H locs 0 0 Q (F0 m 18 ls []) := by
      intro n
      induction n using Nat.strongRecOn with
      | _ n ih_78 =>
        intro zi_64 H locs ls hn b_zi_64 e_lp_78_0 hP hD hS hl
        refine lv_iload_n hx hb dX11_growthOf_18 rfl (lv_at hl 2 rfl) ?_
        refine lv_aload_n hx hb dX11_growthOf_19 rfl (lv_at hl 0 rfl) ?_
        refine ht_getr (C := RX11) (T := TX11) (N := 28) hx hb hts (by decide +kernel) hown hK hP hs t_zy (by decide) rfl rfl 0 (by decide) (hts (.fieldLink RX11 7 "DripStoneModel" "z" "[I") (by decide +kernel)) (fun _ h9 => h9) rfl dX11_growthOf_20 ?_
        refine lv_iconst (v := 2) hx hb dX11_growthOf_23 (by decide) ?_
        refine ht_iald (n := 392) (q := 0) hx hb hK hP hs t_1 (by decide) rfl rfl ⟨by decide, by decide⟩ dX11_growthOf_24 ?_
        refine lv_topi (fun zi_79 ezi_79 => ?_)
        have la_80 : zi_79.toInt = zA (zI (zR zy 0)) (2) := (congrArg Int32.toInt (show zI (zR zy 0) (2 : Int32).toNatClampNeg = zi_79 from ezi_79.symm).symm).trans (congrArg (zA (zI (zR zy 0))) (show (2 : Int32).toInt = 2 from by decide))
        have tz_81 : 0 ≤ zi_79.toInt ∧ zi_79.toInt ≤ 6 := by rw [← (show zI (zR zy 0) (2 : Int32).toNatClampNeg = zi_79 from ezi_79.symm)]; exact ZI.g2 e_lp_78_0 (by decide) (by decide)
        refine lv_icmp_ge (tgt := 64) hx hb dX11_growthOf_25 (by decide) (fun c_82 => ?_) (fun c_82 => ?_)
        · have f_83 : zi_64.toInt ≥ zi_79.toInt := ic_ge (rfl) (rfl) c_82
          refine lv_iconst (v := 0) hx hb dX11_growthOf_64 (by decide) ?_
          subst hQ
          exact W.iret (v := (0 : Int32)) hx hb hr (fun t ht hW => ⟨⟨(0 : Int32), (), rfl, (show (0 : Int32).toInt ≤ 0 ∨ ¬ WS (zI (zR zy 0)) (zA (zI (zR zy 0)) (0)).toNat ziy.toInt 0 = 0 from (Or.inl (by decide))), ⟨by rw [ht]; exact hP, va_K.moved hW.alike hK, hD⟩⟩, hS.F ht⟩) hS.2.2 dX11_growthOf_65
        · have f_83 : ¬ (zi_64.toInt ≥ zi_79.toInt) := ic_nge (rfl) (rfl) c_82
          refine lv_aload_n hx hb dX11_growthOf_28 rfl (lv_at hl 0 rfl) ?_
          refine lv_bipush (v := 92) hx hb dX11_growthOf_29 (by decide) ?_
          refine lv_bipush (v := 11) hx hb dX11_growthOf_31 (by decide) ?_
          refine lv_iload_n hx hb dX11_growthOf_33 rfl (lv_at hl 2 rfl) ?_
          refine lv_imul hx hb dX11_growthOf_34 ?_
          refine lv_topi (fun zi_84 ezi_84 => ?_)
          have tzi_84 : zi_84.toInt = (11 : Int) * zi_64.toInt := by rw [ezi_84]; exact timul (show (11 : Int32).toInt = 11 by decide) (rfl) (by omega) (by omega)
          refine lv_iadd hx hb dX11_growthOf_35 ?_
          refine lv_topi (fun zi_85 ezi_85 => ?_)
          have tzi_85 : zi_85.toInt = (92 : Int) + zi_84.toInt := by rw [ezi_85]; exact tiadd (show (92 : Int32).toInt = 92 by decide) (rfl) (by omega) (by omega)
          refine lv_iload_n hx hb dX11_growthOf_36 rfl (lv_at hl 1 rfl) ?_
          refine hj_i (ws := (WL cy zL zT zR zI zJ)) (w1 := fun (u : Unit) => (WL cy zL zT zR zI zJ)) (va_runV (As := [.int zi_85, .int ziy]) (rest := []) ⟨hx, hb, hml, hown, hts⟩ (t_X11_clauseHolds l dC dI cy H.size zL zT zR zI zJ zy zi_85 ziy hs h_zI.1 t_zy (by omega) (by omega) e_lp_78_0 (by have q9 := e_lp_78_0.2.1 zi_64.toInt (by omega) (by omega); rw [show zi_85.toInt = 92 + 11 * zi_64.toInt from by omega]; exact q9)) (cwV 2 hts gX11_growthOf_X11_clauseHolds rfl rfl rfl (by decide +kernel) ⟨(Nat.le_of_ble_eq_true rfl), (Nat.le_of_ble_eq_true rfl)⟩) (PRE.v hP hK hD hN (ht_recv hK hP hs t_zy (by decide) rfl rfl)) rfl rfl hl.1 rfl (lv_room (Nat.le_of_ble_eq_true rfl)) dX11_growthOf_37 ⟨(Nat.le_of_ble_eq_true rfl), (Nat.le_of_ble_eq_true rfl)⟩) hP hD hS hA (fun zi_86 u_88 H locs hw_87 hP hD hS => ?_)
          have b_zi_86 : 0 ≤ zi_86.toInt ∧ zi_86.toInt ≤ 1 := hw_87
          refine lv_if_eq (tgt := 58) hx hb dX11_growthOf_40 (by decide) (fun c_89 => ?_) (fun c_89 => ?_)
          · have f_90 : zi_86.toInt = 0 := ic_eq (rfl) (by decide) c_89
            obtain ⟨zi_91, ezi_91⟩ : ∃ y : Int32, y = zi_64 + 1 := ⟨_, rfl⟩
            have tzi_91 : zi_91.toInt = zi_64.toInt + 1 := by rw [ezi_91]; exact tadd rfl (show (1 : Int32).toInt = 1 by decide) (by omega) (by omega)
            refine lv_iinc (v := zi_91) (lv' := [(2, .int zi_91), (0, .ref zy), (1, .int ziy)]) hx hb dX11_growthOf_58 hl (k := 2) rfl (by rw [ezi_91]; rfl) (by decide) rfl (fun ls hl => ?_)
            refine lv_goto (tgt := 18) hx hb dX11_growthOf_61 (by decide) ?_
            exact ih_78 (6 - zi_91.toInt).toNat (by omega) zi_91 _ _ _ rfl (by omega) e_lp_78_0 hP hD hS (lv_sub hl [1, 2, 0] rfl)
          · have f_90 : ¬ (zi_86.toInt = 0) := ic_neq (rfl) (by decide) c_89
            refine lv_aload_n hx hb dX11_growthOf_43 rfl (lv_at hl 0 rfl) ?_
            refine ht_getr (C := RX11) (T := TX11) (N := 28) hx hb hts (by decide +kernel) hown hK hP hs t_zy (by decide) rfl rfl 0 (by decide) (hts (.fieldLink RX11 7 "DripStoneModel" "z" "[I") (by decide +kernel)) (fun _ h9 => h9) rfl dX11_growthOf_44 ?_
            refine lv_bipush (v := 92) hx hb dX11_growthOf_47 (by decide) ?_
            refine lv_bipush (v := 11) hx hb dX11_growthOf_49 (by decide) ?_
            refine lv_iload_n hx hb dX11_growthOf_51 rfl (lv_at hl 2 rfl) ?_
            refine lv_imul hx hb dX11_growthOf_52 ?_
            refine lv_topi (fun zi_92 ezi_92 => ?_)
            have tzi_92 : zi_92.toInt = (11 : Int) * zi_64.toInt := by rw [ezi_92]; exact timul (show (11 : Int32).toInt = 11 by decide) (rfl) (by omega) (by omega)
            refine lv_iadd hx hb dX11_growthOf_53 ?_
            refine lv_topi (fun zi_93 ezi_93 => ?_)
            have tzi_93 : zi_93.toInt = (92 : Int) + zi_92.toInt := by rw [ezi_93]; exact tiadd (show (92 : Int32).toInt = 92 by decide) (rfl) (by omega) (by omega)
            refine lv_iconst (v := 1) hx hb dX11_growthOf_54 (by decide) ?_
            refine lv_iadd hx hb dX11_growthOf_55 ?_
            refine lv_topi (fun zi_94 ezi_94 => ?_)
            have tzi_94 : zi_94.toInt = zi_93.toInt + (1 : Int) := by rw [ezi_94]; exact tiadd (rfl) (show (1 : Int32).toInt = 1 by decide) (by omega) (by omega)
            refine ht_iald (n := 392) (q := 0) hx hb hK hP hs t_1 (by decide) rfl rfl ⟨by omega, by omega⟩ dX11_growthOf_56 ?_
            refine lv_topi (fun zi_95 ezi_95 => ?_)
            have la_96 : zi_95.toInt = zA (zI (zR zy 0)) (93 + 11 * zi_64.toInt) := (congrArg Int32.toInt (show zI (zR zy 0) zi_94.toNatClampNeg = zi_95 from ezi_95.symm).symm).trans (congrArg (zA (zI (zR zy 0))) (show zi_94.toInt = 93 + 11 * zi_64.toInt from by omega))
            subst hQ
            exact W.iret (v := zi_95) hx hb hr (fun t ht hW => ⟨⟨zi_95, (), rfl, (show zi_95.toInt ≤ 0 ∨ ¬ WS (zI (zR zy 0)) (zA (zI (zR zy 0)) (0)).toNat ziy.toInt 0 = 0 from (Or.inr (by rw [show zA (zI (zR zy 0)) (0) = zi_2.toInt from by omega]; exact ne_ws (show zi_5 = _ from ps_8) (by omega)))), ⟨by rw [ht]; exact hP, va_K.moved hW.alike hK, hD⟩⟩, hS.F ht⟩) hS.2.2 dX11_growthOf_57
    have qc_0 : (0 : Int32).toInt = 0 := by decide
    exact lp_78 _ (0 : Int32) _ _ _ rfl (by decide) hz hP hD hS (lv_sub hl [1, 2, 0] rfl)
  · have f_10 : ¬ (zi_5.toInt ≠ 0) := ic_nne (rfl) (by decide) c_9
    refine lv_iconst (v := 0) hx hb dX11_growthOf_14 (by decide) ?_
    subst hQ
    exact W.iret (v := (0 : Int32)) hx hb hr (fun t ht hW => ⟨⟨(0 : Int32), (), rfl, (show (0 : Int32).toInt ≤ 0 ∨ ¬ WS (zI (zR zy 0)) (zA (zI (zR zy 0)) (0)).toNat ziy.toInt 0 = 0 from (Or.inl (by decide))), ⟨by rw [ht]; exact hP, va_K.moved hW.alike hK, hD⟩⟩, hS.F ht⟩) hS.2.2 dX11_growthOf_15
set_option maxHeartbeats 8000000 in
set_option maxRecDepth 100000 in
theorem t_X11_grows (l : Launch) (dC : Nat → ClassId) (dI : Nat → Nat → Nat) (cy : Nat → ClassId) (sz : Nat) (zL : List Nat) (zT : Nat → Nat) (zR : Nat → Nat → Nat) (zI : Nat → Nat → Int32) (zJ : Nat → Nat → Int64) (zy : Nat) (zia : Int32) (hs : SKP zL zT zR) (hw : WT zT zR zI) (t_zy : zT zy = 18) (hz : ZI (zI (zR zy 0))) : Met l yX11_grows wsX11_grows ({ frames := 3, cells := 0, slots := 0, locals := 74 } : Room) (va_Pc [.ref zy, .int zia] (PRE dC dI cy (WL cy zL zT zR zI zJ) sz)) (va_Qi (fun (r : Int32) (u : Unit) => True) (fun u t => POST dC dI cy (va_A (WL cy zL zT zR zI zJ) sz) (WL cy zL zT zR zI zJ) t) (va_A (WL cy zL zT zR zI zJ) sz)) 0 0 (va_A (WL cy zL zT zR zI zJ) sz) := by
  refine Met.ofW (cc := cX11_grows) (maxL := 2) (ret := (some .int)) (by decide) rfl ?_
  intro p e s m args below meth c s₁ B hml hv
  obtain ⟨rfl, hsz, hP, hK, hD0, hN⟩ := hv
  have hx := B.exec
  have hb := B.bytes
  have hr := B.returns
  have hts := atoms_spec (ws := wsX11_grows) B.pre
  have hown : s.vm.findClass RX11 = some m.cls := findClass_of_methodNamed B.named
  have hlocks := B.notSynchronized
  subst hsz
  have hD := hD0.self (sz := s.heap.size)
  generalize hAe : va_A (WL cy zL zT zR zI zJ) s.heap.size = A at hD ⊢
  have hA : ∀ q : Nat, s.heap.size ≤ q → A q := fun q h => by rw [← hAe]; exact Or.inr h
  have hS : va_S A s.heap s.heap [] := va_S.rf
  have hP : va_P (dC, dI) vwCl (WL cy zL zT zR zI zJ) s.heap := hP
  have hl := lv_entry ([.ref zy, .int zia] : List Value) (n := 2) (Nat.le_of_ble_eq_true rfl)
  rw [lg_entry_eq]
  generalize (lg_sl ([.ref zy, .int zia] : List Value) ++ List.replicate (2 - (lg_sl ([.ref zy, .int zia] : List Value)).length) Slot.unset).toArray = ls at hl ⊢
  have hl : lv_has ls 2 [(0, .ref zy), (1, .int zia)] := hl
  refine w_q (fun Q hQ => ?_)
  have h_zI : WM [] AL zT zR zI zI := WM.rf hw
  refine lv_iload_n hx hb dX11_grows_0 rfl (lv_at hl 1 rfl) ?_
  refine hj0_i (ws := (WL cy zL zT zR zI zJ)) (va_runS (As := [.int zia]) (rest := []) ⟨hx, hb, hml, hown, hts⟩ (c_X11_isYear l dC dI cy s.heap.size zia) (va_cwS 1 hts gX11_grows_X11_isYear rfl rfl rfl (by decide +kernel) ⟨(Nat.le_of_ble_eq_true rfl), (Nat.le_of_ble_eq_true rfl)⟩) (PRE.s (hP.sub [] rfl) hK (hD.sub [] (by decide) rfl) hN) rfl rfl hl.1 rfl (lv_room (Nat.le_of_ble_eq_true rfl)) dX11_grows_1 ⟨(Nat.le_of_ble_eq_true rfl), (Nat.le_of_ble_eq_true rfl)⟩) hP hD hS hA (fun zi_1 u_3 H locs hw_2 hP hD hS => ?_)
  have hw_2 : zi_1 = if 0 ≤ zia.toInt ∧ zia.toInt ≤ 23 then 1 else 0 := hw_2
  have b_zi_1 : 0 ≤ zi_1.toInt ∧ zi_1.toInt ≤ 1 := bz_b hw_2
  refine lv_if_eq (tgt := 15) hx hb dX11_grows_4 (by decide) (fun c_4 => ?_) (fun c_4 => ?_)
  · have f_5 : ¬ (0 ≤ zia.toInt ∧ zia.toInt ≤ 23) := bz_0 hw_2 c_4
    refine lv_iconst (v := (-1)) hx hb dX11_grows_15 (by decide) ?_
    subst hQ
    exact W.iret (v := (-1 : Int32)) hx hb hr (fun t ht hW => ⟨⟨(-1 : Int32), (), rfl, trivial, ⟨by rw [ht]; exact hP, va_K.moved hW.alike hK, hD⟩⟩, hS.F ht⟩) hS.2.2 dX11_grows_16
  · have f_5 : 0 ≤ zia.toInt ∧ zia.toInt ≤ 23 := bz_1 hw_2 c_4
    refine lv_aload_n hx hb dX11_grows_7 rfl (lv_at hl 0 rfl) ?_
    refine lv_iload_n hx hb dX11_grows_8 rfl (lv_at hl 1 rfl) ?_
    refine hj_i (ws := (WL cy zL zT zR zI zJ)) (w1 := fun (u : Unit) => (WL cy zL zT zR zI zJ)) (va_runV (As := [.int zia]) (rest := []) ⟨hx, hb, hml, hown, hts⟩ (t_X11_growthOf l dC dI cy H.size zL zT zR zI zJ zy zia hs h_zI.1 t_zy (by omega) hz) (cwV 1 hts gX11_grows_X11_growthOf rfl rfl rfl (by decide +kernel) ⟨(Nat.le_of_ble_eq_true rfl), (Nat.le_of_ble_eq_true rfl)⟩) (PRE.v hP hK hD hN (ht_recv hK hP hs t_zy (by decide) rfl rfl)) rfl rfl hl.1 rfl (lv_room (Nat.le_of_ble_eq_true rfl)) dX11_grows_9 ⟨(Nat.le_of_ble_eq_true rfl), (Nat.le_of_ble_eq_true rfl)⟩) hP hD hS hA (fun zi_6 u_8 H locs hw_7 hP hD hS => ?_)
    have ps_9 : zi_6.toInt ≤ 0 ∨ ¬ WS (zI (zR zy 0)) (zA (zI (zR zy 0)) (0)).toNat zia.toInt 0 = 0 := hw_7
    have rzi_6 := rng zi_6
    refine lv_goto (tgt := 16) hx hb dX11_grows_12 (by decide) ?_
    subst hQ
    exact W.iret (v := zi_6) hx hb hr (fun t ht hW => ⟨⟨zi_6, (), rfl, trivial, ⟨by rw [ht]; exact hP, va_K.moved hW.alike hK, hD⟩⟩, hS.F ht⟩) hS.2.2 dX11_grows_16
