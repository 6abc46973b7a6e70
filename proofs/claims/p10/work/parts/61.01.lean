set_option maxHeartbeats 8000000 in
set_option maxRecDepth 100000 in
theorem t_X11_rains (l : Launch) (dC : Nat → ClassId) (dI : Nat → Nat → Nat) (cy : Nat → ClassId) (sz : Nat) (zL : List Nat) (zT : Nat → Nat) (zR : Nat → Nat → Nat) (zI : Nat → Nat → Int32) (zJ : Nat → Nat → Int64) (zy : Nat) (zia : Int32) (zib : Int32) (zic : Int32) (zid : Int32) (zie : Int32) (hs : SKP zL zT zR) (hw : WT zT zR zI) (t_zy : zT zy = 18) (hz : ZI (zI (zR zy 0))) : Met l yX11_rains wsX11_rains ({ frames := 2, cells := 0, slots := 0, locals := 49 } : Room) (va_Pc [.ref zy, .int zia, .int zib, .int zic, .int zid, .int zie] (PRE dC dI cy (WL cy zL zT zR zI zJ) sz)) (va_Qi (fun (r : Int32) (u : (Nat → Nat → Int32)) => (WM [10000] AL zT zR zI u) ∧ ((-13) ≤ r.toInt ∧ r.toInt ≤ 24) ∧ (¬ (RSok zia.toInt zib.toInt zic.toInt zie.toInt) → (r.toInt = -1 ∧ u = zI)) ∧ (RSok zia.toInt zib.toInt zic.toInt zie.toInt → ¬ (LKS (zI (zR zy 25) zib.toNatClampNeg).toInt (zI (zR zy 26) zib.toNatClampNeg).toInt zic.toInt zid.toInt zie.toInt) = 0 → (r.toInt = (LKS (zI (zR zy 25) zib.toNatClampNeg).toInt (zI (zR zy 26) zib.toNatClampNeg).toInt zic.toInt zid.toInt zie.toInt) ∧ u = zI)) ∧ (RSok zia.toInt zib.toInt zic.toInt zie.toInt → (LKS (zI (zR zy 25) zib.toNatClampNeg).toInt (zI (zR zy 26) zib.toNatClampNeg).toInt zic.toInt zid.toInt zie.toInt) = 0 → ¬ MAYZ (zI (zR zy 27)) zia.toInt (24 * zib.toInt + zid.toInt) zie.toInt → (r.toInt = -2 ∧ u = zI)) ∧ (RSok zia.toInt zib.toInt zic.toInt zie.toInt → (LKS (zI (zR zy 25) zib.toNatClampNeg).toInt (zI (zR zy 26) zib.toNatClampNeg).toInt zic.toInt zid.toInt zie.toInt) = 0 → MAYZ (zI (zR zy 27)) zia.toInt (24 * zib.toInt + zid.toInt) zie.toInt → (r.toInt = zie.toInt ∧ RNZ (zI (zR zy 0)) (u (zR zy 0)) (zI (zR zy 27)) zia.toInt (24 * zib.toInt + zid.toInt) zie.toInt)) ∧ (FQ3 (zI (zR zy 0)) (u (zR zy 0))) ∧ (ZI (u (zR zy 0)))) (fun u t => POST dC dI cy (va_A (WL cy zL zT zR zI zJ) sz) (WL cy zL zT zR u zJ) t) (va_A (WL cy zL zT zR zI zJ) sz)) 0 0 (va_A (WL cy zL zT zR zI zJ) sz) := by
  refine Met.ofW (cc := cX11_rains) (maxL := 9) (ret := (some .int)) (by decide) rfl ?_
  intro p e s m args below meth c s₁ B hml hv
  obtain ⟨rfl, hsz, hP, hK, hD0, hN⟩ := hv
  have hx := B.exec
  have hb := B.bytes
  have hr := B.returns
  have hts := atoms_spec (ws := wsX11_rains) B.pre
  have hown : s.vm.findClass RX11 = some m.cls := findClass_of_methodNamed B.named
  have hlocks := B.notSynchronized
  subst hsz
  have hD := hD0.self (sz := s.heap.size)
  generalize hAe : va_A (WL cy zL zT zR zI zJ) s.heap.size = A at hD ⊢
  have hA : ∀ q : Nat, s.heap.size ≤ q → A q := fun q h => by rw [← hAe]; exact Or.inr h
  have hS : va_S A s.heap s.heap [] := va_S.rf
  have hP : va_P (dC, dI) vwCl (WL cy zL zT zR zI zJ) s.heap := hP
  have hl := lv_entry ([.ref zy, .int zia, .int zib, .int zic, .int zid, .int zie] : List Value) (n := 9) (Nat.le_of_ble_eq_true rfl)
  rw [lg_entry_eq]
  generalize (lg_sl ([.ref zy, .int zia, .int zib, .int zic, .int zid, .int zie] : List Value) ++ List.replicate (9 - (lg_sl ([.ref zy, .int zia, .int zib, .int zic, .int zid, .int zie] : List Value)).length) Slot.unset).toArray = ls at hl ⊢
  have hl : lv_has ls 9 [(0, .ref zy), (1, .int zia), (2, .int zib), (3, .int zic), (4, .int zid), (5, .int zie)] := hl
  refine w_q (fun Q hQ => ?_)
  have h_zI : WM [10000] AL zT zR zI zI := WM.rf hw
  refine lv_iload_n hx hb dX11_rains_0 rfl (lv_at hl 1 rfl) ?_
  refine lv_i2l (v := zia.toInt64) hx hb dX11_rains_1 rfl ?_
  refine lv_topl (fun zj_1 ezj_1 => ?_)
  have tzj_1 : zj_1.toInt = zia.toInt := by rw [ezj_1]; exact Int32.toInt_toInt64 _
  refine lv_lconst (v := 0) hx hb dX11_rains_2 (by decide) ?_
  refine lv_ldc2 (v := 2) hx hb hown (hts (.constantLong RX11 180 2) (by decide +kernel)) dX11_rains_3 ?_
  refine hj0_i (ws := (WL cy zL zT zR zI zJ)) (va_runS (As := [.long zj_1, .long 0, .long 2]) (rest := []) ⟨hx, hb, hml, hown, hts⟩ (c_X11_in l dC dI cy s.heap.size zj_1 0 2 0 2 zj_1.toInt (by first | rfl | decide | omega | exact Int32.toInt_toInt64 _) (by first | rfl | decide | omega | exact Int32.toInt_toInt64 _) (by first | rfl | decide | omega | exact Int32.toInt_toInt64 _)) (va_cwS 3 hts gX11_rains_X11_in rfl rfl rfl (by decide +kernel) ⟨(Nat.le_of_ble_eq_true rfl), (Nat.le_of_ble_eq_true rfl)⟩) (PRE.s (hP.sub [] rfl) hK (hD.sub [] (by decide) rfl) hN) rfl rfl hl.1 rfl (lv_room (Nat.le_of_ble_eq_true rfl)) dX11_rains_6 ⟨(Nat.le_of_ble_eq_true rfl), (Nat.le_of_ble_eq_true rfl)⟩) hP hD hS hA (fun zi_2 u_4 H locs hw_3 hP hD hS => ?_)
  have hw_3 : zi_2 = if 0 ≤ zj_1.toInt ∧ zj_1.toInt ≤ 2 then 1 else 0 := hw_3
  have b_zi_2 : 0 ≤ zi_2.toInt ∧ zi_2.toInt ≤ 1 := bz_b hw_3
  refine lv_if_eq (tgt := 33) hx hb dX11_rains_9 (by decide) (fun c_5 => ?_) (fun c_5 => ?_)
  · have f_6 : ¬ (0 ≤ zj_1.toInt ∧ zj_1.toInt ≤ 2) := bz_0 hw_3 c_5
    refine lv_iconst (v := (-1)) hx hb dX11_rains_33 (by decide) ?_
    subst hQ
    have qc_m1 : (-1 : Int32).toInt = -1 := by decide
    exact W.iret (v := (-1 : Int32)) hx hb hr (fun t ht hW => ⟨⟨(-1 : Int32), zI, rfl, ⟨h_zI, (show (-13) ≤ (-1 : Int32).toInt ∧ (-1 : Int32).toInt ≤ 24 from by omega), (show ¬ (RSok zia.toInt zib.toInt zic.toInt zie.toInt) → ((-1 : Int32).toInt = -1 ∧ zI = zI) from (fun _ => ⟨by decide, rfl⟩)), (show RSok zia.toInt zib.toInt zic.toInt zie.toInt → ¬ (LKS (zI (zR zy 25) zib.toNatClampNeg).toInt (zI (zR zy 26) zib.toNatClampNeg).toInt zic.toInt zid.toInt zie.toInt) = 0 → ((-1 : Int32).toInt = (LKS (zI (zR zy 25) zib.toNatClampNeg).toInt (zI (zR zy 26) zib.toNatClampNeg).toInt zic.toInt zid.toInt zie.toInt) ∧ zI = zI) from (fun h9 => absurd h9 (by unfold RSok; omega))), (show RSok zia.toInt zib.toInt zic.toInt zie.toInt → (LKS (zI (zR zy 25) zib.toNatClampNeg).toInt (zI (zR zy 26) zib.toNatClampNeg).toInt zic.toInt zid.toInt zie.toInt) = 0 → ¬ MAYZ (zI (zR zy 27)) zia.toInt (24 * zib.toInt + zid.toInt) zie.toInt → ((-1 : Int32).toInt = -2 ∧ zI = zI) from (fun h9 => absurd h9 (by unfold RSok; omega))), (show RSok zia.toInt zib.toInt zic.toInt zie.toInt → (LKS (zI (zR zy 25) zib.toNatClampNeg).toInt (zI (zR zy 26) zib.toNatClampNeg).toInt zic.toInt zid.toInt zie.toInt) = 0 → MAYZ (zI (zR zy 27)) zia.toInt (24 * zib.toInt + zid.toInt) zie.toInt → ((-1 : Int32).toInt = zie.toInt ∧ RNZ (zI (zR zy 0)) (zI (zR zy 0)) (zI (zR zy 27)) zia.toInt (24 * zib.toInt + zid.toInt) zie.toInt) from (fun h9 => absurd h9 (by unfold RSok; omega))), (show FQ3 (zI (zR zy 0)) (zI (zR zy 0)) from FQ3.rf), (show ZI (zI (zR zy 0)) from hz)⟩, ⟨by rw [ht]; exact hP, va_K.moved hW.alike hK, hD⟩⟩, hS.F ht⟩) hS.2.2 dX11_rains_34
  · have f_6 : 0 ≤ zj_1.toInt ∧ zj_1.toInt ≤ 2 := bz_1 hw_3 c_5
    refine lv_iload_n hx hb dX11_rains_12 rfl (lv_at hl 2 rfl) ?_
    refine lv_iload_n hx hb dX11_rains_13 rfl (lv_at hl 3 rfl) ?_
    refine hj0_i (ws := (WL cy zL zT zR zI zJ)) (va_runS (As := [.int zib, .int zic]) (rest := []) ⟨hx, hb, hml, hown, hts⟩ (c_X11_isSheet l dC dI cy H.size zib zic) (va_cwS 2 hts gX11_rains_X11_isSheet rfl rfl rfl (by decide +kernel) ⟨(Nat.le_of_ble_eq_true rfl), (Nat.le_of_ble_eq_true rfl)⟩) (PRE.s (hP.sub [] rfl) hK (hD.sub [] (by decide) rfl) hN) rfl rfl hl.1 rfl (lv_room (Nat.le_of_ble_eq_true rfl)) dX11_rains_14 ⟨(Nat.le_of_ble_eq_true rfl), (Nat.le_of_ble_eq_true rfl)⟩) hP hD hS hA (fun zi_7 u_9 H locs hw_8 hP hD hS => ?_)
    have hw_8 : zi_7 = if (0 ≤ zib.toInt ∧ zib.toInt ≤ 3) ∧ 0 ≤ zic.toInt ∧ zic.toInt ≤ 2 then 1 else 0 := hw_8
    have b_zi_7 : 0 ≤ zi_7.toInt ∧ zi_7.toInt ≤ 1 := bz_b hw_8
    refine lv_if_eq (tgt := 33) hx hb dX11_rains_17 (by decide) (fun c_10 => ?_) (fun c_10 => ?_)
    · have f_11 : ¬ ((0 ≤ zib.toInt ∧ zib.toInt ≤ 3) ∧ 0 ≤ zic.toInt ∧ zic.toInt ≤ 2) := bz_0 hw_8 c_10
      refine lv_iconst (v := (-1)) hx hb dX11_rains_33 (by decide) ?_
      subst hQ
      have qc_m1 : (-1 : Int32).toInt = -1 := by decide
      exact W.iret (v := (-1 : Int32)) hx hb hr (fun t ht hW => ⟨⟨(-1 : Int32), zI, rfl, ⟨h_zI, (show (-13) ≤ (-1 : Int32).toInt ∧ (-1 : Int32).toInt ≤ 24 from by omega), (show ¬ (RSok zia.toInt zib.toInt zic.toInt zie.toInt) → ((-1 : Int32).toInt = -1 ∧ zI = zI) from (fun _ => ⟨by decide, rfl⟩)), (show RSok zia.toInt zib.toInt zic.toInt zie.toInt → ¬ (LKS (zI (zR zy 25) zib.toNatClampNeg).toInt (zI (zR zy 26) zib.toNatClampNeg).toInt zic.toInt zid.toInt zie.toInt) = 0 → ((-1 : Int32).toInt = (LKS (zI (zR zy 25) zib.toNatClampNeg).toInt (zI (zR zy 26) zib.toNatClampNeg).toInt zic.toInt zid.toInt zie.toInt) ∧ zI = zI) from (fun h9 => absurd h9 (by unfold RSok; omega))), (show RSok zia.toInt zib.toInt zic.toInt zie.toInt → (LKS (zI (zR zy 25) zib.toNatClampNeg).toInt (zI (zR zy 26) zib.toNatClampNeg).toInt zic.toInt zid.toInt zie.toInt) = 0 → ¬ MAYZ (zI (zR zy 27)) zia.toInt (24 * zib.toInt + zid.toInt) zie.toInt → ((-1 : Int32).toInt = -2 ∧ zI = zI) from (fun h9 => absurd h9 (by unfold RSok; omega))), (show RSok zia.toInt zib.toInt zic.toInt zie.toInt → (LKS (zI (zR zy 25) zib.toNatClampNeg).toInt (zI (zR zy 26) zib.toNatClampNeg).toInt zic.toInt zid.toInt zie.toInt) = 0 → MAYZ (zI (zR zy 27)) zia.toInt (24 * zib.toInt + zid.toInt) zie.toInt → ((-1 : Int32).toInt = zie.toInt ∧ RNZ (zI (zR zy 0)) (zI (zR zy 0)) (zI (zR zy 27)) zia.toInt (24 * zib.toInt + zid.toInt) zie.toInt) from (fun h9 => absurd h9 (by unfold RSok; omega))), (show FQ3 (zI (zR zy 0)) (zI (zR zy 0)) from FQ3.rf), (show ZI (zI (zR zy 0)) from hz)⟩, ⟨by rw [ht]; exact hP, va_K.moved hW.alike hK, hD⟩⟩, hS.F ht⟩) hS.2.2 dX11_rains_34
    · have f_11 : (0 ≤ zib.toInt ∧ zib.toInt ≤ 3) ∧ 0 ≤ zic.toInt ∧ zic.toInt ≤ 2 := bz_1 hw_8 c_10
      refine lv_iload hx hb dX11_rains_20 (lv_at hl 5 rfl) ?_
      refine lv_i2l (v := zie.toInt64) hx hb dX11_rains_22 rfl ?_
      refine lv_topl (fun zj_12 ezj_12 => ?_)
      have tzj_12 : zj_12.toInt = zie.toInt := by rw [ezj_12]; exact Int32.toInt_toInt64 _
      refine lv_lconst (v := 1) hx hb dX11_rains_23 (by decide) ?_
      refine lv_ldc2 (v := 24) hx hb hown (hts (.constantLong RX11 348 24) (by decide +kernel)) dX11_rains_24 ?_
      refine hj0_i (ws := (WL cy zL zT zR zI zJ)) (va_runS (As := [.long zj_12, .long 1, .long 24]) (rest := []) ⟨hx, hb, hml, hown, hts⟩ (c_X11_in l dC dI cy H.size zj_12 1 24 1 24 zj_12.toInt (by first | rfl | decide | omega | exact Int32.toInt_toInt64 _) (by first | rfl | decide | omega | exact Int32.toInt_toInt64 _) (by first | rfl | decide | omega | exact Int32.toInt_toInt64 _)) (va_cwS 3 hts gX11_rains_X11_in rfl rfl rfl (by decide +kernel) ⟨(Nat.le_of_ble_eq_true rfl), (Nat.le_of_ble_eq_true rfl)⟩) (PRE.s (hP.sub [] rfl) hK (hD.sub [] (by decide) rfl) hN) rfl rfl hl.1 rfl (lv_room (Nat.le_of_ble_eq_true rfl)) dX11_rains_27 ⟨(Nat.le_of_ble_eq_true rfl), (Nat.le_of_ble_eq_true rfl)⟩) hP hD hS hA (fun zi_13 u_15 H locs hw_14 hP hD hS => ?_)
      have hw_14 : zi_13 = if 1 ≤ zj_12.toInt ∧ zj_12.toInt ≤ 24 then 1 else 0 := hw_14
      have b_zi_13 : 0 ≤ zi_13.toInt ∧ zi_13.toInt ≤ 1 := bz_b hw_14
      refine lv_if_ne (tgt := 35) hx hb dX11_rains_30 (by decide) (fun c_16 => ?_) (fun c_16 => ?_)
      · have f_17 : 1 ≤ zj_12.toInt ∧ zj_12.toInt ≤ 24 := bz_1 hw_14 c_16
        refine lv_aload_n hx hb dX11_rains_35 rfl (lv_at hl 0 rfl) ?_
        refine lv_iload_n hx hb dX11_rains_36 rfl (lv_at hl 2 rfl) ?_
        refine lv_iload_n hx hb dX11_rains_37 rfl (lv_at hl 3 rfl) ?_
        refine lv_iload hx hb dX11_rains_38 (lv_at hl 4 rfl) ?_
        refine lv_iload hx hb dX11_rains_40 (lv_at hl 5 rfl) ?_
        refine hj_i (ws := (WL cy zL zT zR zI zJ)) (w1 := fun (u : Unit) => (WL cy zL zT zR zI zJ)) (va_runV (As := [.int zib, .int zic, .int zid, .int zie]) (rest := []) ⟨hx, hb, hml, hown, hts⟩ (t_X11_lacksRow l dC dI cy H.size zL zT zR zI zJ zy zib zic zid zie hs h_zI.1 t_zy (by omega) (by omega) (by omega)) (cwV 4 hts gX11_rains_X11_lacksRow rfl rfl rfl (by decide +kernel) ⟨(Nat.le_of_ble_eq_true rfl), (Nat.le_of_ble_eq_true rfl)⟩) (PRE.v hP hK hD hN (ht_recv hK hP hs t_zy (by decide) rfl rfl)) rfl rfl hl.1 rfl (lv_room (Nat.le_of_ble_eq_true rfl)) dX11_rains_42 ⟨(Nat.le_of_ble_eq_true rfl), (Nat.le_of_ble_eq_true rfl)⟩) hP hD hS hA (fun zi_18 u_20 H locs hw_19 hP hD hS => ?_)
        obtain ⟨b_zi_18, ps_21, ps_22, ps_23⟩ : ((-13) ≤ zi_18.toInt ∧ zi_18.toInt ≤ 0) ∧ (¬ (zi_18.toInt = 0) ∨ (0 ≤ zid.toInt ∧ zid.toInt ≤ 24)) ∧ (¬ (zi_18.toInt = 0) ∨ zid.toInt + zie.toInt ≤ 24) ∧ (zi_18.toInt = LKS (zI (zR zy 25) zib.toNatClampNeg).toInt (zI (zR zy 26) zib.toNatClampNeg).toInt zic.toInt zid.toInt zie.toInt) := hw_19
        refine lv_istore (lv' := [(6, .int zi_18), (0, .ref zy), (1, .int zia), (2, .int zib), (3, .int zic), (4, .int zid), (5, .int zie)]) hx hb dX11_rains_45 hl (by decide) rfl (fun ls hl => ?_)
        refine lv_iload hx hb dX11_rains_47 (lv_at hl 0 rfl) ?_
        refine lv_if_ge (tgt := 55) hx hb dX11_rains_49 (by decide) (fun c_24 => ?_) (fun c_24 => ?_)
        · have f_25 : zi_18.toInt ≥ 0 := ic_ge (rfl) (by decide) c_24
          have b9_zid : 0 ≤ zid.toInt ∧ zid.toInt ≤ 24 := by omega
          refine lv_bipush (v := 24) hx hb dX11_rains_55 (by decide) ?_
          refine lv_iload_n hx hb dX11_rains_57 rfl (lv_at hl 3 rfl) ?_
          refine lv_imul hx hb dX11_rains_58 ?_
          refine lv_topi (fun zi_26 ezi_26 => ?_)
          have tzi_26 : zi_26.toInt = (24 : Int) * zib.toInt := by rw [ezi_26]; exact timul (show (24 : Int32).toInt = 24 by decide) (rfl) (by omega) (by omega)
          refine lv_iload hx hb dX11_rains_59 (lv_at hl 5 rfl) ?_
          refine lv_iadd hx hb dX11_rains_61 ?_
          refine lv_topi (fun zi_27 ezi_27 => ?_)
          have tzi_27 : zi_27.toInt = zi_26.toInt + zid.toInt := by rw [ezi_27]; exact tiadd (rfl) (rfl) (by omega) (by omega)
          refine lv_istore (lv' := [(7, .int zi_27), (6, .int zi_18), (0, .ref zy), (1, .int zia), (2, .int zib), (3, .int zic), (4, .int zid), (5, .int zie)]) hx hb dX11_rains_62 hl (by decide) rfl (fun ls hl => ?_)
          refine lv_iconst (v := 0) hx hb dX11_rains_64 (by decide) ?_
          refine lv_istore (lv' := [(8, .int 0), (7, .int zi_27), (6, .int zi_18), (0, .ref zy), (1, .int zia), (2, .int zib), (3, .int zic), (4, .int zid), (5, .int zie)]) hx hb dX11_rains_65 hl (by decide) rfl (fun ls hl => ?_)
          have lp_77 : ∀ (n : Nat) (zi_52 : Int32) (H : Heap) (locs : List Loc) (ls : Array Slot), (zie.toInt - zi_52.toInt).toNat = n → (0 ≤ zi_52.toInt ∧ zi_52.toInt ≤ 24) → (MAYZ (zI (zR zy 27)) zia.toInt (24 * zib.toInt + zid.toInt) zi_52.toInt) → (FQ3 (zI (zR zy 0)) (zI (zR zy 0))) → (ZI (zI (zR zy 0))) → va_P (dC, dI) vwCl (WL cy zL zT zR zI zJ) H → va_D A (WL cy zL zT zR zI zJ) → va_S A s.heap H locs → lv_has ls 9 [(0, .ref zy), (1, .int zia), (2, .int zib), (3, .int zic), (4, .int zid), (5, .int zie), (6, .int zi_18), (7, .int zi_27), (8, .int zi_52)] → W p l e ({ frames := 2, cells := 0, slots := 0, locals := 49 } : Room) s m ([.ref zy, .int zia, .int zib, .int zic, .int zid, .int zie] : List Value).toArray below meth c H locs 0 0 Q (F0 m 67 ls []) := by
            intro n
            induction n using Nat.strongRecOn with
            | _ n ih_77 =>
              intro zi_52 H locs ls hn b_zi_52 e_lp_77_0 e_lp_77_1 e_lp_77_2 hP hD hS hl
              refine lv_iload hx hb dX11_rains_67 (lv_at hl 8 rfl) ?_
              refine lv_iload hx hb dX11_rains_69 (lv_at hl 5 rfl) ?_
              refine lv_icmp_ge (tgt := 100) hx hb dX11_rains_71 (by decide) (fun c_78 => ?_) (fun c_78 => ?_)
              · have f_79 : zi_52.toInt ≥ zie.toInt := ic_ge (rfl) (rfl) c_78
                refine lv_iconst (v := 0) hx hb dX11_rains_100 (by decide) ?_
                refine lv_istore (lv' := [(8, .int 0), (0, .ref zy), (1, .int zia), (2, .int zib), (3, .int zic), (4, .int zid), (5, .int zie), (6, .int zi_18), (7, .int zi_27)]) hx hb dX11_rains_101 hl (by decide) rfl (fun ls hl => ?_)
                have lp_131 : ∀ (n : Nat) (zi_105 : Int32) (zI_106 : Nat → Nat → Int32) (H : Heap) (locs : List Loc) (ls : Array Slot), (zie.toInt - zi_105.toInt).toNat = n → (0 ≤ zi_105.toInt ∧ zi_105.toInt ≤ 24) → (WM [10000] AL zT zR zI zI_106) → (RNZ (zI (zR zy 0)) (zI_106 (zR zy 0)) (zI (zR zy 27)) zia.toInt (24 * zib.toInt + zid.toInt) zi_105.toInt) → (zi_105.toInt ≤ zie.toInt) → (FQ3 (zI (zR zy 0)) (zI_106 (zR zy 0))) → (ZI (zI_106 (zR zy 0))) → va_P (dC, dI) vwCl (WL cy zL zT zR zI_106 zJ) H → va_D A (WL cy zL zT zR zI_106 zJ) → va_S A s.heap H locs → lv_has ls 9 [(0, .ref zy), (1, .int zia), (2, .int zib), (3, .int zic), (4, .int zid), (5, .int zie), (6, .int zi_18), (7, .int zi_27), (8, .int zi_105)] → W p l e ({ frames := 2, cells := 0, slots := 0, locals := 49 } : Room) s m ([.ref zy, .int zia, .int zib, .int zic, .int zid, .int zie] : List Value).toArray below meth c H locs 0 0 Q (F0 m 103 ls []) := by
                  intro n
                  induction n using Nat.strongRecOn with
                  | _ n ih_131 =>
                    intro zi_105 zI_106 H locs ls hn b_zi_105 h_zI_106 e_lp_131_0 e_lp_131_1 e_lp_131_2 e_lp_131_3 hP hD hS hl
                    refine lv_iload hx hb dX11_rains_103 (lv_at hl 8 rfl) ?_
                    refine lv_iload hx hb dX11_rains_105 (lv_at hl 5 rfl) ?_
                    refine lv_icmp_ge (tgt := 140) hx hb dX11_rains_107 (by decide) (fun c_132 => ?_) (fun c_132 => ?_)
                    · have f_133 : zi_105.toInt ≥ zie.toInt := ic_ge (rfl) (rfl) c_132
                      refine lv_iload hx hb dX11_rains_140 (lv_at hl 5 rfl) ?_
                      subst hQ
                      exact W.iret (v := zie) hx hb hr (fun t ht hW => ⟨⟨zie, zI_106, rfl, ⟨h_zI_106, (show (-13) ≤ zie.toInt ∧ zie.toInt ≤ 24 from by omega), (show ¬ (RSok zia.toInt zib.toInt zic.toInt zie.toInt) → (zie.toInt = -1 ∧ zI_106 = zI) from (fun h9 => absurd (show RSok zia.toInt zib.toInt zic.toInt zie.toInt from by unfold RSok; omega) h9)), (show RSok zia.toInt zib.toInt zic.toInt zie.toInt → ¬ (LKS (zI (zR zy 25) zib.toNatClampNeg).toInt (zI (zR zy 26) zib.toNatClampNeg).toInt zic.toInt zid.toInt zie.toInt) = 0 → (zie.toInt = (LKS (zI (zR zy 25) zib.toNatClampNeg).toInt (zI (zR zy 26) zib.toNatClampNeg).toInt zic.toInt zid.toInt zie.toInt) ∧ zI_106 = zI) from (fun _ h9 => absurd (by omega) h9)), (show RSok zia.toInt zib.toInt zic.toInt zie.toInt → (LKS (zI (zR zy 25) zib.toNatClampNeg).toInt (zI (zR zy 26) zib.toNatClampNeg).toInt zic.toInt zid.toInt zie.toInt) = 0 → ¬ MAYZ (zI (zR zy 27)) zia.toInt (24 * zib.toInt + zid.toInt) zie.toInt → (zie.toInt = -2 ∧ zI_106 = zI) from (fun _ _ h9 => absurd (MAYZ.e e_lp_77_0 (by omega)) h9)), (show RSok zia.toInt zib.toInt zic.toInt zie.toInt → (LKS (zI (zR zy 25) zib.toNatClampNeg).toInt (zI (zR zy 26) zib.toNatClampNeg).toInt zic.toInt zid.toInt zie.toInt) = 0 → MAYZ (zI (zR zy 27)) zia.toInt (24 * zib.toInt + zid.toInt) zie.toInt → (zie.toInt = zie.toInt ∧ RNZ (zI (zR zy 0)) (zI_106 (zR zy 0)) (zI (zR zy 27)) zia.toInt (24 * zib.toInt + zid.toInt) zie.toInt) from (fun _ _ _ => ⟨rfl, RNZ.e e_lp_131_0 (by omega)⟩)), (show FQ3 (zI (zR zy 0)) (zI_106 (zR zy 0)) from e_lp_131_2), (show ZI (zI_106 (zR zy 0)) from e_lp_131_3)⟩, ⟨by rw [ht]; exact hP, va_K.moved hW.alike hK, hD⟩⟩, hS.F ht⟩) hS.2.2 dX11_rains_142
                    · have f_133 : ¬ (zi_105.toInt ≥ zie.toInt) := ic_nge (rfl) (rfl) c_132
                      refine lv_aload_n hx hb dX11_rains_110 rfl (lv_at hl 0 rfl) ?_
                      refine ht_getr (C := RX11) (T := TX11) (N := 28) hx hb hts (by decide +kernel) hown hK hP hs t_zy (by decide) rfl rfl 0 (by decide) (hts (.fieldLink RX11 7 "DripStoneModel" "z" "[I") (by decide +kernel)) (fun _ h9 => h9) rfl dX11_rains_111 ?_
                      have t_134 : zT (zR zy 0) = 100 := sk_f hs t_zy (by decide) rfl (by decide)
                      refine lv_bipush (v := 20) hx hb dX11_rains_114 (by decide) ?_
                      refine lv_iconst (v := 3) hx hb dX11_rains_116 (by decide) ?_
                      refine lv_iload hx hb dX11_rains_117 (lv_at hl 8 rfl) ?_
                      refine lv_imul hx hb dX11_rains_119 ?_
                      refine lv_topi (fun zi_135 ezi_135 => ?_)
                      have tzi_135 : zi_135.toInt = (3 : Int) * zi_105.toInt := by rw [ezi_135]; exact timul (show (3 : Int32).toInt = 3 by decide) (rfl) (by omega) (by omega)
                      refine lv_iadd hx hb dX11_rains_120 ?_
                      refine lv_topi (fun zi_136 ezi_136 => ?_)
                      have tzi_136 : zi_136.toInt = (20 : Int) + zi_135.toInt := by rw [ezi_136]; exact tiadd (show (20 : Int32).toInt = 20 by decide) (rfl) (by omega) (by omega)
                      refine lv_iload_n hx hb dX11_rains_121 rfl (lv_at hl 1 rfl) ?_
                      refine lv_iadd hx hb dX11_rains_122 ?_
                      refine lv_topi (fun zi_137 ezi_137 => ?_)
                      have tzi_137 : zi_137.toInt = zi_136.toInt + zia.toInt := by rw [ezi_137]; exact tiadd (rfl) (rfl) (by omega) (by omega)
                      refine lv_aload_n hx hb dX11_rains_123 rfl (lv_at hl 0 rfl) ?_
                      refine ht_getr (C := RX11) (T := TX11) (N := 28) hx hb hts (by decide +kernel) hown hK hP hs t_zy (by decide) rfl rfl 27 (by decide) (hts (.fieldLink RX11 65 "DripStoneModel" "items" "[I") (by decide +kernel)) (fun _ h9 => h9) rfl dX11_rains_124 ?_
                      have t_138 : zT (zR zy 27) = 112 := sk_f hs t_zy (by decide) rfl (by decide)
                      refine lv_iload hx hb dX11_rains_127 (lv_at hl 7 rfl) ?_
                      refine lv_iload hx hb dX11_rains_129 (lv_at hl 8 rfl) ?_
                      refine lv_iadd hx hb dX11_rains_131 ?_
                      refine lv_topi (fun zi_139 ezi_139 => ?_)
                      have tzi_139 : zi_139.toInt = zi_27.toInt + zi_105.toInt := by rw [ezi_139]; exact tiadd (rfl) (rfl) (by omega) (by omega)
                      refine ht_iald (n := 96) (q := 0) hx hb hK hP hs t_138 (by decide) rfl rfl ⟨by omega, by omega⟩ dX11_rains_132 ?_
                      refine lv_topi (fun zi_140 ezi_140 => ?_)
                      have zb_141 : zi_140.toInt = zA (zI (zR zy 27)) (24 * zib.toInt + zid.toInt + zi_105.toInt) := ((congrArg Int32.toInt (show zI_106 (zR zy 27) zi_139.toNatClampNeg = zi_140 from ezi_140.symm).symm).trans (congrArg (zA (zI_106 (zR zy 27))) (show zi_139.toInt = 24 * zib.toInt + zid.toInt + zi_105.toInt from by omega))).trans (congrArg (fun w9 => zA w9 (24 * zib.toInt + zid.toInt + zi_105.toInt)) (show zI_106 (zR zy 27) = zI (zR zy 27) from h_zI_106.2.row t_138 (by decide) (by decide)))
                      refine ht_iast (v := zi_140) (n := 392) (q := 0) hx hb hK hP hD hS hs t_134 (by decide) rfl rfl ⟨by omega, by omega⟩ dX11_rains_133 (fun H locs hP hD hS => ?_)
                      have h_zI_142 : WM [10000] AL zT zR zI (u2 zI_106 (zR zy 0) zi_137.toNatClampNeg zi_140) := h_zI_106.putA hs t_134 rfl (rgF _) (by decide) (fun h => absurd h (by decide)) (by decide) trivial
                      generalize uzI_142 : u2 zI_106 (zR zy 0) zi_137.toNatClampNeg zi_140 = zI_142 at hP hD h_zI_142
                      have z_zI_142 : ZI (zI_142 (zR zy 0)) := by rw [← uzI_142, u2_r]; exact ZI.fr e_lp_131_3 (by omega)
                      have fq_zI_142 : FQ3 (zI (zR zy 0)) (zI_142 (zR zy 0)) := by rw [← uzI_142, u2_r]; exact FQ3.up e_lp_131_2 (by omega) (by omega)
                      obtain ⟨zi_143, ezi_143⟩ : ∃ y : Int32, y = zi_105 + 1 := ⟨_, rfl⟩
                      have tzi_143 : zi_143.toInt = zi_105.toInt + 1 := by rw [ezi_143]; exact tadd rfl (show (1 : Int32).toInt = 1 by decide) (by omega) (by omega)
                      refine lv_iinc (v := zi_143) (lv' := [(8, .int zi_143), (0, .ref zy), (1, .int zia), (2, .int zib), (3, .int zic), (4, .int zid), (5, .int zie), (6, .int zi_18), (7, .int zi_27)]) hx hb dX11_rains_134 hl (k := 8) rfl (by rw [ezi_143]; rfl) (by decide) rfl (fun ls hl => ?_)
                      refine lv_goto (tgt := 103) hx hb dX11_rains_137 (by decide) ?_
                      exact ih_131 (zie.toInt - zi_143.toInt).toNat (by omega) zi_143 zI_142 _ _ _ rfl (by omega) h_zI_142 (by rw [← uzI_142, u2_r]; exact RNZ.s e_lp_131_0 (by omega) (by omega) (by omega) zb_141 (by omega)) (by omega) fq_zI_142 z_zI_142 hP hD hS (lv_sub hl [1, 2, 3, 4, 5, 6, 7, 8, 0] rfl)
                have qc_0 : (0 : Int32).toInt = 0 := by decide
                exact lp_131 _ (0 : Int32) zI _ _ _ rfl (by decide) h_zI RNZ.z (by omega) e_lp_77_1 e_lp_77_2 hP hD hS (lv_sub hl [1, 2, 3, 4, 5, 6, 7, 8, 0] rfl)
              · have f_79 : ¬ (zi_52.toInt ≥ zie.toInt) := ic_nge (rfl) (rfl) c_78
                refine lv_iload_n hx hb dX11_rains_74 rfl (lv_at hl 1 rfl) ?_
                refine lv_aload_n hx hb dX11_rains_75 rfl (lv_at hl 0 rfl) ?_
                refine ht_getr (C := RX11) (T := TX11) (N := 28) hx hb hts (by decide +kernel) hown hK hP hs t_zy (by decide) rfl rfl 27 (by decide) (hts (.fieldLink RX11 65 "DripStoneModel" "items" "[I") (by decide +kernel)) (fun _ h9 => h9) rfl dX11_rains_76 ?_
                have t_144 : zT (zR zy 27) = 112 := sk_f hs t_zy (by decide) rfl (by decide)
                refine lv_iload hx hb dX11_rains_79 (lv_at hl 7 rfl) ?_
                refine lv_iload hx hb dX11_rains_81 (lv_at hl 8 rfl) ?_
                refine lv_iadd hx hb dX11_rains_83 ?_
                refine lv_topi (fun zi_145 ezi_145 => ?_)
                have tzi_145 : zi_145.toInt = zi_27.toInt + zi_52.toInt := by rw [ezi_145]; exact tiadd (rfl) (rfl) (by omega) (by omega)
                refine ht_iald (n := 96) (q := 0) hx hb hK hP hs t_144 (by decide) rfl rfl ⟨by omega, by omega⟩ dX11_rains_84 ?_
                refine lv_topi (fun zi_146 ezi_146 => ?_)
                have zb_147 : zi_146.toInt = zA (zI (zR zy 27)) (24 * zib.toInt + zid.toInt + zi_52.toInt) := ((congrArg Int32.toInt (show zI (zR zy 27) zi_145.toNatClampNeg = zi_146 from ezi_146.symm).symm).trans (congrArg (zA (zI (zR zy 27))) (show zi_145.toInt = 24 * zib.toInt + zid.toInt + zi_52.toInt from by omega)))
                refine hj0_i (ws := (WL cy zL zT zR zI zJ)) (va_runS (As := [.int zia, .int zi_146]) (rest := []) ⟨hx, hb, hml, hown, hts⟩ (c_X11_mayRain l dC dI cy H.size zia zi_146) (va_cwS 2 hts gX11_rains_X11_mayRain rfl rfl rfl (by decide +kernel) ⟨(Nat.le_of_ble_eq_true rfl), (Nat.le_of_ble_eq_true rfl)⟩) (PRE.s (hP.sub [] rfl) hK (hD.sub [] (by decide) rfl) hN) rfl rfl hl.1 rfl (lv_room (Nat.le_of_ble_eq_true rfl)) dX11_rains_85 ⟨(Nat.le_of_ble_eq_true rfl), (Nat.le_of_ble_eq_true rfl)⟩) hP hD hS hA (fun zi_148 u_150 H locs hw_149 hP hD hS => ?_)
                have hw_149 : zi_148 = if (0 ≤ zia.toInt ∧ zia.toInt ≤ 2) ∧ ((zia.toInt = 1 ∧ -20 ≤ zi_146.toInt ∧ zi_146.toInt ≤ 20) ∨ (¬ zia.toInt = 1 ∧ 0 ≤ zi_146.toInt ∧ zi_146.toInt ≤ 9)) then 1 else 0 := hw_149
                have b_zi_148 : 0 ≤ zi_148.toInt ∧ zi_148.toInt ≤ 1 := bz_b hw_149
                refine lv_if_ne (tgt := 94) hx hb dX11_rains_88 (by decide) (fun c_151 => ?_) (fun c_151 => ?_)
                · have f_152 : (0 ≤ zia.toInt ∧ zia.toInt ≤ 2) ∧ ((zia.toInt = 1 ∧ -20 ≤ zi_146.toInt ∧ zi_146.toInt ≤ 20) ∨ (¬ zia.toInt = 1 ∧ 0 ≤ zi_146.toInt ∧ zi_146.toInt ≤ 9)) := bz_1 hw_149 c_151
                  obtain ⟨zi_153, ezi_153⟩ : ∃ y : Int32, y = zi_52 + 1 := ⟨_, rfl⟩
                  have tzi_153 : zi_153.toInt = zi_52.toInt + 1 := by rw [ezi_153]; exact tadd rfl (show (1 : Int32).toInt = 1 by decide) (by omega) (by omega)
                  refine lv_iinc (v := zi_153) (lv' := [(8, .int zi_153), (0, .ref zy), (1, .int zia), (2, .int zib), (3, .int zic), (4, .int zid), (5, .int zie), (6, .int zi_18), (7, .int zi_27)]) hx hb dX11_rains_94 hl (k := 8) rfl (by rw [ezi_153]; rfl) (by decide) rfl (fun ls hl => ?_)
                  refine lv_goto (tgt := 67) hx hb dX11_rains_97 (by decide) ?_
                  exact ih_77 (zie.toInt - zi_153.toInt).toNat (by omega) zi_153 _ _ _ rfl (by omega) (MAYZ.s e_lp_77_0 (show MAYp zia.toInt zi_146.toInt from by unfold MAYp; omega) zb_147 (by omega)) e_lp_77_1 e_lp_77_2 hP hD hS (lv_sub hl [1, 2, 3, 4, 5, 6, 7, 8, 0] rfl)
                · have f_152 : ¬ ((0 ≤ zia.toInt ∧ zia.toInt ≤ 2) ∧ ((zia.toInt = 1 ∧ -20 ≤ zi_146.toInt ∧ zi_146.toInt ≤ 20) ∨ (¬ zia.toInt = 1 ∧ 0 ≤ zi_146.toInt ∧ zi_146.toInt ≤ 9))) := bz_0 hw_149 c_151
                  refine lv_bipush (v := (-2)) hx hb dX11_rains_91 (by decide) ?_
                  subst hQ
                  have qc_m2 : (-2 : Int32).toInt = -2 := by decide
                  exact W.iret (v := (-2 : Int32)) hx hb hr (fun t ht hW => ⟨⟨(-2 : Int32), zI, rfl, ⟨h_zI, (show (-13) ≤ (-2 : Int32).toInt ∧ (-2 : Int32).toInt ≤ 24 from by omega), (show ¬ (RSok zia.toInt zib.toInt zic.toInt zie.toInt) → ((-2 : Int32).toInt = -1 ∧ zI = zI) from (fun h9 => absurd (show RSok zia.toInt zib.toInt zic.toInt zie.toInt from by unfold RSok; omega) h9)), (show RSok zia.toInt zib.toInt zic.toInt zie.toInt → ¬ (LKS (zI (zR zy 25) zib.toNatClampNeg).toInt (zI (zR zy 26) zib.toNatClampNeg).toInt zic.toInt zid.toInt zie.toInt) = 0 → ((-2 : Int32).toInt = (LKS (zI (zR zy 25) zib.toNatClampNeg).toInt (zI (zR zy 26) zib.toNatClampNeg).toInt zic.toInt zid.toInt zie.toInt) ∧ zI = zI) from (fun _ h9 => absurd (by omega) h9)), (show RSok zia.toInt zib.toInt zic.toInt zie.toInt → (LKS (zI (zR zy 25) zib.toNatClampNeg).toInt (zI (zR zy 26) zib.toNatClampNeg).toInt zic.toInt zid.toInt zie.toInt) = 0 → ¬ MAYZ (zI (zR zy 27)) zia.toInt (24 * zib.toInt + zid.toInt) zie.toInt → ((-2 : Int32).toInt = -2 ∧ zI = zI) from (fun _ _ _ => ⟨by decide, rfl⟩)), (show RSok zia.toInt zib.toInt zic.toInt zie.toInt → (LKS (zI (zR zy 25) zib.toNatClampNeg).toInt (zI (zR zy 26) zib.toNatClampNeg).toInt zic.toInt zid.toInt zie.toInt) = 0 → MAYZ (zI (zR zy 27)) zia.toInt (24 * zib.toInt + zid.toInt) zie.toInt → ((-2 : Int32).toInt = zie.toInt ∧ RNZ (zI (zR zy 0)) (zI (zR zy 0)) (zI (zR zy 27)) zia.toInt (24 * zib.toInt + zid.toInt) zie.toInt) from (fun _ _ h9 => ((fun h9 => MAYZ.no h9 (by omega) (by omega) zb_147 (show ¬ MAYp zia.toInt zi_146.toInt from by unfold MAYp; omega)) h9).elim)), (show FQ3 (zI (zR zy 0)) (zI (zR zy 0)) from e_lp_77_1), (show ZI (zI (zR zy 0)) from e_lp_77_2)⟩, ⟨by rw [ht]; exact hP, va_K.moved hW.alike hK, hD⟩⟩, hS.F ht⟩) hS.2.2 dX11_rains_93
          have qc_0 : (0 : Int32).toInt = 0 := by decide
          exact lp_77 _ (0 : Int32) _ _ _ rfl (by decide) MAYZ.z FQ3.rf hz hP hD hS (lv_sub hl [3, 4, 5, 6, 7, 8, 2, 1, 0] rfl)
        · have f_25 : ¬ (zi_18.toInt ≥ 0) := ic_nge (rfl) (by decide) c_24
          refine lv_iload hx hb dX11_rains_52 (lv_at hl 0 rfl) ?_
          subst hQ
          exact W.iret (v := zi_18) hx hb hr (fun t ht hW => ⟨⟨zi_18, zI, rfl, ⟨h_zI, (show (-13) ≤ zi_18.toInt ∧ zi_18.toInt ≤ 24 from by omega), (show ¬ (RSok zia.toInt zib.toInt zic.toInt zie.toInt) → (zi_18.toInt = -1 ∧ zI = zI) from (fun h9 => absurd (show RSok zia.toInt zib.toInt zic.toInt zie.toInt from by unfold RSok; omega) h9)), (show RSok zia.toInt zib.toInt zic.toInt zie.toInt → ¬ (LKS (zI (zR zy 25) zib.toNatClampNeg).toInt (zI (zR zy 26) zib.toNatClampNeg).toInt zic.toInt zid.toInt zie.toInt) = 0 → (zi_18.toInt = (LKS (zI (zR zy 25) zib.toNatClampNeg).toInt (zI (zR zy 26) zib.toNatClampNeg).toInt zic.toInt zid.toInt zie.toInt) ∧ zI = zI) from (fun _ _ => ⟨by omega, rfl⟩)), (show RSok zia.toInt zib.toInt zic.toInt zie.toInt → (LKS (zI (zR zy 25) zib.toNatClampNeg).toInt (zI (zR zy 26) zib.toNatClampNeg).toInt zic.toInt zid.toInt zie.toInt) = 0 → ¬ MAYZ (zI (zR zy 27)) zia.toInt (24 * zib.toInt + zid.toInt) zie.toInt → (zi_18.toInt = -2 ∧ zI = zI) from (fun _ h9 => absurd h9 (by omega))), (show RSok zia.toInt zib.toInt zic.toInt zie.toInt → (LKS (zI (zR zy 25) zib.toNatClampNeg).toInt (zI (zR zy 26) zib.toNatClampNeg).toInt zic.toInt zid.toInt zie.toInt) = 0 → MAYZ (zI (zR zy 27)) zia.toInt (24 * zib.toInt + zid.toInt) zie.toInt → (zi_18.toInt = zie.toInt ∧ RNZ (zI (zR zy 0)) (zI (zR zy 0)) (zI (zR zy 27)) zia.toInt (24 * zib.toInt + zid.toInt) zie.toInt) from (fun _ h9 => absurd h9 (by omega))), (show FQ3 (zI (zR zy 0)) (zI (zR zy 0)) from FQ3.rf), (show ZI (zI (zR zy 0)) from hz)⟩, ⟨by rw [ht]; exact hP, va_K.moved hW.alike hK, hD⟩⟩, hS.F ht⟩) hS.2.2 dX11_rains_54
      · have f_17 : ¬ (1 ≤ zj_12.toInt ∧ zj_12.toInt ≤ 24) := bz_0 hw_14 c_16
        refine lv_iconst (v := (-1)) hx hb dX11_rains_33 (by decide) ?_
        subst hQ
        have qc_m1 : (-1 : Int32).toInt = -1 := by decide
        exact W.iret (v := (-1 : Int32)) hx hb hr (fun t ht hW => ⟨⟨(-1 : Int32), zI, rfl, ⟨h_zI, (show (-13) ≤ (-1 : Int32).toInt ∧ (-1 : Int32).toInt ≤ 24 from by omega), (show ¬ (RSok zia.toInt zib.toInt zic.toInt zie.toInt) → ((-1 : Int32).toInt = -1 ∧ zI = zI) from (fun _ => ⟨by decide, rfl⟩)), (show RSok zia.toInt zib.toInt zic.toInt zie.toInt → ¬ (LKS (zI (zR zy 25) zib.toNatClampNeg).toInt (zI (zR zy 26) zib.toNatClampNeg).toInt zic.toInt zid.toInt zie.toInt) = 0 → ((-1 : Int32).toInt = (LKS (zI (zR zy 25) zib.toNatClampNeg).toInt (zI (zR zy 26) zib.toNatClampNeg).toInt zic.toInt zid.toInt zie.toInt) ∧ zI = zI) from (fun h9 => absurd h9 (by unfold RSok; omega))), (show RSok zia.toInt zib.toInt zic.toInt zie.toInt → (LKS (zI (zR zy 25) zib.toNatClampNeg).toInt (zI (zR zy 26) zib.toNatClampNeg).toInt zic.toInt zid.toInt zie.toInt) = 0 → ¬ MAYZ (zI (zR zy 27)) zia.toInt (24 * zib.toInt + zid.toInt) zie.toInt → ((-1 : Int32).toInt = -2 ∧ zI = zI) from (fun h9 => absurd h9 (by unfold RSok; omega))), (show RSok zia.toInt zib.toInt zic.toInt zie.toInt → (LKS (zI (zR zy 25) zib.toNatClampNeg).toInt (zI (zR zy 26) zib.toNatClampNeg).toInt zic.toInt zid.toInt zie.toInt) = 0 → MAYZ (zI (zR zy 27)) zia.toInt (24 * zib.toInt + zid.toInt) zie.toInt → ((-1 : Int32).toInt = zie.toInt ∧ RNZ (zI (zR zy 0)) (zI (zR zy 0)) (zI (zR zy 27)) zia.toInt (24 * zib.toInt + zid.toInt) zie.toInt) from (fun h9 => absurd h9 (by unfold RSok; omega))), (show FQ3 (zI (zR zy 0)) (zI (zR zy 0)) from FQ3.rf), (show ZI (zI (zR zy 0)) from hz)⟩, ⟨by rw [ht]; exact hP, va_K.moved hW.alike hK, hD⟩⟩, hS.F ht⟩) hS.2.2 dX11_rains_34
set_option maxHeartbeats 8000000 in
set_option maxRecDepth 100000 in
theorem t_X11_cause (l : Launch) (dC : Nat → ClassId) (dI : Nat → Nat → Nat) (cy : Nat → ClassId) (sz : Nat) (zL : List Nat) (zT : Nat → Nat) (zR : Nat → Nat → Nat) (zI : Nat → Nat → Int32) (zJ : Nat → Nat → Int64) (zy : Nat) (zia : Int32) (zib : Int32) (hs : SKP zL zT zR) (hw : WT zT zR zI) (t_zy : zT zy = 18) (hz : ZI (zI (zR zy 0))) : Met l yX11_cause wsX11_cause ({ frames := 1, cells := 0, slots := 0, locals := 25 } : Room) (va_Pc [.ref zy, .int zia, .int zib] (PRE dC dI cy (WL cy zL zT zR zI zJ) sz)) (va_Qi (fun (r : Int32) (u : (Nat → Nat → Int32)) => (WM [10000] AL zT zR zI u) ∧ ((-3) ≤ r.toInt ∧ r.toInt ≤ 4) ∧ (¬ (CSok zia.toInt zib.toInt) → (r.toInt = -1 ∧ u = zI)) ∧ (CSok zia.toInt zib.toInt → zA (zI (zR zy 0)) (13) = 5 → (r.toInt = -3 ∧ u = zI)) ∧ (CSok zia.toInt zib.toInt → ¬ zA (zI (zR zy 0)) (13) = 5 → (r.toInt = zA (zI (zR zy 0)) (13) ∧ zA (u (zR zy 0)) (13) = zA (zI (zR zy 0)) (13) + 1 ∧ (∀ j : Int, 0 ≤ j → (j ≤ 1 ∨ (3 ≤ j ∧ j ≤ 4) ∨ j = 13 ∨ (20 ≤ j ∧ j ≤ 91)) → ¬ j = 13 → zA (u (zR zy 0)) j = zA (zI (zR zy 0)) j))) ∧ (ZI (u (zR zy 0)))) (fun u t => POST dC dI cy (va_A (WL cy zL zT zR zI zJ) sz) (WL cy zL zT zR u zJ) t) (va_A (WL cy zL zT zR zI zJ) sz)) 0 0 (va_A (WL cy zL zT zR zI zJ) sz) := by
  refine Met.ofW (cc := cX11_cause) (maxL := 3) (ret := (some .int)) (by decide) rfl ?_
  intro p e s m args below meth c s₁ B hml hv
  obtain ⟨rfl, hsz, hP, hK, hD0, hN⟩ := hv
  have hx := B.exec
  have hb := B.bytes
  have hr := B.returns
  have hts := atoms_spec (ws := wsX11_cause) B.pre
  have hown : s.vm.findClass RX11 = some m.cls := findClass_of_methodNamed B.named
  have hlocks := B.notSynchronized
  subst hsz
  have hD := hD0.self (sz := s.heap.size)
  generalize hAe : va_A (WL cy zL zT zR zI zJ) s.heap.size = A at hD ⊢
  have hA : ∀ q : Nat, s.heap.size ≤ q → A q := fun q h => by rw [← hAe]; exact Or.inr h
  have hS : va_S A s.heap s.heap [] := va_S.rf
  have hP : va_P (dC, dI) vwCl (WL cy zL zT zR zI zJ) s.heap := hP
  have hl := lv_entry ([.ref zy, .int zia, .int zib] : List Value) (n := 3) (Nat.le_of_ble_eq_true rfl)
  rw [lg_entry_eq]
  generalize (lg_sl ([.ref zy, .int zia, .int zib] : List Value) ++ List.replicate (3 - (lg_sl ([.ref zy, .int zia, .int zib] : List Value)).length) Slot.unset).toArray = ls at hl ⊢
  have hl : lv_has ls 3 [(0, .ref zy), (1, .int zia), (2, .int zib)] := hl
  refine w_q (fun Q hQ => ?_)
  have h_zI : WM [10000] AL zT zR zI zI := WM.rf hw
  refine lv_iload_n hx hb dX11_cause_0 rfl (lv_at hl 1 rfl) ?_
  refine lv_i2l (v := zia.toInt64) hx hb dX11_cause_1 rfl ?_
  refine lv_topl (fun zj_1 ezj_1 => ?_)
  have tzj_1 : zj_1.toInt = zia.toInt := by rw [ezj_1]; exact Int32.toInt_toInt64 _
  refine lv_ldc2 (v := (-30)) hx hb hown (hts (.constantLong RX11 335 (-30)) (by decide +kernel)) dX11_cause_2 ?_
  refine lv_ldc2 (v := 30) hx hb hown (hts (.constantLong RX11 337 30) (by decide +kernel)) dX11_cause_5 ?_
  refine hj0_i (ws := (WL cy zL zT zR zI zJ)) (va_runS (As := [.long zj_1, .long (-30), .long 30]) (rest := []) ⟨hx, hb, hml, hown, hts⟩ (c_X11_in l dC dI cy s.heap.size zj_1 (-30) 30 (-30) 30 zj_1.toInt (by first | rfl | decide | omega | exact Int32.toInt_toInt64 _) (by first | rfl | decide | omega | exact Int32.toInt_toInt64 _) (by first | rfl | decide | omega | exact Int32.toInt_toInt64 _)) (va_cwS 3 hts gX11_cause_X11_in rfl rfl rfl (by decide +kernel) ⟨(Nat.le_of_ble_eq_true rfl), (Nat.le_of_ble_eq_true rfl)⟩) (PRE.s (hP.sub [] rfl) hK (hD.sub [] (by decide) rfl) hN) rfl rfl hl.1 rfl (lv_room (Nat.le_of_ble_eq_true rfl)) dX11_cause_8 ⟨(Nat.le_of_ble_eq_true rfl), (Nat.le_of_ble_eq_true rfl)⟩) hP hD hS hA (fun zi_2 u_4 H locs hw_3 hP hD hS => ?_)
  have hw_3 : zi_2 = if (-30) ≤ zj_1.toInt ∧ zj_1.toInt ≤ 30 then 1 else 0 := hw_3
  have b_zi_2 : 0 ≤ zi_2.toInt ∧ zi_2.toInt ≤ 1 := bz_b hw_3
  refine lv_if_eq (tgt := 27) hx hb dX11_cause_11 (by decide) (fun c_5 => ?_) (fun c_5 => ?_)
  · have f_6 : ¬ ((-30) ≤ zj_1.toInt ∧ zj_1.toInt ≤ 30) := bz_0 hw_3 c_5
    refine lv_iconst (v := (-1)) hx hb dX11_cause_27 (by decide) ?_
    subst hQ
    have qc_m1 : (-1 : Int32).toInt = -1 := by decide
    exact W.iret (v := (-1 : Int32)) hx hb hr (fun t ht hW => ⟨⟨(-1 : Int32), zI, rfl, ⟨h_zI, (show (-3) ≤ (-1 : Int32).toInt ∧ (-1 : Int32).toInt ≤ 4 from by omega), (show ¬ (CSok zia.toInt zib.toInt) → ((-1 : Int32).toInt = -1 ∧ zI = zI) from (fun _ => ⟨by decide, rfl⟩)), (show CSok zia.toInt zib.toInt → zA (zI (zR zy 0)) (13) = 5 → ((-1 : Int32).toInt = -3 ∧ zI = zI) from (fun h9 => absurd h9 (by unfold CSok; omega))), (show CSok zia.toInt zib.toInt → ¬ zA (zI (zR zy 0)) (13) = 5 → ((-1 : Int32).toInt = zA (zI (zR zy 0)) (13) ∧ zA (zI (zR zy 0)) (13) = zA (zI (zR zy 0)) (13) + 1 ∧ (∀ j : Int, 0 ≤ j → (j ≤ 1 ∨ (3 ≤ j ∧ j ≤ 4) ∨ j = 13 ∨ (20 ≤ j ∧ j ≤ 91)) → ¬ j = 13 → zA (zI (zR zy 0)) j = zA (zI (zR zy 0)) j)) from (fun h9 => absurd h9 (by unfold CSok; omega))), (show ZI (zI (zR zy 0)) from hz)⟩, ⟨by rw [ht]; exact hP, va_K.moved hW.alike hK, hD⟩⟩, hS.F ht⟩) hS.2.2 dX11_cause_28
  · have f_6 : (-30) ≤ zj_1.toInt ∧ zj_1.toInt ≤ 30 := bz_1 hw_3 c_5
    refine lv_iload_n hx hb dX11_cause_14 rfl (lv_at hl 2 rfl) ?_
    refine lv_i2l (v := zib.toInt64) hx hb dX11_cause_15 rfl ?_
    refine lv_topl (fun zj_7 ezj_7 => ?_)
    have tzj_7 : zj_7.toInt = zib.toInt := by rw [ezj_7]; exact Int32.toInt_toInt64 _
    refine lv_iload_n hx hb dX11_cause_16 rfl (lv_at hl 1 rfl) ?_
    refine lv_i2l (v := zia.toInt64) hx hb dX11_cause_17 rfl ?_
    refine lv_topl (fun zj_8 ezj_8 => ?_)
    have tzj_8 : zj_8.toInt = zia.toInt := by rw [ezj_8]; exact Int32.toInt_toInt64 _
    refine lv_ldc2 (v := 30) hx hb hown (hts (.constantLong RX11 337 30) (by decide +kernel)) dX11_cause_18 ?_
    refine hj0_i (ws := (WL cy zL zT zR zI zJ)) (va_runS (As := [.long zj_7, .long zj_8, .long 30]) (rest := []) ⟨hx, hb, hml, hown, hts⟩ (c_X11_in l dC dI cy H.size zj_7 zj_8 30 zj_8.toInt 30 zj_7.toInt (by first | rfl | decide | omega | exact Int32.toInt_toInt64 _) (by first | rfl | decide | omega | exact Int32.toInt_toInt64 _) (by first | rfl | decide | omega | exact Int32.toInt_toInt64 _)) (va_cwS 3 hts gX11_cause_X11_in rfl rfl rfl (by decide +kernel) ⟨(Nat.le_of_ble_eq_true rfl), (Nat.le_of_ble_eq_true rfl)⟩) (PRE.s (hP.sub [] rfl) hK (hD.sub [] (by decide) rfl) hN) rfl rfl hl.1 rfl (lv_room (Nat.le_of_ble_eq_true rfl)) dX11_cause_21 ⟨(Nat.le_of_ble_eq_true rfl), (Nat.le_of_ble_eq_true rfl)⟩) hP hD hS hA (fun zi_9 u_11 H locs hw_10 hP hD hS => ?_)
    have hw_10 : zi_9 = if zj_8.toInt ≤ zj_7.toInt ∧ zj_7.toInt ≤ 30 then 1 else 0 := hw_10
    have b_zi_9 : 0 ≤ zi_9.toInt ∧ zi_9.toInt ≤ 1 := bz_b hw_10
    refine lv_if_ne (tgt := 29) hx hb dX11_cause_24 (by decide) (fun c_12 => ?_) (fun c_12 => ?_)
    · have f_13 : zj_8.toInt ≤ zj_7.toInt ∧ zj_7.toInt ≤ 30 := bz_1 hw_10 c_12
      refine lv_aload_n hx hb dX11_cause_29 rfl (lv_at hl 0 rfl) ?_
      refine ht_getr (C := RX11) (T := TX11) (N := 28) hx hb hts (by decide +kernel) hown hK hP hs t_zy (by decide) rfl rfl 0 (by decide) (hts (.fieldLink RX11 7 "DripStoneModel" "z" "[I") (by decide +kernel)) (fun _ h9 => h9) rfl dX11_cause_30 ?_
      have t_14 : zT (zR zy 0) = 100 := sk_f hs t_zy (by decide) rfl (by decide)
      refine lv_bipush (v := 13) hx hb dX11_cause_33 (by decide) ?_
      refine ht_iald (n := 392) (q := 0) hx hb hK hP hs t_14 (by decide) rfl rfl ⟨by decide, by decide⟩ dX11_cause_35 ?_
      refine lv_topi (fun zi_15 ezi_15 => ?_)
      have la_16 : zi_15.toInt = zA (zI (zR zy 0)) (13) := (congrArg Int32.toInt (show zI (zR zy 0) (13 : Int32).toNatClampNeg = zi_15 from ezi_15.symm).symm).trans (congrArg (zA (zI (zR zy 0))) (show (13 : Int32).toInt = 13 from by decide))
      have tz_17 : 0 ≤ zi_15.toInt ∧ zi_15.toInt ≤ 5 := by rw [← (show zI (zR zy 0) (13 : Int32).toNatClampNeg = zi_15 from ezi_15.symm)]; exact ZI.g13 hz (by decide) (by decide)
      refine lv_iconst (v := 5) hx hb dX11_cause_36 (by decide) ?_
      refine lv_icmp_ne (tgt := 43) hx hb dX11_cause_37 (by decide) (fun c_18 => ?_) (fun c_18 => ?_)
      · have f_19 : zi_15.toInt ≠ (5 : Int) := ic_ne (rfl) (show (5 : Int32).toInt = 5 by decide) c_18
        refine lv_aload_n hx hb dX11_cause_43 rfl (lv_at hl 0 rfl) ?_
        refine ht_getr (C := RX11) (T := TX11) (N := 28) hx hb hts (by decide +kernel) hown hK hP hs t_zy (by decide) rfl rfl 0 (by decide) (hts (.fieldLink RX11 7 "DripStoneModel" "z" "[I") (by decide +kernel)) (fun _ h9 => h9) rfl dX11_cause_44 ?_
        refine lv_sipush (v := 382) hx hb dX11_cause_47 (by decide) ?_
        refine lv_iconst (v := 2) hx hb dX11_cause_50 (by decide) ?_
        refine lv_aload_n hx hb dX11_cause_51 rfl (lv_at hl 0 rfl) ?_
        refine ht_getr (C := RX11) (T := TX11) (N := 28) hx hb hts (by decide +kernel) hown hK hP hs t_zy (by decide) rfl rfl 0 (by decide) (hts (.fieldLink RX11 7 "DripStoneModel" "z" "[I") (by decide +kernel)) (fun _ h9 => h9) rfl dX11_cause_52 ?_
        refine lv_bipush (v := 13) hx hb dX11_cause_55 (by decide) ?_
        refine ht_iald (n := 392) (q := 0) hx hb hK hP hs t_14 (by decide) rfl rfl ⟨by decide, by decide⟩ dX11_cause_57 ?_
        refine lv_topi (fun zi_20 ezi_20 => ?_)
        obtain rfl : zi_15 = zi_20 := (ezi_20.trans ezi_15.symm).symm
        refine lv_imul hx hb dX11_cause_58 ?_
        refine lv_topi (fun zi_21 ezi_21 => ?_)
        have tzi_21 : zi_21.toInt = (2 : Int) * zi_15.toInt := by rw [ezi_21]; exact timul (show (2 : Int32).toInt = 2 by decide) (rfl) (by omega) (by omega)
        refine lv_iadd hx hb dX11_cause_59 ?_
        refine lv_topi (fun zi_22 ezi_22 => ?_)
        have tzi_22 : zi_22.toInt = (382 : Int) + zi_21.toInt := by rw [ezi_22]; exact tiadd (show (382 : Int32).toInt = 382 by decide) (rfl) (by omega) (by omega)
        refine lv_iload_n hx hb dX11_cause_60 rfl (lv_at hl 1 rfl) ?_
        refine ht_iast (v := zia) (n := 392) (q := 0) hx hb hK hP hD hS hs t_14 (by decide) rfl rfl ⟨by omega, by omega⟩ dX11_cause_61 (fun H locs hP hD hS => ?_)
        have h_zI_23 : WM [10000] AL zT zR zI (u2 zI (zR zy 0) zi_22.toNatClampNeg zia) := h_zI.putA hs t_14 rfl (rgF _) (by decide) (fun h => absurd h (by decide)) (by decide) trivial
        generalize uzI_23 : u2 zI (zR zy 0) zi_22.toNatClampNeg zia = zI_23 at hP hD h_zI_23
        have kt_24 : zA (zI_23 (zR zy 0)) (13) = zA (zI (zR zy 0)) (13) := by rw [← uzI_23, u2_r]; exact zu_n (by omega) (by omega) (by omega)
        have z_zI_23 : ZI (zI_23 (zR zy 0)) := by rw [← uzI_23, u2_r]; exact ZI.fr hz (by omega)
        have fq_zI_23 : FQ (zI (zR zy 0)) (zI_23 (zR zy 0)) := by rw [← uzI_23, u2_r]; exact FQ.up FQ.rf (by omega) (by omega)
        refine lv_aload_n hx hb dX11_cause_62 rfl (lv_at hl 0 rfl) ?_
        refine ht_getr (C := RX11) (T := TX11) (N := 28) hx hb hts (by decide +kernel) hown hK hP hs t_zy (by decide) rfl rfl 0 (by decide) (hts (.fieldLink RX11 7 "DripStoneModel" "z" "[I") (by decide +kernel)) (fun _ h9 => h9) rfl dX11_cause_63 ?_
        refine lv_sipush (v := 382) hx hb dX11_cause_66 (by decide) ?_
        refine lv_iconst (v := 2) hx hb dX11_cause_69 (by decide) ?_
        refine lv_aload_n hx hb dX11_cause_70 rfl (lv_at hl 0 rfl) ?_
        refine ht_getr (C := RX11) (T := TX11) (N := 28) hx hb hts (by decide +kernel) hown hK hP hs t_zy (by decide) rfl rfl 0 (by decide) (hts (.fieldLink RX11 7 "DripStoneModel" "z" "[I") (by decide +kernel)) (fun _ h9 => h9) rfl dX11_cause_71 ?_
        refine lv_bipush (v := 13) hx hb dX11_cause_74 (by decide) ?_
        refine ht_iald (n := 392) (q := 0) hx hb hK hP hs t_14 (by decide) rfl rfl ⟨by decide, by decide⟩ dX11_cause_76 ?_
        refine lv_topi (fun zi_25 ezi_25 => ?_)
        have qc_13 : (13 : Int32).toInt = 13 := by decide
        obtain rfl : zi_15 = zi_25 := (ezi_25.trans ((show zI_23 (zR zy 0) (13 : Int32).toNatClampNeg = zI (zR zy 0) (13 : Int32).toNatClampNeg from by rw [← uzI_23]; exact u2_k (cl_ne (by omega) (by omega) (by omega))).trans ezi_15.symm)).symm
        have la_26 : zi_15.toInt = zA (zI_23 (zR zy 0)) (13) := (congrArg Int32.toInt (show zI_23 (zR zy 0) (13 : Int32).toNatClampNeg = zi_15 from ((show zI_23 (zR zy 0) (13 : Int32).toNatClampNeg = zI (zR zy 0) (13 : Int32).toNatClampNeg from by rw [← uzI_23]; exact u2_k (cl_ne (by omega) (by omega) (by omega))).trans ezi_15.symm)).symm).trans (congrArg (zA (zI_23 (zR zy 0))) (show (13 : Int32).toInt = 13 from by decide))
        refine lv_imul hx hb dX11_cause_77 ?_
        refine lv_topi (fun zi_27 ezi_27 => ?_)
        have tzi_27 : zi_27.toInt = (2 : Int) * zi_15.toInt := by rw [ezi_27]; exact timul (show (2 : Int32).toInt = 2 by decide) (rfl) (by omega) (by omega)
        refine lv_iadd hx hb dX11_cause_78 ?_
        refine lv_topi (fun zi_28 ezi_28 => ?_)
        have tzi_28 : zi_28.toInt = (382 : Int) + zi_27.toInt := by rw [ezi_28]; exact tiadd (show (382 : Int32).toInt = 382 by decide) (rfl) (by omega) (by omega)
        refine lv_iconst (v := 1) hx hb dX11_cause_79 (by decide) ?_
        refine lv_iadd hx hb dX11_cause_80 ?_
        refine lv_topi (fun zi_29 ezi_29 => ?_)
        have tzi_29 : zi_29.toInt = zi_28.toInt + (1 : Int) := by rw [ezi_29]; exact tiadd (rfl) (show (1 : Int32).toInt = 1 by decide) (by omega) (by omega)
        refine lv_iload_n hx hb dX11_cause_81 rfl (lv_at hl 2 rfl) ?_
        refine ht_iast (v := zib) (n := 392) (q := 0) hx hb hK hP hD hS hs t_14 (by decide) rfl rfl ⟨by omega, by omega⟩ dX11_cause_82 (fun H locs hP hD hS => ?_)
        have h_zI_30 : WM [10000] AL zT zR zI (u2 zI_23 (zR zy 0) zi_29.toNatClampNeg zib) := h_zI_23.putA hs t_14 rfl (rgF _) (by decide) (fun h => absurd h (by decide)) (by decide) trivial
        generalize uzI_30 : u2 zI_23 (zR zy 0) zi_29.toNatClampNeg zib = zI_30 at hP hD h_zI_30
        have kt_31 : zA (zI_30 (zR zy 0)) (13) = zA (zI_23 (zR zy 0)) (13) := by rw [← uzI_30, u2_r]; exact zu_n (by omega) (by omega) (by omega)
        have z_zI_30 : ZI (zI_30 (zR zy 0)) := by rw [← uzI_30, u2_r]; exact ZI.fr z_zI_23 (by omega)
        have fq_zI_30 : FQ (zI (zR zy 0)) (zI_30 (zR zy 0)) := by rw [← uzI_30, u2_r]; exact FQ.up fq_zI_23 (by omega) (by omega)
        refine lv_aload_n hx hb dX11_cause_83 rfl (lv_at hl 0 rfl) ?_
        refine ht_getr (C := RX11) (T := TX11) (N := 28) hx hb hts (by decide +kernel) hown hK hP hs t_zy (by decide) rfl rfl 0 (by decide) (hts (.fieldLink RX11 7 "DripStoneModel" "z" "[I") (by decide +kernel)) (fun _ h9 => h9) rfl dX11_cause_84 ?_
        refine lv_bipush (v := 13) hx hb dX11_cause_87 (by decide) ?_
        refine lv_dup2_11 hx hb dX11_cause_89 rfl rfl ?_
        refine ht_iald (n := 392) (q := 0) hx hb hK hP hs t_14 (by decide) rfl rfl ⟨by decide, by decide⟩ dX11_cause_90 ?_
        refine lv_topi (fun zi_32 ezi_32 => ?_)
        obtain rfl : zi_15 = zi_32 := (ezi_32.trans ((show zI_30 (zR zy 0) (13 : Int32).toNatClampNeg = zI_23 (zR zy 0) (13 : Int32).toNatClampNeg from by rw [← uzI_30]; exact u2_k (cl_ne (by omega) (by omega) (by omega))).trans ((show zI_23 (zR zy 0) (13 : Int32).toNatClampNeg = zI (zR zy 0) (13 : Int32).toNatClampNeg from by rw [← uzI_23]; exact u2_k (cl_ne (by omega) (by omega) (by omega))).trans ezi_15.symm))).symm
        have la_33 : zi_15.toInt = zA (zI_30 (zR zy 0)) (13) := (congrArg Int32.toInt (show zI_30 (zR zy 0) (13 : Int32).toNatClampNeg = zi_15 from ((show zI_30 (zR zy 0) (13 : Int32).toNatClampNeg = zI_23 (zR zy 0) (13 : Int32).toNatClampNeg from by rw [← uzI_30]; exact u2_k (cl_ne (by omega) (by omega) (by omega))).trans ((show zI_23 (zR zy 0) (13 : Int32).toNatClampNeg = zI (zR zy 0) (13 : Int32).toNatClampNeg from by rw [← uzI_23]; exact u2_k (cl_ne (by omega) (by omega) (by omega))).trans ezi_15.symm))).symm).trans (congrArg (zA (zI_30 (zR zy 0))) (show (13 : Int32).toInt = 13 from by decide))
        refine lv_iconst (v := 1) hx hb dX11_cause_91 (by decide) ?_
        refine lv_iadd hx hb dX11_cause_92 ?_
        refine lv_topi (fun zi_34 ezi_34 => ?_)
        have tzi_34 : zi_34.toInt = zi_15.toInt + (1 : Int) := by rw [ezi_34]; exact tiadd (rfl) (show (1 : Int32).toInt = 1 by decide) (by omega) (by omega)
        refine ht_iast (v := zi_34) (n := 392) (q := 0) hx hb hK hP hD hS hs t_14 (by decide) rfl rfl ⟨by decide, by decide⟩ dX11_cause_93 (fun H locs hP hD hS => ?_)
        have qz_13 : (13 : Int32).toInt = 13 := by decide
        have h_zI_35 : WM [10000] AL zT zR zI (u2 zI_30 (zR zy 0) (13 : Int32).toNatClampNeg zi_34) := h_zI_30.putA hs t_14 rfl (rgF _) (by decide) (fun h => absurd h (by decide)) (by decide) trivial
        generalize uzI_35 : u2 zI_30 (zR zy 0) (13 : Int32).toNatClampNeg zi_34 = zI_35 at hP hD h_zI_35
        have kt_36 : zA (zI_35 (zR zy 0)) (13) = zi_34.toInt := by rw [← uzI_35, u2_r]; exact zu_s (by omega)
        have z_zI_35 : ZI (zI_35 (zR zy 0)) := by rw [← uzI_35, u2_r]; exact ZI.sm z_zI_30 (by omega) (by unfold RR; omega)
        refine lv_aload_n hx hb dX11_cause_94 rfl (lv_at hl 0 rfl) ?_
        refine ht_getr (C := RX11) (T := TX11) (N := 28) hx hb hts (by decide +kernel) hown hK hP hs t_zy (by decide) rfl rfl 0 (by decide) (hts (.fieldLink RX11 7 "DripStoneModel" "z" "[I") (by decide +kernel)) (fun _ h9 => h9) rfl dX11_cause_95 ?_
        refine lv_bipush (v := 13) hx hb dX11_cause_98 (by decide) ?_
        refine ht_iald (n := 392) (q := 0) hx hb hK hP hs t_14 (by decide) rfl rfl ⟨by decide, by decide⟩ dX11_cause_100 ?_
        refine lv_topi (fun zi_37 ezi_37 => ?_)
        obtain rfl : zi_34 = zi_37 := (ezi_37.trans (by rw [← uzI_35]; exact u2_s)).symm
        have la_38 : zi_34.toInt = zA (zI_35 (zR zy 0)) (13) := (congrArg Int32.toInt (show zI_35 (zR zy 0) (13 : Int32).toNatClampNeg = zi_34 from (by rw [← uzI_35]; exact u2_s)).symm).trans (congrArg (zA (zI_35 (zR zy 0))) (show (13 : Int32).toInt = 13 from by decide))
        refine lv_iconst (v := 1) hx hb dX11_cause_101 (by decide) ?_
        refine lv_isub hx hb dX11_cause_102 ?_
        refine lv_topi (fun zi_39 ezi_39 => ?_)
        have tzi_39 : zi_39.toInt = zi_34.toInt - (1 : Int) := by rw [ezi_39]; exact tisub (rfl) (show (1 : Int32).toInt = 1 by decide) (by omega) (by omega)
        subst hQ
        exact W.iret (v := zi_39) hx hb hr (fun t ht hW => ⟨⟨zi_39, zI_35, rfl, ⟨h_zI_35, (show (-3) ≤ zi_39.toInt ∧ zi_39.toInt ≤ 4 from by omega), (show ¬ (CSok zia.toInt zib.toInt) → (zi_39.toInt = -1 ∧ zI_35 = zI) from (fun h9 => absurd (show CSok zia.toInt zib.toInt from by unfold CSok; omega) h9)), (show CSok zia.toInt zib.toInt → zA (zI (zR zy 0)) (13) = 5 → (zi_39.toInt = -3 ∧ zI_35 = zI) from (fun _ h9 => by omega)), (show CSok zia.toInt zib.toInt → ¬ zA (zI (zR zy 0)) (13) = 5 → (zi_39.toInt = zA (zI (zR zy 0)) (13) ∧ zA (zI_35 (zR zy 0)) (13) = zA (zI (zR zy 0)) (13) + 1 ∧ (∀ j : Int, 0 ≤ j → (j ≤ 1 ∨ (3 ≤ j ∧ j ≤ 4) ∨ j = 13 ∨ (20 ≤ j ∧ j ≤ 91)) → ¬ j = 13 → zA (zI_35 (zR zy 0)) j = zA (zI (zR zy 0)) j)) from (fun _ _ => ⟨by omega, by omega, by rw [← uzI_35, u2_r]; exact FQ.x13 fq_zI_30 (by decide)⟩)), (show ZI (zI_35 (zR zy 0)) from z_zI_35)⟩, ⟨by rw [ht]; exact hP, va_K.moved hW.alike hK, hD⟩⟩, hS.F ht⟩) hS.2.2 dX11_cause_103
      · have f_19 : ¬ (zi_15.toInt ≠ (5 : Int)) := ic_nne (rfl) (show (5 : Int32).toInt = 5 by decide) c_18
        refine lv_bipush (v := (-3)) hx hb dX11_cause_40 (by decide) ?_
        subst hQ
        have qc_m3 : (-3 : Int32).toInt = -3 := by decide
        exact W.iret (v := (-3 : Int32)) hx hb hr (fun t ht hW => ⟨⟨(-3 : Int32), zI, rfl, ⟨h_zI, (show (-3) ≤ (-3 : Int32).toInt ∧ (-3 : Int32).toInt ≤ 4 from by omega), (show ¬ (CSok zia.toInt zib.toInt) → ((-3 : Int32).toInt = -1 ∧ zI = zI) from (fun h9 => absurd (show CSok zia.toInt zib.toInt from by unfold CSok; omega) h9)), (show CSok zia.toInt zib.toInt → zA (zI (zR zy 0)) (13) = 5 → ((-3 : Int32).toInt = -3 ∧ zI = zI) from (fun _ _ => ⟨by decide, rfl⟩)), (show CSok zia.toInt zib.toInt → ¬ zA (zI (zR zy 0)) (13) = 5 → ((-3 : Int32).toInt = zA (zI (zR zy 0)) (13) ∧ zA (zI (zR zy 0)) (13) = zA (zI (zR zy 0)) (13) + 1 ∧ (∀ j : Int, 0 ≤ j → (j ≤ 1 ∨ (3 ≤ j ∧ j ≤ 4) ∨ j = 13 ∨ (20 ≤ j ∧ j ≤ 91)) → ¬ j = 13 → zA (zI (zR zy 0)) j = zA (zI (zR zy 0)) j)) from (fun _ h9 => absurd (by omega) h9)), (show ZI (zI (zR zy 0)) from hz)⟩, ⟨by rw [ht]; exact hP, va_K.moved hW.alike hK, hD⟩⟩, hS.F ht⟩) hS.2.2 dX11_cause_42
    · have f_13 : ¬ (zj_8.toInt ≤ zj_7.toInt ∧ zj_7.toInt ≤ 30) := bz_0 hw_10 c_12
      refine lv_iconst (v := (-1)) hx hb dX11_cause_27 (by decide) ?_
      subst hQ
      have qc_m1 : (-1 : Int32).toInt = -1 := by decide
      exact W.iret (v := (-1 : Int32)) hx hb hr (fun t ht hW => ⟨⟨(-1 : Int32), zI, rfl, ⟨h_zI, (show (-3) ≤ (-1 : Int32).toInt ∧ (-1 : Int32).toInt ≤ 4 from by omega), (show ¬ (CSok zia.toInt zib.toInt) → ((-1 : Int32).toInt = -1 ∧ zI = zI) from (fun _ => ⟨by decide, rfl⟩)), (show CSok zia.toInt zib.toInt → zA (zI (zR zy 0)) (13) = 5 → ((-1 : Int32).toInt = -3 ∧ zI = zI) from (fun h9 => absurd h9 (by unfold CSok; omega))), (show CSok zia.toInt zib.toInt → ¬ zA (zI (zR zy 0)) (13) = 5 → ((-1 : Int32).toInt = zA (zI (zR zy 0)) (13) ∧ zA (zI (zR zy 0)) (13) = zA (zI (zR zy 0)) (13) + 1 ∧ (∀ j : Int, 0 ≤ j → (j ≤ 1 ∨ (3 ≤ j ∧ j ≤ 4) ∨ j = 13 ∨ (20 ≤ j ∧ j ≤ 91)) → ¬ j = 13 → zA (zI (zR zy 0)) j = zA (zI (zR zy 0)) j)) from (fun h9 => absurd h9 (by unfold CSok; omega))), (show ZI (zI (zR zy 0)) from hz)⟩, ⟨by rw [ht]; exact hP, va_K.moved hW.alike hK, hD⟩⟩, hS.F ht⟩) hS.2.2 dX11_cause_28
set_option maxHeartbeats 8000000 in
set_option maxRecDepth 100000 in
theorem t_X11_canSay (l : Launch) (dC : Nat → ClassId) (dI : Nat → Nat → Nat) (cy : Nat → ClassId) (sz : Nat) (zL : List Nat) (zT : Nat → Nat) (zR : Nat → Nat → Nat) (zI : Nat → Nat → Int32) (zJ : Nat → Nat → Int64) (zy : Nat) (zia : Int32) (zib : Int32) (hs : SKP zL zT zR) (hw : WT zT zR zI) (t_zy : zT zy = 18) (hz : ZI (zI (zR zy 0))) : Met l yX11_canSay wsX11_canSay ({ frames := 1, cells := 0, slots := 0, locals := 25 } : Room) (va_Pc [.ref zy, .int zia, .int zib] (PRE dC dI cy (WL cy zL zT zR zI zJ) sz)) (va_Qi (fun (r : Int32) (u : Unit) => (0 ≤ r.toInt ∧ r.toInt ≤ 1)) (fun u t => POST dC dI cy (va_A (WL cy zL zT zR zI zJ) sz) (WL cy zL zT zR zI zJ) t) (va_A (WL cy zL zT zR zI zJ) sz)) 0 0 (va_A (WL cy zL zT zR zI zJ) sz) := by
  refine Met.ofW (cc := cX11_canSay) (maxL := 6) (ret := (some .boolean)) (by decide) rfl ?_
  intro p e s m args below meth c s₁ B hml hv
  obtain ⟨rfl, hsz, hP, hK, hD0, hN⟩ := hv
  have hx := B.exec
  have hb := B.bytes
  have hr := B.returns
  have hts := atoms_spec (ws := wsX11_canSay) B.pre
  have hown : s.vm.findClass RX11 = some m.cls := findClass_of_methodNamed B.named
  have hlocks := B.notSynchronized
  subst hsz
  have hD := hD0.self (sz := s.heap.size)
  generalize hAe : va_A (WL cy zL zT zR zI zJ) s.heap.size = A at hD ⊢
  have hA : ∀ q : Nat, s.heap.size ≤ q → A q := fun q h => by rw [← hAe]; exact Or.inr h
  have hS : va_S A s.heap s.heap [] := va_S.rf
  have hP : va_P (dC, dI) vwCl (WL cy zL zT zR zI zJ) s.heap := hP
  have hl := lv_entry ([.ref zy, .int zia, .int zib] : List Value) (n := 6) (Nat.le_of_ble_eq_true rfl)
  rw [lg_entry_eq]
  generalize (lg_sl ([.ref zy, .int zia, .int zib] : List Value) ++ List.replicate (6 - (lg_sl ([.ref zy, .int zia, .int zib] : List Value)).length) Slot.unset).toArray = ls at hl ⊢
  have hl : lv_has ls 6 [(0, .ref zy), (1, .int zia), (2, .int zib)] := hl
  refine w_q (fun Q hQ => ?_)
  have h_zI : WM [] AL zT zR zI zI := WM.rf hw
  refine lv_iconst (v := 0) hx hb dX11_canSay_0 (by decide) ?_
  refine lv_istore_n (lv' := [(3, .int 0), (0, .ref zy), (1, .int zia), (2, .int zib)]) hx hb dX11_canSay_1 rfl hl (by decide) rfl (fun ls hl => ?_)
  refine lv_iconst (v := 0) hx hb dX11_canSay_2 (by decide) ?_
  refine lv_istore (lv' := [(4, .int 0), (3, .int 0), (0, .ref zy), (1, .int zia), (2, .int zib)]) hx hb dX11_canSay_3 hl (by decide) rfl (fun ls hl => ?_)
  refine lv_iconst (v := 0) hx hb dX11_canSay_5 (by decide) ?_
  refine lv_istore (lv' := [(5, .int 0), (4, .int 0), (3, .int 0), (0, .ref zy), (1, .int zia), (2, .int zib)]) hx hb dX11_canSay_6 hl (by decide) rfl (fun ls hl => ?_)
  have lp_1474 : ∀ (n : Nat) (zi_154 : Int32) (zi_155 : Int32) (zi_156 : Int32) (H : Heap) (locs : List Loc) (ls : Array Slot), (5 - zi_156.toInt).toNat = n → (0 ≤ zi_156.toInt ∧ zi_156.toInt ≤ 5) → (ZI (zI (zR zy 0))) → va_P (dC, dI) vwCl (WL cy zL zT zR zI zJ) H → va_D A (WL cy zL zT zR zI zJ) → va_S A s.heap H locs → lv_has ls 6 [(0, .ref zy), (1, .int zia), (2, .int zib), (3, .int zi_154), (4, .int zi_155), (5, .int zi_156)] → W p l e ({ frames := 1, cells := 0, slots := 0, locals := 25 } : Room) s m ([.ref zy, .int zia, .int zib] : List Value).toArray below meth c H locs 0 0 Q (F0 m 8 ls []) := by
    intro n
    induction n using Nat.strongRecOn with
    | _ n ih_1474 =>
      intro zi_154 zi_155 zi_156 H locs ls hn b_zi_156 e_lp_1474_0 hP hD hS hl
      refine lv_iload hx hb dX11_canSay_8 (lv_at hl 5 rfl) ?_
      refine lv_aload_n hx hb dX11_canSay_10 rfl (lv_at hl 0 rfl) ?_
      refine ht_getr (C := RX11) (T := TX11) (N := 28) hx hb hts (by decide +kernel) hown hK hP hs t_zy (by decide) rfl rfl 0 (by decide) (hts (.fieldLink RX11 7 "DripStoneModel" "z" "[I") (by decide +kernel)) (fun _ h9 => h9) rfl dX11_canSay_11 ?_
      have t_1475 : zT (zR zy 0) = 100 := sk_f hs t_zy (by decide) rfl (by decide)
      refine lv_bipush (v := 13) hx hb dX11_canSay_14 (by decide) ?_
      refine ht_iald (n := 392) (q := 0) hx hb hK hP hs t_1475 (by decide) rfl rfl ⟨by decide, by decide⟩ dX11_canSay_16 ?_
      refine lv_topi (fun zi_1476 ezi_1476 => ?_)
      have la_1477 : zi_1476.toInt = zA (zI (zR zy 0)) (13) := (congrArg Int32.toInt (show zI (zR zy 0) (13 : Int32).toNatClampNeg = zi_1476 from ezi_1476.symm).symm).trans (congrArg (zA (zI (zR zy 0))) (show (13 : Int32).toInt = 13 from by decide))
      have tz_1478 : 0 ≤ zi_1476.toInt ∧ zi_1476.toInt ≤ 5 := by rw [← (show zI (zR zy 0) (13 : Int32).toNatClampNeg = zi_1476 from ezi_1476.symm)]; exact ZI.g13 e_lp_1474_0 (by decide) (by decide)
      refine lv_icmp_ge (tgt := 72) hx hb dX11_canSay_17 (by decide) (fun c_1479 => ?_) (fun c_1479 => ?_)
      · have f_1480 : zi_156.toInt ≥ zi_1476.toInt := ic_ge (rfl) (rfl) c_1479
        refine lv_iload_n hx hb dX11_canSay_72 rfl (lv_at hl 2 rfl) ?_
        refine lv_i2l (v := zib.toInt64) hx hb dX11_canSay_73 rfl ?_
        refine lv_topl (fun zj_1481 ezj_1481 => ?_)
        have tzj_1481 : zj_1481.toInt = zib.toInt := by rw [ezj_1481]; exact Int32.toInt_toInt64 _
        refine lv_iload_n hx hb dX11_canSay_74 rfl (lv_at hl 3 rfl) ?_
        refine lv_i2l (v := zi_154.toInt64) hx hb dX11_canSay_75 rfl ?_
        refine lv_topl (fun zj_1482 ezj_1482 => ?_)
        have tzj_1482 : zj_1482.toInt = zi_154.toInt := by rw [ezj_1482]; exact Int32.toInt_toInt64 _
        refine lv_iload hx hb dX11_canSay_76 (lv_at hl 4 rfl) ?_
        refine lv_i2l (v := zi_155.toInt64) hx hb dX11_canSay_78 rfl ?_
        refine lv_topl (fun zj_1483 ezj_1483 => ?_)
        have tzj_1483 : zj_1483.toInt = zi_155.toInt := by rw [ezj_1483]; exact Int32.toInt_toInt64 _
        refine hj0_i (ws := (WL cy zL zT zR zI zJ)) (va_runS (As := [.long zj_1481, .long zj_1482, .long zj_1483]) (rest := []) ⟨hx, hb, hml, hown, hts⟩ (c_X11_in l dC dI cy H.size zj_1481 zj_1482 zj_1483 zj_1482.toInt zj_1483.toInt zj_1481.toInt (by first | rfl | decide | omega | exact Int32.toInt_toInt64 _) (by first | rfl | decide | omega | exact Int32.toInt_toInt64 _) (by first | rfl | decide | omega | exact Int32.toInt_toInt64 _)) (va_cwS 3 hts gX11_canSay_X11_in rfl rfl rfl (by decide +kernel) ⟨(Nat.le_of_ble_eq_true rfl), (Nat.le_of_ble_eq_true rfl)⟩) (PRE.s (hP.sub [] rfl) hK (hD.sub [] (by decide) rfl) hN) rfl rfl hl.1 rfl (lv_room (Nat.le_of_ble_eq_true rfl)) dX11_canSay_79 ⟨(Nat.le_of_ble_eq_true rfl), (Nat.le_of_ble_eq_true rfl)⟩) hP hD hS hA (fun zi_1484 u_1486 H locs hw_1485 hP hD hS => ?_)
        have hw_1485 : zi_1484 = if zj_1482.toInt ≤ zj_1481.toInt ∧ zj_1481.toInt ≤ zj_1483.toInt then 1 else 0 := hw_1485
        have b_zi_1484 : 0 ≤ zi_1484.toInt ∧ zi_1484.toInt ≤ 1 := bz_b hw_1485
        have i_1487 := bz_or hw_1485
        subst hQ
        exact W.zret (v := zi_1484) hx hb hr (zb_n2 (by omega)) (fun t ht hW => ⟨⟨zi_1484, (), rfl, (show 0 ≤ zi_1484.toInt ∧ zi_1484.toInt ≤ 1 from by omega), ⟨by rw [ht]; exact hP, va_K.moved hW.alike hK, hD⟩⟩, hS.F ht⟩) hS.2.2 dX11_canSay_82
      · have f_1480 : ¬ (zi_156.toInt ≥ zi_1476.toInt) := ic_nge (rfl) (rfl) c_1479
        refine lv_iload_n hx hb dX11_canSay_20 rfl (lv_at hl 1 rfl) ?_
        refine lv_iload hx hb dX11_canSay_21 (lv_at hl 5 rfl) ?_
        refine lv_ishr hx hb dX11_canSay_23 ?_
        refine lv_topi (fun zi_1488 ezi_1488 => ?_)
        have rzi_1488 := rng zi_1488
        refine lv_iconst (v := 1) hx hb dX11_canSay_24 (by decide) ?_
        refine lv_iand hx hb dX11_canSay_25 ?_
        refine lv_topi (fun zi_1489 ezi_1489 => ?_)
        have tzi_1489 : 0 ≤ zi_1489.toInt ∧ zi_1489.toInt ≤ 1 := by rw [ezi_1489]; exact andb (k := 1) (by decide) (by decide) (by decide)
        refine lv_iconst (v := 1) hx hb dX11_canSay_26 (by decide) ?_
        have jn_1505 : ∀ (zi_1503 : Int32) (zi_1504 : Int32) (H : Heap) (locs : List Loc) (ls : Array Slot), (ZI (zI (zR zy 0))) → va_P (dC, dI) vwCl (WL cy zL zT zR zI zJ) H → va_D A (WL cy zL zT zR zI zJ) → va_S A s.heap H locs → lv_has ls 6 [(0, .ref zy), (1, .int zia), (2, .int zib), (3, .int zi_1503), (4, .int zi_1504), (5, .int zi_156)] → W p l e ({ frames := 1, cells := 0, slots := 0, locals := 25 } : Room) s m ([.ref zy, .int zia, .int zib] : List Value).toArray below meth c H locs 0 0 Q (F0 m 66 ls []) := by
          intro zi_1503 zi_1504 H locs ls e_jn_1505_0 hP hD hS hl
          obtain ⟨zi_1506, ezi_1506⟩ : ∃ y : Int32, y = zi_156 + 1 := ⟨_, rfl⟩
          have tzi_1506 : zi_1506.toInt = zi_156.toInt + 1 := by rw [ezi_1506]; exact tadd rfl (show (1 : Int32).toInt = 1 by decide) (by omega) (by omega)
          refine lv_iinc (v := zi_1506) (lv' := [(5, .int zi_1506), (0, .ref zy), (1, .int zia), (2, .int zib), (3, .int zi_1503), (4, .int zi_1504)]) hx hb dX11_canSay_66 hl (k := 5) rfl (by rw [ezi_1506]; rfl) (by decide) rfl (fun ls hl => ?_)
          refine lv_goto (tgt := 8) hx hb dX11_canSay_69 (by decide) ?_
          exact ih_1474 (5 - zi_1506.toInt).toNat (by omega) zi_1503 zi_1504 zi_1506 _ _ _ rfl (by omega) e_jn_1505_0 hP hD hS (lv_sub hl [1, 2, 3, 4, 5, 0] rfl)
        refine lv_icmp_ne (tgt := 66) hx hb dX11_canSay_27 (by decide) (fun c_1507 => ?_) (fun c_1507 => ?_)
        · have f_1508 : zi_1489.toInt ≠ (1 : Int) := ic_ne (rfl) (show (1 : Int32).toInt = 1 by decide) c_1507
          exact jn_1505 zi_154 zi_155 _ _ _ e_lp_1474_0 hP hD hS (lv_sub hl [0, 1, 2, 3, 4, 5] rfl)
        · have f_1508 : ¬ (zi_1489.toInt ≠ (1 : Int)) := ic_nne (rfl) (show (1 : Int32).toInt = 1 by decide) c_1507
          refine lv_iload_n hx hb dX11_canSay_30 rfl (lv_at hl 3 rfl) ?_
          refine lv_aload_n hx hb dX11_canSay_31 rfl (lv_at hl 0 rfl) ?_
          refine ht_getr (C := RX11) (T := TX11) (N := 28) hx hb hts (by decide +kernel) hown hK hP hs t_zy (by decide) rfl rfl 0 (by decide) (hts (.fieldLink RX11 7 "DripStoneModel" "z" "[I") (by decide +kernel)) (fun _ h9 => h9) rfl dX11_canSay_32 ?_
          refine lv_sipush (v := 382) hx hb dX11_canSay_35 (by decide) ?_
          refine lv_iconst (v := 2) hx hb dX11_canSay_38 (by decide) ?_
          refine lv_iload hx hb dX11_canSay_39 (lv_at hl 5 rfl) ?_
          refine lv_imul hx hb dX11_canSay_41 ?_
          refine lv_topi (fun zi_1509 ezi_1509 => ?_)
          have tzi_1509 : zi_1509.toInt = (2 : Int) * zi_156.toInt := by rw [ezi_1509]; exact timul (show (2 : Int32).toInt = 2 by decide) (rfl) (by omega) (by omega)
          refine lv_iadd hx hb dX11_canSay_42 ?_
          refine lv_topi (fun zi_1510 ezi_1510 => ?_)
          have tzi_1510 : zi_1510.toInt = (382 : Int) + zi_1509.toInt := by rw [ezi_1510]; exact tiadd (show (382 : Int32).toInt = 382 by decide) (rfl) (by omega) (by omega)
          refine ht_iald (n := 392) (q := 0) hx hb hK hP hs t_1475 (by decide) rfl rfl ⟨by omega, by omega⟩ dX11_canSay_43 ?_
          refine lv_topi (fun zi_1511 ezi_1511 => ?_)
          have la_1512 : zi_1511.toInt = zA (zI (zR zy 0)) (382 + 2 * zi_156.toInt) := (congrArg Int32.toInt (show zI (zR zy 0) zi_1510.toNatClampNeg = zi_1511 from ezi_1511.symm).symm).trans (congrArg (zA (zI (zR zy 0))) (show zi_1510.toInt = 382 + 2 * zi_156.toInt from by omega))
          refine lv_iadd hx hb dX11_canSay_44 ?_
          refine lv_topi (fun zi_1513 ezi_1513 => ?_)
          refine lv_istore_n (lv' := [(3, .int zi_1513), (0, .ref zy), (1, .int zia), (2, .int zib), (4, .int zi_155), (5, .int zi_156)]) hx hb dX11_canSay_45 rfl hl (by decide) rfl (fun ls hl => ?_)
          refine lv_iload hx hb dX11_canSay_46 (lv_at hl 4 rfl) ?_
          refine lv_aload_n hx hb dX11_canSay_48 rfl (lv_at hl 1 rfl) ?_
          refine ht_getr (C := RX11) (T := TX11) (N := 28) hx hb hts (by decide +kernel) hown hK hP hs t_zy (by decide) rfl rfl 0 (by decide) (hts (.fieldLink RX11 7 "DripStoneModel" "z" "[I") (by decide +kernel)) (fun _ h9 => h9) rfl dX11_canSay_49 ?_
          refine lv_sipush (v := 382) hx hb dX11_canSay_52 (by decide) ?_
          refine lv_iconst (v := 2) hx hb dX11_canSay_55 (by decide) ?_
          refine lv_iload hx hb dX11_canSay_56 (lv_at hl 5 rfl) ?_
          refine lv_imul hx hb dX11_canSay_58 ?_
          refine lv_topi (fun zi_1514 ezi_1514 => ?_)
          have tzi_1514 : zi_1514.toInt = (2 : Int) * zi_156.toInt := by rw [ezi_1514]; exact timul (show (2 : Int32).toInt = 2 by decide) (rfl) (by omega) (by omega)
          refine lv_iadd hx hb dX11_canSay_59 ?_
          refine lv_topi (fun zi_1515 ezi_1515 => ?_)
          have tzi_1515 : zi_1515.toInt = (382 : Int) + zi_1514.toInt := by rw [ezi_1515]; exact tiadd (show (382 : Int32).toInt = 382 by decide) (rfl) (by omega) (by omega)
          refine lv_iconst (v := 1) hx hb dX11_canSay_60 (by decide) ?_
          refine lv_iadd hx hb dX11_canSay_61 ?_
          refine lv_topi (fun zi_1516 ezi_1516 => ?_)
          have tzi_1516 : zi_1516.toInt = zi_1515.toInt + (1 : Int) := by rw [ezi_1516]; exact tiadd (rfl) (show (1 : Int32).toInt = 1 by decide) (by omega) (by omega)
          refine ht_iald (n := 392) (q := 0) hx hb hK hP hs t_1475 (by decide) rfl rfl ⟨by omega, by omega⟩ dX11_canSay_62 ?_
          refine lv_topi (fun zi_1517 ezi_1517 => ?_)
          have la_1518 : zi_1517.toInt = zA (zI (zR zy 0)) (383 + 2 * zi_156.toInt) := (congrArg Int32.toInt (show zI (zR zy 0) zi_1516.toNatClampNeg = zi_1517 from ezi_1517.symm).symm).trans (congrArg (zA (zI (zR zy 0))) (show zi_1516.toInt = 383 + 2 * zi_156.toInt from by omega))
          refine lv_iadd hx hb dX11_canSay_63 ?_
          refine lv_topi (fun zi_1519 ezi_1519 => ?_)
          refine lv_istore (lv' := [(4, .int zi_1519), (3, .int zi_1513), (0, .ref zy), (1, .int zia), (2, .int zib), (5, .int zi_156)]) hx hb dX11_canSay_64 hl (by decide) rfl (fun ls hl => ?_)
          exact jn_1505 zi_1513 zi_1519 _ _ _ e_lp_1474_0 hP hD hS (lv_sub hl [2, 3, 4, 1, 0, 5] rfl)
  have qc_0 : (0 : Int32).toInt = 0 := by decide
  exact lp_1474 _ (0 : Int32) (0 : Int32) (0 : Int32) _ _ _ rfl (by decide) hz hP hD hS (lv_sub hl [3, 4, 5, 2, 1, 0] rfl)
set_option maxHeartbeats 8000000 in
set_option maxRecDepth 100000 in
theorem t_X11_says (l : Launch) (dC : Nat → ClassId) (dI : Nat → Nat → Nat) (cy : Nat → ClassId) (sz : Nat) (zL : List Nat) (zT : Nat → Nat) (zR : Nat → Nat → Nat) (zI : Nat → Nat → Int32) (zJ : Nat → Nat → Int64) (zy : Nat) (zia : Int32) (zib : Int32) (zic : Int32) (zid : Int32) (hs : SKP zL zT zR) (hw : WT zT zR zI) (t_zy : zT zy = 18) (hz : ZI (zI (zR zy 0))) : Met l yX11_says wsX11_says ({ frames := 2, cells := 0, slots := 0, locals := 50 } : Room) (va_Pc [.ref zy, .int zia, .int zib, .int zic, .int zid] (PRE dC dI cy (WL cy zL zT zR zI zJ) sz)) (va_Qi (fun (r : Int32) (u : Unit) => True) (fun u t => POST dC dI cy (va_A (WL cy zL zT zR zI zJ) sz) (WL cy zL zT zR zI zJ) t) (va_A (WL cy zL zT zR zI zJ) sz)) 0 0 (va_A (WL cy zL zT zR zI zJ) sz) := by
  refine Met.ofW (cc := cX11_says) (maxL := 10) (ret := (some .int)) (by decide) rfl ?_
  intro p e s m args below meth c s₁ B hml hv
  obtain ⟨rfl, hsz, hP, hK, hD0, hN⟩ := hv
  have hx := B.exec
  have hb := B.bytes
  have hr := B.returns
  have hts := atoms_spec (ws := wsX11_says) B.pre
  have hown : s.vm.findClass RX11 = some m.cls := findClass_of_methodNamed B.named
  have hlocks := B.notSynchronized
  subst hsz
  have hD := hD0.self (sz := s.heap.size)
  generalize hAe : va_A (WL cy zL zT zR zI zJ) s.heap.size = A at hD ⊢
  have hA : ∀ q : Nat, s.heap.size ≤ q → A q := fun q h => by rw [← hAe]; exact Or.inr h
  have hS : va_S A s.heap s.heap [] := va_S.rf
  have hP : va_P (dC, dI) vwCl (WL cy zL zT zR zI zJ) s.heap := hP
  have hl := lv_entry ([.ref zy, .int zia, .int zib, .int zic, .int zid] : List Value) (n := 10) (Nat.le_of_ble_eq_true rfl)
  rw [lg_entry_eq]
  generalize (lg_sl ([.ref zy, .int zia, .int zib, .int zic, .int zid] : List Value) ++ List.replicate (10 - (lg_sl ([.ref zy, .int zia, .int zib, .int zic, .int zid] : List Value)).length) Slot.unset).toArray = ls at hl ⊢
  have hl : lv_has ls 10 [(0, .ref zy), (1, .int zia), (2, .int zib), (3, .int zic), (4, .int zid)] := hl
  refine w_q (fun Q hQ => ?_)
  have h_zI : WM [] AL zT zR zI zI := WM.rf hw
  refine lv_iload_n hx hb dX11_says_0 rfl (lv_at hl 1 rfl) ?_
  refine hj0_i (ws := (WL cy zL zT zR zI zJ)) (va_runS (As := [.int zia]) (rest := []) ⟨hx, hb, hml, hown, hts⟩ (c_X11_isCandle l dC dI cy s.heap.size zia) (va_cwS 1 hts gX11_says_X11_isCandle rfl rfl rfl (by decide +kernel) ⟨(Nat.le_of_ble_eq_true rfl), (Nat.le_of_ble_eq_true rfl)⟩) (PRE.s (hP.sub [] rfl) hK (hD.sub [] (by decide) rfl) hN) rfl rfl hl.1 rfl (lv_room (Nat.le_of_ble_eq_true rfl)) dX11_says_1 ⟨(Nat.le_of_ble_eq_true rfl), (Nat.le_of_ble_eq_true rfl)⟩) hP hD hS hA (fun zi_1 u_3 H locs hw_2 hP hD hS => ?_)
  have hw_2 : zi_1 = if 0 ≤ zia.toInt ∧ zia.toInt ≤ 1 then 1 else 0 := hw_2
  have b_zi_1 : 0 ≤ zi_1.toInt ∧ zi_1.toInt ≤ 1 := bz_b hw_2
  refine lv_if_eq (tgt := 43) hx hb dX11_says_4 (by decide) (fun c_4 => ?_) (fun c_4 => ?_)
  · have f_5 : ¬ (0 ≤ zia.toInt ∧ zia.toInt ≤ 1) := bz_0 hw_2 c_4
    refine lv_iconst (v := (-1)) hx hb dX11_says_43 (by decide) ?_
    subst hQ
    exact W.iret (v := (-1 : Int32)) hx hb hr (fun t ht hW => ⟨⟨(-1 : Int32), (), rfl, trivial, ⟨by rw [ht]; exact hP, va_K.moved hW.alike hK, hD⟩⟩, hS.F ht⟩) hS.2.2 dX11_says_44
  · have f_5 : 0 ≤ zia.toInt ∧ zia.toInt ≤ 1 := bz_1 hw_2 c_4
    refine lv_aload_n hx hb dX11_says_7 rfl (lv_at hl 0 rfl) ?_
    refine lv_iload_n hx hb dX11_says_8 rfl (lv_at hl 1 rfl) ?_
    refine lv_iload_n hx hb dX11_says_9 rfl (lv_at hl 2 rfl) ?_
    refine hj_i (ws := (WL cy zL zT zR zI zJ)) (w1 := fun (u : Unit) => (WL cy zL zT zR zI zJ)) (va_runV (As := [.int zia, .int zib]) (rest := []) ⟨hx, hb, hml, hown, hts⟩ (t_X11_isThing l dC dI cy H.size zL zT zR zI zJ zy zia zib hs h_zI.1 t_zy (by omega) hz) (cwV 2 hts gX11_says_X11_isThing rfl rfl rfl (by decide +kernel) ⟨(Nat.le_of_ble_eq_true rfl), (Nat.le_of_ble_eq_true rfl)⟩) (PRE.v hP hK hD hN (ht_recv hK hP hs t_zy (by decide) rfl rfl)) rfl rfl hl.1 rfl (lv_room (Nat.le_of_ble_eq_true rfl)) dX11_says_10 ⟨(Nat.le_of_ble_eq_true rfl), (Nat.le_of_ble_eq_true rfl)⟩) hP hD hS hA (fun zi_6 u_8 H locs hw_7 hP hD hS => ?_)
    obtain ⟨b_zi_6, ps_9, ps_10⟩ : (0 ≤ zi_6.toInt ∧ zi_6.toInt ≤ 1) ∧ (zi_6.toInt = 0 ∨ (0 ≤ zib.toInt ∧ zib.toInt ≤ 11)) ∧ (zi_6.toInt = 0 ∨ zib.toInt < zA (zI (zR zy 0)) (5 + zia.toInt)) := hw_7
    refine lv_if_eq (tgt := 43) hx hb dX11_says_13 (by decide) (fun c_11 => ?_) (fun c_11 => ?_)
    · have f_12 : zi_6.toInt = 0 := ic_eq (rfl) (by decide) c_11
      refine lv_iconst (v := (-1)) hx hb dX11_says_43 (by decide) ?_
      subst hQ
      exact W.iret (v := (-1 : Int32)) hx hb hr (fun t ht hW => ⟨⟨(-1 : Int32), (), rfl, trivial, ⟨by rw [ht]; exact hP, va_K.moved hW.alike hK, hD⟩⟩, hS.F ht⟩) hS.2.2 dX11_says_44
    · have f_12 : ¬ (zi_6.toInt = 0) := ic_neq (rfl) (by decide) c_11
      have b9_zib : 0 ≤ zib.toInt ∧ zib.toInt ≤ 11 := by omega
      refine lv_aload_n hx hb dX11_says_16 rfl (lv_at hl 0 rfl) ?_
      refine lv_iload_n hx hb dX11_says_17 rfl (lv_at hl 1 rfl) ?_
      refine lv_iload_n hx hb dX11_says_18 rfl (lv_at hl 3 rfl) ?_
      refine hj_i (ws := (WL cy zL zT zR zI zJ)) (w1 := fun (u : Unit) => (WL cy zL zT zR zI zJ)) (va_runV (As := [.int zia, .int zic]) (rest := []) ⟨hx, hb, hml, hown, hts⟩ (t_X11_isThing l dC dI cy H.size zL zT zR zI zJ zy zia zic hs h_zI.1 t_zy (by omega) hz) (cwV 2 hts gX11_says_X11_isThing rfl rfl rfl (by decide +kernel) ⟨(Nat.le_of_ble_eq_true rfl), (Nat.le_of_ble_eq_true rfl)⟩) (PRE.v hP hK hD hN (ht_recv hK hP hs t_zy (by decide) rfl rfl)) rfl rfl hl.1 rfl (lv_room (Nat.le_of_ble_eq_true rfl)) dX11_says_19 ⟨(Nat.le_of_ble_eq_true rfl), (Nat.le_of_ble_eq_true rfl)⟩) hP hD hS hA (fun zi_13 u_15 H locs hw_14 hP hD hS => ?_)
      obtain ⟨b_zi_13, ps_16, ps_17⟩ : (0 ≤ zi_13.toInt ∧ zi_13.toInt ≤ 1) ∧ (zi_13.toInt = 0 ∨ (0 ≤ zic.toInt ∧ zic.toInt ≤ 11)) ∧ (zi_13.toInt = 0 ∨ zic.toInt < zA (zI (zR zy 0)) (5 + zia.toInt)) := hw_14
      refine lv_if_eq (tgt := 43) hx hb dX11_says_22 (by decide) (fun c_18 => ?_) (fun c_18 => ?_)
      · have f_19 : zi_13.toInt = 0 := ic_eq (rfl) (by decide) c_18
        refine lv_iconst (v := (-1)) hx hb dX11_says_43 (by decide) ?_
        subst hQ
        exact W.iret (v := (-1 : Int32)) hx hb hr (fun t ht hW => ⟨⟨(-1 : Int32), (), rfl, trivial, ⟨by rw [ht]; exact hP, va_K.moved hW.alike hK, hD⟩⟩, hS.F ht⟩) hS.2.2 dX11_says_44
      · have f_19 : ¬ (zi_13.toInt = 0) := ic_neq (rfl) (by decide) c_18
        have b9_zic : 0 ≤ zic.toInt ∧ zic.toInt ≤ 11 := by omega
        refine lv_iload_n hx hb dX11_says_25 rfl (lv_at hl 3 rfl) ?_
        refine lv_iload_n hx hb dX11_says_26 rfl (lv_at hl 2 rfl) ?_
        refine lv_icmp_le (tgt := 43) hx hb dX11_says_27 (by decide) (fun c_20 => ?_) (fun c_20 => ?_)
        · have f_21 : zic.toInt ≤ zib.toInt := ic_le (rfl) (rfl) c_20
          refine lv_iconst (v := (-1)) hx hb dX11_says_43 (by decide) ?_
          subst hQ
          exact W.iret (v := (-1 : Int32)) hx hb hr (fun t ht hW => ⟨⟨(-1 : Int32), (), rfl, trivial, ⟨by rw [ht]; exact hP, va_K.moved hW.alike hK, hD⟩⟩, hS.F ht⟩) hS.2.2 dX11_says_44
        · have f_21 : ¬ (zic.toInt ≤ zib.toInt) := ic_nle (rfl) (rfl) c_20
          refine lv_iload hx hb dX11_says_30 (lv_at hl 4 rfl) ?_
          refine lv_i2l (v := zid.toInt64) hx hb dX11_says_32 rfl ?_
          refine lv_topl (fun zj_22 ezj_22 => ?_)
          have tzj_22 : zj_22.toInt = zid.toInt := by rw [ezj_22]; exact Int32.toInt_toInt64 _
          refine lv_lconst (v := 0) hx hb dX11_says_33 (by decide) ?_
          refine lv_ldc2 (v := 2) hx hb hown (hts (.constantLong RX11 180 2) (by decide +kernel)) dX11_says_34 ?_
          refine hj0_i (ws := (WL cy zL zT zR zI zJ)) (va_runS (As := [.long zj_22, .long 0, .long 2]) (rest := []) ⟨hx, hb, hml, hown, hts⟩ (c_X11_in l dC dI cy H.size zj_22 0 2 0 2 zj_22.toInt (by first | rfl | decide | omega | exact Int32.toInt_toInt64 _) (by first | rfl | decide | omega | exact Int32.toInt_toInt64 _) (by first | rfl | decide | omega | exact Int32.toInt_toInt64 _)) (va_cwS 3 hts gX11_says_X11_in rfl rfl rfl (by decide +kernel) ⟨(Nat.le_of_ble_eq_true rfl), (Nat.le_of_ble_eq_true rfl)⟩) (PRE.s (hP.sub [] rfl) hK (hD.sub [] (by decide) rfl) hN) rfl rfl hl.1 rfl (lv_room (Nat.le_of_ble_eq_true rfl)) dX11_says_37 ⟨(Nat.le_of_ble_eq_true rfl), (Nat.le_of_ble_eq_true rfl)⟩) hP hD hS hA (fun zi_23 u_25 H locs hw_24 hP hD hS => ?_)
          have hw_24 : zi_23 = if 0 ≤ zj_22.toInt ∧ zj_22.toInt ≤ 2 then 1 else 0 := hw_24
          have b_zi_23 : 0 ≤ zi_23.toInt ∧ zi_23.toInt ≤ 1 := bz_b hw_24
          refine lv_if_ne (tgt := 45) hx hb dX11_says_40 (by decide) (fun c_26 => ?_) (fun c_26 => ?_)
          · have f_27 : 0 ≤ zj_22.toInt ∧ zj_22.toInt ≤ 2 := bz_1 hw_24 c_26
            refine lv_aload_n hx hb dX11_says_45 rfl (lv_at hl 0 rfl) ?_
            refine lv_iload_n hx hb dX11_says_46 rfl (lv_at hl 1 rfl) ?_
            refine lv_iload_n hx hb dX11_says_47 rfl (lv_at hl 2 rfl) ?_
            refine hj_i (ws := (WL cy zL zT zR zI zJ)) (w1 := fun (u : Unit) => (WL cy zL zT zR zI zJ)) (va_runV (As := [.int zia, .int zib]) (rest := []) ⟨hx, hb, hml, hown, hts⟩ (t_X11_kindOf l dC dI cy H.size zL zT zR zI zJ zy zia zib hs h_zI.1 t_zy (by omega) (by omega) hz) (cwV 2 hts gX11_says_X11_kindOf rfl rfl rfl (by decide +kernel) ⟨(Nat.le_of_ble_eq_true rfl), (Nat.le_of_ble_eq_true rfl)⟩) (PRE.v hP hK hD hN (ht_recv hK hP hs t_zy (by decide) rfl rfl)) rfl rfl hl.1 rfl (lv_room (Nat.le_of_ble_eq_true rfl)) dX11_says_48 ⟨(Nat.le_of_ble_eq_true rfl), (Nat.le_of_ble_eq_true rfl)⟩) hP hD hS hA (fun zi_28 u_30 H locs hw_29 hP hD hS => ?_)
            have ps_31 : zi_28.toInt = zA (zI (zR zy 0)) (158 + 12 * zia.toInt + zib.toInt) := hw_29
            have rzi_28 := rng zi_28
            refine lv_if_ne (tgt := 63) hx hb dX11_says_51 (by decide) (fun c_32 => ?_) (fun c_32 => ?_)
            · have f_33 : zi_28.toInt ≠ 0 := ic_ne (rfl) (by decide) c_32
              refine lv_bipush (v := (-12)) hx hb dX11_says_63 (by decide) ?_
              subst hQ
              exact W.iret (v := (-12 : Int32)) hx hb hr (fun t ht hW => ⟨⟨(-12 : Int32), (), rfl, trivial, ⟨by rw [ht]; exact hP, va_K.moved hW.alike hK, hD⟩⟩, hS.F ht⟩) hS.2.2 dX11_says_65
            · have f_33 : ¬ (zi_28.toInt ≠ 0) := ic_nne (rfl) (by decide) c_32
              refine lv_aload_n hx hb dX11_says_54 rfl (lv_at hl 0 rfl) ?_
              refine lv_iload_n hx hb dX11_says_55 rfl (lv_at hl 1 rfl) ?_
              refine lv_iload_n hx hb dX11_says_56 rfl (lv_at hl 3 rfl) ?_
              refine hj_i (ws := (WL cy zL zT zR zI zJ)) (w1 := fun (u : Unit) => (WL cy zL zT zR zI zJ)) (va_runV (As := [.int zia, .int zic]) (rest := []) ⟨hx, hb, hml, hown, hts⟩ (t_X11_kindOf l dC dI cy H.size zL zT zR zI zJ zy zia zic hs h_zI.1 t_zy (by omega) (by omega) hz) (cwV 2 hts gX11_says_X11_kindOf rfl rfl rfl (by decide +kernel) ⟨(Nat.le_of_ble_eq_true rfl), (Nat.le_of_ble_eq_true rfl)⟩) (PRE.v hP hK hD hN (ht_recv hK hP hs t_zy (by decide) rfl rfl)) rfl rfl hl.1 rfl (lv_room (Nat.le_of_ble_eq_true rfl)) dX11_says_57 ⟨(Nat.le_of_ble_eq_true rfl), (Nat.le_of_ble_eq_true rfl)⟩) hP hD hS hA (fun zi_34 u_36 H locs hw_35 hP hD hS => ?_)
              have ps_37 : zi_34.toInt = zA (zI (zR zy 0)) (158 + 12 * zia.toInt + zic.toInt) := hw_35
              have rzi_34 := rng zi_34
              refine lv_if_eq (tgt := 66) hx hb dX11_says_60 (by decide) (fun c_38 => ?_) (fun c_38 => ?_)
              · have f_39 : zi_34.toInt = 0 := ic_eq (rfl) (by decide) c_38
                refine lv_aload_n hx hb dX11_says_66 rfl (lv_at hl 0 rfl) ?_
                refine lv_iload_n hx hb dX11_says_67 rfl (lv_at hl 1 rfl) ?_
                refine lv_iload_n hx hb dX11_says_68 rfl (lv_at hl 3 rfl) ?_
                refine hj_i (ws := (WL cy zL zT zR zI zJ)) (w1 := fun (u : Unit) => (WL cy zL zT zR zI zJ)) (va_runV (As := [.int zia, .int zic]) (rest := []) ⟨hx, hb, hml, hown, hts⟩ (t_X11_weightOf l dC dI cy H.size zL zT zR zI zJ zy zia zic hs h_zI.1 t_zy (by omega) (by omega) hz) (cwV 2 hts gX11_says_X11_weightOf rfl rfl rfl (by decide +kernel) ⟨(Nat.le_of_ble_eq_true rfl), (Nat.le_of_ble_eq_true rfl)⟩) (PRE.v hP hK hD hN (ht_recv hK hP hs t_zy (by decide) rfl rfl)) rfl rfl hl.1 rfl (lv_room (Nat.le_of_ble_eq_true rfl)) dX11_says_69 ⟨(Nat.le_of_ble_eq_true rfl), (Nat.le_of_ble_eq_true rfl)⟩) hP hD hS hA (fun zi_40 u_42 H locs hw_41 hP hD hS => ?_)
                have rzi_40 := rng zi_40
                refine lv_aload_n hx hb dX11_says_72 rfl (lv_at hl 0 rfl) ?_
                refine lv_iload_n hx hb dX11_says_73 rfl (lv_at hl 1 rfl) ?_
                refine lv_iload_n hx hb dX11_says_74 rfl (lv_at hl 2 rfl) ?_
                refine hj_i (ws := (WL cy zL zT zR zI zJ)) (w1 := fun (u : Unit) => (WL cy zL zT zR zI zJ)) (va_runV (As := [.int zia, .int zib]) (rest := [.int zi_40]) ⟨hx, hb, hml, hown, hts⟩ (t_X11_weightOf l dC dI cy H.size zL zT zR zI zJ zy zia zib hs h_zI.1 t_zy (by omega) (by omega) hz) (cwV 2 hts gX11_says_X11_weightOf rfl rfl rfl (by decide +kernel) ⟨(Nat.le_of_ble_eq_true rfl), (Nat.le_of_ble_eq_true rfl)⟩) (PRE.v hP hK hD hN (ht_recv hK hP hs t_zy (by decide) rfl rfl)) rfl rfl hl.1 rfl (lv_room (Nat.le_of_ble_eq_true rfl)) dX11_says_75 ⟨(Nat.le_of_ble_eq_true rfl), (Nat.le_of_ble_eq_true rfl)⟩) hP hD hS hA (fun zi_43 u_45 H locs hw_44 hP hD hS => ?_)
                have rzi_43 := rng zi_43
                refine lv_isub hx hb dX11_says_78 ?_
                refine lv_topi (fun zi_46 ezi_46 => ?_)
                refine lv_istore (lv' := [(5, .int zi_46), (0, .ref zy), (1, .int zia), (2, .int zib), (3, .int zic), (4, .int zid)]) hx hb dX11_says_79 hl (by decide) rfl (fun ls hl => ?_)
                refine lv_iconst (v := 0) hx hb dX11_says_81 (by decide) ?_
                refine lv_istore (lv' := [(6, .int 0), (5, .int zi_46), (0, .ref zy), (1, .int zia), (2, .int zib), (3, .int zic), (4, .int zid)]) hx hb dX11_says_82 hl (by decide) rfl (fun ls hl => ?_)
                refine lv_bipush (v := (-4)) hx hb dX11_says_84 (by decide) ?_
                refine lv_istore (lv' := [(7, .int (-4)), (6, .int 0), (5, .int zi_46), (0, .ref zy), (1, .int zia), (2, .int zib), (3, .int zic), (4, .int zid)]) hx hb dX11_says_86 hl (by decide) rfl (fun ls hl => ?_)
                refine lv_iconst (v := (-1)) hx hb dX11_says_88 (by decide) ?_
                refine lv_istore (lv' := [(8, .int (-1)), (7, .int (-4)), (6, .int 0), (5, .int zi_46), (0, .ref zy), (1, .int zia), (2, .int zib), (3, .int zic), (4, .int zid)]) hx hb dX11_says_89 hl (by decide) rfl (fun ls hl => ?_)
                refine lv_iconst (v := 1) hx hb dX11_says_91 (by decide) ?_
                refine lv_istore (lv' := [(9, .int 1), (8, .int (-1)), (7, .int (-4)), (6, .int 0), (5, .int zi_46), (0, .ref zy), (1, .int zia), (2, .int zib), (3, .int zic), (4, .int zid)]) hx hb dX11_says_92 hl (by decide) rfl (fun ls hl => ?_)
                have lp_3730 : ∀ (n : Nat) (zi_224 : Int32) (zi_225 : Int32) (zi_226 : Int32) (zi_227 : Int32) (H : Heap) (locs : List Loc) (ls : Array Slot), (2147483647 - zi_227.toInt).toNat = n → ((-4) ≤ zi_225.toInt ∧ zi_225.toInt ≤ 2147483646) → (1 ≤ zi_227.toInt) → (ZI (zI (zR zy 0))) → va_P (dC, dI) vwCl (WL cy zL zT zR zI zJ) H → va_D A (WL cy zL zT zR zI zJ) → va_S A s.heap H locs → lv_has ls 10 [(0, .ref zy), (1, .int zia), (2, .int zib), (3, .int zic), (4, .int zid), (5, .int zi_46), (6, .int zi_224), (7, .int zi_225), (8, .int zi_226), (9, .int zi_227)] → W p l e ({ frames := 2, cells := 0, slots := 0, locals := 50 } : Room) s m ([.ref zy, .int zia, .int zib, .int zic, .int zid] : List Value).toArray below meth c H locs 0 0 Q (F0 m 94 ls []) := by
                  intro n
                  induction n using Nat.strongRecOn with
                  | _ n ih_3730 =>
                    intro zi_224 zi_225 zi_226 zi_227 H locs ls hn b_zi_225 b_zi_227 e_lp_3730_0 hP hD hS hl
                    refine lv_iload hx hb dX11_says_94 (lv_at hl 9 rfl) ?_
                    refine lv_iconst (v := 1) hx hb dX11_says_96 (by decide) ?_
                    refine lv_aload_n hx hb dX11_says_97 rfl (lv_at hl 0 rfl) ?_
                    refine ht_getr (C := RX11) (T := TX11) (N := 28) hx hb hts (by decide +kernel) hown hK hP hs t_zy (by decide) rfl rfl 0 (by decide) (hts (.fieldLink RX11 7 "DripStoneModel" "z" "[I") (by decide +kernel)) (fun _ h9 => h9) rfl dX11_says_98 ?_
                    have t_3731 : zT (zR zy 0) = 100 := sk_f hs t_zy (by decide) rfl (by decide)
                    refine lv_bipush (v := 13) hx hb dX11_says_101 (by decide) ?_
                    refine ht_iald (n := 392) (q := 0) hx hb hK hP hs t_3731 (by decide) rfl rfl ⟨by decide, by decide⟩ dX11_says_103 ?_
                    refine lv_topi (fun zi_3732 ezi_3732 => ?_)
                    have la_3733 : zi_3732.toInt = zA (zI (zR zy 0)) (13) := (congrArg Int32.toInt (show zI (zR zy 0) (13 : Int32).toNatClampNeg = zi_3732 from ezi_3732.symm).symm).trans (congrArg (zA (zI (zR zy 0))) (show (13 : Int32).toInt = 13 from by decide))
                    have tz_3734 : 0 ≤ zi_3732.toInt ∧ zi_3732.toInt ≤ 5 := by rw [← (show zI (zR zy 0) (13 : Int32).toNatClampNeg = zi_3732 from ezi_3732.symm)]; exact ZI.g13 e_lp_3730_0 (by decide) (by decide)
                    refine lv_ishl hx hb dX11_says_104 ?_
                    refine lv_topi (fun zi_3735 ezi_3735 => ?_)
                    have rzi_3735 := rng zi_3735
                    refine lv_icmp_ge (tgt := 162) hx hb dX11_says_105 (by decide) (fun c_3736 => ?_) (fun c_3736 => ?_)
                    · have f_3737 : zi_227.toInt ≥ zi_3735.toInt := ic_ge (rfl) (rfl) c_3736
                      refine lv_iload hx hb dX11_says_162 (lv_at hl 4 rfl) ?_
                      refine lv_if_ne (tgt := 172) hx hb dX11_says_164 (by decide) (fun c_3738 => ?_) (fun c_3738 => ?_)
                      · have f_3739 : zid.toInt ≠ 0 := ic_ne (rfl) (by decide) c_3738
                        refine lv_iload hx hb dX11_says_172 (lv_at hl 6 rfl) ?_
                        refine lv_if_ne (tgt := 182) hx hb dX11_says_174 (by decide) (fun c_3740 => ?_) (fun c_3740 => ?_)
                        · have f_3741 : zi_224.toInt ≠ 0 := ic_ne (rfl) (by decide) c_3740
                          refine lv_iload hx hb dX11_says_182 (lv_at hl 4 rfl) ?_
                          refine lv_iconst (v := 1) hx hb dX11_says_184 (by decide) ?_
                          refine lv_icmp_ne (tgt := 193) hx hb dX11_says_185 (by decide) (fun c_3742 => ?_) (fun c_3742 => ?_)
                          · have f_3743 : zid.toInt ≠ (1 : Int) := ic_ne (rfl) (show (1 : Int32).toInt = 1 by decide) c_3742
                            refine lv_iload hx hb dX11_says_193 (lv_at hl 8 rfl) ?_
                            subst hQ
                            exact W.iret (v := zi_226) hx hb hr (fun t ht hW => ⟨⟨zi_226, (), rfl, trivial, ⟨by rw [ht]; exact hP, va_K.moved hW.alike hK, hD⟩⟩, hS.F ht⟩) hS.2.2 dX11_says_195
                          · have f_3743 : ¬ (zid.toInt ≠ (1 : Int)) := ic_nne (rfl) (show (1 : Int32).toInt = 1 by decide) c_3742
                            refine lv_iload hx hb dX11_says_188 (lv_at hl 7 rfl) ?_
                            refine lv_goto (tgt := 195) hx hb dX11_says_190 (by decide) ?_
                            subst hQ
                            exact W.iret (v := zi_225) hx hb hr (fun t ht hW => ⟨⟨zi_225, (), rfl, trivial, ⟨by rw [ht]; exact hP, va_K.moved hW.alike hK, hD⟩⟩, hS.F ht⟩) hS.2.2 dX11_says_195
                        · have f_3741 : ¬ (zi_224.toInt ≠ 0) := ic_nne (rfl) (by decide) c_3740
                          refine lv_bipush (v := (-4)) hx hb dX11_says_177 (by decide) ?_
                          refine lv_goto (tgt := 195) hx hb dX11_says_179 (by decide) ?_
                          subst hQ
                          exact W.iret (v := (-4 : Int32)) hx hb hr (fun t ht hW => ⟨⟨(-4 : Int32), (), rfl, trivial, ⟨by rw [ht]; exact hP, va_K.moved hW.alike hK, hD⟩⟩, hS.F ht⟩) hS.2.2 dX11_says_195
                      · have f_3739 : ¬ (zid.toInt ≠ 0) := ic_nne (rfl) (by decide) c_3738
                        refine lv_iload hx hb dX11_says_167 (lv_at hl 6 rfl) ?_
                        refine lv_goto (tgt := 195) hx hb dX11_says_169 (by decide) ?_
                        subst hQ
                        exact W.iret (v := zi_224) hx hb hr (fun t ht hW => ⟨⟨zi_224, (), rfl, trivial, ⟨by rw [ht]; exact hP, va_K.moved hW.alike hK, hD⟩⟩, hS.F ht⟩) hS.2.2 dX11_says_195
                    · have f_3737 : ¬ (zi_227.toInt ≥ zi_3735.toInt) := ic_nge (rfl) (rfl) c_3736
                      refine lv_aload_n hx hb dX11_says_108 rfl (lv_at hl 0 rfl) ?_
                      refine lv_iload hx hb dX11_says_109 (lv_at hl 9 rfl) ?_
                      refine lv_iload hx hb dX11_says_111 (lv_at hl 5 rfl) ?_
                      refine hj_i (ws := (WL cy zL zT zR zI zJ)) (w1 := fun (u : Unit) => (WL cy zL zT zR zI zJ)) (va_runV (As := [.int zi_227, .int zi_46]) (rest := []) ⟨hx, hb, hml, hown, hts⟩ (t_X11_canSay l dC dI cy H.size zL zT zR zI zJ zy zi_227 zi_46 hs h_zI.1 t_zy e_lp_3730_0) (cwV 2 hts gX11_says_X11_canSay rfl rfl rfl (by decide +kernel) ⟨(Nat.le_of_ble_eq_true rfl), (Nat.le_of_ble_eq_true rfl)⟩) (PRE.v hP hK hD hN (ht_recv hK hP hs t_zy (by decide) rfl rfl)) rfl rfl hl.1 rfl (lv_room (Nat.le_of_ble_eq_true rfl)) dX11_says_113 ⟨(Nat.le_of_ble_eq_true rfl), (Nat.le_of_ble_eq_true rfl)⟩) hP hD hS hA (fun zi_3744 u_3746 H locs hw_3745 hP hD hS => ?_)
                      have b_zi_3744 : 0 ≤ zi_3744.toInt ∧ zi_3744.toInt ≤ 1 := hw_3745
                      have jn_3780 : ∀ (zi_3777 : Int32) (zi_3778 : Int32) (zi_3779 : Int32) (H : Heap) (locs : List Loc) (ls : Array Slot), ((-4) ≤ zi_3778.toInt ∧ zi_3778.toInt ≤ 2147483646) → (ZI (zI (zR zy 0))) → va_P (dC, dI) vwCl (WL cy zL zT zR zI zJ) H → va_D A (WL cy zL zT zR zI zJ) → va_S A s.heap H locs → lv_has ls 10 [(0, .ref zy), (1, .int zia), (2, .int zib), (3, .int zic), (4, .int zid), (5, .int zi_46), (6, .int zi_3777), (7, .int zi_3778), (8, .int zi_3779), (9, .int zi_227)] → W p l e ({ frames := 2, cells := 0, slots := 0, locals := 50 } : Room) s m ([.ref zy, .int zia, .int zib, .int zic, .int zid] : List Value).toArray below meth c H locs 0 0 Q (F0 m 156 ls []) := by
                        intro zi_3777 zi_3778 zi_3779 H locs ls b_zi_3778 e_jn_3780_0 hP hD hS hl
                        obtain ⟨zi_3781, ezi_3781⟩ : ∃ y : Int32, y = zi_227 + 1 := ⟨_, rfl⟩
                        have tzi_3781 : zi_3781.toInt = zi_227.toInt + 1 := by rw [ezi_3781]; exact tadd rfl (show (1 : Int32).toInt = 1 by decide) (by omega) (by omega)
                        refine lv_iinc (v := zi_3781) (lv' := [(9, .int zi_3781), (0, .ref zy), (1, .int zia), (2, .int zib), (3, .int zic), (4, .int zid), (5, .int zi_46), (6, .int zi_3777), (7, .int zi_3778), (8, .int zi_3779)]) hx hb dX11_says_156 hl (k := 9) rfl (by rw [ezi_3781]; rfl) (by decide) rfl (fun ls hl => ?_)
                        refine lv_goto (tgt := 94) hx hb dX11_says_159 (by decide) ?_
                        exact ih_3730 (2147483647 - zi_3781.toInt).toNat (by omega) zi_3777 zi_3778 zi_3779 zi_3781 _ _ _ rfl (by omega) (by omega) e_jn_3780_0 hP hD hS (lv_sub hl [1, 2, 3, 4, 5, 6, 7, 8, 9, 0] rfl)
                      refine lv_if_eq (tgt := 156) hx hb dX11_says_116 (by decide) (fun c_3782 => ?_) (fun c_3782 => ?_)
                      · have f_3783 : zi_3744.toInt = 0 := ic_eq (rfl) (by decide) c_3782
                        exact jn_3780 zi_224 zi_225 zi_226 _ _ _ (by omega) e_lp_3730_0 hP hD hS (lv_sub hl [0, 1, 2, 3, 4, 5, 6, 7, 8, 9] rfl)
                      · have f_3783 : ¬ (zi_3744.toInt = 0) := ic_neq (rfl) (by decide) c_3782
                        obtain ⟨zi_3784, ezi_3784⟩ : ∃ y : Int32, y = zi_224 + 1 := ⟨_, rfl⟩
                        refine lv_iinc (v := zi_3784) (lv' := [(6, .int zi_3784), (0, .ref zy), (1, .int zia), (2, .int zib), (3, .int zic), (4, .int zid), (5, .int zi_46), (7, .int zi_225), (8, .int zi_226), (9, .int zi_227)]) hx hb dX11_says_119 hl (k := 6) rfl (by rw [ezi_3784]; rfl) (by decide) rfl (fun ls hl => ?_)
                        refine lv_iload hx hb dX11_says_122 (lv_at hl 7 rfl) ?_
                        have jn_3798 : ∀  (H : Heap) (locs : List Loc) (ls : Array Slot), (ZI (zI (zR zy 0))) → va_P (dC, dI) vwCl (WL cy zL zT zR zI zJ) H → va_D A (WL cy zL zT zR zI zJ) → va_S A s.heap H locs → lv_has ls 10 [(0, .ref zy), (1, .int zia), (2, .int zib), (3, .int zic), (4, .int zid), (5, .int zi_46), (6, .int zi_3784), (7, .int zi_225), (8, .int zi_226), (9, .int zi_227)] → W p l e ({ frames := 2, cells := 0, slots := 0, locals := 50 } : Room) s m ([.ref zy, .int zia, .int zib, .int zic, .int zid] : List Value).toArray below meth c H locs 0 0 Q (F0 m 140 ls []) := by
                          intro  H locs ls e_jn_3798_0 hP hD hS hl
                          refine lv_iload hx hb dX11_says_140 (lv_at hl 9 rfl) ?_
                          refine lv_goto (tgt := 147) hx hb dX11_says_142 (by decide) ?_
                          refine lv_istore (lv' := [(7, .int zi_227), (0, .ref zy), (1, .int zia), (2, .int zib), (3, .int zic), (4, .int zid), (5, .int zi_46), (6, .int zi_3784), (8, .int zi_226), (9, .int zi_227)]) hx hb dX11_says_147 hl (by decide) rfl (fun ls hl => ?_)
                          refine lv_iload hx hb dX11_says_149 (lv_at hl 8 rfl) ?_
                          refine lv_iload hx hb dX11_says_151 (lv_at hl 9 rfl) ?_
                          refine lv_iand hx hb dX11_says_153 ?_
                          refine lv_topi (fun zi_3799 ezi_3799 => ?_)
                          have rzi_3799 := rng zi_3799
                          refine lv_istore (lv' := [(8, .int zi_3799), (7, .int zi_227), (0, .ref zy), (1, .int zia), (2, .int zib), (3, .int zic), (4, .int zid), (5, .int zi_46), (6, .int zi_3784), (9, .int zi_227)]) hx hb dX11_says_154 hl (by decide) rfl (fun ls hl => ?_)
                          exact jn_3780 zi_3784 zi_227 zi_3799 _ _ _ (by omega) e_jn_3798_0 hP hD hS (lv_sub hl [2, 3, 4, 5, 6, 7, 8, 1, 0, 9] rfl)
                        refine lv_if_lt (tgt := 140) hx hb dX11_says_124 (by decide) (fun c_3800 => ?_) (fun c_3800 => ?_)
                        · have f_3801 : zi_225.toInt < 0 := ic_lt (rfl) (by decide) c_3800
                          exact jn_3798  _ _ _ e_lp_3730_0 hP hD hS (lv_sub hl [1, 2, 3, 4, 5, 6, 0, 7, 8, 9] rfl)
                        · have f_3801 : ¬ (zi_225.toInt < 0) := ic_nlt (rfl) (by decide) c_3800
                          refine lv_iload hx hb dX11_says_127 (lv_at hl 9 rfl) ?_
                          refine hj0_i (ws := (WL cy zL zT zR zI zJ)) (va_runS (As := [.int zi_227]) (rest := []) ⟨hx, hb, hml, hown, hts⟩ (c_X11_ones l dC dI cy H.size zi_227 (by omega)) (va_cwS 1 hts gX11_says_X11_ones rfl rfl rfl (by decide +kernel) ⟨(Nat.le_of_ble_eq_true rfl), (Nat.le_of_ble_eq_true rfl)⟩) (PRE.s (hP.sub [] rfl) hK (hD.sub [] (by decide) rfl) hN) rfl rfl hl.1 rfl (lv_room (Nat.le_of_ble_eq_true rfl)) dX11_says_129 ⟨(Nat.le_of_ble_eq_true rfl), (Nat.le_of_ble_eq_true rfl)⟩) hP hD hS hA (fun zi_3802 u_3804 H locs hw_3803 hP hD hS => ?_)
                          have rzi_3802 := rng zi_3802
                          refine lv_iload hx hb dX11_says_132 (lv_at hl 7 rfl) ?_
                          refine hj0_i (ws := (WL cy zL zT zR zI zJ)) (va_runS (As := [.int zi_225]) (rest := [.int zi_3802]) ⟨hx, hb, hml, hown, hts⟩ (c_X11_ones l dC dI cy H.size zi_225 (by omega)) (va_cwS 1 hts gX11_says_X11_ones rfl rfl rfl (by decide +kernel) ⟨(Nat.le_of_ble_eq_true rfl), (Nat.le_of_ble_eq_true rfl)⟩) (PRE.s (hP.sub [] rfl) hK (hD.sub [] (by decide) rfl) hN) rfl rfl hl.1 rfl (lv_room (Nat.le_of_ble_eq_true rfl)) dX11_says_134 ⟨(Nat.le_of_ble_eq_true rfl), (Nat.le_of_ble_eq_true rfl)⟩) hP hD hS hA (fun zi_3805 u_3807 H locs hw_3806 hP hD hS => ?_)
                          have rzi_3805 := rng zi_3805
                          refine lv_icmp_ge (tgt := 145) hx hb dX11_says_137 (by decide) (fun c_3810 => ?_) (fun c_3810 => ?_)
                          · have f_3811 : zi_3802.toInt ≥ zi_3805.toInt := ic_ge (rfl) (rfl) c_3810
                            refine lv_iload hx hb dX11_says_145 (lv_at hl 7 rfl) ?_
                            refine lv_istore (lv' := [(7, .int zi_225), (6, .int zi_3784), (0, .ref zy), (1, .int zia), (2, .int zib), (3, .int zic), (4, .int zid), (5, .int zi_46), (8, .int zi_226), (9, .int zi_227)]) hx hb dX11_says_147 hl (by decide) rfl (fun ls hl => ?_)
                            refine lv_iload hx hb dX11_says_149 (lv_at hl 8 rfl) ?_
                            refine lv_iload hx hb dX11_says_151 (lv_at hl 9 rfl) ?_
                            refine lv_iand hx hb dX11_says_153 ?_
                            refine lv_topi (fun zi_3812 ezi_3812 => ?_)
                            have rzi_3812 := rng zi_3812
                            refine lv_istore (lv' := [(8, .int zi_3812), (7, .int zi_225), (6, .int zi_3784), (0, .ref zy), (1, .int zia), (2, .int zib), (3, .int zic), (4, .int zid), (5, .int zi_46), (9, .int zi_227)]) hx hb dX11_says_154 hl (by decide) rfl (fun ls hl => ?_)
                            exact jn_3780 zi_3784 zi_225 zi_3812 _ _ _ (by omega) e_lp_3730_0 hP hD hS (lv_sub hl [3, 4, 5, 6, 7, 8, 2, 1, 0, 9] rfl)
                          · have f_3811 : ¬ (zi_3802.toInt ≥ zi_3805.toInt) := ic_nge (rfl) (rfl) c_3810
                            exact jn_3798  _ _ _ e_lp_3730_0 hP hD hS (lv_sub hl [1, 2, 3, 4, 5, 6, 0, 7, 8, 9] rfl)
                have qc_0 : (0 : Int32).toInt = 0 := by decide
                have qc_m4 : ((-4) : Int32).toInt = -4 := by decide
                have qc_m1 : ((-1) : Int32).toInt = -1 := by decide
                have qc_1 : (1 : Int32).toInt = 1 := by decide
                exact lp_3730 _ (0 : Int32) (-4 : Int32) (-1 : Int32) (1 : Int32) _ _ _ rfl (by decide) (by decide) hz hP hD hS (lv_sub hl [5, 6, 7, 8, 9, 4, 3, 2, 1, 0] rfl)
              · have f_39 : ¬ (zi_34.toInt = 0) := ic_neq (rfl) (by decide) c_38
                refine lv_bipush (v := (-12)) hx hb dX11_says_63 (by decide) ?_
                subst hQ
                exact W.iret (v := (-12 : Int32)) hx hb hr (fun t ht hW => ⟨⟨(-12 : Int32), (), rfl, trivial, ⟨by rw [ht]; exact hP, va_K.moved hW.alike hK, hD⟩⟩, hS.F ht⟩) hS.2.2 dX11_says_65
          · have f_27 : ¬ (0 ≤ zj_22.toInt ∧ zj_22.toInt ≤ 2) := bz_0 hw_24 c_26
            refine lv_iconst (v := (-1)) hx hb dX11_says_43 (by decide) ?_
            subst hQ
            exact W.iret (v := (-1 : Int32)) hx hb hr (fun t ht hW => ⟨⟨(-1 : Int32), (), rfl, trivial, ⟨by rw [ht]; exact hP, va_K.moved hW.alike hK, hD⟩⟩, hS.F ht⟩) hS.2.2 dX11_says_44
