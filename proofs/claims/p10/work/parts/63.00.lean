set_option maxHeartbeats 8000000 in
set_option maxRecDepth 100000 in
theorem t_X11_readCondition (l : Launch) (dC : Nat → ClassId) (dI : Nat → Nat → Nat) (cy : Nat → ClassId) (sz : Nat) (zL : List Nat) (zT : Nat → Nat) (zR : Nat → Nat → Nat) (zI : Nat → Nat → Int32) (zJ : Nat → Nat → Int64) (zy : Nat) (zia : Int32) (hs : SKP zL zT zR) (hw : WT zT zR zI) (t_zy : zT zy = 18) (b_zia : 2 ≤ zia.toInt ∧ zia.toInt ≤ 63) : Met l yX11_readCondition wsX11_readCondition ({ frames := 2, cells := 0, slots := 0, locals := 49 } : Room) (va_Pc [.ref zy, .int zia] (PRE dC dI cy (WL cy zL zT zR zI zJ) sz)) (va_Qi (fun (r : Int32) (u : (Nat → Nat → Int32)) => (WM [1803, 10200] AL zT zR zI u) ∧ (0 ≤ r.toInt ∧ r.toInt ≤ 1) ∧ (FRM (zI (zR zy 5)) (u (zR zy 5)) (zia.toInt) (zia.toInt + 2))) (fun u t => POST dC dI cy (va_A (WL cy zL zT zR zI zJ) sz) (WL cy zL zT zR u zJ) t) (va_A (WL cy zL zT zR zI zJ) sz)) 0 0 (va_A (WL cy zL zT zR zI zJ) sz) := by
  refine Met.ofW (cc := cX11_readCondition) (maxL := 5) (ret := (some .boolean)) (by decide) rfl ?_
  intro p e s m args below meth c s₁ B hml hv
  obtain ⟨rfl, hsz, hP, hK, hD0, hN⟩ := hv
  have hx := B.exec
  have hb := B.bytes
  have hr := B.returns
  have hts := atoms_spec (ws := wsX11_readCondition) B.pre
  have hown : s.vm.findClass RX11 = some m.cls := findClass_of_methodNamed B.named
  have hlocks := B.notSynchronized
  subst hsz
  have hD := hD0.self (sz := s.heap.size)
  generalize hAe : va_A (WL cy zL zT zR zI zJ) s.heap.size = A at hD ⊢
  have hA : ∀ q : Nat, s.heap.size ≤ q → A q := fun q h => by rw [← hAe]; exact Or.inr h
  have hS : va_S A s.heap s.heap [] := va_S.rf
  have hP : va_P (dC, dI) vwCl (WL cy zL zT zR zI zJ) s.heap := hP
  have hl := lv_entry ([.ref zy, .int zia] : List Value) (n := 5) (Nat.le_of_ble_eq_true rfl)
  rw [lg_entry_eq]
  generalize (lg_sl ([.ref zy, .int zia] : List Value) ++ List.replicate (5 - (lg_sl ([.ref zy, .int zia] : List Value)).length) Slot.unset).toArray = ls at hl ⊢
  have hl : lv_has ls 5 [(0, .ref zy), (1, .int zia)] := hl
  refine w_q (fun Q hQ => ?_)
  have h_zI : WM [1803, 10200] AL zT zR zI zI := WM.rf hw
  refine lv_aload_n hx hb dX11_readCondition_0 rfl (lv_at hl 0 rfl) ?_
  refine hj_i (ws := (WL cy zL zT zR zI zJ)) (w1 := fun (u : (Nat → Nat → Int32)) => (WL cy zL zT zR u zJ)) (va_runV (As := []) (rest := []) ⟨hx, hb, hml, hown, hts⟩ (t_X11_nextByte l dC dI cy s.heap.size zL zT zR zI zJ zy hs h_zI.1 t_zy) (cwV 0 hts gX11_readCondition_X11_nextByte rfl rfl rfl (by decide +kernel) ⟨(Nat.le_of_ble_eq_true rfl), (Nat.le_of_ble_eq_true rfl)⟩) (PRE.v hP hK hD hN (ht_recv hK hP hs t_zy (by decide) rfl rfl)) rfl rfl hl.1 rfl (lv_room (Nat.le_of_ble_eq_true rfl)) dX11_readCondition_1 ⟨(Nat.le_of_ble_eq_true rfl), (Nat.le_of_ble_eq_true rfl)⟩) hP hD hS hA (fun zi_1 zI_4 H locs hw_2 hP hD hS => ?_)
  obtain ⟨k_zI_4, b_zi_1, ps_5⟩ : (WM [1803] AL zT zR zI zI_4) ∧ ((-1) ≤ zi_1.toInt ∧ zi_1.toInt ≤ 255) ∧ (zi_1.toInt = -1 ∨ (zI_4 zy 3).toInt ≤ 79) := hw_2
  have h_zI_4 : WM [1803, 10200] AL zT zR zI zI_4 := h_zI.tr k_zI_4 (by decide) (fun _ _ => trivial)
  obtain ⟨zi_6, ezi_6⟩ : ∃ y : Int32, y = zI_4 zy 3 := ⟨_, rfl⟩
  have tzi_6 : 0 ≤ zi_6.toInt ∧ zi_6.toInt ≤ 80 := by rw [ezi_6]; exact h_zI_4.at t_zy _ rfl
  have lzi_6 : (zI_4 zy 3).toInt = zi_6.toInt := by rw [ezi_6]
  have lk_7 : (zI_4 zy 3).toInt = zi_6.toInt := congrArg Int32.toInt ezi_6.symm
  refine lv_istore_n (lv' := [(2, .int zi_1), (0, .ref zy), (1, .int zia)]) hx hb dX11_readCondition_4 rfl hl (by decide) rfl (fun ls hl => ?_)
  refine lv_iload_n hx hb dX11_readCondition_5 rfl (lv_at hl 0 rfl) ?_
  refine lv_bipush (v := 97) hx hb dX11_readCondition_6 (by decide) ?_
  refine lv_icmp_eq (tgt := 25) hx hb dX11_readCondition_8 (by decide) (fun c_8 => ?_) (fun c_8 => ?_)
  · have f_9 : zi_1.toInt = (97 : Int) := ic_eq (rfl) (show (97 : Int32).toInt = 97 by decide) c_8
    refine lv_aload_n hx hb dX11_readCondition_25 rfl (lv_at hl 1 rfl) ?_
    refine lv_dup hx hb dX11_readCondition_26 rfl ?_
    refine ht_geti (C := RX11) (T := TX11) (N := 28) hx hb hts (by decide +kernel) hown hK hP hs t_zy (by decide) rfl rfl 3 (by decide) (hts (.fieldLink RX11 116 "DripStoneModel" "at" "I") (by decide +kernel)) (fun _ h9 => h9) rfl dX11_readCondition_27 ?_
    refine lv_topi (fun zi_10 ezi_10 => ?_)
    obtain rfl : zi_6 = zi_10 := (ezi_10.trans ezi_6.symm).symm
    refine lv_iconst (v := 1) hx hb dX11_readCondition_30 (by decide) ?_
    refine lv_iadd hx hb dX11_readCondition_31 ?_
    refine lv_topi (fun zi_11 ezi_11 => ?_)
    have tzi_11 : zi_11.toInt = zi_6.toInt + (1 : Int) := by rw [ezi_11]; exact tiadd (rfl) (show (1 : Int32).toInt = 1 by decide) (by omega) (by omega)
    refine ht_puti (v := zi_11) (ty := .int) (C := RX11) (T := TX11) (N := 28) hx hb hts (by decide +kernel) tyX11 tyX11_ok nmX11 hown hK hP hD hS hs t_zy (by decide) rfl rfl 3 (by decide) (hts (.fieldLink RX11 116 "DripStoneModel" "at" "I") (by decide +kernel)) (fun _ h9 => h9) rfl (by decide +kernel) rfl rfl rfl dX11_readCondition_32 (fun H locs hP hD hS => ?_)
    have h_zI_12 : WM [1803, 10200] AL zT zR zI (u2 zI_4 zy 3 zi_11) := h_zI_4.put hs t_zy rfl (by omega) (by decide) (fun h => absurd h (by decide)) (by decide) trivial
    generalize uzI_12 : u2 zI_4 zy 3 zi_11 = zI_12 at hP hD h_zI_12
    have t_13 : zT (zR zy 5) = 102 := sk_f hs t_zy (by decide) rfl (by decide)
    refine lv_aload_n hx hb dX11_readCondition_35 rfl (lv_at hl 1 rfl) ?_
    refine hj_i (ws := (WL cy zL zT zR zI_12 zJ)) (w1 := fun (u : (Nat → Nat → Int32)) => (WL cy zL zT zR u zJ)) (va_runV (As := []) (rest := []) ⟨hx, hb, hml, hown, hts⟩ (t_X11_nextByte l dC dI cy H.size zL zT zR zI_12 zJ zy hs h_zI_12.1 t_zy) (cwV 0 hts gX11_readCondition_X11_nextByte rfl rfl rfl (by decide +kernel) ⟨(Nat.le_of_ble_eq_true rfl), (Nat.le_of_ble_eq_true rfl)⟩) (PRE.v hP hK hD hN (ht_recv hK hP hs t_zy (by decide) rfl rfl)) rfl rfl hl.1 rfl (lv_room (Nat.le_of_ble_eq_true rfl)) dX11_readCondition_36 ⟨(Nat.le_of_ble_eq_true rfl), (Nat.le_of_ble_eq_true rfl)⟩) hP hD hS hA (fun zi_14 zI_17 H locs hw_15 hP hD hS => ?_)
    obtain ⟨k_zI_17, b_zi_14, ps_18⟩ : (WM [1803] AL zT zR zI_12 zI_17) ∧ ((-1) ≤ zi_14.toInt ∧ zi_14.toInt ≤ 255) ∧ (zi_14.toInt = -1 ∨ (zI_17 zy 3).toInt ≤ 79) := hw_15
    have h_zI_17 : WM [1803, 10200] AL zT zR zI zI_17 := h_zI_12.tr k_zI_17 (by decide) (fun _ _ => trivial)
    obtain ⟨zi_19, ezi_19⟩ : ∃ y : Int32, y = zI_17 zy 3 := ⟨_, rfl⟩
    have tzi_19 : 0 ≤ zi_19.toInt ∧ zi_19.toInt ≤ 80 := by rw [ezi_19]; exact h_zI_17.at t_zy _ rfl
    have lzi_19 : (zI_17 zy 3).toInt = zi_19.toInt := by rw [ezi_19]
    have lk_20 : (zI_17 zy 3).toInt = zi_19.toInt := congrArg Int32.toInt ezi_19.symm
    refine lv_istore_n (lv' := [(3, .int zi_14), (2, .int zi_1), (0, .ref zy), (1, .int zia)]) hx hb dX11_readCondition_39 rfl hl (by decide) rfl (fun ls hl => ?_)
    refine lv_iload_n hx hb dX11_readCondition_40 rfl (lv_at hl 0 rfl) ?_
    refine lv_bipush (v := 60) hx hb dX11_readCondition_41 (by decide) ?_
    refine lv_icmp_eq (tgt := 60) hx hb dX11_readCondition_43 (by decide) (fun c_21 => ?_) (fun c_21 => ?_)
    · have f_22 : zi_14.toInt = (60 : Int) := ic_eq (rfl) (show (60 : Int32).toInt = 60 by decide) c_21
      refine lv_aload_n hx hb dX11_readCondition_60 rfl (lv_at hl 2 rfl) ?_
      refine lv_dup hx hb dX11_readCondition_61 rfl ?_
      refine ht_geti (C := RX11) (T := TX11) (N := 28) hx hb hts (by decide +kernel) hown hK hP hs t_zy (by decide) rfl rfl 3 (by decide) (hts (.fieldLink RX11 116 "DripStoneModel" "at" "I") (by decide +kernel)) (fun _ h9 => h9) rfl dX11_readCondition_62 ?_
      refine lv_topi (fun zi_23 ezi_23 => ?_)
      obtain rfl : zi_19 = zi_23 := (ezi_23.trans ezi_19.symm).symm
      refine lv_iconst (v := 1) hx hb dX11_readCondition_65 (by decide) ?_
      refine lv_iadd hx hb dX11_readCondition_66 ?_
      refine lv_topi (fun zi_24 ezi_24 => ?_)
      have tzi_24 : zi_24.toInt = zi_19.toInt + (1 : Int) := by rw [ezi_24]; exact tiadd (rfl) (show (1 : Int32).toInt = 1 by decide) (by omega) (by omega)
      refine ht_puti (v := zi_24) (ty := .int) (C := RX11) (T := TX11) (N := 28) hx hb hts (by decide +kernel) tyX11 tyX11_ok nmX11 hown hK hP hD hS hs t_zy (by decide) rfl rfl 3 (by decide) (hts (.fieldLink RX11 116 "DripStoneModel" "at" "I") (by decide +kernel)) (fun _ h9 => h9) rfl (by decide +kernel) rfl rfl rfl dX11_readCondition_67 (fun H locs hP hD hS => ?_)
      have h_zI_25 : WM [1803, 10200] AL zT zR zI (u2 zI_17 zy 3 zi_24) := h_zI_17.put hs t_zy rfl (by omega) (by decide) (fun h => absurd h (by decide)) (by decide) trivial
      generalize uzI_25 : u2 zI_17 zy 3 zi_24 = zI_25 at hP hD h_zI_25
      refine lv_aload_n hx hb dX11_readCondition_70 rfl (lv_at hl 2 rfl) ?_
      refine lv_iconst (v := 0) hx hb dX11_readCondition_71 (by decide) ?_
      refine lv_bipush (v := 99) hx hb dX11_readCondition_72 (by decide) ?_
      have qc_0 : (0 : Int32).toInt = 0 := by decide
      have qc_99 : (99 : Int32).toInt = 99 := by decide
      refine hj_i (ws := (WL cy zL zT zR zI_25 zJ)) (w1 := fun (u : (Nat → Nat → Int32)) => (WL cy zL zT zR u zJ)) (va_runV (As := [.int 0, .int 99]) (rest := []) ⟨hx, hb, hml, hown, hts⟩ (t_X11_readNumber l dC dI cy H.size zL zT zR zI_25 zJ zy (0 : Int32) (99 : Int32) hs h_zI_25.1 t_zy (by decide) (by decide)) (cwV 2 hts gX11_readCondition_X11_readNumber rfl rfl rfl (by decide +kernel) ⟨(Nat.le_of_ble_eq_true rfl), (Nat.le_of_ble_eq_true rfl)⟩) (PRE.v hP hK hD hN (ht_recv hK hP hs t_zy (by decide) rfl rfl)) rfl rfl hl.1 rfl (lv_room (Nat.le_of_ble_eq_true rfl)) dX11_readCondition_74 ⟨(Nat.le_of_ble_eq_true rfl), (Nat.le_of_ble_eq_true rfl)⟩) hP hD hS hA (fun zi_26 zI_29 H locs hw_27 hP hD hS => ?_)
      obtain ⟨k_zI_29, b_zi_26, ps_30⟩ : (WM [1803] AL zT zR zI_25 zI_29) ∧ ((-1) ≤ zi_26.toInt) ∧ (zi_26.toInt = -1 ∨ ((0 : Int32).toInt ≤ zi_26.toInt ∧ zi_26.toInt ≤ (99 : Int32).toInt)) := hw_27
      have h_zI_29 : WM [1803, 10200] AL zT zR zI zI_29 := h_zI_25.tr k_zI_29 (by decide) (fun _ _ => trivial)
      have b8_zi_26 : (-1) ≤ zi_26.toInt ∧ zi_26.toInt ≤ 99 := by omega
      refine lv_istore (lv' := [(4, .int zi_26), (3, .int zi_14), (2, .int zi_1), (0, .ref zy), (1, .int zia)]) hx hb dX11_readCondition_77 hl (by decide) rfl (fun ls hl => ?_)
      refine lv_iload hx hb dX11_readCondition_79 (lv_at hl 0 rfl) ?_
      refine lv_if_ge (tgt := 86) hx hb dX11_readCondition_81 (by decide) (fun c_31 => ?_) (fun c_31 => ?_)
      · have f_32 : zi_26.toInt ≥ 0 := ic_ge (rfl) (by decide) c_31
        refine lv_aload_n hx hb dX11_readCondition_86 rfl (lv_at hl 3 rfl) ?_
        refine ht_getr (C := RX11) (T := TX11) (N := 28) hx hb hts (by decide +kernel) hown hK hP hs t_zy (by decide) rfl rfl 5 (by decide) (hts (.fieldLink RX11 16 "DripStoneModel" "read" "[I") (by decide +kernel)) (fun _ h9 => h9) rfl dX11_readCondition_87 ?_
        refine lv_iload_n hx hb dX11_readCondition_90 rfl (lv_at hl 4 rfl) ?_
        refine lv_iload_n hx hb dX11_readCondition_91 rfl (lv_at hl 2 rfl) ?_
        refine ht_iast (v := zi_1) (n := 66) (q := 0) hx hb hK hP hD hS hs t_13 (by decide) rfl rfl ⟨by omega, by omega⟩ dX11_readCondition_92 (fun H locs hP hD hS => ?_)
        have h_zI_33 : WM [1803, 10200] AL zT zR zI (u2 zI_29 (zR zy 5) zia.toNatClampNeg zi_1) := h_zI_29.putA hs t_13 rfl (rgF _) (by decide) (fun h => absurd h (by decide)) (by decide) trivial
        generalize uzI_33 : u2 zI_29 (zR zy 5) zia.toNatClampNeg zi_1 = zI_33 at hP hD h_zI_33
        refine lv_aload_n hx hb dX11_readCondition_93 rfl (lv_at hl 3 rfl) ?_
        refine ht_getr (C := RX11) (T := TX11) (N := 28) hx hb hts (by decide +kernel) hown hK hP hs t_zy (by decide) rfl rfl 5 (by decide) (hts (.fieldLink RX11 16 "DripStoneModel" "read" "[I") (by decide +kernel)) (fun _ h9 => h9) rfl dX11_readCondition_94 ?_
        refine lv_iload_n hx hb dX11_readCondition_97 rfl (lv_at hl 4 rfl) ?_
        refine lv_iconst (v := 1) hx hb dX11_readCondition_98 (by decide) ?_
        refine lv_iadd hx hb dX11_readCondition_99 ?_
        refine lv_topi (fun zi_34 ezi_34 => ?_)
        have tzi_34 : zi_34.toInt = zia.toInt + (1 : Int) := by rw [ezi_34]; exact tiadd (rfl) (show (1 : Int32).toInt = 1 by decide) (by omega) (by omega)
        refine lv_iload_n hx hb dX11_readCondition_100 rfl (lv_at hl 1 rfl) ?_
        refine ht_iast (v := zi_14) (n := 66) (q := 0) hx hb hK hP hD hS hs t_13 (by decide) rfl rfl ⟨by omega, by omega⟩ dX11_readCondition_101 (fun H locs hP hD hS => ?_)
        have h_zI_35 : WM [1803, 10200] AL zT zR zI (u2 zI_33 (zR zy 5) zi_34.toNatClampNeg zi_14) := h_zI_33.putA hs t_13 rfl (rgF _) (by decide) (fun h => absurd h (by decide)) (by decide) trivial
        generalize uzI_35 : u2 zI_33 (zR zy 5) zi_34.toNatClampNeg zi_14 = zI_35 at hP hD h_zI_35
        refine lv_aload_n hx hb dX11_readCondition_102 rfl (lv_at hl 3 rfl) ?_
        refine ht_getr (C := RX11) (T := TX11) (N := 28) hx hb hts (by decide +kernel) hown hK hP hs t_zy (by decide) rfl rfl 5 (by decide) (hts (.fieldLink RX11 16 "DripStoneModel" "read" "[I") (by decide +kernel)) (fun _ h9 => h9) rfl dX11_readCondition_103 ?_
        refine lv_iload_n hx hb dX11_readCondition_106 rfl (lv_at hl 4 rfl) ?_
        refine lv_iconst (v := 2) hx hb dX11_readCondition_107 (by decide) ?_
        refine lv_iadd hx hb dX11_readCondition_108 ?_
        refine lv_topi (fun zi_36 ezi_36 => ?_)
        have tzi_36 : zi_36.toInt = zia.toInt + (2 : Int) := by rw [ezi_36]; exact tiadd (rfl) (show (2 : Int32).toInt = 2 by decide) (by omega) (by omega)
        refine lv_iload hx hb dX11_readCondition_109 (lv_at hl 0 rfl) ?_
        refine ht_iast (v := zi_26) (n := 66) (q := 0) hx hb hK hP hD hS hs t_13 (by decide) rfl rfl ⟨by omega, by omega⟩ dX11_readCondition_111 (fun H locs hP hD hS => ?_)
        have h_zI_37 : WM [1803, 10200] AL zT zR zI (u2 zI_35 (zR zy 5) zi_36.toNatClampNeg zi_26) := h_zI_35.putA hs t_13 rfl (rgF _) (by decide) (fun h => absurd h (by decide)) (by decide) trivial
        generalize uzI_37 : u2 zI_35 (zR zy 5) zi_36.toNatClampNeg zi_26 = zI_37 at hP hD h_zI_37
        refine lv_iconst (v := 1) hx hb dX11_readCondition_112 (by decide) ?_
        subst hQ
        have qc_1 : (1 : Int32).toInt = 1 := by decide
        have fr_38 : FRM (zI (zR zy 5)) (zI_4 (zR zy 5)) (zia.toInt) (zia.toInt + 2) := by rw [(k_zI_4.2.row t_13 (by decide) (by decide))]; exact FRM.rf
        have fr_39 : FRM (zI (zR zy 5)) (zI_12 (zR zy 5)) (zia.toInt) (zia.toInt + 2) := by rw [(show zI_12 (zR zy 5) = zI_4 (zR zy 5) from by rw [← uzI_12]; exact u2_a (tne t_13 t_zy (by decide)))]; exact fr_38
        have fr_40 : FRM (zI (zR zy 5)) (zI_17 (zR zy 5)) (zia.toInt) (zia.toInt + 2) := by rw [(k_zI_17.2.row t_13 (by decide) (by decide))]; exact fr_39
        have fr_41 : FRM (zI (zR zy 5)) (zI_25 (zR zy 5)) (zia.toInt) (zia.toInt + 2) := by rw [(show zI_25 (zR zy 5) = zI_17 (zR zy 5) from by rw [← uzI_25]; exact u2_a (tne t_13 t_zy (by decide)))]; exact fr_40
        have fr_42 : FRM (zI (zR zy 5)) (zI_29 (zR zy 5)) (zia.toInt) (zia.toInt + 2) := by rw [(k_zI_29.2.row t_13 (by decide) (by decide))]; exact fr_41
        have fr_43 : FRM (zI (zR zy 5)) (zI_33 (zR zy 5)) (zia.toInt) (zia.toInt + 2) := by rw [← uzI_33, u2_r]; exact FRM.up fr_42 (by omega)
        have fr_44 : FRM (zI (zR zy 5)) (zI_35 (zR zy 5)) (zia.toInt) (zia.toInt + 2) := by rw [← uzI_35, u2_r]; exact FRM.up fr_43 (by omega)
        have fr_45 : FRM (zI (zR zy 5)) (zI_37 (zR zy 5)) (zia.toInt) (zia.toInt + 2) := by rw [← uzI_37, u2_r]; exact FRM.up fr_44 (by omega)
        exact W.zret (v := (1 : Int32)) hx hb hr rfl (fun t ht hW => ⟨⟨(1 : Int32), zI_37, rfl, ⟨h_zI_37, (show 0 ≤ (1 : Int32).toInt ∧ (1 : Int32).toInt ≤ 1 from by omega), (show FRM (zI (zR zy 5)) (zI_37 (zR zy 5)) (zia.toInt) (zia.toInt + 2) from fr_45)⟩, ⟨by rw [ht]; exact hP, va_K.moved hW.alike hK, hD⟩⟩, hS.F ht⟩) hS.2.2 dX11_readCondition_113
      · have f_32 : ¬ (zi_26.toInt ≥ 0) := ic_nge (rfl) (by decide) c_31
        refine lv_iconst (v := 0) hx hb dX11_readCondition_84 (by decide) ?_
        subst hQ
        have fr_46 : FRM (zI (zR zy 5)) (zI_4 (zR zy 5)) (zia.toInt) (zia.toInt + 2) := by rw [(k_zI_4.2.row t_13 (by decide) (by decide))]; exact FRM.rf
        have fr_47 : FRM (zI (zR zy 5)) (zI_12 (zR zy 5)) (zia.toInt) (zia.toInt + 2) := by rw [(show zI_12 (zR zy 5) = zI_4 (zR zy 5) from by rw [← uzI_12]; exact u2_a (tne t_13 t_zy (by decide)))]; exact fr_46
        have fr_48 : FRM (zI (zR zy 5)) (zI_17 (zR zy 5)) (zia.toInt) (zia.toInt + 2) := by rw [(k_zI_17.2.row t_13 (by decide) (by decide))]; exact fr_47
        have fr_49 : FRM (zI (zR zy 5)) (zI_25 (zR zy 5)) (zia.toInt) (zia.toInt + 2) := by rw [(show zI_25 (zR zy 5) = zI_17 (zR zy 5) from by rw [← uzI_25]; exact u2_a (tne t_13 t_zy (by decide)))]; exact fr_48
        have fr_50 : FRM (zI (zR zy 5)) (zI_29 (zR zy 5)) (zia.toInt) (zia.toInt + 2) := by rw [(k_zI_29.2.row t_13 (by decide) (by decide))]; exact fr_49
        exact W.zret (v := (0 : Int32)) hx hb hr rfl (fun t ht hW => ⟨⟨(0 : Int32), zI_29, rfl, ⟨h_zI_29, (show 0 ≤ (0 : Int32).toInt ∧ (0 : Int32).toInt ≤ 1 from by omega), (show FRM (zI (zR zy 5)) (zI_29 (zR zy 5)) (zia.toInt) (zia.toInt + 2) from fr_50)⟩, ⟨by rw [ht]; exact hP, va_K.moved hW.alike hK, hD⟩⟩, hS.F ht⟩) hS.2.2 dX11_readCondition_85
    · have f_22 : ¬ (zi_14.toInt = (60 : Int)) := ic_neq (rfl) (show (60 : Int32).toInt = 60 by decide) c_21
      refine lv_iload_n hx hb dX11_readCondition_46 rfl (lv_at hl 0 rfl) ?_
      refine lv_bipush (v := 62) hx hb dX11_readCondition_47 (by decide) ?_
      refine lv_icmp_eq (tgt := 60) hx hb dX11_readCondition_49 (by decide) (fun c_51 => ?_) (fun c_51 => ?_)
      · have f_52 : zi_14.toInt = (62 : Int) := ic_eq (rfl) (show (62 : Int32).toInt = 62 by decide) c_51
        refine lv_aload_n hx hb dX11_readCondition_60 rfl (lv_at hl 2 rfl) ?_
        refine lv_dup hx hb dX11_readCondition_61 rfl ?_
        refine ht_geti (C := RX11) (T := TX11) (N := 28) hx hb hts (by decide +kernel) hown hK hP hs t_zy (by decide) rfl rfl 3 (by decide) (hts (.fieldLink RX11 116 "DripStoneModel" "at" "I") (by decide +kernel)) (fun _ h9 => h9) rfl dX11_readCondition_62 ?_
        refine lv_topi (fun zi_53 ezi_53 => ?_)
        obtain rfl : zi_19 = zi_53 := (ezi_53.trans ezi_19.symm).symm
        refine lv_iconst (v := 1) hx hb dX11_readCondition_65 (by decide) ?_
        refine lv_iadd hx hb dX11_readCondition_66 ?_
        refine lv_topi (fun zi_54 ezi_54 => ?_)
        have tzi_54 : zi_54.toInt = zi_19.toInt + (1 : Int) := by rw [ezi_54]; exact tiadd (rfl) (show (1 : Int32).toInt = 1 by decide) (by omega) (by omega)
        refine ht_puti (v := zi_54) (ty := .int) (C := RX11) (T := TX11) (N := 28) hx hb hts (by decide +kernel) tyX11 tyX11_ok nmX11 hown hK hP hD hS hs t_zy (by decide) rfl rfl 3 (by decide) (hts (.fieldLink RX11 116 "DripStoneModel" "at" "I") (by decide +kernel)) (fun _ h9 => h9) rfl (by decide +kernel) rfl rfl rfl dX11_readCondition_67 (fun H locs hP hD hS => ?_)
        have h_zI_55 : WM [1803, 10200] AL zT zR zI (u2 zI_17 zy 3 zi_54) := h_zI_17.put hs t_zy rfl (by omega) (by decide) (fun h => absurd h (by decide)) (by decide) trivial
        generalize uzI_55 : u2 zI_17 zy 3 zi_54 = zI_55 at hP hD h_zI_55
        refine lv_aload_n hx hb dX11_readCondition_70 rfl (lv_at hl 2 rfl) ?_
        refine lv_iconst (v := 0) hx hb dX11_readCondition_71 (by decide) ?_
        refine lv_bipush (v := 99) hx hb dX11_readCondition_72 (by decide) ?_
        have qc_0 : (0 : Int32).toInt = 0 := by decide
        have qc_99 : (99 : Int32).toInt = 99 := by decide
        refine hj_i (ws := (WL cy zL zT zR zI_55 zJ)) (w1 := fun (u : (Nat → Nat → Int32)) => (WL cy zL zT zR u zJ)) (va_runV (As := [.int 0, .int 99]) (rest := []) ⟨hx, hb, hml, hown, hts⟩ (t_X11_readNumber l dC dI cy H.size zL zT zR zI_55 zJ zy (0 : Int32) (99 : Int32) hs h_zI_55.1 t_zy (by decide) (by decide)) (cwV 2 hts gX11_readCondition_X11_readNumber rfl rfl rfl (by decide +kernel) ⟨(Nat.le_of_ble_eq_true rfl), (Nat.le_of_ble_eq_true rfl)⟩) (PRE.v hP hK hD hN (ht_recv hK hP hs t_zy (by decide) rfl rfl)) rfl rfl hl.1 rfl (lv_room (Nat.le_of_ble_eq_true rfl)) dX11_readCondition_74 ⟨(Nat.le_of_ble_eq_true rfl), (Nat.le_of_ble_eq_true rfl)⟩) hP hD hS hA (fun zi_56 zI_59 H locs hw_57 hP hD hS => ?_)
        obtain ⟨k_zI_59, b_zi_56, ps_60⟩ : (WM [1803] AL zT zR zI_55 zI_59) ∧ ((-1) ≤ zi_56.toInt) ∧ (zi_56.toInt = -1 ∨ ((0 : Int32).toInt ≤ zi_56.toInt ∧ zi_56.toInt ≤ (99 : Int32).toInt)) := hw_57
        have h_zI_59 : WM [1803, 10200] AL zT zR zI zI_59 := h_zI_55.tr k_zI_59 (by decide) (fun _ _ => trivial)
        have b8_zi_56 : (-1) ≤ zi_56.toInt ∧ zi_56.toInt ≤ 99 := by omega
        refine lv_istore (lv' := [(4, .int zi_56), (3, .int zi_14), (2, .int zi_1), (0, .ref zy), (1, .int zia)]) hx hb dX11_readCondition_77 hl (by decide) rfl (fun ls hl => ?_)
        refine lv_iload hx hb dX11_readCondition_79 (lv_at hl 0 rfl) ?_
        refine lv_if_ge (tgt := 86) hx hb dX11_readCondition_81 (by decide) (fun c_61 => ?_) (fun c_61 => ?_)
        · have f_62 : zi_56.toInt ≥ 0 := ic_ge (rfl) (by decide) c_61
          refine lv_aload_n hx hb dX11_readCondition_86 rfl (lv_at hl 3 rfl) ?_
          refine ht_getr (C := RX11) (T := TX11) (N := 28) hx hb hts (by decide +kernel) hown hK hP hs t_zy (by decide) rfl rfl 5 (by decide) (hts (.fieldLink RX11 16 "DripStoneModel" "read" "[I") (by decide +kernel)) (fun _ h9 => h9) rfl dX11_readCondition_87 ?_
          refine lv_iload_n hx hb dX11_readCondition_90 rfl (lv_at hl 4 rfl) ?_
          refine lv_iload_n hx hb dX11_readCondition_91 rfl (lv_at hl 2 rfl) ?_
          refine ht_iast (v := zi_1) (n := 66) (q := 0) hx hb hK hP hD hS hs t_13 (by decide) rfl rfl ⟨by omega, by omega⟩ dX11_readCondition_92 (fun H locs hP hD hS => ?_)
          have h_zI_63 : WM [1803, 10200] AL zT zR zI (u2 zI_59 (zR zy 5) zia.toNatClampNeg zi_1) := h_zI_59.putA hs t_13 rfl (rgF _) (by decide) (fun h => absurd h (by decide)) (by decide) trivial
          generalize uzI_63 : u2 zI_59 (zR zy 5) zia.toNatClampNeg zi_1 = zI_63 at hP hD h_zI_63
          refine lv_aload_n hx hb dX11_readCondition_93 rfl (lv_at hl 3 rfl) ?_
          refine ht_getr (C := RX11) (T := TX11) (N := 28) hx hb hts (by decide +kernel) hown hK hP hs t_zy (by decide) rfl rfl 5 (by decide) (hts (.fieldLink RX11 16 "DripStoneModel" "read" "[I") (by decide +kernel)) (fun _ h9 => h9) rfl dX11_readCondition_94 ?_
          refine lv_iload_n hx hb dX11_readCondition_97 rfl (lv_at hl 4 rfl) ?_
          refine lv_iconst (v := 1) hx hb dX11_readCondition_98 (by decide) ?_
          refine lv_iadd hx hb dX11_readCondition_99 ?_
          refine lv_topi (fun zi_64 ezi_64 => ?_)
          have tzi_64 : zi_64.toInt = zia.toInt + (1 : Int) := by rw [ezi_64]; exact tiadd (rfl) (show (1 : Int32).toInt = 1 by decide) (by omega) (by omega)
          refine lv_iload_n hx hb dX11_readCondition_100 rfl (lv_at hl 1 rfl) ?_
          refine ht_iast (v := zi_14) (n := 66) (q := 0) hx hb hK hP hD hS hs t_13 (by decide) rfl rfl ⟨by omega, by omega⟩ dX11_readCondition_101 (fun H locs hP hD hS => ?_)
          have h_zI_65 : WM [1803, 10200] AL zT zR zI (u2 zI_63 (zR zy 5) zi_64.toNatClampNeg zi_14) := h_zI_63.putA hs t_13 rfl (rgF _) (by decide) (fun h => absurd h (by decide)) (by decide) trivial
          generalize uzI_65 : u2 zI_63 (zR zy 5) zi_64.toNatClampNeg zi_14 = zI_65 at hP hD h_zI_65
          refine lv_aload_n hx hb dX11_readCondition_102 rfl (lv_at hl 3 rfl) ?_
          refine ht_getr (C := RX11) (T := TX11) (N := 28) hx hb hts (by decide +kernel) hown hK hP hs t_zy (by decide) rfl rfl 5 (by decide) (hts (.fieldLink RX11 16 "DripStoneModel" "read" "[I") (by decide +kernel)) (fun _ h9 => h9) rfl dX11_readCondition_103 ?_
          refine lv_iload_n hx hb dX11_readCondition_106 rfl (lv_at hl 4 rfl) ?_
          refine lv_iconst (v := 2) hx hb dX11_readCondition_107 (by decide) ?_
          refine lv_iadd hx hb dX11_readCondition_108 ?_
          refine lv_topi (fun zi_66 ezi_66 => ?_)
          have tzi_66 : zi_66.toInt = zia.toInt + (2 : Int) := by rw [ezi_66]; exact tiadd (rfl) (show (2 : Int32).toInt = 2 by decide) (by omega) (by omega)
          refine lv_iload hx hb dX11_readCondition_109 (lv_at hl 0 rfl) ?_
          refine ht_iast (v := zi_56) (n := 66) (q := 0) hx hb hK hP hD hS hs t_13 (by decide) rfl rfl ⟨by omega, by omega⟩ dX11_readCondition_111 (fun H locs hP hD hS => ?_)
          have h_zI_67 : WM [1803, 10200] AL zT zR zI (u2 zI_65 (zR zy 5) zi_66.toNatClampNeg zi_56) := h_zI_65.putA hs t_13 rfl (rgF _) (by decide) (fun h => absurd h (by decide)) (by decide) trivial
          generalize uzI_67 : u2 zI_65 (zR zy 5) zi_66.toNatClampNeg zi_56 = zI_67 at hP hD h_zI_67
          refine lv_iconst (v := 1) hx hb dX11_readCondition_112 (by decide) ?_
          subst hQ
          have qc_1 : (1 : Int32).toInt = 1 := by decide
          have fr_68 : FRM (zI (zR zy 5)) (zI_4 (zR zy 5)) (zia.toInt) (zia.toInt + 2) := by rw [(k_zI_4.2.row t_13 (by decide) (by decide))]; exact FRM.rf
          have fr_69 : FRM (zI (zR zy 5)) (zI_12 (zR zy 5)) (zia.toInt) (zia.toInt + 2) := by rw [(show zI_12 (zR zy 5) = zI_4 (zR zy 5) from by rw [← uzI_12]; exact u2_a (tne t_13 t_zy (by decide)))]; exact fr_68
          have fr_70 : FRM (zI (zR zy 5)) (zI_17 (zR zy 5)) (zia.toInt) (zia.toInt + 2) := by rw [(k_zI_17.2.row t_13 (by decide) (by decide))]; exact fr_69
          have fr_71 : FRM (zI (zR zy 5)) (zI_55 (zR zy 5)) (zia.toInt) (zia.toInt + 2) := by rw [(show zI_55 (zR zy 5) = zI_17 (zR zy 5) from by rw [← uzI_55]; exact u2_a (tne t_13 t_zy (by decide)))]; exact fr_70
          have fr_72 : FRM (zI (zR zy 5)) (zI_59 (zR zy 5)) (zia.toInt) (zia.toInt + 2) := by rw [(k_zI_59.2.row t_13 (by decide) (by decide))]; exact fr_71
          have fr_73 : FRM (zI (zR zy 5)) (zI_63 (zR zy 5)) (zia.toInt) (zia.toInt + 2) := by rw [← uzI_63, u2_r]; exact FRM.up fr_72 (by omega)
          have fr_74 : FRM (zI (zR zy 5)) (zI_65 (zR zy 5)) (zia.toInt) (zia.toInt + 2) := by rw [← uzI_65, u2_r]; exact FRM.up fr_73 (by omega)
          have fr_75 : FRM (zI (zR zy 5)) (zI_67 (zR zy 5)) (zia.toInt) (zia.toInt + 2) := by rw [← uzI_67, u2_r]; exact FRM.up fr_74 (by omega)
          exact W.zret (v := (1 : Int32)) hx hb hr rfl (fun t ht hW => ⟨⟨(1 : Int32), zI_67, rfl, ⟨h_zI_67, (show 0 ≤ (1 : Int32).toInt ∧ (1 : Int32).toInt ≤ 1 from by omega), (show FRM (zI (zR zy 5)) (zI_67 (zR zy 5)) (zia.toInt) (zia.toInt + 2) from fr_75)⟩, ⟨by rw [ht]; exact hP, va_K.moved hW.alike hK, hD⟩⟩, hS.F ht⟩) hS.2.2 dX11_readCondition_113
        · have f_62 : ¬ (zi_56.toInt ≥ 0) := ic_nge (rfl) (by decide) c_61
          refine lv_iconst (v := 0) hx hb dX11_readCondition_84 (by decide) ?_
          subst hQ
          have fr_76 : FRM (zI (zR zy 5)) (zI_4 (zR zy 5)) (zia.toInt) (zia.toInt + 2) := by rw [(k_zI_4.2.row t_13 (by decide) (by decide))]; exact FRM.rf
          have fr_77 : FRM (zI (zR zy 5)) (zI_12 (zR zy 5)) (zia.toInt) (zia.toInt + 2) := by rw [(show zI_12 (zR zy 5) = zI_4 (zR zy 5) from by rw [← uzI_12]; exact u2_a (tne t_13 t_zy (by decide)))]; exact fr_76
          have fr_78 : FRM (zI (zR zy 5)) (zI_17 (zR zy 5)) (zia.toInt) (zia.toInt + 2) := by rw [(k_zI_17.2.row t_13 (by decide) (by decide))]; exact fr_77
          have fr_79 : FRM (zI (zR zy 5)) (zI_55 (zR zy 5)) (zia.toInt) (zia.toInt + 2) := by rw [(show zI_55 (zR zy 5) = zI_17 (zR zy 5) from by rw [← uzI_55]; exact u2_a (tne t_13 t_zy (by decide)))]; exact fr_78
          have fr_80 : FRM (zI (zR zy 5)) (zI_59 (zR zy 5)) (zia.toInt) (zia.toInt + 2) := by rw [(k_zI_59.2.row t_13 (by decide) (by decide))]; exact fr_79
          exact W.zret (v := (0 : Int32)) hx hb hr rfl (fun t ht hW => ⟨⟨(0 : Int32), zI_59, rfl, ⟨h_zI_59, (show 0 ≤ (0 : Int32).toInt ∧ (0 : Int32).toInt ≤ 1 from by omega), (show FRM (zI (zR zy 5)) (zI_59 (zR zy 5)) (zia.toInt) (zia.toInt + 2) from fr_80)⟩, ⟨by rw [ht]; exact hP, va_K.moved hW.alike hK, hD⟩⟩, hS.F ht⟩) hS.2.2 dX11_readCondition_85
      · have f_52 : ¬ (zi_14.toInt = (62 : Int)) := ic_neq (rfl) (show (62 : Int32).toInt = 62 by decide) c_51
        refine lv_iload_n hx hb dX11_readCondition_52 rfl (lv_at hl 0 rfl) ?_
        refine lv_bipush (v := 61) hx hb dX11_readCondition_53 (by decide) ?_
        refine lv_icmp_eq (tgt := 60) hx hb dX11_readCondition_55 (by decide) (fun c_81 => ?_) (fun c_81 => ?_)
        · have f_82 : zi_14.toInt = (61 : Int) := ic_eq (rfl) (show (61 : Int32).toInt = 61 by decide) c_81
          refine lv_aload_n hx hb dX11_readCondition_60 rfl (lv_at hl 2 rfl) ?_
          refine lv_dup hx hb dX11_readCondition_61 rfl ?_
          refine ht_geti (C := RX11) (T := TX11) (N := 28) hx hb hts (by decide +kernel) hown hK hP hs t_zy (by decide) rfl rfl 3 (by decide) (hts (.fieldLink RX11 116 "DripStoneModel" "at" "I") (by decide +kernel)) (fun _ h9 => h9) rfl dX11_readCondition_62 ?_
          refine lv_topi (fun zi_83 ezi_83 => ?_)
          obtain rfl : zi_19 = zi_83 := (ezi_83.trans ezi_19.symm).symm
          refine lv_iconst (v := 1) hx hb dX11_readCondition_65 (by decide) ?_
          refine lv_iadd hx hb dX11_readCondition_66 ?_
          refine lv_topi (fun zi_84 ezi_84 => ?_)
          have tzi_84 : zi_84.toInt = zi_19.toInt + (1 : Int) := by rw [ezi_84]; exact tiadd (rfl) (show (1 : Int32).toInt = 1 by decide) (by omega) (by omega)
          refine ht_puti (v := zi_84) (ty := .int) (C := RX11) (T := TX11) (N := 28) hx hb hts (by decide +kernel) tyX11 tyX11_ok nmX11 hown hK hP hD hS hs t_zy (by decide) rfl rfl 3 (by decide) (hts (.fieldLink RX11 116 "DripStoneModel" "at" "I") (by decide +kernel)) (fun _ h9 => h9) rfl (by decide +kernel) rfl rfl rfl dX11_readCondition_67 (fun H locs hP hD hS => ?_)
          have h_zI_85 : WM [1803, 10200] AL zT zR zI (u2 zI_17 zy 3 zi_84) := h_zI_17.put hs t_zy rfl (by omega) (by decide) (fun h => absurd h (by decide)) (by decide) trivial
          generalize uzI_85 : u2 zI_17 zy 3 zi_84 = zI_85 at hP hD h_zI_85
          refine lv_aload_n hx hb dX11_readCondition_70 rfl (lv_at hl 2 rfl) ?_
          refine lv_iconst (v := 0) hx hb dX11_readCondition_71 (by decide) ?_
          refine lv_bipush (v := 99) hx hb dX11_readCondition_72 (by decide) ?_
          have qc_0 : (0 : Int32).toInt = 0 := by decide
          have qc_99 : (99 : Int32).toInt = 99 := by decide
          refine hj_i (ws := (WL cy zL zT zR zI_85 zJ)) (w1 := fun (u : (Nat → Nat → Int32)) => (WL cy zL zT zR u zJ)) (va_runV (As := [.int 0, .int 99]) (rest := []) ⟨hx, hb, hml, hown, hts⟩ (t_X11_readNumber l dC dI cy H.size zL zT zR zI_85 zJ zy (0 : Int32) (99 : Int32) hs h_zI_85.1 t_zy (by decide) (by decide)) (cwV 2 hts gX11_readCondition_X11_readNumber rfl rfl rfl (by decide +kernel) ⟨(Nat.le_of_ble_eq_true rfl), (Nat.le_of_ble_eq_true rfl)⟩) (PRE.v hP hK hD hN (ht_recv hK hP hs t_zy (by decide) rfl rfl)) rfl rfl hl.1 rfl (lv_room (Nat.le_of_ble_eq_true rfl)) dX11_readCondition_74 ⟨(Nat.le_of_ble_eq_true rfl), (Nat.le_of_ble_eq_true rfl)⟩) hP hD hS hA (fun zi_86 zI_89 H locs hw_87 hP hD hS => ?_)
          obtain ⟨k_zI_89, b_zi_86, ps_90⟩ : (WM [1803] AL zT zR zI_85 zI_89) ∧ ((-1) ≤ zi_86.toInt) ∧ (zi_86.toInt = -1 ∨ ((0 : Int32).toInt ≤ zi_86.toInt ∧ zi_86.toInt ≤ (99 : Int32).toInt)) := hw_87
          have h_zI_89 : WM [1803, 10200] AL zT zR zI zI_89 := h_zI_85.tr k_zI_89 (by decide) (fun _ _ => trivial)
          have b8_zi_86 : (-1) ≤ zi_86.toInt ∧ zi_86.toInt ≤ 99 := by omega
          refine lv_istore (lv' := [(4, .int zi_86), (3, .int zi_14), (2, .int zi_1), (0, .ref zy), (1, .int zia)]) hx hb dX11_readCondition_77 hl (by decide) rfl (fun ls hl => ?_)
          refine lv_iload hx hb dX11_readCondition_79 (lv_at hl 0 rfl) ?_
          refine lv_if_ge (tgt := 86) hx hb dX11_readCondition_81 (by decide) (fun c_91 => ?_) (fun c_91 => ?_)
          · have f_92 : zi_86.toInt ≥ 0 := ic_ge (rfl) (by decide) c_91
            refine lv_aload_n hx hb dX11_readCondition_86 rfl (lv_at hl 3 rfl) ?_
            refine ht_getr (C := RX11) (T := TX11) (N := 28) hx hb hts (by decide +kernel) hown hK hP hs t_zy (by decide) rfl rfl 5 (by decide) (hts (.fieldLink RX11 16 "DripStoneModel" "read" "[I") (by decide +kernel)) (fun _ h9 => h9) rfl dX11_readCondition_87 ?_
            refine lv_iload_n hx hb dX11_readCondition_90 rfl (lv_at hl 4 rfl) ?_
            refine lv_iload_n hx hb dX11_readCondition_91 rfl (lv_at hl 2 rfl) ?_
            refine ht_iast (v := zi_1) (n := 66) (q := 0) hx hb hK hP hD hS hs t_13 (by decide) rfl rfl ⟨by omega, by omega⟩ dX11_readCondition_92 (fun H locs hP hD hS => ?_)
            have h_zI_93 : WM [1803, 10200] AL zT zR zI (u2 zI_89 (zR zy 5) zia.toNatClampNeg zi_1) := h_zI_89.putA hs t_13 rfl (rgF _) (by decide) (fun h => absurd h (by decide)) (by decide) trivial
            generalize uzI_93 : u2 zI_89 (zR zy 5) zia.toNatClampNeg zi_1 = zI_93 at hP hD h_zI_93
            refine lv_aload_n hx hb dX11_readCondition_93 rfl (lv_at hl 3 rfl) ?_
            refine ht_getr (C := RX11) (T := TX11) (N := 28) hx hb hts (by decide +kernel) hown hK hP hs t_zy (by decide) rfl rfl 5 (by decide) (hts (.fieldLink RX11 16 "DripStoneModel" "read" "[I") (by decide +kernel)) (fun _ h9 => h9) rfl dX11_readCondition_94 ?_
            refine lv_iload_n hx hb dX11_readCondition_97 rfl (lv_at hl 4 rfl) ?_
            refine lv_iconst (v := 1) hx hb dX11_readCondition_98 (by decide) ?_
            refine lv_iadd hx hb dX11_readCondition_99 ?_
            refine lv_topi (fun zi_94 ezi_94 => ?_)
            have tzi_94 : zi_94.toInt = zia.toInt + (1 : Int) := by rw [ezi_94]; exact tiadd (rfl) (show (1 : Int32).toInt = 1 by decide) (by omega) (by omega)
            refine lv_iload_n hx hb dX11_readCondition_100 rfl (lv_at hl 1 rfl) ?_
            refine ht_iast (v := zi_14) (n := 66) (q := 0) hx hb hK hP hD hS hs t_13 (by decide) rfl rfl ⟨by omega, by omega⟩ dX11_readCondition_101 (fun H locs hP hD hS => ?_)
            have h_zI_95 : WM [1803, 10200] AL zT zR zI (u2 zI_93 (zR zy 5) zi_94.toNatClampNeg zi_14) := h_zI_93.putA hs t_13 rfl (rgF _) (by decide) (fun h => absurd h (by decide)) (by decide) trivial
            generalize uzI_95 : u2 zI_93 (zR zy 5) zi_94.toNatClampNeg zi_14 = zI_95 at hP hD h_zI_95
            refine lv_aload_n hx hb dX11_readCondition_102 rfl (lv_at hl 3 rfl) ?_
            refine ht_getr (C := RX11) (T := TX11) (N := 28) hx hb hts (by decide +kernel) hown hK hP hs t_zy (by decide) rfl rfl 5 (by decide) (hts (.fieldLink RX11 16 "DripStoneModel" "read" "[I") (by decide +kernel)) (fun _ h9 => h9) rfl dX11_readCondition_103 ?_
            refine lv_iload_n hx hb dX11_readCondition_106 rfl (lv_at hl 4 rfl) ?_
            refine lv_iconst (v := 2) hx hb dX11_readCondition_107 (by decide) ?_
            refine lv_iadd hx hb dX11_readCondition_108 ?_
            refine lv_topi (fun zi_96 ezi_96 => ?_)
            have tzi_96 : zi_96.toInt = zia.toInt + (2 : Int) := by rw [ezi_96]; exact tiadd (rfl) (show (2 : Int32).toInt = 2 by decide) (by omega) (by omega)
            refine lv_iload hx hb dX11_readCondition_109 (lv_at hl 0 rfl) ?_
            refine ht_iast (v := zi_86) (n := 66) (q := 0) hx hb hK hP hD hS hs t_13 (by decide) rfl rfl ⟨by omega, by omega⟩ dX11_readCondition_111 (fun H locs hP hD hS => ?_)
            have h_zI_97 : WM [1803, 10200] AL zT zR zI (u2 zI_95 (zR zy 5) zi_96.toNatClampNeg zi_86) := h_zI_95.putA hs t_13 rfl (rgF _) (by decide) (fun h => absurd h (by decide)) (by decide) trivial
            generalize uzI_97 : u2 zI_95 (zR zy 5) zi_96.toNatClampNeg zi_86 = zI_97 at hP hD h_zI_97
            refine lv_iconst (v := 1) hx hb dX11_readCondition_112 (by decide) ?_
            subst hQ
            have qc_1 : (1 : Int32).toInt = 1 := by decide
            have fr_98 : FRM (zI (zR zy 5)) (zI_4 (zR zy 5)) (zia.toInt) (zia.toInt + 2) := by rw [(k_zI_4.2.row t_13 (by decide) (by decide))]; exact FRM.rf
            have fr_99 : FRM (zI (zR zy 5)) (zI_12 (zR zy 5)) (zia.toInt) (zia.toInt + 2) := by rw [(show zI_12 (zR zy 5) = zI_4 (zR zy 5) from by rw [← uzI_12]; exact u2_a (tne t_13 t_zy (by decide)))]; exact fr_98
            have fr_100 : FRM (zI (zR zy 5)) (zI_17 (zR zy 5)) (zia.toInt) (zia.toInt + 2) := by rw [(k_zI_17.2.row t_13 (by decide) (by decide))]; exact fr_99
            have fr_101 : FRM (zI (zR zy 5)) (zI_85 (zR zy 5)) (zia.toInt) (zia.toInt + 2) := by rw [(show zI_85 (zR zy 5) = zI_17 (zR zy 5) from by rw [← uzI_85]; exact u2_a (tne t_13 t_zy (by decide)))]; exact fr_100
            have fr_102 : FRM (zI (zR zy 5)) (zI_89 (zR zy 5)) (zia.toInt) (zia.toInt + 2) := by rw [(k_zI_89.2.row t_13 (by decide) (by decide))]; exact fr_101
            have fr_103 : FRM (zI (zR zy 5)) (zI_93 (zR zy 5)) (zia.toInt) (zia.toInt + 2) := by rw [← uzI_93, u2_r]; exact FRM.up fr_102 (by omega)
            have fr_104 : FRM (zI (zR zy 5)) (zI_95 (zR zy 5)) (zia.toInt) (zia.toInt + 2) := by rw [← uzI_95, u2_r]; exact FRM.up fr_103 (by omega)
            have fr_105 : FRM (zI (zR zy 5)) (zI_97 (zR zy 5)) (zia.toInt) (zia.toInt + 2) := by rw [← uzI_97, u2_r]; exact FRM.up fr_104 (by omega)
            exact W.zret (v := (1 : Int32)) hx hb hr rfl (fun t ht hW => ⟨⟨(1 : Int32), zI_97, rfl, ⟨h_zI_97, (show 0 ≤ (1 : Int32).toInt ∧ (1 : Int32).toInt ≤ 1 from by omega), (show FRM (zI (zR zy 5)) (zI_97 (zR zy 5)) (zia.toInt) (zia.toInt + 2) from fr_105)⟩, ⟨by rw [ht]; exact hP, va_K.moved hW.alike hK, hD⟩⟩, hS.F ht⟩) hS.2.2 dX11_readCondition_113
          · have f_92 : ¬ (zi_86.toInt ≥ 0) := ic_nge (rfl) (by decide) c_91
            refine lv_iconst (v := 0) hx hb dX11_readCondition_84 (by decide) ?_
            subst hQ
            have fr_106 : FRM (zI (zR zy 5)) (zI_4 (zR zy 5)) (zia.toInt) (zia.toInt + 2) := by rw [(k_zI_4.2.row t_13 (by decide) (by decide))]; exact FRM.rf
            have fr_107 : FRM (zI (zR zy 5)) (zI_12 (zR zy 5)) (zia.toInt) (zia.toInt + 2) := by rw [(show zI_12 (zR zy 5) = zI_4 (zR zy 5) from by rw [← uzI_12]; exact u2_a (tne t_13 t_zy (by decide)))]; exact fr_106
            have fr_108 : FRM (zI (zR zy 5)) (zI_17 (zR zy 5)) (zia.toInt) (zia.toInt + 2) := by rw [(k_zI_17.2.row t_13 (by decide) (by decide))]; exact fr_107
            have fr_109 : FRM (zI (zR zy 5)) (zI_85 (zR zy 5)) (zia.toInt) (zia.toInt + 2) := by rw [(show zI_85 (zR zy 5) = zI_17 (zR zy 5) from by rw [← uzI_85]; exact u2_a (tne t_13 t_zy (by decide)))]; exact fr_108
            have fr_110 : FRM (zI (zR zy 5)) (zI_89 (zR zy 5)) (zia.toInt) (zia.toInt + 2) := by rw [(k_zI_89.2.row t_13 (by decide) (by decide))]; exact fr_109
            exact W.zret (v := (0 : Int32)) hx hb hr rfl (fun t ht hW => ⟨⟨(0 : Int32), zI_89, rfl, ⟨h_zI_89, (show 0 ≤ (0 : Int32).toInt ∧ (0 : Int32).toInt ≤ 1 from by omega), (show FRM (zI (zR zy 5)) (zI_89 (zR zy 5)) (zia.toInt) (zia.toInt + 2) from fr_110)⟩, ⟨by rw [ht]; exact hP, va_K.moved hW.alike hK, hD⟩⟩, hS.F ht⟩) hS.2.2 dX11_readCondition_85
        · have f_82 : ¬ (zi_14.toInt = (61 : Int)) := ic_neq (rfl) (show (61 : Int32).toInt = 61 by decide) c_81
          refine lv_iconst (v := 0) hx hb dX11_readCondition_58 (by decide) ?_
          subst hQ
          have qc_0 : (0 : Int32).toInt = 0 := by decide
          have fr_111 : FRM (zI (zR zy 5)) (zI_4 (zR zy 5)) (zia.toInt) (zia.toInt + 2) := by rw [(k_zI_4.2.row t_13 (by decide) (by decide))]; exact FRM.rf
          have fr_112 : FRM (zI (zR zy 5)) (zI_12 (zR zy 5)) (zia.toInt) (zia.toInt + 2) := by rw [(show zI_12 (zR zy 5) = zI_4 (zR zy 5) from by rw [← uzI_12]; exact u2_a (tne t_13 t_zy (by decide)))]; exact fr_111
          have fr_113 : FRM (zI (zR zy 5)) (zI_17 (zR zy 5)) (zia.toInt) (zia.toInt + 2) := by rw [(k_zI_17.2.row t_13 (by decide) (by decide))]; exact fr_112
          exact W.zret (v := (0 : Int32)) hx hb hr rfl (fun t ht hW => ⟨⟨(0 : Int32), zI_17, rfl, ⟨h_zI_17, (show 0 ≤ (0 : Int32).toInt ∧ (0 : Int32).toInt ≤ 1 from by omega), (show FRM (zI (zR zy 5)) (zI_17 (zR zy 5)) (zia.toInt) (zia.toInt + 2) from fr_113)⟩, ⟨by rw [ht]; exact hP, va_K.moved hW.alike hK, hD⟩⟩, hS.F ht⟩) hS.2.2 dX11_readCondition_59
  · have f_9 : ¬ (zi_1.toInt = (97 : Int)) := ic_neq (rfl) (show (97 : Int32).toInt = 97 by decide) c_8
    refine lv_iload_n hx hb dX11_readCondition_11 rfl (lv_at hl 0 rfl) ?_
    refine lv_bipush (v := 104) hx hb dX11_readCondition_12 (by decide) ?_
    refine lv_icmp_eq (tgt := 25) hx hb dX11_readCondition_14 (by decide) (fun c_114 => ?_) (fun c_114 => ?_)
    · have f_115 : zi_1.toInt = (104 : Int) := ic_eq (rfl) (show (104 : Int32).toInt = 104 by decide) c_114
      refine lv_aload_n hx hb dX11_readCondition_25 rfl (lv_at hl 1 rfl) ?_
      refine lv_dup hx hb dX11_readCondition_26 rfl ?_
      refine ht_geti (C := RX11) (T := TX11) (N := 28) hx hb hts (by decide +kernel) hown hK hP hs t_zy (by decide) rfl rfl 3 (by decide) (hts (.fieldLink RX11 116 "DripStoneModel" "at" "I") (by decide +kernel)) (fun _ h9 => h9) rfl dX11_readCondition_27 ?_
      refine lv_topi (fun zi_116 ezi_116 => ?_)
      obtain rfl : zi_6 = zi_116 := (ezi_116.trans ezi_6.symm).symm
      refine lv_iconst (v := 1) hx hb dX11_readCondition_30 (by decide) ?_
      refine lv_iadd hx hb dX11_readCondition_31 ?_
      refine lv_topi (fun zi_117 ezi_117 => ?_)
      have tzi_117 : zi_117.toInt = zi_6.toInt + (1 : Int) := by rw [ezi_117]; exact tiadd (rfl) (show (1 : Int32).toInt = 1 by decide) (by omega) (by omega)
      refine ht_puti (v := zi_117) (ty := .int) (C := RX11) (T := TX11) (N := 28) hx hb hts (by decide +kernel) tyX11 tyX11_ok nmX11 hown hK hP hD hS hs t_zy (by decide) rfl rfl 3 (by decide) (hts (.fieldLink RX11 116 "DripStoneModel" "at" "I") (by decide +kernel)) (fun _ h9 => h9) rfl (by decide +kernel) rfl rfl rfl dX11_readCondition_32 (fun H locs hP hD hS => ?_)
      have h_zI_118 : WM [1803, 10200] AL zT zR zI (u2 zI_4 zy 3 zi_117) := h_zI_4.put hs t_zy rfl (by omega) (by decide) (fun h => absurd h (by decide)) (by decide) trivial
      generalize uzI_118 : u2 zI_4 zy 3 zi_117 = zI_118 at hP hD h_zI_118
      have t_119 : zT (zR zy 5) = 102 := sk_f hs t_zy (by decide) rfl (by decide)
      refine lv_aload_n hx hb dX11_readCondition_35 rfl (lv_at hl 1 rfl) ?_
      refine hj_i (ws := (WL cy zL zT zR zI_118 zJ)) (w1 := fun (u : (Nat → Nat → Int32)) => (WL cy zL zT zR u zJ)) (va_runV (As := []) (rest := []) ⟨hx, hb, hml, hown, hts⟩ (t_X11_nextByte l dC dI cy H.size zL zT zR zI_118 zJ zy hs h_zI_118.1 t_zy) (cwV 0 hts gX11_readCondition_X11_nextByte rfl rfl rfl (by decide +kernel) ⟨(Nat.le_of_ble_eq_true rfl), (Nat.le_of_ble_eq_true rfl)⟩) (PRE.v hP hK hD hN (ht_recv hK hP hs t_zy (by decide) rfl rfl)) rfl rfl hl.1 rfl (lv_room (Nat.le_of_ble_eq_true rfl)) dX11_readCondition_36 ⟨(Nat.le_of_ble_eq_true rfl), (Nat.le_of_ble_eq_true rfl)⟩) hP hD hS hA (fun zi_120 zI_123 H locs hw_121 hP hD hS => ?_)
      obtain ⟨k_zI_123, b_zi_120, ps_124⟩ : (WM [1803] AL zT zR zI_118 zI_123) ∧ ((-1) ≤ zi_120.toInt ∧ zi_120.toInt ≤ 255) ∧ (zi_120.toInt = -1 ∨ (zI_123 zy 3).toInt ≤ 79) := hw_121
      have h_zI_123 : WM [1803, 10200] AL zT zR zI zI_123 := h_zI_118.tr k_zI_123 (by decide) (fun _ _ => trivial)
      obtain ⟨zi_125, ezi_125⟩ : ∃ y : Int32, y = zI_123 zy 3 := ⟨_, rfl⟩
      have tzi_125 : 0 ≤ zi_125.toInt ∧ zi_125.toInt ≤ 80 := by rw [ezi_125]; exact h_zI_123.at t_zy _ rfl
      have lzi_125 : (zI_123 zy 3).toInt = zi_125.toInt := by rw [ezi_125]
      have lk_126 : (zI_123 zy 3).toInt = zi_125.toInt := congrArg Int32.toInt ezi_125.symm
      refine lv_istore_n (lv' := [(3, .int zi_120), (2, .int zi_1), (0, .ref zy), (1, .int zia)]) hx hb dX11_readCondition_39 rfl hl (by decide) rfl (fun ls hl => ?_)
      refine lv_iload_n hx hb dX11_readCondition_40 rfl (lv_at hl 0 rfl) ?_
      refine lv_bipush (v := 60) hx hb dX11_readCondition_41 (by decide) ?_
      refine lv_icmp_eq (tgt := 60) hx hb dX11_readCondition_43 (by decide) (fun c_127 => ?_) (fun c_127 => ?_)
      · have f_128 : zi_120.toInt = (60 : Int) := ic_eq (rfl) (show (60 : Int32).toInt = 60 by decide) c_127
        refine lv_aload_n hx hb dX11_readCondition_60 rfl (lv_at hl 2 rfl) ?_
        refine lv_dup hx hb dX11_readCondition_61 rfl ?_
        refine ht_geti (C := RX11) (T := TX11) (N := 28) hx hb hts (by decide +kernel) hown hK hP hs t_zy (by decide) rfl rfl 3 (by decide) (hts (.fieldLink RX11 116 "DripStoneModel" "at" "I") (by decide +kernel)) (fun _ h9 => h9) rfl dX11_readCondition_62 ?_
        refine lv_topi (fun zi_129 ezi_129 => ?_)
        obtain rfl : zi_125 = zi_129 := (ezi_129.trans ezi_125.symm).symm
        refine lv_iconst (v := 1) hx hb dX11_readCondition_65 (by decide) ?_
        refine lv_iadd hx hb dX11_readCondition_66 ?_
        refine lv_topi (fun zi_130 ezi_130 => ?_)
        have tzi_130 : zi_130.toInt = zi_125.toInt + (1 : Int) := by rw [ezi_130]; exact tiadd (rfl) (show (1 : Int32).toInt = 1 by decide) (by omega) (by omega)
        refine ht_puti (v := zi_130) (ty := .int) (C := RX11) (T := TX11) (N := 28) hx hb hts (by decide +kernel) tyX11 tyX11_ok nmX11 hown hK hP hD hS hs t_zy (by decide) rfl rfl 3 (by decide) (hts (.fieldLink RX11 116 "DripStoneModel" "at" "I") (by decide +kernel)) (fun _ h9 => h9) rfl (by decide +kernel) rfl rfl rfl dX11_readCondition_67 (fun H locs hP hD hS => ?_)
        have h_zI_131 : WM [1803, 10200] AL zT zR zI (u2 zI_123 zy 3 zi_130) := h_zI_123.put hs t_zy rfl (by omega) (by decide) (fun h => absurd h (by decide)) (by decide) trivial
        generalize uzI_131 : u2 zI_123 zy 3 zi_130 = zI_131 at hP hD h_zI_131
        refine lv_aload_n hx hb dX11_readCondition_70 rfl (lv_at hl 2 rfl) ?_
        refine lv_iconst (v := 0) hx hb dX11_readCondition_71 (by decide) ?_
        refine lv_bipush (v := 99) hx hb dX11_readCondition_72 (by decide) ?_
        have qc_0 : (0 : Int32).toInt = 0 := by decide
        have qc_99 : (99 : Int32).toInt = 99 := by decide
        refine hj_i (ws := (WL cy zL zT zR zI_131 zJ)) (w1 := fun (u : (Nat → Nat → Int32)) => (WL cy zL zT zR u zJ)) (va_runV (As := [.int 0, .int 99]) (rest := []) ⟨hx, hb, hml, hown, hts⟩ (t_X11_readNumber l dC dI cy H.size zL zT zR zI_131 zJ zy (0 : Int32) (99 : Int32) hs h_zI_131.1 t_zy (by decide) (by decide)) (cwV 2 hts gX11_readCondition_X11_readNumber rfl rfl rfl (by decide +kernel) ⟨(Nat.le_of_ble_eq_true rfl), (Nat.le_of_ble_eq_true rfl)⟩) (PRE.v hP hK hD hN (ht_recv hK hP hs t_zy (by decide) rfl rfl)) rfl rfl hl.1 rfl (lv_room (Nat.le_of_ble_eq_true rfl)) dX11_readCondition_74 ⟨(Nat.le_of_ble_eq_true rfl), (Nat.le_of_ble_eq_true rfl)⟩) hP hD hS hA (fun zi_132 zI_135 H locs hw_133 hP hD hS => ?_)
        obtain ⟨k_zI_135, b_zi_132, ps_136⟩ : (WM [1803] AL zT zR zI_131 zI_135) ∧ ((-1) ≤ zi_132.toInt) ∧ (zi_132.toInt = -1 ∨ ((0 : Int32).toInt ≤ zi_132.toInt ∧ zi_132.toInt ≤ (99 : Int32).toInt)) := hw_133
        have h_zI_135 : WM [1803, 10200] AL zT zR zI zI_135 := h_zI_131.tr k_zI_135 (by decide) (fun _ _ => trivial)
        have b8_zi_132 : (-1) ≤ zi_132.toInt ∧ zi_132.toInt ≤ 99 := by omega
        refine lv_istore (lv' := [(4, .int zi_132), (3, .int zi_120), (2, .int zi_1), (0, .ref zy), (1, .int zia)]) hx hb dX11_readCondition_77 hl (by decide) rfl (fun ls hl => ?_)
        refine lv_iload hx hb dX11_readCondition_79 (lv_at hl 0 rfl) ?_
        refine lv_if_ge (tgt := 86) hx hb dX11_readCondition_81 (by decide) (fun c_137 => ?_) (fun c_137 => ?_)
        · have f_138 : zi_132.toInt ≥ 0 := ic_ge (rfl) (by decide) c_137
          refine lv_aload_n hx hb dX11_readCondition_86 rfl (lv_at hl 3 rfl) ?_
          refine ht_getr (C := RX11) (T := TX11) (N := 28) hx hb hts (by decide +kernel) hown hK hP hs t_zy (by decide) rfl rfl 5 (by decide) (hts (.fieldLink RX11 16 "DripStoneModel" "read" "[I") (by decide +kernel)) (fun _ h9 => h9) rfl dX11_readCondition_87 ?_
          refine lv_iload_n hx hb dX11_readCondition_90 rfl (lv_at hl 4 rfl) ?_
          refine lv_iload_n hx hb dX11_readCondition_91 rfl (lv_at hl 2 rfl) ?_
          refine ht_iast (v := zi_1) (n := 66) (q := 0) hx hb hK hP hD hS hs t_119 (by decide) rfl rfl ⟨by omega, by omega⟩ dX11_readCondition_92 (fun H locs hP hD hS => ?_)
          have h_zI_139 : WM [1803, 10200] AL zT zR zI (u2 zI_135 (zR zy 5) zia.toNatClampNeg zi_1) := h_zI_135.putA hs t_119 rfl (rgF _) (by decide) (fun h => absurd h (by decide)) (by decide) trivial
          generalize uzI_139 : u2 zI_135 (zR zy 5) zia.toNatClampNeg zi_1 = zI_139 at hP hD h_zI_139
          refine lv_aload_n hx hb dX11_readCondition_93 rfl (lv_at hl 3 rfl) ?_
          refine ht_getr (C := RX11) (T := TX11) (N := 28) hx hb hts (by decide +kernel) hown hK hP hs t_zy (by decide) rfl rfl 5 (by decide) (hts (.fieldLink RX11 16 "DripStoneModel" "read" "[I") (by decide +kernel)) (fun _ h9 => h9) rfl dX11_readCondition_94 ?_
          refine lv_iload_n hx hb dX11_readCondition_97 rfl (lv_at hl 4 rfl) ?_
          refine lv_iconst (v := 1) hx hb dX11_readCondition_98 (by decide) ?_
          refine lv_iadd hx hb dX11_readCondition_99 ?_
          refine lv_topi (fun zi_140 ezi_140 => ?_)
          have tzi_140 : zi_140.toInt = zia.toInt + (1 : Int) := by rw [ezi_140]; exact tiadd (rfl) (show (1 : Int32).toInt = 1 by decide) (by omega) (by omega)
          refine lv_iload_n hx hb dX11_readCondition_100 rfl (lv_at hl 1 rfl) ?_
          refine ht_iast (v := zi_120) (n := 66) (q := 0) hx hb hK hP hD hS hs t_119 (by decide) rfl rfl ⟨by omega, by omega⟩ dX11_readCondition_101 (fun H locs hP hD hS => ?_)
          have h_zI_141 : WM [1803, 10200] AL zT zR zI (u2 zI_139 (zR zy 5) zi_140.toNatClampNeg zi_120) := h_zI_139.putA hs t_119 rfl (rgF _) (by decide) (fun h => absurd h (by decide)) (by decide) trivial
          generalize uzI_141 : u2 zI_139 (zR zy 5) zi_140.toNatClampNeg zi_120 = zI_141 at hP hD h_zI_141
          refine lv_aload_n hx hb dX11_readCondition_102 rfl (lv_at hl 3 rfl) ?_
          refine ht_getr (C := RX11) (T := TX11) (N := 28) hx hb hts (by decide +kernel) hown hK hP hs t_zy (by decide) rfl rfl 5 (by decide) (hts (.fieldLink RX11 16 "DripStoneModel" "read" "[I") (by decide +kernel)) (fun _ h9 => h9) rfl dX11_readCondition_103 ?_
          refine lv_iload_n hx hb dX11_readCondition_106 rfl (lv_at hl 4 rfl) ?_
          refine lv_iconst (v := 2) hx hb dX11_readCondition_107 (by decide) ?_
          refine lv_iadd hx hb dX11_readCondition_108 ?_
          refine lv_topi (fun zi_142 ezi_142 => ?_)
          have tzi_142 : zi_142.toInt = zia.toInt + (2 : Int) := by rw [ezi_142]; exact tiadd (rfl) (show (2 : Int32).toInt = 2 by decide) (by omega) (by omega)
          refine lv_iload hx hb dX11_readCondition_109 (lv_at hl 0 rfl) ?_
          refine ht_iast (v := zi_132) (n := 66) (q := 0) hx hb hK hP hD hS hs t_119 (by decide) rfl rfl ⟨by omega, by omega⟩ dX11_readCondition_111 (fun H locs hP hD hS => ?_)
          have h_zI_143 : WM [1803, 10200] AL zT zR zI (u2 zI_141 (zR zy 5) zi_142.toNatClampNeg zi_132) := h_zI_141.putA hs t_119 rfl (rgF _) (by decide) (fun h => absurd h (by decide)) (by decide) trivial
          generalize uzI_143 : u2 zI_141 (zR zy 5) zi_142.toNatClampNeg zi_132 = zI_143 at hP hD h_zI_143
          refine lv_iconst (v := 1) hx hb dX11_readCondition_112 (by decide) ?_
          subst hQ
          have qc_1 : (1 : Int32).toInt = 1 := by decide
          have fr_144 : FRM (zI (zR zy 5)) (zI_4 (zR zy 5)) (zia.toInt) (zia.toInt + 2) := by rw [(k_zI_4.2.row t_119 (by decide) (by decide))]; exact FRM.rf
          have fr_145 : FRM (zI (zR zy 5)) (zI_118 (zR zy 5)) (zia.toInt) (zia.toInt + 2) := by rw [(show zI_118 (zR zy 5) = zI_4 (zR zy 5) from by rw [← uzI_118]; exact u2_a (tne t_119 t_zy (by decide)))]; exact fr_144
          have fr_146 : FRM (zI (zR zy 5)) (zI_123 (zR zy 5)) (zia.toInt) (zia.toInt + 2) := by rw [(k_zI_123.2.row t_119 (by decide) (by decide))]; exact fr_145
          have fr_147 : FRM (zI (zR zy 5)) (zI_131 (zR zy 5)) (zia.toInt) (zia.toInt + 2) := by rw [(show zI_131 (zR zy 5) = zI_123 (zR zy 5) from by rw [← uzI_131]; exact u2_a (tne t_119 t_zy (by decide)))]; exact fr_146
          have fr_148 : FRM (zI (zR zy 5)) (zI_135 (zR zy 5)) (zia.toInt) (zia.toInt + 2) := by rw [(k_zI_135.2.row t_119 (by decide) (by decide))]; exact fr_147
          have fr_149 : FRM (zI (zR zy 5)) (zI_139 (zR zy 5)) (zia.toInt) (zia.toInt + 2) := by rw [← uzI_139, u2_r]; exact FRM.up fr_148 (by omega)
          have fr_150 : FRM (zI (zR zy 5)) (zI_141 (zR zy 5)) (zia.toInt) (zia.toInt + 2) := by rw [← uzI_141, u2_r]; exact FRM.up fr_149 (by omega)
          have fr_151 : FRM (zI (zR zy 5)) (zI_143 (zR zy 5)) (zia.toInt) (zia.toInt + 2) := by rw [← uzI_143, u2_r]; exact FRM.up fr_150 (by omega)
          exact W.zret (v := (1 : Int32)) hx hb hr rfl (fun t ht hW => ⟨⟨(1 : Int32), zI_143, rfl, ⟨h_zI_143, (show 0 ≤ (1 : Int32).toInt ∧ (1 : Int32).toInt ≤ 1 from by omega), (show FRM (zI (zR zy 5)) (zI_143 (zR zy 5)) (zia.toInt) (zia.toInt + 2) from fr_151)⟩, ⟨by rw [ht]; exact hP, va_K.moved hW.alike hK, hD⟩⟩, hS.F ht⟩) hS.2.2 dX11_readCondition_113
        · have f_138 : ¬ (zi_132.toInt ≥ 0) := ic_nge (rfl) (by decide) c_137
          refine lv_iconst (v := 0) hx hb dX11_readCondition_84 (by decide) ?_
          subst hQ
          have fr_152 : FRM (zI (zR zy 5)) (zI_4 (zR zy 5)) (zia.toInt) (zia.toInt + 2) := by rw [(k_zI_4.2.row t_119 (by decide) (by decide))]; exact FRM.rf
          have fr_153 : FRM (zI (zR zy 5)) (zI_118 (zR zy 5)) (zia.toInt) (zia.toInt + 2) := by rw [(show zI_118 (zR zy 5) = zI_4 (zR zy 5) from by rw [← uzI_118]; exact u2_a (tne t_119 t_zy (by decide)))]; exact fr_152
          have fr_154 : FRM (zI (zR zy 5)) (zI_123 (zR zy 5)) (zia.toInt) (zia.toInt + 2) := by rw [(k_zI_123.2.row t_119 (by decide) (by decide))]; exact fr_153
          have fr_155 : FRM (zI (zR zy 5)) (zI_131 (zR zy 5)) (zia.toInt) (zia.toInt + 2) := by rw [(show zI_131 (zR zy 5) = zI_123 (zR zy 5) from by rw [← uzI_131]; exact u2_a (tne t_119 t_zy (by decide)))]; exact fr_154
          have fr_156 : FRM (zI (zR zy 5)) (zI_135 (zR zy 5)) (zia.toInt) (zia.toInt + 2) := by rw [(k_zI_135.2.row t_119 (by decide) (by decide))]; exact fr_155
          exact W.zret (v := (0 : Int32)) hx hb hr rfl (fun t ht hW => ⟨⟨(0 : Int32), zI_135, rfl, ⟨h_zI_135, (show 0 ≤ (0 : Int32).toInt ∧ (0 : Int32).toInt ≤ 1 from by omega), (show FRM (zI (zR zy 5)) (zI_135 (zR zy 5)) (zia.toInt) (zia.toInt + 2) from fr_156)⟩, ⟨by rw [ht]; exact hP, va_K.moved hW.alike hK, hD⟩⟩, hS.F ht⟩) hS.2.2 dX11_readCondition_85
      · have f_128 : ¬ (zi_120.toInt = (60 : Int)) := ic_neq (rfl) (show (60 : Int32).toInt = 60 by decide) c_127
        refine lv_iload_n hx hb dX11_readCondition_46 rfl (lv_at hl 0 rfl) ?_
        refine lv_bipush (v := 62) hx hb dX11_readCondition_47 (by decide) ?_
        refine lv_icmp_eq (tgt := 60) hx hb dX11_readCondition_49 (by decide) (fun c_157 => ?_) (fun c_157 => ?_)
        · have f_158 : zi_120.toInt = (62 : Int) := ic_eq (rfl) (show (62 : Int32).toInt = 62 by decide) c_157
          refine lv_aload_n hx hb dX11_readCondition_60 rfl (lv_at hl 2 rfl) ?_
          refine lv_dup hx hb dX11_readCondition_61 rfl ?_
          refine ht_geti (C := RX11) (T := TX11) (N := 28) hx hb hts (by decide +kernel) hown hK hP hs t_zy (by decide) rfl rfl 3 (by decide) (hts (.fieldLink RX11 116 "DripStoneModel" "at" "I") (by decide +kernel)) (fun _ h9 => h9) rfl dX11_readCondition_62 ?_
          refine lv_topi (fun zi_159 ezi_159 => ?_)
          obtain rfl : zi_125 = zi_159 := (ezi_159.trans ezi_125.symm).symm
          refine lv_iconst (v := 1) hx hb dX11_readCondition_65 (by decide) ?_
          refine lv_iadd hx hb dX11_readCondition_66 ?_
          refine lv_topi (fun zi_160 ezi_160 => ?_)
          have tzi_160 : zi_160.toInt = zi_125.toInt + (1 : Int) := by rw [ezi_160]; exact tiadd (rfl) (show (1 : Int32).toInt = 1 by decide) (by omega) (by omega)
          refine ht_puti (v := zi_160) (ty := .int) (C := RX11) (T := TX11) (N := 28) hx hb hts (by decide +kernel) tyX11 tyX11_ok nmX11 hown hK hP hD hS hs t_zy (by decide) rfl rfl 3 (by decide) (hts (.fieldLink RX11 116 "DripStoneModel" "at" "I") (by decide +kernel)) (fun _ h9 => h9) rfl (by decide +kernel) rfl rfl rfl dX11_readCondition_67 (fun H locs hP hD hS => ?_)
          have h_zI_161 : WM [1803, 10200] AL zT zR zI (u2 zI_123 zy 3 zi_160) := h_zI_123.put hs t_zy rfl (by omega) (by decide) (fun h => absurd h (by decide)) (by decide) trivial
          generalize uzI_161 : u2 zI_123 zy 3 zi_160 = zI_161 at hP hD h_zI_161
          refine lv_aload_n hx hb dX11_readCondition_70 rfl (lv_at hl 2 rfl) ?_
          refine lv_iconst (v := 0) hx hb dX11_readCondition_71 (by decide) ?_
          refine lv_bipush (v := 99) hx hb dX11_readCondition_72 (by decide) ?_
          have qc_0 : (0 : Int32).toInt = 0 := by decide
          have qc_99 : (99 : Int32).toInt = 99 := by decide
          refine hj_i (ws := (WL cy zL zT zR zI_161 zJ)) (w1 := fun (u : (Nat → Nat → Int32)) => (WL cy zL zT zR u zJ)) (va_runV (As := [.int 0, .int 99]) (rest := []) ⟨hx, hb, hml, hown, hts⟩ (t_X11_readNumber l dC dI cy H.size zL zT zR zI_161 zJ zy (0 : Int32) (99 : Int32) hs h_zI_161.1 t_zy (by decide) (by decide)) (cwV 2 hts gX11_readCondition_X11_readNumber rfl rfl rfl (by decide +kernel) ⟨(Nat.le_of_ble_eq_true rfl), (Nat.le_of_ble_eq_true rfl)⟩) (PRE.v hP hK hD hN (ht_recv hK hP hs t_zy (by decide) rfl rfl)) rfl rfl hl.1 rfl (lv_room (Nat.le_of_ble_eq_true rfl)) dX11_readCondition_74 ⟨(Nat.le_of_ble_eq_true rfl), (Nat.le_of_ble_eq_true rfl)⟩) hP hD hS hA (fun zi_162 zI_165 H locs hw_163 hP hD hS => ?_)
          obtain ⟨k_zI_165, b_zi_162, ps_166⟩ : (WM [1803] AL zT zR zI_161 zI_165) ∧ ((-1) ≤ zi_162.toInt) ∧ (zi_162.toInt = -1 ∨ ((0 : Int32).toInt ≤ zi_162.toInt ∧ zi_162.toInt ≤ (99 : Int32).toInt)) := hw_163
          have h_zI_165 : WM [1803, 10200] AL zT zR zI zI_165 := h_zI_161.tr k_zI_165 (by decide) (fun _ _ => trivial)
          have b8_zi_162 : (-1) ≤ zi_162.toInt ∧ zi_162.toInt ≤ 99 := by omega
          refine lv_istore (lv' := [(4, .int zi_162), (3, .int zi_120), (2, .int zi_1), (0, .ref zy), (1, .int zia)]) hx hb dX11_readCondition_77 hl (by decide) rfl (fun ls hl => ?_)
          refine lv_iload hx hb dX11_readCondition_79 (lv_at hl 0 rfl) ?_
          refine lv_if_ge (tgt := 86) hx hb dX11_readCondition_81 (by decide) (fun c_167 => ?_) (fun c_167 => ?_)
          · have f_168 : zi_162.toInt ≥ 0 := ic_ge (rfl) (by decide) c_167
            refine lv_aload_n hx hb dX11_readCondition_86 rfl (lv_at hl 3 rfl) ?_
            refine ht_getr (C := RX11) (T := TX11) (N := 28) hx hb hts (by decide +kernel) hown hK hP hs t_zy (by decide) rfl rfl 5 (by decide) (hts (.fieldLink RX11 16 "DripStoneModel" "read" "[I") (by decide +kernel)) (fun _ h9 => h9) rfl dX11_readCondition_87 ?_
            refine lv_iload_n hx hb dX11_readCondition_90 rfl (lv_at hl 4 rfl) ?_
            refine lv_iload_n hx hb dX11_readCondition_91 rfl (lv_at hl 2 rfl) ?_
            refine ht_iast (v := zi_1) (n := 66) (q := 0) hx hb hK hP hD hS hs t_119 (by decide) rfl rfl ⟨by omega, by omega⟩ dX11_readCondition_92 (fun H locs hP hD hS => ?_)
            have h_zI_169 : WM [1803, 10200] AL zT zR zI (u2 zI_165 (zR zy 5) zia.toNatClampNeg zi_1) := h_zI_165.putA hs t_119 rfl (rgF _) (by decide) (fun h => absurd h (by decide)) (by decide) trivial
            generalize uzI_169 : u2 zI_165 (zR zy 5) zia.toNatClampNeg zi_1 = zI_169 at hP hD h_zI_169
            refine lv_aload_n hx hb dX11_readCondition_93 rfl (lv_at hl 3 rfl) ?_
            refine ht_getr (C := RX11) (T := TX11) (N := 28) hx hb hts (by decide +kernel) hown hK hP hs t_zy (by decide) rfl rfl 5 (by decide) (hts (.fieldLink RX11 16 "DripStoneModel" "read" "[I") (by decide +kernel)) (fun _ h9 => h9) rfl dX11_readCondition_94 ?_
            refine lv_iload_n hx hb dX11_readCondition_97 rfl (lv_at hl 4 rfl) ?_
            refine lv_iconst (v := 1) hx hb dX11_readCondition_98 (by decide) ?_
            refine lv_iadd hx hb dX11_readCondition_99 ?_
            refine lv_topi (fun zi_170 ezi_170 => ?_)
            have tzi_170 : zi_170.toInt = zia.toInt + (1 : Int) := by rw [ezi_170]; exact tiadd (rfl) (show (1 : Int32).toInt = 1 by decide) (by omega) (by omega)
            refine lv_iload_n hx hb dX11_readCondition_100 rfl (lv_at hl 1 rfl) ?_
            refine ht_iast (v := zi_120) (n := 66) (q := 0) hx hb hK hP hD hS hs t_119 (by decide) rfl rfl ⟨by omega, by omega⟩ dX11_readCondition_101 (fun H locs hP hD hS => ?_)
            have h_zI_171 : WM [1803, 10200] AL zT zR zI (u2 zI_169 (zR zy 5) zi_170.toNatClampNeg zi_120) := h_zI_169.putA hs t_119 rfl (rgF _) (by decide) (fun h => absurd h (by decide)) (by decide) trivial
            generalize uzI_171 : u2 zI_169 (zR zy 5) zi_170.toNatClampNeg zi_120 = zI_171 at hP hD h_zI_171
            refine lv_aload_n hx hb dX11_readCondition_102 rfl (lv_at hl 3 rfl) ?_
            refine ht_getr (C := RX11) (T := TX11) (N := 28) hx hb hts (by decide +kernel) hown hK hP hs t_zy (by decide) rfl rfl 5 (by decide) (hts (.fieldLink RX11 16 "DripStoneModel" "read" "[I") (by decide +kernel)) (fun _ h9 => h9) rfl dX11_readCondition_103 ?_
            refine lv_iload_n hx hb dX11_readCondition_106 rfl (lv_at hl 4 rfl) ?_
            refine lv_iconst (v := 2) hx hb dX11_readCondition_107 (by decide) ?_
            refine lv_iadd hx hb dX11_readCondition_108 ?_
            refine lv_topi (fun zi_172 ezi_172 => ?_)
            have tzi_172 : zi_172.toInt = zia.toInt + (2 : Int) := by rw [ezi_172]; exact tiadd (rfl) (show (2 : Int32).toInt = 2 by decide) (by omega) (by omega)
            refine lv_iload hx hb dX11_readCondition_109 (lv_at hl 0 rfl) ?_
            refine ht_iast (v := zi_162) (n := 66) (q := 0) hx hb hK hP hD hS hs t_119 (by decide) rfl rfl ⟨by omega, by omega⟩ dX11_readCondition_111 (fun H locs hP hD hS => ?_)
            have h_zI_173 : WM [1803, 10200] AL zT zR zI (u2 zI_171 (zR zy 5) zi_172.toNatClampNeg zi_162) := h_zI_171.putA hs t_119 rfl (rgF _) (by decide) (fun h => absurd h (by decide)) (by decide) trivial
            generalize uzI_173 : u2 zI_171 (zR zy 5) zi_172.toNatClampNeg zi_162 = zI_173 at hP hD h_zI_173
            refine lv_iconst (v := 1) hx hb dX11_readCondition_112 (by decide) ?_
            subst hQ
            have qc_1 : (1 : Int32).toInt = 1 := by decide
            have fr_174 : FRM (zI (zR zy 5)) (zI_4 (zR zy 5)) (zia.toInt) (zia.toInt + 2) := by rw [(k_zI_4.2.row t_119 (by decide) (by decide))]; exact FRM.rf
            have fr_175 : FRM (zI (zR zy 5)) (zI_118 (zR zy 5)) (zia.toInt) (zia.toInt + 2) := by rw [(show zI_118 (zR zy 5) = zI_4 (zR zy 5) from by rw [← uzI_118]; exact u2_a (tne t_119 t_zy (by decide)))]; exact fr_174
            have fr_176 : FRM (zI (zR zy 5)) (zI_123 (zR zy 5)) (zia.toInt) (zia.toInt + 2) := by rw [(k_zI_123.2.row t_119 (by decide) (by decide))]; exact fr_175
            have fr_177 : FRM (zI (zR zy 5)) (zI_161 (zR zy 5)) (zia.toInt) (zia.toInt + 2) := by rw [(show zI_161 (zR zy 5) = zI_123 (zR zy 5) from by rw [← uzI_161]; exact u2_a (tne t_119 t_zy (by decide)))]; exact fr_176
            have fr_178 : FRM (zI (zR zy 5)) (zI_165 (zR zy 5)) (zia.toInt) (zia.toInt + 2) := by rw [(k_zI_165.2.row t_119 (by decide) (by decide))]; exact fr_177
            have fr_179 : FRM (zI (zR zy 5)) (zI_169 (zR zy 5)) (zia.toInt) (zia.toInt + 2) := by rw [← uzI_169, u2_r]; exact FRM.up fr_178 (by omega)
            have fr_180 : FRM (zI (zR zy 5)) (zI_171 (zR zy 5)) (zia.toInt) (zia.toInt + 2) := by rw [← uzI_171, u2_r]; exact FRM.up fr_179 (by omega)
            have fr_181 : FRM (zI (zR zy 5)) (zI_173 (zR zy 5)) (zia.toInt) (zia.toInt + 2) := by rw [← uzI_173, u2_r]; exact FRM.up fr_180 (by omega)
            exact W.zret (v := (1 : Int32)) hx hb hr rfl (fun t ht hW => ⟨⟨(1 : Int32), zI_173, rfl, ⟨h_zI_173, (show 0 ≤ (1 : Int32).toInt ∧ (1 : Int32).toInt ≤ 1 from by omega), (show FRM (zI (zR zy 5)) (zI_173 (zR zy 5)) (zia.toInt) (zia.toInt + 2) from fr_181)⟩, ⟨by rw [ht]; exact hP, va_K.moved hW.alike hK, hD⟩⟩, hS.F ht⟩) hS.2.2 dX11_readCondition_113
          · have f_168 : ¬ (zi_162.toInt ≥ 0) := ic_nge (rfl) (by decide) c_167
            refine lv_iconst (v := 0) hx hb dX11_readCondition_84 (by decide) ?_
            subst hQ
            have fr_182 : FRM (zI (zR zy 5)) (zI_4 (zR zy 5)) (zia.toInt) (zia.toInt + 2) := by rw [(k_zI_4.2.row t_119 (by decide) (by decide))]; exact FRM.rf
            have fr_183 : FRM (zI (zR zy 5)) (zI_118 (zR zy 5)) (zia.toInt) (zia.toInt + 2) := by rw [(show zI_118 (zR zy 5) = zI_4 (zR zy 5) from by rw [← uzI_118]; exact u2_a (tne t_119 t_zy (by decide)))]; exact fr_182
            have fr_184 : FRM (zI (zR zy 5)) (zI_123 (zR zy 5)) (zia.toInt) (zia.toInt + 2) := by rw [(k_zI_123.2.row t_119 (by decide) (by decide))]; exact fr_183
            have fr_185 : FRM (zI (zR zy 5)) (zI_161 (zR zy 5)) (zia.toInt) (zia.toInt + 2) := by rw [(show zI_161 (zR zy 5) = zI_123 (zR zy 5) from by rw [← uzI_161]; exact u2_a (tne t_119 t_zy (by decide)))]; exact fr_184
            have fr_186 : FRM (zI (zR zy 5)) (zI_165 (zR zy 5)) (zia.toInt) (zia.toInt + 2) := by rw [(k_zI_165.2.row t_119 (by decide) (by decide))]; exact fr_185
            exact W.zret (v := (0 : Int32)) hx hb hr rfl (fun t ht hW => ⟨⟨(0 : Int32), zI_165, rfl, ⟨h_zI_165, (show 0 ≤ (0 : Int32).toInt ∧ (0 : Int32).toInt ≤ 1 from by omega), (show FRM (zI (zR zy 5)) (zI_165 (zR zy 5)) (zia.toInt) (zia.toInt + 2) from fr_186)⟩, ⟨by rw [ht]; exact hP, va_K.moved hW.alike hK, hD⟩⟩, hS.F ht⟩) hS.2.2 dX11_readCondition_85
        · have f_158 : ¬ (zi_120.toInt = (62 : Int)) := ic_neq (rfl) (show (62 : Int32).toInt = 62 by decide) c_157
          refine lv_iload_n hx hb dX11_readCondition_52 rfl (lv_at hl 0 rfl) ?_
          refine lv_bipush (v := 61) hx hb dX11_readCondition_53 (by decide) ?_
          refine lv_icmp_eq (tgt := 60) hx hb dX11_readCondition_55 (by decide) (fun c_187 => ?_) (fun c_187 => ?_)
          · have f_188 : zi_120.toInt = (61 : Int) := ic_eq (rfl) (show (61 : Int32).toInt = 61 by decide) c_187
            refine lv_aload_n hx hb dX11_readCondition_60 rfl (lv_at hl 2 rfl) ?_
            refine lv_dup hx hb dX11_readCondition_61 rfl ?_
            refine ht_geti (C := RX11) (T := TX11) (N := 28) hx hb hts (by decide +kernel) hown hK hP hs t_zy (by decide) rfl rfl 3 (by decide) (hts (.fieldLink RX11 116 "DripStoneModel" "at" "I") (by decide +kernel)) (fun _ h9 => h9) rfl dX11_readCondition_62 ?_
            refine lv_topi (fun zi_189 ezi_189 => ?_)
            obtain rfl : zi_125 = zi_189 := (ezi_189.trans ezi_125.symm).symm
            refine lv_iconst (v := 1) hx hb dX11_readCondition_65 (by decide) ?_
            refine lv_iadd hx hb dX11_readCondition_66 ?_
            refine lv_topi (fun zi_190 ezi_190 => ?_)
            have tzi_190 : zi_190.toInt = zi_125.toInt + (1 : Int) := by rw [ezi_190]; exact tiadd (rfl) (show (1 : Int32).toInt = 1 by decide) (by omega) (by omega)
            refine ht_puti (v := zi_190) (ty := .int) (C := RX11) (T := TX11) (N := 28) hx hb hts (by decide +kernel) tyX11 tyX11_ok nmX11 hown hK hP hD hS hs t_zy (by decide) rfl rfl 3 (by decide) (hts (.fieldLink RX11 116 "DripStoneModel" "at" "I") (by decide +kernel)) (fun _ h9 => h9) rfl (by decide +kernel) rfl rfl rfl dX11_readCondition_67 (fun H locs hP hD hS => ?_)
            have h_zI_191 : WM [1803, 10200] AL zT zR zI (u2 zI_123 zy 3 zi_190) := h_zI_123.put hs t_zy rfl (by omega) (by decide) (fun h => absurd h (by decide)) (by decide) trivial
            generalize uzI_191 : u2 zI_123 zy 3 zi_190 = zI_191 at hP hD h_zI_191
            refine lv_aload_n hx hb dX11_readCondition_70 rfl (lv_at hl 2 rfl) ?_
            refine lv_iconst (v := 0) hx hb dX11_readCondition_71 (by decide) ?_
            refine lv_bipush (v := 99) hx hb dX11_readCondition_72 (by decide) ?_
            have qc_0 : (0 : Int32).toInt = 0 := by decide
            have qc_99 : (99 : Int32).toInt = 99 := by decide
            refine hj_i (ws := (WL cy zL zT zR zI_191 zJ)) (w1 := fun (u : (Nat → Nat → Int32)) => (WL cy zL zT zR u zJ)) (va_runV (As := [.int 0, .int 99]) (rest := []) ⟨hx, hb, hml, hown, hts⟩ (t_X11_readNumber l dC dI cy H.size zL zT zR zI_191 zJ zy (0 : Int32) (99 : Int32) hs h_zI_191.1 t_zy (by decide) (by decide)) (cwV 2 hts gX11_readCondition_X11_readNumber rfl rfl rfl (by decide +kernel) ⟨(Nat.le_of_ble_eq_true rfl), (Nat.le_of_ble_eq_true rfl)⟩) (PRE.v hP hK hD hN (ht_recv hK hP hs t_zy (by decide) rfl rfl)) rfl rfl hl.1 rfl (lv_room (Nat.le_of_ble_eq_true rfl)) dX11_readCondition_74 ⟨(Nat.le_of_ble_eq_true rfl), (Nat.le_of_ble_eq_true rfl)⟩) hP hD hS hA (fun zi_192 zI_195 H locs hw_193 hP hD hS => ?_)
            obtain ⟨k_zI_195, b_zi_192, ps_196⟩ : (WM [1803] AL zT zR zI_191 zI_195) ∧ ((-1) ≤ zi_192.toInt) ∧ (zi_192.toInt = -1 ∨ ((0 : Int32).toInt ≤ zi_192.toInt ∧ zi_192.toInt ≤ (99 : Int32).toInt)) := hw_193
            have h_zI_195 : WM [1803, 10200] AL zT zR zI zI_195 := h_zI_191.tr k_zI_195 (by decide) (fun _ _ => trivial)
            have b8_zi_192 : (-1) ≤ zi_192.toInt ∧ zi_192.toInt ≤ 99 := by omega
            refine lv_istore (lv' := [(4, .int zi_192), (3, .int zi_120), (2, .int zi_1), (0, .ref zy), (1, .int zia)]) hx hb dX11_readCondition_77 hl (by decide) rfl (fun ls hl => ?_)
            refine lv_iload hx hb dX11_readCondition_79 (lv_at hl 0 rfl) ?_
            refine lv_if_ge (tgt := 86) hx hb dX11_readCondition_81 (by decide) (fun c_197 => ?_) (fun c_197 => ?_)
            · have f_198 : zi_192.toInt ≥ 0 := ic_ge (rfl) (by decide) c_197
              refine lv_aload_n hx hb dX11_readCondition_86 rfl (lv_at hl 3 rfl) ?_
              refine ht_getr (C := RX11) (T := TX11) (N := 28) hx hb hts (by decide +kernel) hown hK hP hs t_zy (by decide) rfl rfl 5 (by decide) (hts (.fieldLink RX11 16 "DripStoneModel" "read" "[I") (by decide +kernel)) (fun _ h9 => h9) rfl dX11_readCondition_87 ?_
              refine lv_iload_n hx hb dX11_readCondition_90 rfl (lv_at hl 4 rfl) ?_
              refine lv_iload_n hx hb dX11_readCondition_91 rfl (lv_at hl 2 rfl) ?_
              refine ht_iast (v := zi_1) (n := 66) (q := 0) hx hb hK hP hD hS hs t_119 (by decide) rfl rfl ⟨by omega, by omega⟩ dX11_readCondition_92 (fun H locs hP hD hS => ?_)
              have h_zI_199 : WM [1803, 10200] AL zT zR zI (u2 zI_195 (zR zy 5) zia.toNatClampNeg zi_1) := h_zI_195.putA hs t_119 rfl (rgF _) (by decide) (fun h => absurd h (by decide)) (by decide) trivial
              generalize uzI_199 : u2 zI_195 (zR zy 5) zia.toNatClampNeg zi_1 = zI_199 at hP hD h_zI_199
              refine lv_aload_n hx hb dX11_readCondition_93 rfl (lv_at hl 3 rfl) ?_
              refine ht_getr (C := RX11) (T := TX11) (N := 28) hx hb hts (by decide +kernel) hown hK hP hs t_zy (by decide) rfl rfl 5 (by decide) (hts (.fieldLink RX11 16 "DripStoneModel" "read" "[I") (by decide +kernel)) (fun _ h9 => h9) rfl dX11_readCondition_94 ?_
              refine lv_iload_n hx hb dX11_readCondition_97 rfl (lv_at hl 4 rfl) ?_
              refine lv_iconst (v := 1) hx hb dX11_readCondition_98 (by decide) ?_
              refine lv_iadd hx hb dX11_readCondition_99 ?_
              refine lv_topi (fun zi_200 ezi_200 => ?_)
              have tzi_200 : zi_200.toInt = zia.toInt + (1 : Int) := by rw [ezi_200]; exact tiadd (rfl) (show (1 : Int32).toInt = 1 by decide) (by omega) (by omega)
              refine lv_iload_n hx hb dX11_readCondition_100 rfl (lv_at hl 1 rfl) ?_
              refine ht_iast (v := zi_120) (n := 66) (q := 0) hx hb hK hP hD hS hs t_119 (by decide) rfl rfl ⟨by omega, by omega⟩ dX11_readCondition_101 (fun H locs hP hD hS => ?_)
              have h_zI_201 : WM [1803, 10200] AL zT zR zI (u2 zI_199 (zR zy 5) zi_200.toNatClampNeg zi_120) := h_zI_199.putA hs t_119 rfl (rgF _) (by decide) (fun h => absurd h (by decide)) (by decide) trivial
              generalize uzI_201 : u2 zI_199 (zR zy 5) zi_200.toNatClampNeg zi_120 = zI_201 at hP hD h_zI_201
              refine lv_aload_n hx hb dX11_readCondition_102 rfl (lv_at hl 3 rfl) ?_
              refine ht_getr (C := RX11) (T := TX11) (N := 28) hx hb hts (by decide +kernel) hown hK hP hs t_zy (by decide) rfl rfl 5 (by decide) (hts (.fieldLink RX11 16 "DripStoneModel" "read" "[I") (by decide +kernel)) (fun _ h9 => h9) rfl dX11_readCondition_103 ?_
              refine lv_iload_n hx hb dX11_readCondition_106 rfl (lv_at hl 4 rfl) ?_
              refine lv_iconst (v := 2) hx hb dX11_readCondition_107 (by decide) ?_
              refine lv_iadd hx hb dX11_readCondition_108 ?_
              refine lv_topi (fun zi_202 ezi_202 => ?_)
              have tzi_202 : zi_202.toInt = zia.toInt + (2 : Int) := by rw [ezi_202]; exact tiadd (rfl) (show (2 : Int32).toInt = 2 by decide) (by omega) (by omega)
              refine lv_iload hx hb dX11_readCondition_109 (lv_at hl 0 rfl) ?_
              refine ht_iast (v := zi_192) (n := 66) (q := 0) hx hb hK hP hD hS hs t_119 (by decide) rfl rfl ⟨by omega, by omega⟩ dX11_readCondition_111 (fun H locs hP hD hS => ?_)
              have h_zI_203 : WM [1803, 10200] AL zT zR zI (u2 zI_201 (zR zy 5) zi_202.toNatClampNeg zi_192) := h_zI_201.putA hs t_119 rfl (rgF _) (by decide) (fun h => absurd h (by decide)) (by decide) trivial
              generalize uzI_203 : u2 zI_201 (zR zy 5) zi_202.toNatClampNeg zi_192 = zI_203 at hP hD h_zI_203
              refine lv_iconst (v := 1) hx hb dX11_readCondition_112 (by decide) ?_
              subst hQ
              have qc_1 : (1 : Int32).toInt = 1 := by decide
              have fr_204 : FRM (zI (zR zy 5)) (zI_4 (zR zy 5)) (zia.toInt) (zia.toInt + 2) := by rw [(k_zI_4.2.row t_119 (by decide) (by decide))]; exact FRM.rf
              have fr_205 : FRM (zI (zR zy 5)) (zI_118 (zR zy 5)) (zia.toInt) (zia.toInt + 2) := by rw [(show zI_118 (zR zy 5) = zI_4 (zR zy 5) from by rw [← uzI_118]; exact u2_a (tne t_119 t_zy (by decide)))]; exact fr_204
              have fr_206 : FRM (zI (zR zy 5)) (zI_123 (zR zy 5)) (zia.toInt) (zia.toInt + 2) := by rw [(k_zI_123.2.row t_119 (by decide) (by decide))]; exact fr_205
              have fr_207 : FRM (zI (zR zy 5)) (zI_191 (zR zy 5)) (zia.toInt) (zia.toInt + 2) := by rw [(show zI_191 (zR zy 5) = zI_123 (zR zy 5) from by rw [← uzI_191]; exact u2_a (tne t_119 t_zy (by decide)))]; exact fr_206
              have fr_208 : FRM (zI (zR zy 5)) (zI_195 (zR zy 5)) (zia.toInt) (zia.toInt + 2) := by rw [(k_zI_195.2.row t_119 (by decide) (by decide))]; exact fr_207
              have fr_209 : FRM (zI (zR zy 5)) (zI_199 (zR zy 5)) (zia.toInt) (zia.toInt + 2) := by rw [← uzI_199, u2_r]; exact FRM.up fr_208 (by omega)
              have fr_210 : FRM (zI (zR zy 5)) (zI_201 (zR zy 5)) (zia.toInt) (zia.toInt + 2) := by rw [← uzI_201, u2_r]; exact FRM.up fr_209 (by omega)
              have fr_211 : FRM (zI (zR zy 5)) (zI_203 (zR zy 5)) (zia.toInt) (zia.toInt + 2) := by rw [← uzI_203, u2_r]; exact FRM.up fr_210 (by omega)
              exact W.zret (v := (1 : Int32)) hx hb hr rfl (fun t ht hW => ⟨⟨(1 : Int32), zI_203, rfl, ⟨h_zI_203, (show 0 ≤ (1 : Int32).toInt ∧ (1 : Int32).toInt ≤ 1 from by omega), (show FRM (zI (zR zy 5)) (zI_203 (zR zy 5)) (zia.toInt) (zia.toInt + 2) from fr_211)⟩, ⟨by rw [ht]; exact hP, va_K.moved hW.alike hK, hD⟩⟩, hS.F ht⟩) hS.2.2 dX11_readCondition_113
            · have f_198 : ¬ (zi_192.toInt ≥ 0) := ic_nge (rfl) (by decide) c_197
              refine lv_iconst (v := 0) hx hb dX11_readCondition_84 (by decide) ?_
              subst hQ
              have fr_212 : FRM (zI (zR zy 5)) (zI_4 (zR zy 5)) (zia.toInt) (zia.toInt + 2) := by rw [(k_zI_4.2.row t_119 (by decide) (by decide))]; exact FRM.rf
              have fr_213 : FRM (zI (zR zy 5)) (zI_118 (zR zy 5)) (zia.toInt) (zia.toInt + 2) := by rw [(show zI_118 (zR zy 5) = zI_4 (zR zy 5) from by rw [← uzI_118]; exact u2_a (tne t_119 t_zy (by decide)))]; exact fr_212
              have fr_214 : FRM (zI (zR zy 5)) (zI_123 (zR zy 5)) (zia.toInt) (zia.toInt + 2) := by rw [(k_zI_123.2.row t_119 (by decide) (by decide))]; exact fr_213
              have fr_215 : FRM (zI (zR zy 5)) (zI_191 (zR zy 5)) (zia.toInt) (zia.toInt + 2) := by rw [(show zI_191 (zR zy 5) = zI_123 (zR zy 5) from by rw [← uzI_191]; exact u2_a (tne t_119 t_zy (by decide)))]; exact fr_214
              have fr_216 : FRM (zI (zR zy 5)) (zI_195 (zR zy 5)) (zia.toInt) (zia.toInt + 2) := by rw [(k_zI_195.2.row t_119 (by decide) (by decide))]; exact fr_215
              exact W.zret (v := (0 : Int32)) hx hb hr rfl (fun t ht hW => ⟨⟨(0 : Int32), zI_195, rfl, ⟨h_zI_195, (show 0 ≤ (0 : Int32).toInt ∧ (0 : Int32).toInt ≤ 1 from by omega), (show FRM (zI (zR zy 5)) (zI_195 (zR zy 5)) (zia.toInt) (zia.toInt + 2) from fr_216)⟩, ⟨by rw [ht]; exact hP, va_K.moved hW.alike hK, hD⟩⟩, hS.F ht⟩) hS.2.2 dX11_readCondition_85
          · have f_188 : ¬ (zi_120.toInt = (61 : Int)) := ic_neq (rfl) (show (61 : Int32).toInt = 61 by decide) c_187
            refine lv_iconst (v := 0) hx hb dX11_readCondition_58 (by decide) ?_
            subst hQ
            have qc_0 : (0 : Int32).toInt = 0 := by decide
            have fr_217 : FRM (zI (zR zy 5)) (zI_4 (zR zy 5)) (zia.toInt) (zia.toInt + 2) := by rw [(k_zI_4.2.row t_119 (by decide) (by decide))]; exact FRM.rf
            have fr_218 : FRM (zI (zR zy 5)) (zI_118 (zR zy 5)) (zia.toInt) (zia.toInt + 2) := by rw [(show zI_118 (zR zy 5) = zI_4 (zR zy 5) from by rw [← uzI_118]; exact u2_a (tne t_119 t_zy (by decide)))]; exact fr_217
            have fr_219 : FRM (zI (zR zy 5)) (zI_123 (zR zy 5)) (zia.toInt) (zia.toInt + 2) := by rw [(k_zI_123.2.row t_119 (by decide) (by decide))]; exact fr_218
            exact W.zret (v := (0 : Int32)) hx hb hr rfl (fun t ht hW => ⟨⟨(0 : Int32), zI_123, rfl, ⟨h_zI_123, (show 0 ≤ (0 : Int32).toInt ∧ (0 : Int32).toInt ≤ 1 from by omega), (show FRM (zI (zR zy 5)) (zI_123 (zR zy 5)) (zia.toInt) (zia.toInt + 2) from fr_219)⟩, ⟨by rw [ht]; exact hP, va_K.moved hW.alike hK, hD⟩⟩, hS.F ht⟩) hS.2.2 dX11_readCondition_59
    · have f_115 : ¬ (zi_1.toInt = (104 : Int)) := ic_neq (rfl) (show (104 : Int32).toInt = 104 by decide) c_114
      refine lv_iload_n hx hb dX11_readCondition_17 rfl (lv_at hl 0 rfl) ?_
      refine lv_bipush (v := 119) hx hb dX11_readCondition_18 (by decide) ?_
      refine lv_icmp_eq (tgt := 25) hx hb dX11_readCondition_20 (by decide) (fun c_220 => ?_) (fun c_220 => ?_)
      · have f_221 : zi_1.toInt = (119 : Int) := ic_eq (rfl) (show (119 : Int32).toInt = 119 by decide) c_220
        refine lv_aload_n hx hb dX11_readCondition_25 rfl (lv_at hl 1 rfl) ?_
        refine lv_dup hx hb dX11_readCondition_26 rfl ?_
        refine ht_geti (C := RX11) (T := TX11) (N := 28) hx hb hts (by decide +kernel) hown hK hP hs t_zy (by decide) rfl rfl 3 (by decide) (hts (.fieldLink RX11 116 "DripStoneModel" "at" "I") (by decide +kernel)) (fun _ h9 => h9) rfl dX11_readCondition_27 ?_
        refine lv_topi (fun zi_222 ezi_222 => ?_)
        obtain rfl : zi_6 = zi_222 := (ezi_222.trans ezi_6.symm).symm
        refine lv_iconst (v := 1) hx hb dX11_readCondition_30 (by decide) ?_
        refine lv_iadd hx hb dX11_readCondition_31 ?_
        refine lv_topi (fun zi_223 ezi_223 => ?_)
        have tzi_223 : zi_223.toInt = zi_6.toInt + (1 : Int) := by rw [ezi_223]; exact tiadd (rfl) (show (1 : Int32).toInt = 1 by decide) (by omega) (by omega)
        refine ht_puti (v := zi_223) (ty := .int) (C := RX11) (T := TX11) (N := 28) hx hb hts (by decide +kernel) tyX11 tyX11_ok nmX11 hown hK hP hD hS hs t_zy (by decide) rfl rfl 3 (by decide) (hts (.fieldLink RX11 116 "DripStoneModel" "at" "I") (by decide +kernel)) (fun _ h9 => h9) rfl (by decide +kernel) rfl rfl rfl dX11_readCondition_32 (fun H locs hP hD hS => ?_)
        have h_zI_224 : WM [1803, 10200] AL zT zR zI (u2 zI_4 zy 3 zi_223) := h_zI_4.put hs t_zy rfl (by omega) (by decide) (fun h => absurd h (by decide)) (by decide) trivial
        generalize uzI_224 : u2 zI_4 zy 3 zi_223 = zI_224 at hP hD h_zI_224
        have t_225 : zT (zR zy 5) = 102 := sk_f hs t_zy (by decide) rfl (by decide)
        refine lv_aload_n hx hb dX11_readCondition_35 rfl (lv_at hl 1 rfl) ?_
        refine hj_i (ws := (WL cy zL zT zR zI_224 zJ)) (w1 := fun (u : (Nat → Nat → Int32)) => (WL cy zL zT zR u zJ)) (va_runV (As := []) (rest := []) ⟨hx, hb, hml, hown, hts⟩ (t_X11_nextByte l dC dI cy H.size zL zT zR zI_224 zJ zy hs h_zI_224.1 t_zy) (cwV 0 hts gX11_readCondition_X11_nextByte rfl rfl rfl (by decide +kernel) ⟨(Nat.le_of_ble_eq_true rfl), (Nat.le_of_ble_eq_true rfl)⟩) (PRE.v hP hK hD hN (ht_recv hK hP hs t_zy (by decide) rfl rfl)) rfl rfl hl.1 rfl (lv_room (Nat.le_of_ble_eq_true rfl)) dX11_readCondition_36 ⟨(Nat.le_of_ble_eq_true rfl), (Nat.le_of_ble_eq_true rfl)⟩) hP hD hS hA (fun zi_226 zI_229 H locs hw_227 hP hD hS => ?_)
        obtain ⟨k_zI_229, b_zi_226, ps_230⟩ : (WM [1803] AL zT zR zI_224 zI_229) ∧ ((-1) ≤ zi_226.toInt ∧ zi_226.toInt ≤ 255) ∧ (zi_226.toInt = -1 ∨ (zI_229 zy 3).toInt ≤ 79) := hw_227
        have h_zI_229 : WM [1803, 10200] AL zT zR zI zI_229 := h_zI_224.tr k_zI_229 (by decide) (fun _ _ => trivial)
        obtain ⟨zi_231, ezi_231⟩ : ∃ y : Int32, y = zI_229 zy 3 := ⟨_, rfl⟩
        have tzi_231 : 0 ≤ zi_231.toInt ∧ zi_231.toInt ≤ 80 := by rw [ezi_231]; exact h_zI_229.at t_zy _ rfl
        have lzi_231 : (zI_229 zy 3).toInt = zi_231.toInt := by rw [ezi_231]
        have lk_232 : (zI_229 zy 3).toInt = zi_231.toInt := congrArg Int32.toInt ezi_231.symm
        refine lv_istore_n (lv' := [(3, .int zi_226), (2, .int zi_1), (0, .ref zy), (1, .int zia)]) hx hb dX11_readCondition_39 rfl hl (by decide) rfl (fun ls hl => ?_)
        refine lv_iload_n hx hb dX11_readCondition_40 rfl (lv_at hl 0 rfl) ?_
        refine lv_bipush (v := 60) hx hb dX11_readCondition_41 (by decide) ?_
        refine lv_icmp_eq (tgt := 60) hx hb dX11_readCondition_43 (by decide) (fun c_233 => ?_) (fun c_233 => ?_)
        · have f_234 : zi_226.toInt = (60 : Int) := ic_eq (rfl) (show (60 : Int32).toInt = 60 by decide) c_233
          refine lv_aload_n hx hb dX11_readCondition_60 rfl (lv_at hl 2 rfl) ?_
          refine lv_dup hx hb dX11_readCondition_61 rfl ?_
          refine ht_geti (C := RX11) (T := TX11) (N := 28) hx hb hts (by decide +kernel) hown hK hP hs t_zy (by decide) rfl rfl 3 (by decide) (hts (.fieldLink RX11 116 "DripStoneModel" "at" "I") (by decide +kernel)) (fun _ h9 => h9) rfl dX11_readCondition_62 ?_
          refine lv_topi (fun zi_235 ezi_235 => ?_)
          obtain rfl : zi_231 = zi_235 := (ezi_235.trans ezi_231.symm).symm
          refine lv_iconst (v := 1) hx hb dX11_readCondition_65 (by decide) ?_
          refine lv_iadd hx hb dX11_readCondition_66 ?_
          refine lv_topi (fun zi_236 ezi_236 => ?_)
          have tzi_236 : zi_236.toInt = zi_231.toInt + (1 : Int) := by rw [ezi_236]; exact tiadd (rfl) (show (1 : Int32).toInt = 1 by decide) (by omega) (by omega)
          refine ht_puti (v := zi_236) (ty := .int) (C := RX11) (T := TX11) (N := 28) hx hb hts (by decide +kernel) tyX11 tyX11_ok nmX11 hown hK hP hD hS hs t_zy (by decide) rfl rfl 3 (by decide) (hts (.fieldLink RX11 116 "DripStoneModel" "at" "I") (by decide +kernel)) (fun _ h9 => h9) rfl (by decide +kernel) rfl rfl rfl dX11_readCondition_67 (fun H locs hP hD hS => ?_)
          have h_zI_237 : WM [1803, 10200] AL zT zR zI (u2 zI_229 zy 3 zi_236) := h_zI_229.put hs t_zy rfl (by omega) (by decide) (fun h => absurd h (by decide)) (by decide) trivial
          generalize uzI_237 : u2 zI_229 zy 3 zi_236 = zI_237 at hP hD h_zI_237
          refine lv_aload_n hx hb dX11_readCondition_70 rfl (lv_at hl 2 rfl) ?_
          refine lv_iconst (v := 0) hx hb dX11_readCondition_71 (by decide) ?_
          refine lv_bipush (v := 99) hx hb dX11_readCondition_72 (by decide) ?_
          have qc_0 : (0 : Int32).toInt = 0 := by decide
          have qc_99 : (99 : Int32).toInt = 99 := by decide
          refine hj_i (ws := (WL cy zL zT zR zI_237 zJ)) (w1 := fun (u : (Nat → Nat → Int32)) => (WL cy zL zT zR u zJ)) (va_runV (As := [.int 0, .int 99]) (rest := []) ⟨hx, hb, hml, hown, hts⟩ (t_X11_readNumber l dC dI cy H.size zL zT zR zI_237 zJ zy (0 : Int32) (99 : Int32) hs h_zI_237.1 t_zy (by decide) (by decide)) (cwV 2 hts gX11_readCondition_X11_readNumber rfl rfl rfl (by decide +kernel) ⟨(Nat.le_of_ble_eq_true rfl), (Nat.le_of_ble_eq_true rfl)⟩) (PRE.v hP hK hD hN (ht_recv hK hP hs t_zy (by decide) rfl rfl)) rfl rfl hl.1 rfl (lv_room (Nat.le_of_ble_eq_true rfl)) dX11_readCondition_74 ⟨(Nat.le_of_ble_eq_true rfl), (Nat.le_of_ble_eq_true rfl)⟩) hP hD hS hA (fun zi_238 zI_241 H locs hw_239 hP hD hS => ?_)
          obtain ⟨k_zI_241, b_zi_238, ps_242⟩ : (WM [1803] AL zT zR zI_237 zI_241) ∧ ((-1) ≤ zi_238.toInt) ∧ (zi_238.toInt = -1 ∨ ((0 : Int32).toInt ≤ zi_238.toInt ∧ zi_238.toInt ≤ (99 : Int32).toInt)) := hw_239
          have h_zI_241 : WM [1803, 10200] AL zT zR zI zI_241 := h_zI_237.tr k_zI_241 (by decide) (fun _ _ => trivial)
          have b8_zi_238 : (-1) ≤ zi_238.toInt ∧ zi_238.toInt ≤ 99 := by omega
          refine lv_istore (lv' := [(4, .int zi_238), (3, .int zi_226), (2, .int zi_1), (0, .ref zy), (1, .int zia)]) hx hb dX11_readCondition_77 hl (by decide) rfl (fun ls hl => ?_)
          refine lv_iload hx hb dX11_readCondition_79 (lv_at hl 0 rfl) ?_
          refine lv_if_ge (tgt := 86) hx hb dX11_readCondition_81 (by decide) (fun c_243 => ?_) (fun c_243 => ?_)
          · have f_244 : zi_238.toInt ≥ 0 := ic_ge (rfl) (by decide) c_243
            refine lv_aload_n hx hb dX11_readCondition_86 rfl (lv_at hl 3 rfl) ?_
            refine ht_getr (C := RX11) (T := TX11) (N := 28) hx hb hts (by decide +kernel) hown hK hP hs t_zy (by decide) rfl rfl 5 (by decide) (hts (.fieldLink RX11 16 "DripStoneModel" "read" "[I") (by decide +kernel)) (fun _ h9 => h9) rfl dX11_readCondition_87 ?_
            refine lv_iload_n hx hb dX11_readCondition_90 rfl (lv_at hl 4 rfl) ?_
            refine lv_iload_n hx hb dX11_readCondition_91 rfl (lv_at hl 2 rfl) ?_
            refine ht_iast (v := zi_1) (n := 66) (q := 0) hx hb hK hP hD hS hs t_225 (by decide) rfl rfl ⟨by omega, by omega⟩ dX11_readCondition_92 (fun H locs hP hD hS => ?_)
            have h_zI_245 : WM [1803, 10200] AL zT zR zI (u2 zI_241 (zR zy 5) zia.toNatClampNeg zi_1) := h_zI_241.putA hs t_225 rfl (rgF _) (by decide) (fun h => absurd h (by decide)) (by decide) trivial
            generalize uzI_245 : u2 zI_241 (zR zy 5) zia.toNatClampNeg zi_1 = zI_245 at hP hD h_zI_245
            refine lv_aload_n hx hb dX11_readCondition_93 rfl (lv_at hl 3 rfl) ?_
            refine ht_getr (C := RX11) (T := TX11) (N := 28) hx hb hts (by decide +kernel) hown hK hP hs t_zy (by decide) rfl rfl 5 (by decide) (hts (.fieldLink RX11 16 "DripStoneModel" "read" "[I") (by decide +kernel)) (fun _ h9 => h9) rfl dX11_readCondition_94 ?_
            refine lv_iload_n hx hb dX11_readCondition_97 rfl (lv_at hl 4 rfl) ?_
            refine lv_iconst (v := 1) hx hb dX11_readCondition_98 (by decide) ?_
            refine lv_iadd hx hb dX11_readCondition_99 ?_
            refine lv_topi (fun zi_246 ezi_246 => ?_)
            have tzi_246 : zi_246.toInt = zia.toInt + (1 : Int) := by rw [ezi_246]; exact tiadd (rfl) (show (1 : Int32).toInt = 1 by decide) (by omega) (by omega)
            refine lv_iload_n hx hb dX11_readCondition_100 rfl (lv_at hl 1 rfl) ?_
            refine ht_iast (v := zi_226) (n := 66) (q := 0) hx hb hK hP hD hS hs t_225 (by decide) rfl rfl ⟨by omega, by omega⟩ dX11_readCondition_101 (fun H locs hP hD hS => ?_)
            have h_zI_247 : WM [1803, 10200] AL zT zR zI (u2 zI_245 (zR zy 5) zi_246.toNatClampNeg zi_226) := h_zI_245.putA hs t_225 rfl (rgF _) (by decide) (fun h => absurd h (by decide)) (by decide) trivial
            generalize uzI_247 : u2 zI_245 (zR zy 5) zi_246.toNatClampNeg zi_226 = zI_247 at hP hD h_zI_247
            refine lv_aload_n hx hb dX11_readCondition_102 rfl (lv_at hl 3 rfl) ?_
            refine ht_getr (C := RX11) (T := TX11) (N := 28) hx hb hts (by decide +kernel) hown hK hP hs t_zy (by decide) rfl rfl 5 (by decide) (hts (.fieldLink RX11 16 "DripStoneModel" "read" "[I") (by decide +kernel)) (fun _ h9 => h9) rfl dX11_readCondition_103 ?_
            refine lv_iload_n hx hb dX11_readCondition_106 rfl (lv_at hl 4 rfl) ?_
            refine lv_iconst (v := 2) hx hb dX11_readCondition_107 (by decide) ?_
            refine lv_iadd hx hb dX11_readCondition_108 ?_
            refine lv_topi (fun zi_248 ezi_248 => ?_)
            have tzi_248 : zi_248.toInt = zia.toInt + (2 : Int) := by rw [ezi_248]; exact tiadd (rfl) (show (2 : Int32).toInt = 2 by decide) (by omega) (by omega)
            refine lv_iload hx hb dX11_readCondition_109 (lv_at hl 0 rfl) ?_
            refine ht_iast (v := zi_238) (n := 66) (q := 0) hx hb hK hP hD hS hs t_225 (by decide) rfl rfl ⟨by omega, by omega⟩ dX11_readCondition_111 (fun H locs hP hD hS => ?_)
            have h_zI_249 : WM [1803, 10200] AL zT zR zI (u2 zI_247 (zR zy 5) zi_248.toNatClampNeg zi_238) := h_zI_247.putA hs t_225 rfl (rgF _) (by decide) (fun h => absurd h (by decide)) (by decide) trivial
            generalize uzI_249 : u2 zI_247 (zR zy 5) zi_248.toNatClampNeg zi_238 = zI_249 at hP hD h_zI_249
            refine lv_iconst (v := 1) hx hb dX11_readCondition_112 (by decide) ?_
            subst hQ
            have qc_1 : (1 : Int32).toInt = 1 := by decide
            have fr_250 : FRM (zI (zR zy 5)) (zI_4 (zR zy 5)) (zia.toInt) (zia.toInt + 2) := by rw [(k_zI_4.2.row t_225 (by decide) (by decide))]; exact FRM.rf
            have fr_251 : FRM (zI (zR zy 5)) (zI_224 (zR zy 5)) (zia.toInt) (zia.toInt + 2) := by rw [(show zI_224 (zR zy 5) = zI_4 (zR zy 5) from by rw [← uzI_224]; exact u2_a (tne t_225 t_zy (by decide)))]; exact fr_250
            have fr_252 : FRM (zI (zR zy 5)) (zI_229 (zR zy 5)) (zia.toInt) (zia.toInt + 2) := by rw [(k_zI_229.2.row t_225 (by decide) (by decide))]; exact fr_251
            have fr_253 : FRM (zI (zR zy 5)) (zI_237 (zR zy 5)) (zia.toInt) (zia.toInt + 2) := by rw [(show zI_237 (zR zy 5) = zI_229 (zR zy 5) from by rw [← uzI_237]; exact u2_a (tne t_225 t_zy (by decide)))]; exact fr_252
            have fr_254 : FRM (zI (zR zy 5)) (zI_241 (zR zy 5)) (zia.toInt) (zia.toInt + 2) := by rw [(k_zI_241.2.row t_225 (by decide) (by decide))]; exact fr_253
            have fr_255 : FRM (zI (zR zy 5)) (zI_245 (zR zy 5)) (zia.toInt) (zia.toInt + 2) := by rw [← uzI_245, u2_r]; exact FRM.up fr_254 (by omega)
            have fr_256 : FRM (zI (zR zy 5)) (zI_247 (zR zy 5)) (zia.toInt) (zia.toInt + 2) := by rw [← uzI_247, u2_r]; exact FRM.up fr_255 (by omega)
            have fr_257 : FRM (zI (zR zy 5)) (zI_249 (zR zy 5)) (zia.toInt) (zia.toInt + 2) := by rw [← uzI_249, u2_r]; exact FRM.up fr_256 (by omega)
            exact W.zret (v := (1 : Int32)) hx hb hr rfl (fun t ht hW => ⟨⟨(1 : Int32), zI_249, rfl, ⟨h_zI_249, (show 0 ≤ (1 : Int32).toInt ∧ (1 : Int32).toInt ≤ 1 from by omega), (show FRM (zI (zR zy 5)) (zI_249 (zR zy 5)) (zia.toInt) (zia.toInt + 2) from fr_257)⟩, ⟨by rw [ht]; exact hP, va_K.moved hW.alike hK, hD⟩⟩, hS.F ht⟩) hS.2.2 dX11_readCondition_113
          · have f_244 : ¬ (zi_238.toInt ≥ 0) := ic_nge (rfl) (by decide) c_243
            refine lv_iconst (v := 0) hx hb dX11_readCondition_84 (by decide) ?_
            subst hQ
            have fr_258 : FRM (zI (zR zy 5)) (zI_4 (zR zy 5)) (zia.toInt) (zia.toInt + 2) := by rw [(k_zI_4.2.row t_225 (by decide) (by decide))]; exact FRM.rf
            have fr_259 : FRM (zI (zR zy 5)) (zI_224 (zR zy 5)) (zia.toInt) (zia.toInt + 2) := by rw [(show zI_224 (zR zy 5) = zI_4 (zR zy 5) from by rw [← uzI_224]; exact u2_a (tne t_225 t_zy (by decide)))]; exact fr_258
            have fr_260 : FRM (zI (zR zy 5)) (zI_229 (zR zy 5)) (zia.toInt) (zia.toInt + 2) := by rw [(k_zI_229.2.row t_225 (by decide) (by decide))]; exact fr_259
            have fr_261 : FRM (zI (zR zy 5)) (zI_237 (zR zy 5)) (zia.toInt) (zia.toInt + 2) := by rw [(show zI_237 (zR zy 5) = zI_229 (zR zy 5) from by rw [← uzI_237]; exact u2_a (tne t_225 t_zy (by decide)))]; exact fr_260
            have fr_262 : FRM (zI (zR zy 5)) (zI_241 (zR zy 5)) (zia.toInt) (zia.toInt + 2) := by rw [(k_zI_241.2.row t_225 (by decide) (by decide))]; exact fr_261
            exact W.zret (v := (0 : Int32)) hx hb hr rfl (fun t ht hW => ⟨⟨(0 : Int32), zI_241, rfl, ⟨h_zI_241, (show 0 ≤ (0 : Int32).toInt ∧ (0 : Int32).toInt ≤ 1 from by omega), (show FRM (zI (zR zy 5)) (zI_241 (zR zy 5)) (zia.toInt) (zia.toInt + 2) from fr_262)⟩, ⟨by rw [ht]; exact hP, va_K.moved hW.alike hK, hD⟩⟩, hS.F ht⟩) hS.2.2 dX11_readCondition_85
        · have f_234 : ¬ (zi_226.toInt = (60 : Int)) := ic_neq (rfl) (show (60 : Int32).toInt = 60 by decide) c_233
          refine lv_iload_n hx hb dX11_readCondition_46 rfl (lv_at hl 0 rfl) ?_
          refine lv_bipush (v := 62) hx hb dX11_readCondition_47 (by decide) ?_
          refine lv_icmp_eq (tgt := 60) hx hb dX11_readCondition_49 (by decide) (fun c_263 => ?_) (fun c_263 => ?_)
          · have f_264 : zi_226.toInt = (62 : Int) := ic_eq (rfl) (show (62 : Int32).toInt = 62 by decide) c_263
            refine lv_aload_n hx hb dX11_readCondition_60 rfl (lv_at hl 2 rfl) ?_
            refine lv_dup hx hb dX11_readCondition_61 rfl ?_
            refine ht_geti (C := RX11) (T := TX11) (N := 28) hx hb hts (by decide +kernel) hown hK hP hs t_zy (by decide) rfl rfl 3 (by decide) (hts (.fieldLink RX11 116 "DripStoneModel" "at" "I") (by decide +kernel)) (fun _ h9 => h9) rfl dX11_readCondition_62 ?_
            refine lv_topi (fun zi_265 ezi_265 => ?_)
            obtain rfl : zi_231 = zi_265 := (ezi_265.trans ezi_231.symm).symm
            refine lv_iconst (v := 1) hx hb dX11_readCondition_65 (by decide) ?_
            refine lv_iadd hx hb dX11_readCondition_66 ?_
            refine lv_topi (fun zi_266 ezi_266 => ?_)
            have tzi_266 : zi_266.toInt = zi_231.toInt + (1 : Int) := by rw [ezi_266]; exact tiadd (rfl) (show (1 : Int32).toInt = 1 by decide) (by omega) (by omega)
            refine ht_puti (v := zi_266) (ty := .int) (C := RX11) (T := TX11) (N := 28) hx hb hts (by decide +kernel) tyX11 tyX11_ok nmX11 hown hK hP hD hS hs t_zy (by decide) rfl rfl 3 (by decide) (hts (.fieldLink RX11 116 "DripStoneModel" "at" "I") (by decide +kernel)) (fun _ h9 => h9) rfl (by decide +kernel) rfl rfl rfl dX11_readCondition_67 (fun H locs hP hD hS => ?_)
            have h_zI_267 : WM [1803, 10200] AL zT zR zI (u2 zI_229 zy 3 zi_266) := h_zI_229.put hs t_zy rfl (by omega) (by decide) (fun h => absurd h (by decide)) (by decide) trivial
            generalize uzI_267 : u2 zI_229 zy 3 zi_266 = zI_267 at hP hD h_zI_267
            refine lv_aload_n hx hb dX11_readCondition_70 rfl (lv_at hl 2 rfl) ?_
            refine lv_iconst (v := 0) hx hb dX11_readCondition_71 (by decide) ?_
            refine lv_bipush (v := 99) hx hb dX11_readCondition_72 (by decide) ?_
            have qc_0 : (0 : Int32).toInt = 0 := by decide
            have qc_99 : (99 : Int32).toInt = 99 := by decide
            refine hj_i (ws := (WL cy zL zT zR zI_267 zJ)) (w1 := fun (u : (Nat → Nat → Int32)) => (WL cy zL zT zR u zJ)) (va_runV (As := [.int 0, .int 99]) (rest := []) ⟨hx, hb, hml, hown, hts⟩ (t_X11_readNumber l dC dI cy H.size zL zT zR zI_267 zJ zy (0 : Int32) (99 : Int32) hs h_zI_267.1 t_zy (by decide) (by decide)) (cwV 2 hts gX11_readCondition_X11_readNumber rfl rfl rfl (by decide +kernel) ⟨(Nat.le_of_ble_eq_true rfl), (Nat.le_of_ble_eq_true rfl)⟩) (PRE.v hP hK hD hN (ht_recv hK hP hs t_zy (by decide) rfl rfl)) rfl rfl hl.1 rfl (lv_room (Nat.le_of_ble_eq_true rfl)) dX11_readCondition_74 ⟨(Nat.le_of_ble_eq_true rfl), (Nat.le_of_ble_eq_true rfl)⟩) hP hD hS hA (fun zi_268 zI_271 H locs hw_269 hP hD hS => ?_)
            obtain ⟨k_zI_271, b_zi_268, ps_272⟩ : (WM [1803] AL zT zR zI_267 zI_271) ∧ ((-1) ≤ zi_268.toInt) ∧ (zi_268.toInt = -1 ∨ ((0 : Int32).toInt ≤ zi_268.toInt ∧ zi_268.toInt ≤ (99 : Int32).toInt)) := hw_269
            have h_zI_271 : WM [1803, 10200] AL zT zR zI zI_271 := h_zI_267.tr k_zI_271 (by decide) (fun _ _ => trivial)
            have b8_zi_268 : (-1) ≤ zi_268.toInt ∧ zi_268.toInt ≤ 99 := by omega
            refine lv_istore (lv' := [(4, .int zi_268), (3, .int zi_226), (2, .int zi_1), (0, .ref zy), (1, .int zia)]) hx hb dX11_readCondition_77 hl (by decide) rfl (fun ls hl => ?_)
            refine lv_iload hx hb dX11_readCondition_79 (lv_at hl 0 rfl) ?_
            refine lv_if_ge (tgt := 86) hx hb dX11_readCondition_81 (by decide) (fun c_273 => ?_) (fun c_273 => ?_)
            · have f_274 : zi_268.toInt ≥ 0 := ic_ge (rfl) (by decide) c_273
              refine lv_aload_n hx hb dX11_readCondition_86 rfl (lv_at hl 3 rfl) ?_
              refine ht_getr (C := RX11) (T := TX11) (N := 28) hx hb hts (by decide +kernel) hown hK hP hs t_zy (by decide) rfl rfl 5 (by decide) (hts (.fieldLink RX11 16 "DripStoneModel" "read" "[I") (by decide +kernel)) (fun _ h9 => h9) rfl dX11_readCondition_87 ?_
              refine lv_iload_n hx hb dX11_readCondition_90 rfl (lv_at hl 4 rfl) ?_
              refine lv_iload_n hx hb dX11_readCondition_91 rfl (lv_at hl 2 rfl) ?_
              refine ht_iast (v := zi_1) (n := 66) (q := 0) hx hb hK hP hD hS hs t_225 (by decide) rfl rfl ⟨by omega, by omega⟩ dX11_readCondition_92 (fun H locs hP hD hS => ?_)
              have h_zI_275 : WM [1803, 10200] AL zT zR zI (u2 zI_271 (zR zy 5) zia.toNatClampNeg zi_1) := h_zI_271.putA hs t_225 rfl (rgF _) (by decide) (fun h => absurd h (by decide)) (by decide) trivial
              generalize uzI_275 : u2 zI_271 (zR zy 5) zia.toNatClampNeg zi_1 = zI_275 at hP hD h_zI_275
              refine lv_aload_n hx hb dX11_readCondition_93 rfl (lv_at hl 3 rfl) ?_
              refine ht_getr (C := RX11) (T := TX11) (N := 28) hx hb hts (by decide +kernel) hown hK hP hs t_zy (by decide) rfl rfl 5 (by decide) (hts (.fieldLink RX11 16 "DripStoneModel" "read" "[I") (by decide +kernel)) (fun _ h9 => h9) rfl dX11_readCondition_94 ?_
              refine lv_iload_n hx hb dX11_readCondition_97 rfl (lv_at hl 4 rfl) ?_
              refine lv_iconst (v := 1) hx hb dX11_readCondition_98 (by decide) ?_
              refine lv_iadd hx hb dX11_readCondition_99 ?_
              refine lv_topi (fun zi_276 ezi_276 => ?_)
              have tzi_276 : zi_276.toInt = zia.toInt + (1 : Int) := by rw [ezi_276]; exact tiadd (rfl) (show (1 : Int32).toInt = 1 by decide) (by omega) (by omega)
              refine lv_iload_n hx hb dX11_readCondition_100 rfl (lv_at hl 1 rfl) ?_
              refine ht_iast (v := zi_226) (n := 66) (q := 0) hx hb hK hP hD hS hs t_225 (by decide) rfl rfl ⟨by omega, by omega⟩ dX11_readCondition_101 (fun H locs hP hD hS => ?_)
              have h_zI_277 : WM [1803, 10200] AL zT zR zI (u2 zI_275 (zR zy 5) zi_276.toNatClampNeg zi_226) := h_zI_275.putA hs t_225 rfl (rgF _) (by decide) (fun h => absurd h (by decide)) (by decide) trivial
              generalize uzI_277 : u2 zI_275 (zR zy 5) zi_276.toNatClampNeg zi_226 = zI_277 at hP hD h_zI_277
              refine lv_aload_n hx hb dX11_readCondition_102 rfl (lv_at hl 3 rfl) ?_
              refine ht_getr (C := RX11) (T := TX11) (N := 28) hx hb hts (by decide +kernel) hown hK hP hs t_zy (by decide) rfl rfl 5 (by decide) (hts (.fieldLink RX11 16 "DripStoneModel" "read" "[I") (by decide +kernel)) (fun _ h9 => h9) rfl dX11_readCondition_103 ?_
              refine lv_iload_n hx hb dX11_readCondition_106 rfl (lv_at hl 4 rfl) ?_
              refine lv_iconst (v := 2) hx hb dX11_readCondition_107 (by decide) ?_
              refine lv_iadd hx hb dX11_readCondition_108 ?_
              refine lv_topi (fun zi_278 ezi_278 => ?_)
              have tzi_278 : zi_278.toInt = zia.toInt + (2 : Int) := by rw [ezi_278]; exact tiadd (rfl) (show (2 : Int32).toInt = 2 by decide) (by omega) (by omega)
              refine lv_iload hx hb dX11_readCondition_109 (lv_at hl 0 rfl) ?_
              refine ht_iast (v := zi_268) (n := 66) (q := 0) hx hb hK hP hD hS hs t_225 (by decide) rfl rfl ⟨by omega, by omega⟩ dX11_readCondition_111 (fun H locs hP hD hS => ?_)
              have h_zI_279 : WM [1803, 10200] AL zT zR zI (u2 zI_277 (zR zy 5) zi_278.toNatClampNeg zi_268) := h_zI_277.putA hs t_225 rfl (rgF _) (by decide) (fun h => absurd h (by decide)) (by decide) trivial
              generalize uzI_279 : u2 zI_277 (zR zy 5) zi_278.toNatClampNeg zi_268 = zI_279 at hP hD h_zI_279
              refine lv_iconst (v := 1) hx hb dX11_readCondition_112 (by decide) ?_
              subst hQ
              have qc_1 : (1 : Int32).toInt = 1 := by decide
              have fr_280 : FRM (zI (zR zy 5)) (zI_4 (zR zy 5)) (zia.toInt) (zia.toInt + 2) := by rw [(k_zI_4.2.row t_225 (by decide) (by decide))]; exact FRM.rf
              have fr_281 : FRM (zI (zR zy 5)) (zI_224 (zR zy 5)) (zia.toInt) (zia.toInt + 2) := by rw [(show zI_224 (zR zy 5) = zI_4 (zR zy 5) from by rw [← uzI_224]; exact u2_a (tne t_225 t_zy (by decide)))]; exact fr_280
              have fr_282 : FRM (zI (zR zy 5)) (zI_229 (zR zy 5)) (zia.toInt) (zia.toInt + 2) := by rw [(k_zI_229.2.row t_225 (by decide) (by decide))]; exact fr_281
              have fr_283 : FRM (zI (zR zy 5)) (zI_267 (zR zy 5)) (zia.toInt) (zia.toInt + 2) := by rw [(show zI_267 (zR zy 5) = zI_229 (zR zy 5) from by rw [← uzI_267]; exact u2_a (tne t_225 t_zy (by decide)))]; exact fr_282
              have fr_284 : FRM (zI (zR zy 5)) (zI_271 (zR zy 5)) (zia.toInt) (zia.toInt + 2) := by rw [(k_zI_271.2.row t_225 (by decide) (by decide))]; exact fr_283
              have fr_285 : FRM (zI (zR zy 5)) (zI_275 (zR zy 5)) (zia.toInt) (zia.toInt + 2) := by rw [← uzI_275, u2_r]; exact FRM.up fr_284 (by omega)
              have fr_286 : FRM (zI (zR zy 5)) (zI_277 (zR zy 5)) (zia.toInt) (zia.toInt + 2) := by rw [← uzI_277, u2_r]; exact FRM.up fr_285 (by omega)
              have fr_287 : FRM (zI (zR zy 5)) (zI_279 (zR zy 5)) (zia.toInt) (zia.toInt + 2) := by rw [← uzI_279, u2_r]; exact FRM.up fr_286 (by omega)
              exact W.zret (v := (1 : Int32)) hx hb hr rfl (fun t ht hW => ⟨⟨(1 : Int32), zI_279, rfl, ⟨h_zI_279, (show 0 ≤ (1 : Int32).toInt ∧ (1 : Int32).toInt ≤ 1 from by omega), (show FRM (zI (zR zy 5)) (zI_279 (zR zy 5)) (zia.toInt) (zia.toInt + 2) from fr_287)⟩, ⟨by rw [ht]; exact hP, va_K.moved hW.alike hK, hD⟩⟩, hS.F ht⟩) hS.2.2 dX11_readCondition_113
            · have f_274 : ¬ (zi_268.toInt ≥ 0) := ic_nge (rfl) (by decide) c_273
              refine lv_iconst (v := 0) hx hb dX11_readCondition_84 (by decide) ?_
              subst hQ
              have fr_288 : FRM (zI (zR zy 5)) (zI_4 (zR zy 5)) (zia.toInt) (zia.toInt + 2) := by rw [(k_zI_4.2.row t_225 (by decide) (by decide))]; exact FRM.rf
              have fr_289 : FRM (zI (zR zy 5)) (zI_224 (zR zy 5)) (zia.toInt) (zia.toInt + 2) := by rw [(show zI_224 (zR zy 5) = zI_4 (zR zy 5) from by rw [← uzI_224]; exact u2_a (tne t_225 t_zy (by decide)))]; exact fr_288
              have fr_290 : FRM (zI (zR zy 5)) (zI_229 (zR zy 5)) (zia.toInt) (zia.toInt + 2) := by rw [(k_zI_229.2.row t_225 (by decide) (by decide))]; exact fr_289
              have fr_291 : FRM (zI (zR zy 5)) (zI_267 (zR zy 5)) (zia.toInt) (zia.toInt + 2) := by rw [(show zI_267 (zR zy 5) = zI_229 (zR zy 5) from by rw [← uzI_267]; exact u2_a (tne t_225 t_zy (by decide)))]; exact fr_290
              have fr_292 : FRM (zI (zR zy 5)) (zI_271 (zR zy 5)) (zia.toInt) (zia.toInt + 2) := by rw [(k_zI_271.2.row t_225 (by decide) (by decide))]; exact fr_291
              exact W.zret (v := (0 : Int32)) hx hb hr rfl (fun t ht hW => ⟨⟨(0 : Int32), zI_271, rfl, ⟨h_zI_271, (show 0 ≤ (0 : Int32).toInt ∧ (0 : Int32).toInt ≤ 1 from by omega), (show FRM (zI (zR zy 5)) (zI_271 (zR zy 5)) (zia.toInt) (zia.toInt + 2) from fr_292)⟩, ⟨by rw [ht]; exact hP, va_K.moved hW.alike hK, hD⟩⟩, hS.F ht⟩) hS.2.2 dX11_readCondition_85
          · have f_264 : ¬ (zi_226.toInt = (62 : Int)) := ic_neq (rfl) (show (62 : Int32).toInt = 62 by decide) c_263
            refine lv_iload_n hx hb dX11_readCondition_52 rfl (lv_at hl 0 rfl) ?_
            refine lv_bipush (v := 61) hx hb dX11_readCondition_53 (by decide) ?_
            refine lv_icmp_eq (tgt := 60) hx hb dX11_readCondition_55 (by decide) (fun c_293 => ?_) (fun c_293 => ?_)
            · have f_294 : zi_226.toInt = (61 : Int) := ic_eq (rfl) (show (61 : Int32).toInt = 61 by decide) c_293
              refine lv_aload_n hx hb dX11_readCondition_60 rfl (lv_at hl 2 rfl) ?_
              refine lv_dup hx hb dX11_readCondition_61 rfl ?_
              refine ht_geti (C := RX11) (T := TX11) (N := 28) hx hb hts (by decide +kernel) hown hK hP hs t_zy (by decide) rfl rfl 3 (by decide) (hts (.fieldLink RX11 116 "DripStoneModel" "at" "I") (by decide +kernel)) (fun _ h9 => h9) rfl dX11_readCondition_62 ?_
              refine lv_topi (fun zi_295 ezi_295 => ?_)
              obtain rfl : zi_231 = zi_295 := (ezi_295.trans ezi_231.symm).symm
              refine lv_iconst (v := 1) hx hb dX11_readCondition_65 (by decide) ?_
              refine lv_iadd hx hb dX11_readCondition_66 ?_
              refine lv_topi (fun zi_296 ezi_296 => ?_)
              have tzi_296 : zi_296.toInt = zi_231.toInt + (1 : Int) := by rw [ezi_296]; exact tiadd (rfl) (show (1 : Int32).toInt = 1 by decide) (by omega) (by omega)
              refine ht_puti (v := zi_296) (ty := .int) (C := RX11) (T := TX11) (N := 28) hx hb hts (by decide +kernel) tyX11 tyX11_ok nmX11 hown hK hP hD hS hs t_zy (by decide) rfl rfl 3 (by decide) (hts (.fieldLink RX11 116 "DripStoneModel" "at" "I") (by decide +kernel)) (fun _ h9 => h9) rfl (by decide +kernel) rfl rfl rfl dX11_readCondition_67 (fun H locs hP hD hS => ?_)
              have h_zI_297 : WM [1803, 10200] AL zT zR zI (u2 zI_229 zy 3 zi_296) := h_zI_229.put hs t_zy rfl (by omega) (by decide) (fun h => absurd h (by decide)) (by decide) trivial
              generalize uzI_297 : u2 zI_229 zy 3 zi_296 = zI_297 at hP hD h_zI_297
              refine lv_aload_n hx hb dX11_readCondition_70 rfl (lv_at hl 2 rfl) ?_
              refine lv_iconst (v := 0) hx hb dX11_readCondition_71 (by decide) ?_
              refine lv_bipush (v := 99) hx hb dX11_readCondition_72 (by decide) ?_
              have qc_0 : (0 : Int32).toInt = 0 := by decide
              have qc_99 : (99 : Int32).toInt = 99 := by decide
              refine hj_i (ws := (WL cy zL zT zR zI_297 zJ)) (w1 := fun (u : (Nat → Nat → Int32)) => (WL cy zL zT zR u zJ)) (va_runV (As := [.int 0, .int 99]) (rest := []) ⟨hx, hb, hml, hown, hts⟩ (t_X11_readNumber l dC dI cy H.size zL zT zR zI_297 zJ zy (0 : Int32) (99 : Int32) hs h_zI_297.1 t_zy (by decide) (by decide)) (cwV 2 hts gX11_readCondition_X11_readNumber rfl rfl rfl (by decide +kernel) ⟨(Nat.le_of_ble_eq_true rfl), (Nat.le_of_ble_eq_true rfl)⟩) (PRE.v hP hK hD hN (ht_recv hK hP hs t_zy (by decide) rfl rfl)) rfl rfl hl.1 rfl (lv_room (Nat.le_of_ble_eq_true rfl)) dX11_readCondition_74 ⟨(Nat.le_of_ble_eq_true rfl), (Nat.le_of_ble_eq_true rfl)⟩) hP hD hS hA (fun zi_298 zI_301 H locs hw_299 hP hD hS => ?_)
              obtain ⟨k_zI_301, b_zi_298, ps_302⟩ : (WM [1803] AL zT zR zI_297 zI_301) ∧ ((-1) ≤ zi_298.toInt) ∧ (zi_298.toInt = -1 ∨ ((0 : Int32).toInt ≤ zi_298.toInt ∧ zi_298.toInt ≤ (99 : Int32).toInt)) := hw_299
              have h_zI_301 : WM [1803, 10200] AL zT zR zI zI_301 := h_zI_297.tr k_zI_301 (by decide) (fun _ _ => trivial)
              have b8_zi_298 : (-1) ≤ zi_298.toInt ∧ zi_298.toInt ≤ 99 := by omega
              refine lv_istore (lv' := [(4, .int zi_298), (3, .int zi_226), (2, .int zi_1), (0, .ref zy), (1, .int zia)]) hx hb dX11_readCondition_77 hl (by decide) rfl (fun ls hl => ?_)
              refine lv_iload hx hb dX11_readCondition_79 (lv_at hl 0 rfl) ?_
              refine lv_if_ge (tgt := 86) hx hb dX11_readCondition_81 (by decide) (fun c_303 => ?_) (fun c_303 => ?_)
              · have f_304 : zi_298.toInt ≥ 0 := ic_ge (rfl) (by decide) c_303
                refine lv_aload_n hx hb dX11_readCondition_86 rfl (lv_at hl 3 rfl) ?_
                refine ht_getr (C := RX11) (T := TX11) (N := 28) hx hb hts (by decide +kernel) hown hK hP hs t_zy (by decide) rfl rfl 5 (by decide) (hts (.fieldLink RX11 16 "DripStoneModel" "read" "[I") (by decide +kernel)) (fun _ h9 => h9) rfl dX11_readCondition_87 ?_
                refine lv_iload_n hx hb dX11_readCondition_90 rfl (lv_at hl 4 rfl) ?_
                refine lv_iload_n hx hb dX11_readCondition_91 rfl (lv_at hl 2 rfl) ?_
                refine ht_iast (v := zi_1) (n := 66) (q := 0) hx hb hK hP hD hS hs t_225 (by decide) rfl rfl ⟨by omega, by omega⟩ dX11_readCondition_92 (fun H locs hP hD hS => ?_)
                have h_zI_305 : WM [1803, 10200] AL zT zR zI (u2 zI_301 (zR zy 5) zia.toNatClampNeg zi_1) := h_zI_301.putA hs t_225 rfl (rgF _) (by decide) (fun h => absurd h (by decide)) (by decide) trivial
                generalize uzI_305 : u2 zI_301 (zR zy 5) zia.toNatClampNeg zi_1 = zI_305 at hP hD h_zI_305
                refine lv_aload_n hx hb dX11_readCondition_93 rfl (lv_at hl 3 rfl) ?_
                refine ht_getr (C := RX11) (T := TX11) (N := 28) hx hb hts (by decide +kernel) hown hK hP hs t_zy (by decide) rfl rfl 5 (by decide) (hts (.fieldLink RX11 16 "DripStoneModel" "read" "[I") (by decide +kernel)) (fun _ h9 => h9) rfl dX11_readCondition_94 ?_
                refine lv_iload_n hx hb dX11_readCondition_97 rfl (lv_at hl 4 rfl) ?_
                refine lv_iconst (v := 1) hx hb dX11_readCondition_98 (by decide) ?_
                refine lv_iadd hx hb dX11_readCondition_99 ?_
                refine lv_topi (fun zi_306 ezi_306 => ?_)
                have tzi_306 : zi_306.toInt = zia.toInt + (1 : Int) := by rw [ezi_306]; exact tiadd (rfl) (show (1 : Int32).toInt = 1 by decide) (by omega) (by omega)
                refine lv_iload_n hx hb dX11_readCondition_100 rfl (lv_at hl 1 rfl) ?_
                refine ht_iast (v := zi_226) (n := 66) (q := 0) hx hb hK hP hD hS hs t_225 (by decide) rfl rfl ⟨by omega, by omega⟩ dX11_readCondition_101 (fun H locs hP hD hS => ?_)
                have h_zI_307 : WM [1803, 10200] AL zT zR zI (u2 zI_305 (zR zy 5) zi_306.toNatClampNeg zi_226) := h_zI_305.putA hs t_225 rfl (rgF _) (by decide) (fun h => absurd h (by decide)) (by decide) trivial
                generalize uzI_307 : u2 zI_305 (zR zy 5) zi_306.toNatClampNeg zi_226 = zI_307 at hP hD h_zI_307
                refine lv_aload_n hx hb dX11_readCondition_102 rfl (lv_at hl 3 rfl) ?_
                refine ht_getr (C := RX11) (T := TX11) (N := 28) hx hb hts (by decide +kernel) hown hK hP hs t_zy (by decide) rfl rfl 5 (by decide) (hts (.fieldLink RX11 16 "DripStoneModel" "read" "[I") (by decide +kernel)) (fun _ h9 => h9) rfl dX11_readCondition_103 ?_
                refine lv_iload_n hx hb dX11_readCondition_106 rfl (lv_at hl 4 rfl) ?_
                refine lv_iconst (v := 2) hx hb dX11_readCondition_107 (by decide) ?_
                refine lv_iadd hx hb dX11_readCondition_108 ?_
                refine lv_topi (fun zi_308 ezi_308 => ?_)
                have tzi_308 : zi_308.toInt = zia.toInt + (2 : Int) := by rw [ezi_308]; exact tiadd (rfl) (show (2 : Int32).toInt = 2 by decide) (by omega) (by omega)
                refine lv_iload hx hb dX11_readCondition_109 (lv_at hl 0 rfl) ?_
                refine ht_iast (v := zi_298) (n := 66) (q := 0) hx hb hK hP hD hS hs t_225 (by decide) rfl rfl ⟨by omega, by omega⟩ dX11_readCondition_111 (fun H locs hP hD hS => ?_)
                have h_zI_309 : WM [1803, 10200] AL zT zR zI (u2 zI_307 (zR zy 5) zi_308.toNatClampNeg zi_298) := h_zI_307.putA hs t_225 rfl (rgF _) (by decide) (fun h => absurd h (by decide)) (by decide) trivial
                generalize uzI_309 : u2 zI_307 (zR zy 5) zi_308.toNatClampNeg zi_298 = zI_309 at hP hD h_zI_309
                refine lv_iconst (v := 1) hx hb dX11_readCondition_112 (by decide) ?_
                subst hQ
                have qc_1 : (1 : Int32).toInt = 1 := by decide
                have fr_310 : FRM (zI (zR zy 5)) (zI_4 (zR zy 5)) (zia.toInt) (zia.toInt + 2) := by rw [(k_zI_4.2.row t_225 (by decide) (by decide))]; exact FRM.rf
                have fr_311 : FRM (zI (zR zy 5)) (zI_224 (zR zy 5)) (zia.toInt) (zia.toInt + 2) := by rw [(show zI_224 (zR zy 5) = zI_4 (zR zy 5) from by rw [← uzI_224]; exact u2_a (tne t_225 t_zy (by decide)))]; exact fr_310
                have fr_312 : FRM (zI (zR zy 5)) (zI_229 (zR zy 5)) (zia.toInt) (zia.toInt + 2) := by rw [(k_zI_229.2.row t_225 (by decide) (by decide))]; exact fr_311
                have fr_313 : FRM (zI (zR zy 5)) (zI_297 (zR zy 5)) (zia.toInt) (zia.toInt + 2) := by rw [(show zI_297 (zR zy 5) = zI_229 (zR zy 5) from by rw [← uzI_297]; exact u2_a (tne t_225 t_zy (by decide)))]; exact fr_312
                have fr_314 : FRM (zI (zR zy 5)) (zI_301 (zR zy 5)) (zia.toInt) (zia.toInt + 2) := by rw [(k_zI_301.2.row t_225 (by decide) (by decide))]; exact fr_313
                have fr_315 : FRM (zI (zR zy 5)) (zI_305 (zR zy 5)) (zia.toInt) (zia.toInt + 2) := by rw [← uzI_305, u2_r]; exact FRM.up fr_314 (by omega)
                have fr_316 : FRM (zI (zR zy 5)) (zI_307 (zR zy 5)) (zia.toInt) (zia.toInt + 2) := by rw [← uzI_307, u2_r]; exact FRM.up fr_315 (by omega)
                have fr_317 : FRM (zI (zR zy 5)) (zI_309 (zR zy 5)) (zia.toInt) (zia.toInt + 2) := by rw [← uzI_309, u2_r]; exact FRM.up fr_316 (by omega)
                exact W.zret (v := (1 : Int32)) hx hb hr rfl (fun t ht hW => ⟨⟨(1 : Int32), zI_309, rfl, ⟨h_zI_309, (show 0 ≤ (1 : Int32).toInt ∧ (1 : Int32).toInt ≤ 1 from by omega), (show FRM (zI (zR zy 5)) (zI_309 (zR zy 5)) (zia.toInt) (zia.toInt + 2) from fr_317)⟩, ⟨by rw [ht]; exact hP, va_K.moved hW.alike hK, hD⟩⟩, hS.F ht⟩) hS.2.2 dX11_readCondition_113
              · have f_304 : ¬ (zi_298.toInt ≥ 0) := ic_nge (rfl) (by decide) c_303
                refine lv_iconst (v := 0) hx hb dX11_readCondition_84 (by decide) ?_
                subst hQ
                have fr_318 : FRM (zI (zR zy 5)) (zI_4 (zR zy 5)) (zia.toInt) (zia.toInt + 2) := by rw [(k_zI_4.2.row t_225 (by decide) (by decide))]; exact FRM.rf
                have fr_319 : FRM (zI (zR zy 5)) (zI_224 (zR zy 5)) (zia.toInt) (zia.toInt + 2) := by rw [(show zI_224 (zR zy 5) = zI_4 (zR zy 5) from by rw [← uzI_224]; exact u2_a (tne t_225 t_zy (by decide)))]; exact fr_318
                have fr_320 : FRM (zI (zR zy 5)) (zI_229 (zR zy 5)) (zia.toInt) (zia.toInt + 2) := by rw [(k_zI_229.2.row t_225 (by decide) (by decide))]; exact fr_319
                have fr_321 : FRM (zI (zR zy 5)) (zI_297 (zR zy 5)) (zia.toInt) (zia.toInt + 2) := by rw [(show zI_297 (zR zy 5) = zI_229 (zR zy 5) from by rw [← uzI_297]; exact u2_a (tne t_225 t_zy (by decide)))]; exact fr_320
                have fr_322 : FRM (zI (zR zy 5)) (zI_301 (zR zy 5)) (zia.toInt) (zia.toInt + 2) := by rw [(k_zI_301.2.row t_225 (by decide) (by decide))]; exact fr_321
                exact W.zret (v := (0 : Int32)) hx hb hr rfl (fun t ht hW => ⟨⟨(0 : Int32), zI_301, rfl, ⟨h_zI_301, (show 0 ≤ (0 : Int32).toInt ∧ (0 : Int32).toInt ≤ 1 from by omega), (show FRM (zI (zR zy 5)) (zI_301 (zR zy 5)) (zia.toInt) (zia.toInt + 2) from fr_322)⟩, ⟨by rw [ht]; exact hP, va_K.moved hW.alike hK, hD⟩⟩, hS.F ht⟩) hS.2.2 dX11_readCondition_85
            · have f_294 : ¬ (zi_226.toInt = (61 : Int)) := ic_neq (rfl) (show (61 : Int32).toInt = 61 by decide) c_293
              refine lv_iconst (v := 0) hx hb dX11_readCondition_58 (by decide) ?_
              subst hQ
              have qc_0 : (0 : Int32).toInt = 0 := by decide
              have fr_323 : FRM (zI (zR zy 5)) (zI_4 (zR zy 5)) (zia.toInt) (zia.toInt + 2) := by rw [(k_zI_4.2.row t_225 (by decide) (by decide))]; exact FRM.rf
              have fr_324 : FRM (zI (zR zy 5)) (zI_224 (zR zy 5)) (zia.toInt) (zia.toInt + 2) := by rw [(show zI_224 (zR zy 5) = zI_4 (zR zy 5) from by rw [← uzI_224]; exact u2_a (tne t_225 t_zy (by decide)))]; exact fr_323
              have fr_325 : FRM (zI (zR zy 5)) (zI_229 (zR zy 5)) (zia.toInt) (zia.toInt + 2) := by rw [(k_zI_229.2.row t_225 (by decide) (by decide))]; exact fr_324
              exact W.zret (v := (0 : Int32)) hx hb hr rfl (fun t ht hW => ⟨⟨(0 : Int32), zI_229, rfl, ⟨h_zI_229, (show 0 ≤ (0 : Int32).toInt ∧ (0 : Int32).toInt ≤ 1 from by omega), (show FRM (zI (zR zy 5)) (zI_229 (zR zy 5)) (zia.toInt) (zia.toInt + 2) from fr_325)⟩, ⟨by rw [ht]; exact hP, va_K.moved hW.alike hK, hD⟩⟩, hS.F ht⟩) hS.2.2 dX11_readCondition_59
      · have f_221 : ¬ (zi_1.toInt = (119 : Int)) := ic_neq (rfl) (show (119 : Int32).toInt = 119 by decide) c_220
        refine lv_iconst (v := 0) hx hb dX11_readCondition_23 (by decide) ?_
        subst hQ
        have qc_0 : (0 : Int32).toInt = 0 := by decide
        have t_327 : zT (zR zy 5) = 102 := sk_f hs t_zy (by decide) rfl (by decide)
        have fr_326 : FRM (zI (zR zy 5)) (zI_4 (zR zy 5)) (zia.toInt) (zia.toInt + 2) := by rw [(k_zI_4.2.row t_327 (by decide) (by decide))]; exact FRM.rf
        exact W.zret (v := (0 : Int32)) hx hb hr rfl (fun t ht hW => ⟨⟨(0 : Int32), zI_4, rfl, ⟨h_zI_4, (show 0 ≤ (0 : Int32).toInt ∧ (0 : Int32).toInt ≤ 1 from by omega), (show FRM (zI (zR zy 5)) (zI_4 (zR zy 5)) (zia.toInt) (zia.toInt + 2) from fr_326)⟩, ⟨by rw [ht]; exact hP, va_K.moved hW.alike hK, hD⟩⟩, hS.F ht⟩) hS.2.2 dX11_readCondition_24
set_option maxHeartbeats 8000000 in
set_option maxRecDepth 100000 in
theorem t_X11_readClause (l : Launch) (dC : Nat → ClassId) (dI : Nat → Nat → Nat) (cy : Nat → ClassId) (sz : Nat) (zL : List Nat) (zT : Nat → Nat) (zR : Nat → Nat → Nat) (zI : Nat → Nat → Int32) (zJ : Nat → Nat → Int64) (zy : Nat) (zia : Int32) (hs : SKP zL zT zR) (hw : WT zT zR zI) (t_zy : zT zy = 18) (b_zia : 0 ≤ zia.toInt ∧ zia.toInt ≤ 5) : Met l yX11_readClause wsX11_readClause ({ frames := 3, cells := 0, slots := 0, locals := 73 } : Room) (va_Pc [.ref zy, .int zia] (PRE dC dI cy (WL cy zL zT zR zI zJ) sz)) (va_Qi (fun (r : Int32) (u : (Nat → Nat → Int32)) => (WM [1803, 10200] AL zT zR zI u) ∧ (0 ≤ r.toInt ∧ r.toInt ≤ 1) ∧ (FRM (zI (zR zy 5)) (u (zR zy 5)) (11 * zia.toInt) (11 * zia.toInt + 10)) ∧ (0 ≤ zA (u (zR zy 5)) (11 * zia.toInt) ∧ zA (u (zR zy 5)) (11 * zia.toInt) ≤ 3)) (fun u t => POST dC dI cy (va_A (WL cy zL zT zR zI zJ) sz) (WL cy zL zT zR u zJ) t) (va_A (WL cy zL zT zR zI zJ) sz)) 0 0 (va_A (WL cy zL zT zR zI zJ) sz) := by
  refine Met.ofW (cc := cX11_readClause) (maxL := 4) (ret := (some .boolean)) (by decide) rfl ?_
  intro p e s m args below meth c s₁ B hml hv
  obtain ⟨rfl, hsz, hP, hK, hD0, hN⟩ := hv
  have hx := B.exec
  have hb := B.bytes
  have hr := B.returns
  have hts := atoms_spec (ws := wsX11_readClause) B.pre
  have hown : s.vm.findClass RX11 = some m.cls := findClass_of_methodNamed B.named
  have hlocks := B.notSynchronized
  subst hsz
  have hD := hD0.self (sz := s.heap.size)
  generalize hAe : va_A (WL cy zL zT zR zI zJ) s.heap.size = A at hD ⊢
  have hA : ∀ q : Nat, s.heap.size ≤ q → A q := fun q h => by rw [← hAe]; exact Or.inr h
  have hS : va_S A s.heap s.heap [] := va_S.rf
  have hP : va_P (dC, dI) vwCl (WL cy zL zT zR zI zJ) s.heap := hP
  have hl := lv_entry ([.ref zy, .int zia] : List Value) (n := 4) (Nat.le_of_ble_eq_true rfl)
  rw [lg_entry_eq]
  generalize (lg_sl ([.ref zy, .int zia] : List Value) ++ List.replicate (4 - (lg_sl ([.ref zy, .int zia] : List Value)).length) Slot.unset).toArray = ls at hl ⊢
  have hl : lv_has ls 4 [(0, .ref zy), (1, .int zia)] := hl
  refine w_q (fun Q hQ => ?_)
  have h_zI : WM [1803, 10200] AL zT zR zI zI := WM.rf hw
  refine lv_bipush (v := 11) hx hb dX11_readClause_0 (by decide) ?_
  refine lv_iload_n hx hb dX11_readClause_2 rfl (lv_at hl 1 rfl) ?_
  refine lv_imul hx hb dX11_readClause_3 ?_
  refine lv_topi (fun zi_1 ezi_1 => ?_)
  have tzi_1 : zi_1.toInt = (11 : Int) * zia.toInt := by rw [ezi_1]; exact timul (show (11 : Int32).toInt = 11 by decide) (rfl) (by omega) (by omega)
  refine lv_istore_n (lv' := [(2, .int zi_1), (0, .ref zy), (1, .int zia)]) hx hb dX11_readClause_4 rfl hl (by decide) rfl (fun ls hl => ?_)
  refine lv_aload_n hx hb dX11_readClause_5 rfl (lv_at hl 1 rfl) ?_
  refine ht_getr (C := RX11) (T := TX11) (N := 28) hx hb hts (by decide +kernel) hown hK hP hs t_zy (by decide) rfl rfl 5 (by decide) (hts (.fieldLink RX11 16 "DripStoneModel" "read" "[I") (by decide +kernel)) (fun _ h9 => h9) rfl dX11_readClause_6 ?_
  have t_2 : zT (zR zy 5) = 102 := sk_f hs t_zy (by decide) rfl (by decide)
  refine lv_iload_n hx hb dX11_readClause_9 rfl (lv_at hl 0 rfl) ?_
  refine lv_iconst (v := 0) hx hb dX11_readClause_10 (by decide) ?_
  refine ht_iast (v := (0 : Int32)) (n := 66) (q := 0) hx hb hK hP hD hS hs t_2 (by decide) rfl rfl ⟨by omega, by omega⟩ dX11_readClause_11 (fun H locs hP hD hS => ?_)
  have h_zI_3 : WM [1803, 10200] AL zT zR zI (u2 zI (zR zy 5) zi_1.toNatClampNeg (0 : Int32)) := h_zI.putA hs t_2 rfl (rgF _) (by decide) (fun h => absurd h (by decide)) (by decide) trivial
  generalize uzI_3 : u2 zI (zR zy 5) zi_1.toNatClampNeg (0 : Int32) = zI_3 at hP hD h_zI_3
  have kr_4 : zA (zI_3 (zR zy 5)) (11 * zia.toInt) = (0 : Int) := by rw [← uzI_3, u2_r]; exact (zu_s (by omega)).trans (by decide)
  refine lv_aload_n hx hb dX11_readClause_12 rfl (lv_at hl 1 rfl) ?_
  refine lv_bipush (v := 42) hx hb dX11_readClause_13 (by decide) ?_
  have qc_42 : (42 : Int32).toInt = 42 := by decide
  refine hj_i (ws := (WL cy zL zT zR zI_3 zJ)) (w1 := fun (u : (Nat → Nat → Int32)) => (WL cy zL zT zR u zJ)) (va_runV (As := [.int 42]) (rest := []) ⟨hx, hb, hml, hown, hts⟩ (t_X11_takes l dC dI cy H.size zL zT zR zI_3 zJ zy (42 : Int32) hs h_zI_3.1 t_zy (by decide)) (cwV 1 hts gX11_readClause_X11_takes rfl rfl rfl (by decide +kernel) ⟨(Nat.le_of_ble_eq_true rfl), (Nat.le_of_ble_eq_true rfl)⟩) (PRE.v hP hK hD hN (ht_recv hK hP hs t_zy (by decide) rfl rfl)) rfl rfl hl.1 rfl (lv_room (Nat.le_of_ble_eq_true rfl)) dX11_readClause_15 ⟨(Nat.le_of_ble_eq_true rfl), (Nat.le_of_ble_eq_true rfl)⟩) hP hD hS hA (fun zi_5 zI_8 H locs hw_6 hP hD hS => ?_)
  obtain ⟨k_zI_8, b_zi_5⟩ : (WM [1803] AL zT zR zI_3 zI_8) ∧ (0 ≤ zi_5.toInt ∧ zi_5.toInt ≤ 1) := hw_6
  have h_zI_8 : WM [1803, 10200] AL zT zR zI zI_8 := h_zI_3.tr k_zI_8 (by decide) (fun _ _ => trivial)
  have kr_9 : zA (zI_8 (zR zy 5)) (11 * zia.toInt) = zA (zI_3 (zR zy 5)) (11 * zia.toInt) := by rw [(k_zI_8.2.row t_2 (by decide) (by decide))]
  refine lv_if_ne (tgt := 104) hx hb dX11_readClause_18 (by decide) (fun c_10 => ?_) (fun c_10 => ?_)
  · have f_11 : zi_5.toInt ≠ 0 := ic_ne (rfl) (by decide) c_10
    refine lv_aload_n hx hb dX11_readClause_104 rfl (lv_at hl 1 rfl) ?_
    refine lv_bipush (v := 58) hx hb dX11_readClause_105 (by decide) ?_
    have qc_58 : (58 : Int32).toInt = 58 := by decide
    refine hj_i (ws := (WL cy zL zT zR zI_8 zJ)) (w1 := fun (u : (Nat → Nat → Int32)) => (WL cy zL zT zR u zJ)) (va_runV (As := [.int 58]) (rest := []) ⟨hx, hb, hml, hown, hts⟩ (t_X11_takes l dC dI cy H.size zL zT zR zI_8 zJ zy (58 : Int32) hs h_zI_8.1 t_zy (by decide)) (cwV 1 hts gX11_readClause_X11_takes rfl rfl rfl (by decide +kernel) ⟨(Nat.le_of_ble_eq_true rfl), (Nat.le_of_ble_eq_true rfl)⟩) (PRE.v hP hK hD hN (ht_recv hK hP hs t_zy (by decide) rfl rfl)) rfl rfl hl.1 rfl (lv_room (Nat.le_of_ble_eq_true rfl)) dX11_readClause_107 ⟨(Nat.le_of_ble_eq_true rfl), (Nat.le_of_ble_eq_true rfl)⟩) hP hD hS hA (fun zi_12 zI_15 H locs hw_13 hP hD hS => ?_)
    obtain ⟨k_zI_15, b_zi_12⟩ : (WM [1803] AL zT zR zI_8 zI_15) ∧ (0 ≤ zi_12.toInt ∧ zi_12.toInt ≤ 1) := hw_13
    have h_zI_15 : WM [1803, 10200] AL zT zR zI zI_15 := h_zI_8.tr k_zI_15 (by decide) (fun _ _ => trivial)
    have kr_16 : zA (zI_15 (zR zy 5)) (11 * zia.toInt) = zA (zI_8 (zR zy 5)) (11 * zia.toInt) := by rw [(k_zI_15.2.row t_2 (by decide) (by decide))]
    refine lv_if_ne (tgt := 115) hx hb dX11_readClause_110 (by decide) (fun c_17 => ?_) (fun c_17 => ?_)
    · have f_18 : zi_12.toInt ≠ 0 := ic_ne (rfl) (by decide) c_17
      refine lv_aload_n hx hb dX11_readClause_115 rfl (lv_at hl 1 rfl) ?_
      refine hj_i (ws := (WL cy zL zT zR zI_15 zJ)) (w1 := fun (u : (Nat → Nat → Int32)) => (WL cy zL zT zR u zJ)) (va_runV (As := []) (rest := []) ⟨hx, hb, hml, hown, hts⟩ (t_X11_nextByte l dC dI cy H.size zL zT zR zI_15 zJ zy hs h_zI_15.1 t_zy) (cwV 0 hts gX11_readClause_X11_nextByte rfl rfl rfl (by decide +kernel) ⟨(Nat.le_of_ble_eq_true rfl), (Nat.le_of_ble_eq_true rfl)⟩) (PRE.v hP hK hD hN (ht_recv hK hP hs t_zy (by decide) rfl rfl)) rfl rfl hl.1 rfl (lv_room (Nat.le_of_ble_eq_true rfl)) dX11_readClause_116 ⟨(Nat.le_of_ble_eq_true rfl), (Nat.le_of_ble_eq_true rfl)⟩) hP hD hS hA (fun zi_19 zI_22 H locs hw_20 hP hD hS => ?_)
      obtain ⟨k_zI_22, b_zi_19, ps_23⟩ : (WM [1803] AL zT zR zI_15 zI_22) ∧ ((-1) ≤ zi_19.toInt ∧ zi_19.toInt ≤ 255) ∧ (zi_19.toInt = -1 ∨ (zI_22 zy 3).toInt ≤ 79) := hw_20
      have h_zI_22 : WM [1803, 10200] AL zT zR zI zI_22 := h_zI_15.tr k_zI_22 (by decide) (fun _ _ => trivial)
      obtain ⟨zi_24, ezi_24⟩ : ∃ y : Int32, y = zI_22 zy 3 := ⟨_, rfl⟩
      have tzi_24 : 0 ≤ zi_24.toInt ∧ zi_24.toInt ≤ 80 := by rw [ezi_24]; exact h_zI_22.at t_zy _ rfl
      have lzi_24 : (zI_22 zy 3).toInt = zi_24.toInt := by rw [ezi_24]
      have lk_25 : (zI_22 zy 3).toInt = zi_24.toInt := congrArg Int32.toInt ezi_24.symm
      have kr_26 : zA (zI_22 (zR zy 5)) (11 * zia.toInt) = zA (zI_15 (zR zy 5)) (11 * zia.toInt) := by rw [(k_zI_22.2.row t_2 (by decide) (by decide))]
      refine lv_bipush (v := 48) hx hb dX11_readClause_119 (by decide) ?_
      refine lv_isub hx hb dX11_readClause_121 ?_
      refine lv_topi (fun zi_27 ezi_27 => ?_)
      have tzi_27 : zi_27.toInt = zi_19.toInt - (48 : Int) := by rw [ezi_27]; exact tisub (rfl) (show (48 : Int32).toInt = 48 by decide) (by omega) (by omega)
      refine lv_istore_n (lv' := [(3, .int zi_27), (2, .int zi_1), (0, .ref zy), (1, .int zia)]) hx hb dX11_readClause_122 rfl hl (by decide) rfl (fun ls hl => ?_)
      refine lv_iload_n hx hb dX11_readClause_123 rfl (lv_at hl 0 rfl) ?_
      refine lv_i2l (v := zi_27.toInt64) hx hb dX11_readClause_124 rfl ?_
      refine lv_topl (fun zj_28 ezj_28 => ?_)
      have tzj_28 : zj_28.toInt = zi_27.toInt := by rw [ezj_28]; exact Int32.toInt_toInt64 _
      refine lv_lconst (v := 0) hx hb dX11_readClause_125 (by decide) ?_
      refine lv_ldc2 (v := 4) hx hb hown (hts (.constantLong RX11 136 4) (by decide +kernel)) dX11_readClause_126 ?_
      refine hj0_i (ws := (WL cy zL zT zR zI_22 zJ)) (va_runS (As := [.long zj_28, .long 0, .long 4]) (rest := []) ⟨hx, hb, hml, hown, hts⟩ (c_X11_in l dC dI cy H.size zj_28 0 4 0 4 zj_28.toInt (by first | rfl | decide | omega | exact Int32.toInt_toInt64 _) (by first | rfl | decide | omega | exact Int32.toInt_toInt64 _) (by first | rfl | decide | omega | exact Int32.toInt_toInt64 _)) (va_cwS 3 hts gX11_readClause_X11_in rfl rfl rfl (by decide +kernel) ⟨(Nat.le_of_ble_eq_true rfl), (Nat.le_of_ble_eq_true rfl)⟩) (PRE.s (hP.sub [] rfl) hK (hD.sub [] (by decide) rfl) hN) rfl rfl hl.1 rfl (lv_room (Nat.le_of_ble_eq_true rfl)) dX11_readClause_129 ⟨(Nat.le_of_ble_eq_true rfl), (Nat.le_of_ble_eq_true rfl)⟩) hP hD hS hA (fun zi_29 u_31 H locs hw_30 hP hD hS => ?_)
      have hw_30 : zi_29 = if 0 ≤ zj_28.toInt ∧ zj_28.toInt ≤ 4 then 1 else 0 := hw_30
      have b_zi_29 : 0 ≤ zi_29.toInt ∧ zi_29.toInt ≤ 1 := bz_b hw_30
      refine lv_if_ne (tgt := 137) hx hb dX11_readClause_132 (by decide) (fun c_32 => ?_) (fun c_32 => ?_)
      · have f_33 : 0 ≤ zj_28.toInt ∧ zj_28.toInt ≤ 4 := bz_1 hw_30 c_32
        refine lv_aload_n hx hb dX11_readClause_137 rfl (lv_at hl 2 rfl) ?_
        refine lv_dup hx hb dX11_readClause_138 rfl ?_
        refine ht_geti (C := RX11) (T := TX11) (N := 28) hx hb hts (by decide +kernel) hown hK hP hs t_zy (by decide) rfl rfl 3 (by decide) (hts (.fieldLink RX11 116 "DripStoneModel" "at" "I") (by decide +kernel)) (fun _ h9 => h9) rfl dX11_readClause_139 ?_
        refine lv_topi (fun zi_34 ezi_34 => ?_)
        obtain rfl : zi_24 = zi_34 := (ezi_34.trans ezi_24.symm).symm
        refine lv_iconst (v := 1) hx hb dX11_readClause_142 (by decide) ?_
        refine lv_iadd hx hb dX11_readClause_143 ?_
        refine lv_topi (fun zi_35 ezi_35 => ?_)
        have tzi_35 : zi_35.toInt = zi_24.toInt + (1 : Int) := by rw [ezi_35]; exact tiadd (rfl) (show (1 : Int32).toInt = 1 by decide) (by omega) (by omega)
        refine ht_puti (v := zi_35) (ty := .int) (C := RX11) (T := TX11) (N := 28) hx hb hts (by decide +kernel) tyX11 tyX11_ok nmX11 hown hK hP hD hS hs t_zy (by decide) rfl rfl 3 (by decide) (hts (.fieldLink RX11 116 "DripStoneModel" "at" "I") (by decide +kernel)) (fun _ h9 => h9) rfl (by decide +kernel) rfl rfl rfl dX11_readClause_144 (fun H locs hP hD hS => ?_)
        have h_zI_36 : WM [1803, 10200] AL zT zR zI (u2 zI_22 zy 3 zi_35) := h_zI_22.put hs t_zy rfl (by omega) (by decide) (fun h => absurd h (by decide)) (by decide) trivial
        generalize uzI_36 : u2 zI_22 zy 3 zi_35 = zI_36 at hP hD h_zI_36
        have kr_37 : zA (zI_36 (zR zy 5)) (11 * zia.toInt) = zA (zI_22 (zR zy 5)) (11 * zia.toInt) := by rw [(show zI_36 (zR zy 5) = zI_22 (zR zy 5) from by rw [← uzI_36]; exact u2_a (tne t_2 t_zy (by decide)))]
        refine lv_aload_n hx hb dX11_readClause_147 rfl (lv_at hl 2 rfl) ?_
        refine ht_getr (C := RX11) (T := TX11) (N := 28) hx hb hts (by decide +kernel) hown hK hP hs t_zy (by decide) rfl rfl 5 (by decide) (hts (.fieldLink RX11 16 "DripStoneModel" "read" "[I") (by decide +kernel)) (fun _ h9 => h9) rfl dX11_readClause_148 ?_
        refine lv_iload_n hx hb dX11_readClause_151 rfl (lv_at hl 1 rfl) ?_
        refine lv_iconst (v := 1) hx hb dX11_readClause_152 (by decide) ?_
        refine lv_iadd hx hb dX11_readClause_153 ?_
        refine lv_topi (fun zi_38 ezi_38 => ?_)
        have tzi_38 : zi_38.toInt = zi_1.toInt + (1 : Int) := by rw [ezi_38]; exact tiadd (rfl) (show (1 : Int32).toInt = 1 by decide) (by omega) (by omega)
        refine lv_iload_n hx hb dX11_readClause_154 rfl (lv_at hl 0 rfl) ?_
        refine ht_iast (v := zi_27) (n := 66) (q := 0) hx hb hK hP hD hS hs t_2 (by decide) rfl rfl ⟨by omega, by omega⟩ dX11_readClause_155 (fun H locs hP hD hS => ?_)
        have h_zI_39 : WM [1803, 10200] AL zT zR zI (u2 zI_36 (zR zy 5) zi_38.toNatClampNeg zi_27) := h_zI_36.putA hs t_2 rfl (rgF _) (by decide) (fun h => absurd h (by decide)) (by decide) trivial
        generalize uzI_39 : u2 zI_36 (zR zy 5) zi_38.toNatClampNeg zi_27 = zI_39 at hP hD h_zI_39
        have kr_40 : zA (zI_39 (zR zy 5)) (11 * zia.toInt) = zA (zI_36 (zR zy 5)) (11 * zia.toInt) := by rw [← uzI_39, u2_r]; exact zu_n (by omega) (by omega) (by omega)
        refine lv_iconst (v := 1) hx hb dX11_readClause_156 (by decide) ?_
        subst hQ
        have qc_1 : (1 : Int32).toInt = 1 := by decide
        have fr_41 : FRM (zI (zR zy 5)) (zI_3 (zR zy 5)) (11 * zia.toInt) (11 * zia.toInt + 10) := by rw [← uzI_3, u2_r]; exact FRM.up FRM.rf (by omega)
        have fr_42 : FRM (zI (zR zy 5)) (zI_8 (zR zy 5)) (11 * zia.toInt) (11 * zia.toInt + 10) := by rw [(k_zI_8.2.row t_2 (by decide) (by decide))]; exact fr_41
        have fr_43 : FRM (zI (zR zy 5)) (zI_15 (zR zy 5)) (11 * zia.toInt) (11 * zia.toInt + 10) := by rw [(k_zI_15.2.row t_2 (by decide) (by decide))]; exact fr_42
        have fr_44 : FRM (zI (zR zy 5)) (zI_22 (zR zy 5)) (11 * zia.toInt) (11 * zia.toInt + 10) := by rw [(k_zI_22.2.row t_2 (by decide) (by decide))]; exact fr_43
        have fr_45 : FRM (zI (zR zy 5)) (zI_36 (zR zy 5)) (11 * zia.toInt) (11 * zia.toInt + 10) := by rw [(show zI_36 (zR zy 5) = zI_22 (zR zy 5) from by rw [← uzI_36]; exact u2_a (tne t_2 t_zy (by decide)))]; exact fr_44
        have fr_46 : FRM (zI (zR zy 5)) (zI_39 (zR zy 5)) (11 * zia.toInt) (11 * zia.toInt + 10) := by rw [← uzI_39, u2_r]; exact FRM.up fr_45 (by omega)
        exact W.zret (v := (1 : Int32)) hx hb hr rfl (fun t ht hW => ⟨⟨(1 : Int32), zI_39, rfl, ⟨h_zI_39, (show 0 ≤ (1 : Int32).toInt ∧ (1 : Int32).toInt ≤ 1 from by omega), (show FRM (zI (zR zy 5)) (zI_39 (zR zy 5)) (11 * zia.toInt) (11 * zia.toInt + 10) from fr_46), (show 0 ≤ zA (zI_39 (zR zy 5)) (11 * zia.toInt) ∧ zA (zI_39 (zR zy 5)) (11 * zia.toInt) ≤ 3 from by omega)⟩, ⟨by rw [ht]; exact hP, va_K.moved hW.alike hK, hD⟩⟩, hS.F ht⟩) hS.2.2 dX11_readClause_157
      · have f_33 : ¬ (0 ≤ zj_28.toInt ∧ zj_28.toInt ≤ 4) := bz_0 hw_30 c_32
        refine lv_iconst (v := 0) hx hb dX11_readClause_135 (by decide) ?_
        subst hQ
        have qc_0 : (0 : Int32).toInt = 0 := by decide
        have fr_47 : FRM (zI (zR zy 5)) (zI_3 (zR zy 5)) (11 * zia.toInt) (11 * zia.toInt + 10) := by rw [← uzI_3, u2_r]; exact FRM.up FRM.rf (by omega)
        have fr_48 : FRM (zI (zR zy 5)) (zI_8 (zR zy 5)) (11 * zia.toInt) (11 * zia.toInt + 10) := by rw [(k_zI_8.2.row t_2 (by decide) (by decide))]; exact fr_47
        have fr_49 : FRM (zI (zR zy 5)) (zI_15 (zR zy 5)) (11 * zia.toInt) (11 * zia.toInt + 10) := by rw [(k_zI_15.2.row t_2 (by decide) (by decide))]; exact fr_48
        have fr_50 : FRM (zI (zR zy 5)) (zI_22 (zR zy 5)) (11 * zia.toInt) (11 * zia.toInt + 10) := by rw [(k_zI_22.2.row t_2 (by decide) (by decide))]; exact fr_49
        exact W.zret (v := (0 : Int32)) hx hb hr rfl (fun t ht hW => ⟨⟨(0 : Int32), zI_22, rfl, ⟨h_zI_22, (show 0 ≤ (0 : Int32).toInt ∧ (0 : Int32).toInt ≤ 1 from by omega), (show FRM (zI (zR zy 5)) (zI_22 (zR zy 5)) (11 * zia.toInt) (11 * zia.toInt + 10) from fr_50), (show 0 ≤ zA (zI_22 (zR zy 5)) (11 * zia.toInt) ∧ zA (zI_22 (zR zy 5)) (11 * zia.toInt) ≤ 3 from by omega)⟩, ⟨by rw [ht]; exact hP, va_K.moved hW.alike hK, hD⟩⟩, hS.F ht⟩) hS.2.2 dX11_readClause_136
    · have f_18 : ¬ (zi_12.toInt ≠ 0) := ic_nne (rfl) (by decide) c_17
      refine lv_iconst (v := 0) hx hb dX11_readClause_113 (by decide) ?_
      subst hQ
      have qc_0 : (0 : Int32).toInt = 0 := by decide
      have fr_51 : FRM (zI (zR zy 5)) (zI_3 (zR zy 5)) (11 * zia.toInt) (11 * zia.toInt + 10) := by rw [← uzI_3, u2_r]; exact FRM.up FRM.rf (by omega)
      have fr_52 : FRM (zI (zR zy 5)) (zI_8 (zR zy 5)) (11 * zia.toInt) (11 * zia.toInt + 10) := by rw [(k_zI_8.2.row t_2 (by decide) (by decide))]; exact fr_51
      have fr_53 : FRM (zI (zR zy 5)) (zI_15 (zR zy 5)) (11 * zia.toInt) (11 * zia.toInt + 10) := by rw [(k_zI_15.2.row t_2 (by decide) (by decide))]; exact fr_52
      exact W.zret (v := (0 : Int32)) hx hb hr rfl (fun t ht hW => ⟨⟨(0 : Int32), zI_15, rfl, ⟨h_zI_15, (show 0 ≤ (0 : Int32).toInt ∧ (0 : Int32).toInt ≤ 1 from by omega), (show FRM (zI (zR zy 5)) (zI_15 (zR zy 5)) (11 * zia.toInt) (11 * zia.toInt + 10) from fr_53), (show 0 ≤ zA (zI_15 (zR zy 5)) (11 * zia.toInt) ∧ zA (zI_15 (zR zy 5)) (11 * zia.toInt) ≤ 3 from by omega)⟩, ⟨by rw [ht]; exact hP, va_K.moved hW.alike hK, hD⟩⟩, hS.F ht⟩) hS.2.2 dX11_readClause_114
  · have f_11 : ¬ (zi_5.toInt ≠ 0) := ic_nne (rfl) (by decide) c_10
    refine lv_iconst (v := 1) hx hb dX11_readClause_21 (by decide) ?_
    refine lv_istore_n (lv' := [(3, .int 1), (2, .int zi_1), (0, .ref zy), (1, .int zia)]) hx hb dX11_readClause_22 rfl hl (by decide) rfl (fun ls hl => ?_)
    have lp_209 : ∀ (n : Nat) (zi_103 : Int32) (zI_104 : Nat → Nat → Int32) (H : Heap) (locs : List Loc) (ls : Array Slot), (3 - zA (zI_104 (zR zy 5)) (11 * zia.toInt)).toNat = n → (0 ≤ zi_103.toInt ∧ zi_103.toInt ≤ 1) → (WM [1803, 10200] AL zT zR zI zI_104) → (0 ≤ zA (zI_104 (zR zy 5)) (11 * zia.toInt) ∧ zA (zI_104 (zR zy 5)) (11 * zia.toInt) ≤ 3 ∧ (zi_103.toInt = 0 ∨ zA (zI_104 (zR zy 5)) (11 * zia.toInt) ≤ 2)) → (FRM (zI (zR zy 5)) (zI_104 (zR zy 5)) (11 * zia.toInt) (11 * zia.toInt + 10)) → va_P (dC, dI) vwCl (WL cy zL zT zR zI_104 zJ) H → va_D A (WL cy zL zT zR zI_104 zJ) → va_S A s.heap H locs → lv_has ls 4 [(0, .ref zy), (1, .int zia), (2, .int zi_1), (3, .int zi_103)] → W p l e ({ frames := 3, cells := 0, slots := 0, locals := 73 } : Room) s m ([.ref zy, .int zia] : List Value).toArray below meth c H locs 0 0 Q (F0 m 23 ls []) := by
      intro n
      induction n using Nat.strongRecOn with
      | _ n ih_209 =>
        intro zi_103 zI_104 H locs ls hn b_zi_103 h_zI_104 e_lp_209_0 e_lp_209_1 hP hD hS hl
        refine lv_iload_n hx hb dX11_readClause_23 rfl (lv_at hl 3 rfl) ?_
        refine lv_if_eq (tgt := 104) hx hb dX11_readClause_24 (by decide) (fun c_210 => ?_) (fun c_210 => ?_)
        · have f_211 : zi_103.toInt = 0 := ic_eq (rfl) (by decide) c_210
          refine lv_aload_n hx hb dX11_readClause_104 rfl (lv_at hl 0 rfl) ?_
          refine lv_bipush (v := 58) hx hb dX11_readClause_105 (by decide) ?_
          have qc_58 : (58 : Int32).toInt = 58 := by decide
          refine hj_i (ws := (WL cy zL zT zR zI_104 zJ)) (w1 := fun (u : (Nat → Nat → Int32)) => (WL cy zL zT zR u zJ)) (va_runV (As := [.int 58]) (rest := []) ⟨hx, hb, hml, hown, hts⟩ (t_X11_takes l dC dI cy H.size zL zT zR zI_104 zJ zy (58 : Int32) hs h_zI_104.1 t_zy (by decide)) (cwV 1 hts gX11_readClause_X11_takes rfl rfl rfl (by decide +kernel) ⟨(Nat.le_of_ble_eq_true rfl), (Nat.le_of_ble_eq_true rfl)⟩) (PRE.v hP hK hD hN (ht_recv hK hP hs t_zy (by decide) rfl rfl)) rfl rfl hl.1 rfl (lv_room (Nat.le_of_ble_eq_true rfl)) dX11_readClause_107 ⟨(Nat.le_of_ble_eq_true rfl), (Nat.le_of_ble_eq_true rfl)⟩) hP hD hS hA (fun zi_212 zI_215 H locs hw_213 hP hD hS => ?_)
          obtain ⟨k_zI_215, b_zi_212⟩ : (WM [1803] AL zT zR zI_104 zI_215) ∧ (0 ≤ zi_212.toInt ∧ zi_212.toInt ≤ 1) := hw_213
          have h_zI_215 : WM [1803, 10200] AL zT zR zI zI_215 := h_zI_104.tr k_zI_215 (by decide) (fun _ _ => trivial)
          have kr_216 : zA (zI_215 (zR zy 5)) (11 * zia.toInt) = zA (zI_104 (zR zy 5)) (11 * zia.toInt) := by rw [(k_zI_215.2.row t_2 (by decide) (by decide))]
          refine lv_if_ne (tgt := 115) hx hb dX11_readClause_110 (by decide) (fun c_217 => ?_) (fun c_217 => ?_)
          · have f_218 : zi_212.toInt ≠ 0 := ic_ne (rfl) (by decide) c_217
            refine lv_aload_n hx hb dX11_readClause_115 rfl (lv_at hl 0 rfl) ?_
            refine hj_i (ws := (WL cy zL zT zR zI_215 zJ)) (w1 := fun (u : (Nat → Nat → Int32)) => (WL cy zL zT zR u zJ)) (va_runV (As := []) (rest := []) ⟨hx, hb, hml, hown, hts⟩ (t_X11_nextByte l dC dI cy H.size zL zT zR zI_215 zJ zy hs h_zI_215.1 t_zy) (cwV 0 hts gX11_readClause_X11_nextByte rfl rfl rfl (by decide +kernel) ⟨(Nat.le_of_ble_eq_true rfl), (Nat.le_of_ble_eq_true rfl)⟩) (PRE.v hP hK hD hN (ht_recv hK hP hs t_zy (by decide) rfl rfl)) rfl rfl hl.1 rfl (lv_room (Nat.le_of_ble_eq_true rfl)) dX11_readClause_116 ⟨(Nat.le_of_ble_eq_true rfl), (Nat.le_of_ble_eq_true rfl)⟩) hP hD hS hA (fun zi_219 zI_222 H locs hw_220 hP hD hS => ?_)
            obtain ⟨k_zI_222, b_zi_219, ps_223⟩ : (WM [1803] AL zT zR zI_215 zI_222) ∧ ((-1) ≤ zi_219.toInt ∧ zi_219.toInt ≤ 255) ∧ (zi_219.toInt = -1 ∨ (zI_222 zy 3).toInt ≤ 79) := hw_220
            have h_zI_222 : WM [1803, 10200] AL zT zR zI zI_222 := h_zI_215.tr k_zI_222 (by decide) (fun _ _ => trivial)
            obtain ⟨zi_224, ezi_224⟩ : ∃ y : Int32, y = zI_222 zy 3 := ⟨_, rfl⟩
            have tzi_224 : 0 ≤ zi_224.toInt ∧ zi_224.toInt ≤ 80 := by rw [ezi_224]; exact h_zI_222.at t_zy _ rfl
            have lzi_224 : (zI_222 zy 3).toInt = zi_224.toInt := by rw [ezi_224]
            have lk_225 : (zI_222 zy 3).toInt = zi_224.toInt := congrArg Int32.toInt ezi_224.symm
            have kr_226 : zA (zI_222 (zR zy 5)) (11 * zia.toInt) = zA (zI_215 (zR zy 5)) (11 * zia.toInt) := by rw [(k_zI_222.2.row t_2 (by decide) (by decide))]
            refine lv_bipush (v := 48) hx hb dX11_readClause_119 (by decide) ?_
            refine lv_isub hx hb dX11_readClause_121 ?_
            refine lv_topi (fun zi_227 ezi_227 => ?_)
            have tzi_227 : zi_227.toInt = zi_219.toInt - (48 : Int) := by rw [ezi_227]; exact tisub (rfl) (show (48 : Int32).toInt = 48 by decide) (by omega) (by omega)
            refine lv_istore_n (lv' := [(3, .int zi_227), (0, .ref zy), (1, .int zia), (2, .int zi_1)]) hx hb dX11_readClause_122 rfl hl (by decide) rfl (fun ls hl => ?_)
            refine lv_iload_n hx hb dX11_readClause_123 rfl (lv_at hl 0 rfl) ?_
            refine lv_i2l (v := zi_227.toInt64) hx hb dX11_readClause_124 rfl ?_
            refine lv_topl (fun zj_228 ezj_228 => ?_)
            have tzj_228 : zj_228.toInt = zi_227.toInt := by rw [ezj_228]; exact Int32.toInt_toInt64 _
            refine lv_lconst (v := 0) hx hb dX11_readClause_125 (by decide) ?_
            refine lv_ldc2 (v := 4) hx hb hown (hts (.constantLong RX11 136 4) (by decide +kernel)) dX11_readClause_126 ?_
            refine hj0_i (ws := (WL cy zL zT zR zI_222 zJ)) (va_runS (As := [.long zj_228, .long 0, .long 4]) (rest := []) ⟨hx, hb, hml, hown, hts⟩ (c_X11_in l dC dI cy H.size zj_228 0 4 0 4 zj_228.toInt (by first | rfl | decide | omega | exact Int32.toInt_toInt64 _) (by first | rfl | decide | omega | exact Int32.toInt_toInt64 _) (by first | rfl | decide | omega | exact Int32.toInt_toInt64 _)) (va_cwS 3 hts gX11_readClause_X11_in rfl rfl rfl (by decide +kernel) ⟨(Nat.le_of_ble_eq_true rfl), (Nat.le_of_ble_eq_true rfl)⟩) (PRE.s (hP.sub [] rfl) hK (hD.sub [] (by decide) rfl) hN) rfl rfl hl.1 rfl (lv_room (Nat.le_of_ble_eq_true rfl)) dX11_readClause_129 ⟨(Nat.le_of_ble_eq_true rfl), (Nat.le_of_ble_eq_true rfl)⟩) hP hD hS hA (fun zi_229 u_231 H locs hw_230 hP hD hS => ?_)
            have hw_230 : zi_229 = if 0 ≤ zj_228.toInt ∧ zj_228.toInt ≤ 4 then 1 else 0 := hw_230
            have b_zi_229 : 0 ≤ zi_229.toInt ∧ zi_229.toInt ≤ 1 := bz_b hw_230
            refine lv_if_ne (tgt := 137) hx hb dX11_readClause_132 (by decide) (fun c_232 => ?_) (fun c_232 => ?_)
            · have f_233 : 0 ≤ zj_228.toInt ∧ zj_228.toInt ≤ 4 := bz_1 hw_230 c_232
              refine lv_aload_n hx hb dX11_readClause_137 rfl (lv_at hl 1 rfl) ?_
              refine lv_dup hx hb dX11_readClause_138 rfl ?_
              refine ht_geti (C := RX11) (T := TX11) (N := 28) hx hb hts (by decide +kernel) hown hK hP hs t_zy (by decide) rfl rfl 3 (by decide) (hts (.fieldLink RX11 116 "DripStoneModel" "at" "I") (by decide +kernel)) (fun _ h9 => h9) rfl dX11_readClause_139 ?_
              refine lv_topi (fun zi_234 ezi_234 => ?_)
              obtain rfl : zi_224 = zi_234 := (ezi_234.trans ezi_224.symm).symm
              refine lv_iconst (v := 1) hx hb dX11_readClause_142 (by decide) ?_
              refine lv_iadd hx hb dX11_readClause_143 ?_
              refine lv_topi (fun zi_235 ezi_235 => ?_)
              have tzi_235 : zi_235.toInt = zi_224.toInt + (1 : Int) := by rw [ezi_235]; exact tiadd (rfl) (show (1 : Int32).toInt = 1 by decide) (by omega) (by omega)
              refine ht_puti (v := zi_235) (ty := .int) (C := RX11) (T := TX11) (N := 28) hx hb hts (by decide +kernel) tyX11 tyX11_ok nmX11 hown hK hP hD hS hs t_zy (by decide) rfl rfl 3 (by decide) (hts (.fieldLink RX11 116 "DripStoneModel" "at" "I") (by decide +kernel)) (fun _ h9 => h9) rfl (by decide +kernel) rfl rfl rfl dX11_readClause_144 (fun H locs hP hD hS => ?_)
              have h_zI_236 : WM [1803, 10200] AL zT zR zI (u2 zI_222 zy 3 zi_235) := h_zI_222.put hs t_zy rfl (by omega) (by decide) (fun h => absurd h (by decide)) (by decide) trivial
              generalize uzI_236 : u2 zI_222 zy 3 zi_235 = zI_236 at hP hD h_zI_236
              have kr_237 : zA (zI_236 (zR zy 5)) (11 * zia.toInt) = zA (zI_222 (zR zy 5)) (11 * zia.toInt) := by rw [(show zI_236 (zR zy 5) = zI_222 (zR zy 5) from by rw [← uzI_236]; exact u2_a (tne t_2 t_zy (by decide)))]
              refine lv_aload_n hx hb dX11_readClause_147 rfl (lv_at hl 1 rfl) ?_
              refine ht_getr (C := RX11) (T := TX11) (N := 28) hx hb hts (by decide +kernel) hown hK hP hs t_zy (by decide) rfl rfl 5 (by decide) (hts (.fieldLink RX11 16 "DripStoneModel" "read" "[I") (by decide +kernel)) (fun _ h9 => h9) rfl dX11_readClause_148 ?_
              refine lv_iload_n hx hb dX11_readClause_151 rfl (lv_at hl 3 rfl) ?_
              refine lv_iconst (v := 1) hx hb dX11_readClause_152 (by decide) ?_
              refine lv_iadd hx hb dX11_readClause_153 ?_
              refine lv_topi (fun zi_238 ezi_238 => ?_)
              have tzi_238 : zi_238.toInt = zi_1.toInt + (1 : Int) := by rw [ezi_238]; exact tiadd (rfl) (show (1 : Int32).toInt = 1 by decide) (by omega) (by omega)
              refine lv_iload_n hx hb dX11_readClause_154 rfl (lv_at hl 0 rfl) ?_
              refine ht_iast (v := zi_227) (n := 66) (q := 0) hx hb hK hP hD hS hs t_2 (by decide) rfl rfl ⟨by omega, by omega⟩ dX11_readClause_155 (fun H locs hP hD hS => ?_)
              have h_zI_239 : WM [1803, 10200] AL zT zR zI (u2 zI_236 (zR zy 5) zi_238.toNatClampNeg zi_227) := h_zI_236.putA hs t_2 rfl (rgF _) (by decide) (fun h => absurd h (by decide)) (by decide) trivial
              generalize uzI_239 : u2 zI_236 (zR zy 5) zi_238.toNatClampNeg zi_227 = zI_239 at hP hD h_zI_239
              have kr_240 : zA (zI_239 (zR zy 5)) (11 * zia.toInt) = zA (zI_236 (zR zy 5)) (11 * zia.toInt) := by rw [← uzI_239, u2_r]; exact zu_n (by omega) (by omega) (by omega)
              refine lv_iconst (v := 1) hx hb dX11_readClause_156 (by decide) ?_
              subst hQ
              have qc_1 : (1 : Int32).toInt = 1 := by decide
              have fr_241 : FRM (zI (zR zy 5)) (zI_215 (zR zy 5)) (11 * zia.toInt) (11 * zia.toInt + 10) := by rw [(k_zI_215.2.row t_2 (by decide) (by decide))]; exact e_lp_209_1
              have fr_242 : FRM (zI (zR zy 5)) (zI_222 (zR zy 5)) (11 * zia.toInt) (11 * zia.toInt + 10) := by rw [(k_zI_222.2.row t_2 (by decide) (by decide))]; exact fr_241
              have fr_243 : FRM (zI (zR zy 5)) (zI_236 (zR zy 5)) (11 * zia.toInt) (11 * zia.toInt + 10) := by rw [(show zI_236 (zR zy 5) = zI_222 (zR zy 5) from by rw [← uzI_236]; exact u2_a (tne t_2 t_zy (by decide)))]; exact fr_242
              have fr_244 : FRM (zI (zR zy 5)) (zI_239 (zR zy 5)) (11 * zia.toInt) (11 * zia.toInt + 10) := by rw [← uzI_239, u2_r]; exact FRM.up fr_243 (by omega)
              exact W.zret (v := (1 : Int32)) hx hb hr rfl (fun t ht hW => ⟨⟨(1 : Int32), zI_239, rfl, ⟨h_zI_239, (show 0 ≤ (1 : Int32).toInt ∧ (1 : Int32).toInt ≤ 1 from by omega), (show FRM (zI (zR zy 5)) (zI_239 (zR zy 5)) (11 * zia.toInt) (11 * zia.toInt + 10) from fr_244), (show 0 ≤ zA (zI_239 (zR zy 5)) (11 * zia.toInt) ∧ zA (zI_239 (zR zy 5)) (11 * zia.toInt) ≤ 3 from by omega)⟩, ⟨by rw [ht]; exact hP, va_K.moved hW.alike hK, hD⟩⟩, hS.F ht⟩) hS.2.2 dX11_readClause_157
            · have f_233 : ¬ (0 ≤ zj_228.toInt ∧ zj_228.toInt ≤ 4) := bz_0 hw_230 c_232
              refine lv_iconst (v := 0) hx hb dX11_readClause_135 (by decide) ?_
              subst hQ
              have qc_0 : (0 : Int32).toInt = 0 := by decide
              have fr_245 : FRM (zI (zR zy 5)) (zI_215 (zR zy 5)) (11 * zia.toInt) (11 * zia.toInt + 10) := by rw [(k_zI_215.2.row t_2 (by decide) (by decide))]; exact e_lp_209_1
              have fr_246 : FRM (zI (zR zy 5)) (zI_222 (zR zy 5)) (11 * zia.toInt) (11 * zia.toInt + 10) := by rw [(k_zI_222.2.row t_2 (by decide) (by decide))]; exact fr_245
              exact W.zret (v := (0 : Int32)) hx hb hr rfl (fun t ht hW => ⟨⟨(0 : Int32), zI_222, rfl, ⟨h_zI_222, (show 0 ≤ (0 : Int32).toInt ∧ (0 : Int32).toInt ≤ 1 from by omega), (show FRM (zI (zR zy 5)) (zI_222 (zR zy 5)) (11 * zia.toInt) (11 * zia.toInt + 10) from fr_246), (show 0 ≤ zA (zI_222 (zR zy 5)) (11 * zia.toInt) ∧ zA (zI_222 (zR zy 5)) (11 * zia.toInt) ≤ 3 from by omega)⟩, ⟨by rw [ht]; exact hP, va_K.moved hW.alike hK, hD⟩⟩, hS.F ht⟩) hS.2.2 dX11_readClause_136
          · have f_218 : ¬ (zi_212.toInt ≠ 0) := ic_nne (rfl) (by decide) c_217
            refine lv_iconst (v := 0) hx hb dX11_readClause_113 (by decide) ?_
            subst hQ
            have qc_0 : (0 : Int32).toInt = 0 := by decide
            have fr_247 : FRM (zI (zR zy 5)) (zI_215 (zR zy 5)) (11 * zia.toInt) (11 * zia.toInt + 10) := by rw [(k_zI_215.2.row t_2 (by decide) (by decide))]; exact e_lp_209_1
            exact W.zret (v := (0 : Int32)) hx hb hr rfl (fun t ht hW => ⟨⟨(0 : Int32), zI_215, rfl, ⟨h_zI_215, (show 0 ≤ (0 : Int32).toInt ∧ (0 : Int32).toInt ≤ 1 from by omega), (show FRM (zI (zR zy 5)) (zI_215 (zR zy 5)) (11 * zia.toInt) (11 * zia.toInt + 10) from fr_247), (show 0 ≤ zA (zI_215 (zR zy 5)) (11 * zia.toInt) ∧ zA (zI_215 (zR zy 5)) (11 * zia.toInt) ≤ 3 from by omega)⟩, ⟨by rw [ht]; exact hP, va_K.moved hW.alike hK, hD⟩⟩, hS.F ht⟩) hS.2.2 dX11_readClause_114
        · have f_211 : ¬ (zi_103.toInt = 0) := ic_neq (rfl) (by decide) c_210
          refine lv_aload_n hx hb dX11_readClause_27 rfl (lv_at hl 0 rfl) ?_
          refine lv_iload_n hx hb dX11_readClause_28 rfl (lv_at hl 2 rfl) ?_
          refine lv_iconst (v := 2) hx hb dX11_readClause_29 (by decide) ?_
          refine lv_iadd hx hb dX11_readClause_30 ?_
          refine lv_topi (fun zi_248 ezi_248 => ?_)
          have tzi_248 : zi_248.toInt = zi_1.toInt + (2 : Int) := by rw [ezi_248]; exact tiadd (rfl) (show (2 : Int32).toInt = 2 by decide) (by omega) (by omega)
          refine lv_iconst (v := 3) hx hb dX11_readClause_31 (by decide) ?_
          refine lv_aload_n hx hb dX11_readClause_32 rfl (lv_at hl 0 rfl) ?_
          refine ht_getr (C := RX11) (T := TX11) (N := 28) hx hb hts (by decide +kernel) hown hK hP hs t_zy (by decide) rfl rfl 5 (by decide) (hts (.fieldLink RX11 16 "DripStoneModel" "read" "[I") (by decide +kernel)) (fun _ h9 => h9) rfl dX11_readClause_33 ?_
          refine lv_iload_n hx hb dX11_readClause_36 rfl (lv_at hl 2 rfl) ?_
          refine ht_iald (n := 66) (q := 0) hx hb hK hP hs t_2 (by decide) rfl rfl ⟨by omega, by omega⟩ dX11_readClause_37 ?_
          refine lv_topi (fun zi_249 ezi_249 => ?_)
          have la_250 : zi_249.toInt = zA (zI_104 (zR zy 5)) (11 * zia.toInt) := (congrArg Int32.toInt (show zI_104 (zR zy 5) zi_1.toNatClampNeg = zi_249 from ezi_249.symm).symm).trans (congrArg (zA (zI_104 (zR zy 5))) (show zi_1.toInt = 11 * zia.toInt from by omega))
          have bz_251 : 0 ≤ zi_249.toInt ∧ zi_249.toInt ≤ 2 := by omega
          refine lv_imul hx hb dX11_readClause_38 ?_
          refine lv_topi (fun zi_252 ezi_252 => ?_)
          have tzi_252 : zi_252.toInt = (3 : Int) * zi_249.toInt := by rw [ezi_252]; exact timul (show (3 : Int32).toInt = 3 by decide) (rfl) (by omega) (by omega)
          refine lv_iadd hx hb dX11_readClause_39 ?_
          refine lv_topi (fun zi_253 ezi_253 => ?_)
          have tzi_253 : zi_253.toInt = zi_248.toInt + zi_252.toInt := by rw [ezi_253]; exact tiadd (rfl) (rfl) (by omega) (by omega)
          refine hj_i (ws := (WL cy zL zT zR zI_104 zJ)) (w1 := fun (u : (Nat → Nat → Int32)) => (WL cy zL zT zR u zJ)) (va_runV (As := [.int zi_253]) (rest := []) ⟨hx, hb, hml, hown, hts⟩ (t_X11_readCondition l dC dI cy H.size zL zT zR zI_104 zJ zy zi_253 hs h_zI_104.1 t_zy (by omega)) (cwV 1 hts gX11_readClause_X11_readCondition rfl rfl rfl (by decide +kernel) ⟨(Nat.le_of_ble_eq_true rfl), (Nat.le_of_ble_eq_true rfl)⟩) (PRE.v hP hK hD hN (ht_recv hK hP hs t_zy (by decide) rfl rfl)) rfl rfl hl.1 rfl (lv_room (Nat.le_of_ble_eq_true rfl)) dX11_readClause_40 ⟨(Nat.le_of_ble_eq_true rfl), (Nat.le_of_ble_eq_true rfl)⟩) hP hD hS hA (fun zi_254 zI_257 H locs hw_255 hP hD hS => ?_)
          obtain ⟨k_zI_257, b_zi_254, ps_258⟩ : (WM [1803, 10200] AL zT zR zI_104 zI_257) ∧ (0 ≤ zi_254.toInt ∧ zi_254.toInt ≤ 1) ∧ (FRM (zI_104 (zR zy 5)) (zI_257 (zR zy 5)) (zi_253.toInt) (zi_253.toInt + 2)) := hw_255
          have h_zI_257 : WM [1803, 10200] AL zT zR zI zI_257 := h_zI_104.tr k_zI_257 (by decide) (fun _ _ => trivial)
          have kr_259 : zA (zI_257 (zR zy 5)) (11 * zia.toInt) = zA (zI_104 (zR zy 5)) (11 * zia.toInt) := ps_258 (11 * zia.toInt) (by omega) (by omega)
          refine lv_if_ne (tgt := 48) hx hb dX11_readClause_43 (by decide) (fun c_260 => ?_) (fun c_260 => ?_)
          · have f_261 : zi_254.toInt ≠ 0 := ic_ne (rfl) (by decide) c_260
            refine lv_aload_n hx hb dX11_readClause_48 rfl (lv_at hl 0 rfl) ?_
            refine ht_getr (C := RX11) (T := TX11) (N := 28) hx hb hts (by decide +kernel) hown hK hP hs t_zy (by decide) rfl rfl 5 (by decide) (hts (.fieldLink RX11 16 "DripStoneModel" "read" "[I") (by decide +kernel)) (fun _ h9 => h9) rfl dX11_readClause_49 ?_
            refine lv_iload_n hx hb dX11_readClause_52 rfl (lv_at hl 2 rfl) ?_
            refine lv_dup2_11 hx hb dX11_readClause_53 rfl rfl ?_
            refine ht_iald (n := 66) (q := 0) hx hb hK hP hs t_2 (by decide) rfl rfl ⟨by omega, by omega⟩ dX11_readClause_54 ?_
            refine lv_topi (fun zi_262 ezi_262 => ?_)
            have la_263 : zi_262.toInt = zA (zI_257 (zR zy 5)) (11 * zia.toInt) := (congrArg Int32.toInt (show zI_257 (zR zy 5) zi_1.toNatClampNeg = zi_262 from ezi_262.symm).symm).trans (congrArg (zA (zI_257 (zR zy 5))) (show zi_1.toInt = 11 * zia.toInt from by omega))
            have bz_264 : 0 ≤ zi_262.toInt ∧ zi_262.toInt ≤ 2 := by omega
            refine lv_iconst (v := 1) hx hb dX11_readClause_55 (by decide) ?_
            refine lv_iadd hx hb dX11_readClause_56 ?_
            refine lv_topi (fun zi_265 ezi_265 => ?_)
            have tzi_265 : zi_265.toInt = zi_262.toInt + (1 : Int) := by rw [ezi_265]; exact tiadd (rfl) (show (1 : Int32).toInt = 1 by decide) (by omega) (by omega)
            refine ht_iast (v := zi_265) (n := 66) (q := 0) hx hb hK hP hD hS hs t_2 (by decide) rfl rfl ⟨by omega, by omega⟩ dX11_readClause_57 (fun H locs hP hD hS => ?_)
            have h_zI_266 : WM [1803, 10200] AL zT zR zI (u2 zI_257 (zR zy 5) zi_1.toNatClampNeg zi_265) := h_zI_257.putA hs t_2 rfl (rgF _) (by decide) (fun h => absurd h (by decide)) (by decide) trivial
            generalize uzI_266 : u2 zI_257 (zR zy 5) zi_1.toNatClampNeg zi_265 = zI_266 at hP hD h_zI_266
            have kr_267 : zA (zI_266 (zR zy 5)) (11 * zia.toInt) = zi_265.toInt := by rw [← uzI_266, u2_r]; exact (zu_s (by omega)).trans rfl
            refine lv_aload_n hx hb dX11_readClause_58 rfl (lv_at hl 0 rfl) ?_
            refine hj_i (ws := (WL cy zL zT zR zI_266 zJ)) (w1 := fun (u : (Nat → Nat → Int32)) => (WL cy zL zT zR u zJ)) (va_runV (As := []) (rest := []) ⟨hx, hb, hml, hown, hts⟩ (t_X11_nextByte l dC dI cy H.size zL zT zR zI_266 zJ zy hs h_zI_266.1 t_zy) (cwV 0 hts gX11_readClause_X11_nextByte rfl rfl rfl (by decide +kernel) ⟨(Nat.le_of_ble_eq_true rfl), (Nat.le_of_ble_eq_true rfl)⟩) (PRE.v hP hK hD hN (ht_recv hK hP hs t_zy (by decide) rfl rfl)) rfl rfl hl.1 rfl (lv_room (Nat.le_of_ble_eq_true rfl)) dX11_readClause_59 ⟨(Nat.le_of_ble_eq_true rfl), (Nat.le_of_ble_eq_true rfl)⟩) hP hD hS hA (fun zi_268 zI_271 H locs hw_269 hP hD hS => ?_)
            obtain ⟨k_zI_271, b_zi_268, ps_272⟩ : (WM [1803] AL zT zR zI_266 zI_271) ∧ ((-1) ≤ zi_268.toInt ∧ zi_268.toInt ≤ 255) ∧ (zi_268.toInt = -1 ∨ (zI_271 zy 3).toInt ≤ 79) := hw_269
            have h_zI_271 : WM [1803, 10200] AL zT zR zI zI_271 := h_zI_266.tr k_zI_271 (by decide) (fun _ _ => trivial)
            obtain ⟨zi_273, ezi_273⟩ : ∃ y : Int32, y = zI_271 zy 3 := ⟨_, rfl⟩
            have tzi_273 : 0 ≤ zi_273.toInt ∧ zi_273.toInt ≤ 80 := by rw [ezi_273]; exact h_zI_271.at t_zy _ rfl
            have lzi_273 : (zI_271 zy 3).toInt = zi_273.toInt := by rw [ezi_273]
            have lk_274 : (zI_271 zy 3).toInt = zi_273.toInt := congrArg Int32.toInt ezi_273.symm
            have kr_275 : zA (zI_271 (zR zy 5)) (11 * zia.toInt) = zA (zI_266 (zR zy 5)) (11 * zia.toInt) := by rw [(k_zI_271.2.row t_2 (by decide) (by decide))]
            refine lv_bipush (v := 38) hx hb dX11_readClause_62 (by decide) ?_
            refine lv_icmp_ne (tgt := 81) hx hb dX11_readClause_64 (by decide) (fun c_276 => ?_) (fun c_276 => ?_)
            · have f_277 : zi_268.toInt ≠ (38 : Int) := ic_ne (rfl) (show (38 : Int32).toInt = 38 by decide) c_276
              refine lv_iconst (v := 0) hx hb dX11_readClause_81 (by decide) ?_
              refine lv_istore_n (lv' := [(3, .int 0), (0, .ref zy), (1, .int zia), (2, .int zi_1)]) hx hb dX11_readClause_82 rfl hl (by decide) rfl (fun ls hl => ?_)
              refine lv_aload_n hx hb dX11_readClause_83 rfl (lv_at hl 1 rfl) ?_
              refine lv_dup hx hb dX11_readClause_84 rfl ?_
              refine ht_geti (C := RX11) (T := TX11) (N := 28) hx hb hts (by decide +kernel) hown hK hP hs t_zy (by decide) rfl rfl 3 (by decide) (hts (.fieldLink RX11 116 "DripStoneModel" "at" "I") (by decide +kernel)) (fun _ h9 => h9) rfl dX11_readClause_85 ?_
              refine lv_topi (fun zi_278 ezi_278 => ?_)
              obtain rfl : zi_273 = zi_278 := (ezi_278.trans ezi_273.symm).symm
              refine lv_iload_n hx hb dX11_readClause_88 rfl (lv_at hl 0 rfl) ?_
              refine lv_if_eq (tgt := 96) hx hb dX11_readClause_89 (by decide) (fun c_279 => ?_) (fun c_279 => absurd (by decide) c_279)
              refine lv_iconst (v := 0) hx hb dX11_readClause_96 (by decide) ?_
              refine lv_iadd hx hb dX11_readClause_97 ?_
              refine lv_topi (fun zi_280 ezi_280 => ?_)
              have tzi_280 : zi_280.toInt = zi_273.toInt + (0 : Int) := by rw [ezi_280]; exact tiadd (rfl) (show (0 : Int32).toInt = 0 by decide) (by omega) (by omega)
              refine ht_puti (v := zi_280) (ty := .int) (C := RX11) (T := TX11) (N := 28) hx hb hts (by decide +kernel) tyX11 tyX11_ok nmX11 hown hK hP hD hS hs t_zy (by decide) rfl rfl 3 (by decide) (hts (.fieldLink RX11 116 "DripStoneModel" "at" "I") (by decide +kernel)) (fun _ h9 => h9) rfl (by decide +kernel) rfl rfl rfl dX11_readClause_98 (fun H locs hP hD hS => ?_)
              have h_zI_281 : WM [1803, 10200] AL zT zR zI (u2 zI_271 zy 3 zi_280) := h_zI_271.put hs t_zy rfl (by omega) (by decide) (fun h => absurd h (by decide)) (by decide) trivial
              generalize uzI_281 : u2 zI_271 zy 3 zi_280 = zI_281 at hP hD h_zI_281
              have kr_282 : zA (zI_281 (zR zy 5)) (11 * zia.toInt) = zA (zI_271 (zR zy 5)) (11 * zia.toInt) := by rw [(show zI_281 (zR zy 5) = zI_271 (zR zy 5) from by rw [← uzI_281]; exact u2_a (tne t_2 t_zy (by decide)))]
              refine lv_goto (tgt := 23) hx hb dX11_readClause_101 (by decide) ?_
              have qc_0 : (0 : Int32).toInt = 0 := by decide
              have fr_283 : FRM (zI (zR zy 5)) (zI_257 (zR zy 5)) (11 * zia.toInt) (11 * zia.toInt + 10) := FRM.tr e_lp_209_1 ps_258 (by omega)
              have fr_284 : FRM (zI (zR zy 5)) (zI_266 (zR zy 5)) (11 * zia.toInt) (11 * zia.toInt + 10) := by rw [← uzI_266, u2_r]; exact FRM.up fr_283 (by omega)
              have fr_285 : FRM (zI (zR zy 5)) (zI_271 (zR zy 5)) (11 * zia.toInt) (11 * zia.toInt + 10) := by rw [(k_zI_271.2.row t_2 (by decide) (by decide))]; exact fr_284
              have fr_286 : FRM (zI (zR zy 5)) (zI_281 (zR zy 5)) (11 * zia.toInt) (11 * zia.toInt + 10) := by rw [(show zI_281 (zR zy 5) = zI_271 (zR zy 5) from by rw [← uzI_281]; exact u2_a (tne t_2 t_zy (by decide)))]; exact fr_285
              exact ih_209 (3 - zA (zI_281 (zR zy 5)) (11 * zia.toInt)).toNat (by omega) (0 : Int32) zI_281 _ _ _ rfl (by decide) h_zI_281 (by omega) fr_286 hP hD hS (lv_sub hl [1, 2, 3, 0] rfl)
            · have f_277 : ¬ (zi_268.toInt ≠ (38 : Int)) := ic_nne (rfl) (show (38 : Int32).toInt = 38 by decide) c_276
              refine lv_aload_n hx hb dX11_readClause_67 rfl (lv_at hl 0 rfl) ?_
              refine ht_getr (C := RX11) (T := TX11) (N := 28) hx hb hts (by decide +kernel) hown hK hP hs t_zy (by decide) rfl rfl 5 (by decide) (hts (.fieldLink RX11 16 "DripStoneModel" "read" "[I") (by decide +kernel)) (fun _ h9 => h9) rfl dX11_readClause_68 ?_
              refine lv_iload_n hx hb dX11_readClause_71 rfl (lv_at hl 2 rfl) ?_
              refine ht_iald (n := 66) (q := 0) hx hb hK hP hs t_2 (by decide) rfl rfl ⟨by omega, by omega⟩ dX11_readClause_72 ?_
              refine lv_topi (fun zi_287 ezi_287 => ?_)
              obtain rfl : zi_265 = zi_287 := (ezi_287.trans ((k_zI_271.2 (zR zy 5) zi_1.toNatClampNeg (Or.inl (by rw [t_2]; exact (by decide : ¬ 10200 ∈ ([1803] : List Nat))))).trans (by rw [← uzI_266]; exact u2_s))).symm
              have la_288 : zi_265.toInt = zA (zI_271 (zR zy 5)) (11 * zia.toInt) := (congrArg Int32.toInt (show zI_271 (zR zy 5) zi_1.toNatClampNeg = zi_265 from ((k_zI_271.2 (zR zy 5) zi_1.toNatClampNeg (Or.inl (by rw [t_2]; exact (by decide : ¬ 10200 ∈ ([1803] : List Nat))))).trans (by rw [← uzI_266]; exact u2_s))).symm).trans (congrArg (zA (zI_271 (zR zy 5))) (show zi_1.toInt = 11 * zia.toInt from by omega))
              have bz_289 : 0 ≤ zi_265.toInt ∧ zi_265.toInt ≤ 3 := by omega
              refine lv_iconst (v := 3) hx hb dX11_readClause_73 (by decide) ?_
              refine lv_icmp_ge (tgt := 81) hx hb dX11_readClause_74 (by decide) (fun c_290 => ?_) (fun c_290 => ?_)
              · have f_291 : zi_265.toInt ≥ (3 : Int) := ic_ge (rfl) (show (3 : Int32).toInt = 3 by decide) c_290
                refine lv_iconst (v := 0) hx hb dX11_readClause_81 (by decide) ?_
                refine lv_istore_n (lv' := [(3, .int 0), (0, .ref zy), (1, .int zia), (2, .int zi_1)]) hx hb dX11_readClause_82 rfl hl (by decide) rfl (fun ls hl => ?_)
                refine lv_aload_n hx hb dX11_readClause_83 rfl (lv_at hl 1 rfl) ?_
                refine lv_dup hx hb dX11_readClause_84 rfl ?_
                refine ht_geti (C := RX11) (T := TX11) (N := 28) hx hb hts (by decide +kernel) hown hK hP hs t_zy (by decide) rfl rfl 3 (by decide) (hts (.fieldLink RX11 116 "DripStoneModel" "at" "I") (by decide +kernel)) (fun _ h9 => h9) rfl dX11_readClause_85 ?_
                refine lv_topi (fun zi_292 ezi_292 => ?_)
                obtain rfl : zi_273 = zi_292 := (ezi_292.trans ezi_273.symm).symm
                refine lv_iload_n hx hb dX11_readClause_88 rfl (lv_at hl 0 rfl) ?_
                refine lv_if_eq (tgt := 96) hx hb dX11_readClause_89 (by decide) (fun c_293 => ?_) (fun c_293 => absurd (by decide) c_293)
                refine lv_iconst (v := 0) hx hb dX11_readClause_96 (by decide) ?_
                refine lv_iadd hx hb dX11_readClause_97 ?_
                refine lv_topi (fun zi_294 ezi_294 => ?_)
                have tzi_294 : zi_294.toInt = zi_273.toInt + (0 : Int) := by rw [ezi_294]; exact tiadd (rfl) (show (0 : Int32).toInt = 0 by decide) (by omega) (by omega)
                refine ht_puti (v := zi_294) (ty := .int) (C := RX11) (T := TX11) (N := 28) hx hb hts (by decide +kernel) tyX11 tyX11_ok nmX11 hown hK hP hD hS hs t_zy (by decide) rfl rfl 3 (by decide) (hts (.fieldLink RX11 116 "DripStoneModel" "at" "I") (by decide +kernel)) (fun _ h9 => h9) rfl (by decide +kernel) rfl rfl rfl dX11_readClause_98 (fun H locs hP hD hS => ?_)
                have h_zI_295 : WM [1803, 10200] AL zT zR zI (u2 zI_271 zy 3 zi_294) := h_zI_271.put hs t_zy rfl (by omega) (by decide) (fun h => absurd h (by decide)) (by decide) trivial
                generalize uzI_295 : u2 zI_271 zy 3 zi_294 = zI_295 at hP hD h_zI_295
                have kr_296 : zA (zI_295 (zR zy 5)) (11 * zia.toInt) = zA (zI_271 (zR zy 5)) (11 * zia.toInt) := by rw [(show zI_295 (zR zy 5) = zI_271 (zR zy 5) from by rw [← uzI_295]; exact u2_a (tne t_2 t_zy (by decide)))]
                refine lv_goto (tgt := 23) hx hb dX11_readClause_101 (by decide) ?_
                have qc_0 : (0 : Int32).toInt = 0 := by decide
                have fr_297 : FRM (zI (zR zy 5)) (zI_257 (zR zy 5)) (11 * zia.toInt) (11 * zia.toInt + 10) := FRM.tr e_lp_209_1 ps_258 (by omega)
                have fr_298 : FRM (zI (zR zy 5)) (zI_266 (zR zy 5)) (11 * zia.toInt) (11 * zia.toInt + 10) := by rw [← uzI_266, u2_r]; exact FRM.up fr_297 (by omega)
                have fr_299 : FRM (zI (zR zy 5)) (zI_271 (zR zy 5)) (11 * zia.toInt) (11 * zia.toInt + 10) := by rw [(k_zI_271.2.row t_2 (by decide) (by decide))]; exact fr_298
                have fr_300 : FRM (zI (zR zy 5)) (zI_295 (zR zy 5)) (11 * zia.toInt) (11 * zia.toInt + 10) := by rw [(show zI_295 (zR zy 5) = zI_271 (zR zy 5) from by rw [← uzI_295]; exact u2_a (tne t_2 t_zy (by decide)))]; exact fr_299
                exact ih_209 (3 - zA (zI_295 (zR zy 5)) (11 * zia.toInt)).toNat (by omega) (0 : Int32) zI_295 _ _ _ rfl (by decide) h_zI_295 (by omega) fr_300 hP hD hS (lv_sub hl [1, 2, 3, 0] rfl)
              · have f_291 : ¬ (zi_265.toInt ≥ (3 : Int)) := ic_nge (rfl) (show (3 : Int32).toInt = 3 by decide) c_290
                refine lv_iconst (v := 1) hx hb dX11_readClause_77 (by decide) ?_
                refine lv_goto (tgt := 82) hx hb dX11_readClause_78 (by decide) ?_
                refine lv_istore_n (lv' := [(3, .int 1), (0, .ref zy), (1, .int zia), (2, .int zi_1)]) hx hb dX11_readClause_82 rfl hl (by decide) rfl (fun ls hl => ?_)
                refine lv_aload_n hx hb dX11_readClause_83 rfl (lv_at hl 1 rfl) ?_
                refine lv_dup hx hb dX11_readClause_84 rfl ?_
                refine ht_geti (C := RX11) (T := TX11) (N := 28) hx hb hts (by decide +kernel) hown hK hP hs t_zy (by decide) rfl rfl 3 (by decide) (hts (.fieldLink RX11 116 "DripStoneModel" "at" "I") (by decide +kernel)) (fun _ h9 => h9) rfl dX11_readClause_85 ?_
                refine lv_topi (fun zi_301 ezi_301 => ?_)
                obtain rfl : zi_273 = zi_301 := (ezi_301.trans ezi_273.symm).symm
                refine lv_iload_n hx hb dX11_readClause_88 rfl (lv_at hl 0 rfl) ?_
                refine lv_if_eq (tgt := 96) hx hb dX11_readClause_89 (by decide) (fun c_302 => absurd c_302 (by decide)) (fun c_302 => ?_)
                refine lv_iconst (v := 1) hx hb dX11_readClause_92 (by decide) ?_
                refine lv_goto (tgt := 97) hx hb dX11_readClause_93 (by decide) ?_
                refine lv_iadd hx hb dX11_readClause_97 ?_
                refine lv_topi (fun zi_303 ezi_303 => ?_)
                have tzi_303 : zi_303.toInt = zi_273.toInt + (1 : Int) := by rw [ezi_303]; exact tiadd (rfl) (show (1 : Int32).toInt = 1 by decide) (by omega) (by omega)
                refine ht_puti (v := zi_303) (ty := .int) (C := RX11) (T := TX11) (N := 28) hx hb hts (by decide +kernel) tyX11 tyX11_ok nmX11 hown hK hP hD hS hs t_zy (by decide) rfl rfl 3 (by decide) (hts (.fieldLink RX11 116 "DripStoneModel" "at" "I") (by decide +kernel)) (fun _ h9 => h9) rfl (by decide +kernel) rfl rfl rfl dX11_readClause_98 (fun H locs hP hD hS => ?_)
                have h_zI_304 : WM [1803, 10200] AL zT zR zI (u2 zI_271 zy 3 zi_303) := h_zI_271.put hs t_zy rfl (by omega) (by decide) (fun h => absurd h (by decide)) (by decide) trivial
                generalize uzI_304 : u2 zI_271 zy 3 zi_303 = zI_304 at hP hD h_zI_304
                have kr_305 : zA (zI_304 (zR zy 5)) (11 * zia.toInt) = zA (zI_271 (zR zy 5)) (11 * zia.toInt) := by rw [(show zI_304 (zR zy 5) = zI_271 (zR zy 5) from by rw [← uzI_304]; exact u2_a (tne t_2 t_zy (by decide)))]
                refine lv_goto (tgt := 23) hx hb dX11_readClause_101 (by decide) ?_
                have qc_1 : (1 : Int32).toInt = 1 := by decide
                have fr_306 : FRM (zI (zR zy 5)) (zI_257 (zR zy 5)) (11 * zia.toInt) (11 * zia.toInt + 10) := FRM.tr e_lp_209_1 ps_258 (by omega)
                have fr_307 : FRM (zI (zR zy 5)) (zI_266 (zR zy 5)) (11 * zia.toInt) (11 * zia.toInt + 10) := by rw [← uzI_266, u2_r]; exact FRM.up fr_306 (by omega)
                have fr_308 : FRM (zI (zR zy 5)) (zI_271 (zR zy 5)) (11 * zia.toInt) (11 * zia.toInt + 10) := by rw [(k_zI_271.2.row t_2 (by decide) (by decide))]; exact fr_307
                have fr_309 : FRM (zI (zR zy 5)) (zI_304 (zR zy 5)) (11 * zia.toInt) (11 * zia.toInt + 10) := by rw [(show zI_304 (zR zy 5) = zI_271 (zR zy 5) from by rw [← uzI_304]; exact u2_a (tne t_2 t_zy (by decide)))]; exact fr_308
                exact ih_209 (3 - zA (zI_304 (zR zy 5)) (11 * zia.toInt)).toNat (by omega) (1 : Int32) zI_304 _ _ _ rfl (by decide) h_zI_304 (by omega) fr_309 hP hD hS (lv_sub hl [1, 2, 3, 0] rfl)
          · have f_261 : ¬ (zi_254.toInt ≠ 0) := ic_nne (rfl) (by decide) c_260
            refine lv_iconst (v := 0) hx hb dX11_readClause_46 (by decide) ?_
            subst hQ
            have qc_0 : (0 : Int32).toInt = 0 := by decide
            have fr_310 : FRM (zI (zR zy 5)) (zI_257 (zR zy 5)) (11 * zia.toInt) (11 * zia.toInt + 10) := FRM.tr e_lp_209_1 ps_258 (by omega)
            exact W.zret (v := (0 : Int32)) hx hb hr rfl (fun t ht hW => ⟨⟨(0 : Int32), zI_257, rfl, ⟨h_zI_257, (show 0 ≤ (0 : Int32).toInt ∧ (0 : Int32).toInt ≤ 1 from by omega), (show FRM (zI (zR zy 5)) (zI_257 (zR zy 5)) (11 * zia.toInt) (11 * zia.toInt + 10) from fr_310), (show 0 ≤ zA (zI_257 (zR zy 5)) (11 * zia.toInt) ∧ zA (zI_257 (zR zy 5)) (11 * zia.toInt) ≤ 3 from by omega)⟩, ⟨by rw [ht]; exact hP, va_K.moved hW.alike hK, hD⟩⟩, hS.F ht⟩) hS.2.2 dX11_readClause_47
    have qc_1 : (1 : Int32).toInt = 1 := by decide
    have fr_311 : FRM (zI (zR zy 5)) (zI_3 (zR zy 5)) (11 * zia.toInt) (11 * zia.toInt + 10) := by rw [← uzI_3, u2_r]; exact FRM.up FRM.rf (by omega)
    have fr_312 : FRM (zI (zR zy 5)) (zI_8 (zR zy 5)) (11 * zia.toInt) (11 * zia.toInt + 10) := by rw [(k_zI_8.2.row t_2 (by decide) (by decide))]; exact fr_311
    exact lp_209 _ (1 : Int32) zI_8 _ _ _ rfl (by decide) h_zI_8 (by omega) fr_312 hP hD hS (lv_sub hl [2, 3, 1, 0] rfl)
