set_option maxHeartbeats 8000000 in
set_option maxRecDepth 100000 in
theorem t_X11_image (l : Launch) (dC : Nat → ClassId) (dI : Nat → Nat → Nat) (cy : Nat → ClassId) (sz : Nat) (zL : List Nat) (zT : Nat → Nat) (zR : Nat → Nat → Nat) (zI : Nat → Nat → Int32) (zJ : Nat → Nat → Int64) (zy : Nat) (hs : SKP zL zT zR) (hw : WT zT zR zI) (t_zy : zT zy = 18) (hz : ZI (zI (zR zy 0))) : Met l yX11_image wsX11_image ({ frames := 0, cells := 0, slots := 0, locals := 0 } : Room) (va_Pc [.ref zy] (PRE dC dI cy (WL cy zL zT zR zI zJ) sz)) (va_Qi (fun (r : Int32) (u : (Nat → Nat → Int32)) => (WM [1823, 10900] AL zT zR zI u) ∧ (r = 1) ∧ (ZI (u (zR zy 24))) ∧ ((u zy 23).toInt = 1) ∧ (∀ j : Int, 0 ≤ j → j < 392 → zA (u (zR zy 24)) j = zA (zI (zR zy 0)) j)) (fun u t => POST dC dI cy (va_A (WL cy zL zT zR zI zJ) sz) (WL cy zL zT zR u zJ) t) (va_A (WL cy zL zT zR zI zJ) sz)) 0 0 (va_A (WL cy zL zT zR zI zJ) sz) := by
  refine Met.ofW (cc := cX11_image) (maxL := 2) (ret := (some .int)) (by decide) rfl ?_
  intro p e s m args below meth c s₁ B hml hv
  obtain ⟨rfl, hsz, hP, hK, hD0, hN⟩ := hv
  have hx := B.exec
  have hb := B.bytes
  have hr := B.returns
  have hts := atoms_spec (ws := wsX11_image) B.pre
  have hown : s.vm.findClass RX11 = some m.cls := findClass_of_methodNamed B.named
  have hlocks := B.notSynchronized
  subst hsz
  have hD := hD0.self (sz := s.heap.size)
  generalize hAe : va_A (WL cy zL zT zR zI zJ) s.heap.size = A at hD ⊢
  have hA : ∀ q : Nat, s.heap.size ≤ q → A q := fun q h => by rw [← hAe]; exact Or.inr h
  have hS : va_S A s.heap s.heap [] := va_S.rf
  have hP : va_P (dC, dI) vwCl (WL cy zL zT zR zI zJ) s.heap := hP
  have hl := lv_entry ([.ref zy] : List Value) (n := 2) (Nat.le_of_ble_eq_true rfl)
  rw [lg_entry_eq]
  generalize (lg_sl ([.ref zy] : List Value) ++ List.replicate (2 - (lg_sl ([.ref zy] : List Value)).length) Slot.unset).toArray = ls at hl ⊢
  have hl : lv_has ls 2 [(0, .ref zy)] := hl
  refine w_q (fun Q hQ => ?_)
  have h_zI : WM [1823, 10900] AL zT zR zI zI := WM.rf hw
  refine lv_iconst (v := 0) hx hb dX11_image_0 (by decide) ?_
  refine lv_istore_n (lv' := [(1, .int 0), (0, .ref zy)]) hx hb dX11_image_1 rfl hl (by decide) rfl (fun ls hl => ?_)
  have lp_46 : ∀ (n : Nat) (zi_36 : Int32) (zI_37 : Nat → Nat → Int32) (H : Heap) (locs : List Loc) (ls : Array Slot), (392 - zi_36.toInt).toNat = n → (0 ≤ zi_36.toInt ∧ zi_36.toInt ≤ 392) → (WM [1823, 10900] AL zT zR zI zI_37) → (CPY (zI (zR zy 24)) (zI (zR zy 0)) (zI_37 (zR zy 24)) (0) zi_36.toInt) → (zI_37 (zR zy 0) = zI (zR zy 0)) → (ZI (zI_37 (zR zy 0))) → va_P (dC, dI) vwCl (WL cy zL zT zR zI_37 zJ) H → va_D A (WL cy zL zT zR zI_37 zJ) → va_S A s.heap H locs → lv_has ls 2 [(0, .ref zy), (1, .int zi_36)] → W p l e ({ frames := 0, cells := 0, slots := 0, locals := 0 } : Room) s m ([.ref zy] : List Value).toArray below meth c H locs 0 0 Q (F0 m 2 ls []) := by
    intro n
    induction n using Nat.strongRecOn with
    | _ n ih_46 =>
      intro zi_36 zI_37 H locs ls hn b_zi_36 h_zI_37 e_lp_46_0 e_lp_46_1 e_lp_46_2 hP hD hS hl
      refine lv_iload_n hx hb dX11_image_2 rfl (lv_at hl 1 rfl) ?_
      refine lv_sipush (v := 392) hx hb dX11_image_3 (by decide) ?_
      refine lv_icmp_ge (tgt := 27) hx hb dX11_image_6 (by decide) (fun c_47 => ?_) (fun c_47 => ?_)
      · have f_48 : zi_36.toInt ≥ (392 : Int) := ic_ge (rfl) (show (392 : Int32).toInt = 392 by decide) c_47
        refine lv_aload_n hx hb dX11_image_27 rfl (lv_at hl 0 rfl) ?_
        refine lv_iconst (v := 1) hx hb dX11_image_28 (by decide) ?_
        refine ht_puti (v := (1 : Int32)) (ty := .boolean) (C := RX11) (T := TX11) (N := 28) hx hb hts (by decide +kernel) tyX11 tyX11_ok nmX11 hown hK hP hD hS hs t_zy (by decide) rfl rfl 23 (by decide) (hts (.fieldLink RX11 342 "DripStoneModel" "isKept" "Z") (by decide +kernel)) (fun _ h9 => h9) rfl (by decide +kernel) rfl rfl rfl dX11_image_29 (fun H locs hP hD hS => ?_)
        have h_zI_49 : WM [1823, 10900] AL zT zR zI (u2 zI_37 zy 23 (1 : Int32)) := h_zI_37.put hs t_zy rfl (by decide) (by decide) (fun h => absurd h (by decide)) (by decide) trivial
        generalize uzI_49 : u2 zI_37 zy 23 (1 : Int32) = zI_49 at hP hD h_zI_49
        refine lv_iconst (v := 1) hx hb dX11_image_32 (by decide) ?_
        subst hQ
        have t_50 : zT (zR zy 24) = 109 := sk_f hs t_zy (by decide) rfl (by decide)
        exact W.iret (v := (1 : Int32)) hx hb hr (fun t ht hW => ⟨⟨(1 : Int32), zI_49, rfl, ⟨h_zI_49, rfl, (show ZI (zI_49 (zR zy 24)) from (by rw [(show zI_49 (zR zy 24) = zI_37 (zR zy 24) from by rw [← uzI_49]; exact u2_a (tne t_50 t_zy (by decide)))]; exact ZI.cp hz e_lp_46_0 (by omega))), (show (zI_49 zy 23).toInt = 1 from (by rw [show zI_49 zy 23 = (1 : Int32) from (by rw [← uzI_49]; exact u2_s)]; decide)), (show ∀ j : Int, 0 ≤ j → j < 392 → zA (zI_49 (zR zy 24)) j = zA (zI (zR zy 0)) j from (fun j j0 j1 => by rw [(show zI_49 (zR zy 24) = zI_37 (zR zy 24) from by rw [← uzI_49]; exact u2_a (tne t_50 t_zy (by decide)))]; have q9 := e_lp_46_0.2 j j0 (by omega); rwa [Int.zero_add] at q9))⟩, ⟨by rw [ht]; exact hP, va_K.moved hW.alike hK, hD⟩⟩, hS.F ht⟩) hS.2.2 dX11_image_33
      · have f_48 : ¬ (zi_36.toInt ≥ (392 : Int)) := ic_nge (rfl) (show (392 : Int32).toInt = 392 by decide) c_47
        refine lv_aload_n hx hb dX11_image_9 rfl (lv_at hl 0 rfl) ?_
        refine ht_getr (C := RX11) (T := TX11) (N := 28) hx hb hts (by decide +kernel) hown hK hP hs t_zy (by decide) rfl rfl 24 (by decide) (hts (.fieldLink RX11 56 "DripStoneModel" "kept" "[I") (by decide +kernel)) (fun _ h9 => h9) rfl dX11_image_10 ?_
        have t_51 : zT (zR zy 24) = 109 := sk_f hs t_zy (by decide) rfl (by decide)
        refine lv_iload_n hx hb dX11_image_13 rfl (lv_at hl 1 rfl) ?_
        refine lv_aload_n hx hb dX11_image_14 rfl (lv_at hl 0 rfl) ?_
        refine ht_getr (C := RX11) (T := TX11) (N := 28) hx hb hts (by decide +kernel) hown hK hP hs t_zy (by decide) rfl rfl 0 (by decide) (hts (.fieldLink RX11 7 "DripStoneModel" "z" "[I") (by decide +kernel)) (fun _ h9 => h9) rfl dX11_image_15 ?_
        have t_52 : zT (zR zy 0) = 100 := sk_f hs t_zy (by decide) rfl (by decide)
        refine lv_iload_n hx hb dX11_image_18 rfl (lv_at hl 1 rfl) ?_
        refine ht_iald (n := 392) (q := 0) hx hb hK hP hs t_52 (by decide) rfl rfl ⟨by omega, by omega⟩ dX11_image_19 ?_
        refine lv_topi (fun zi_53 ezi_53 => ?_)
        have la_54 : zi_53.toInt = zA (zI_37 (zR zy 0)) (zi_36.toInt) := (congrArg Int32.toInt (show zI_37 (zR zy 0) zi_36.toNatClampNeg = zi_53 from ezi_53.symm).symm).trans (congrArg (zA (zI_37 (zR zy 0))) (show zi_36.toInt = zi_36.toInt from by omega))
        refine ht_iast (v := zi_53) (n := 392) (q := 0) hx hb hK hP hD hS hs t_51 (by decide) rfl rfl ⟨by omega, by omega⟩ dX11_image_20 (fun H locs hP hD hS => ?_)
        have h_zI_55 : WM [1823, 10900] AL zT zR zI (u2 zI_37 (zR zy 24) zi_36.toNatClampNeg zi_53) := h_zI_37.putA hs t_51 rfl (rgF _) (by decide) (fun h => absurd h (by decide)) (by decide) trivial
        generalize uzI_55 : u2 zI_37 (zR zy 24) zi_36.toNatClampNeg zi_53 = zI_55 at hP hD h_zI_55
        obtain ⟨zi_56, ezi_56⟩ : ∃ y : Int32, y = zi_36 + 1 := ⟨_, rfl⟩
        have tzi_56 : zi_56.toInt = zi_36.toInt + 1 := by rw [ezi_56]; exact tadd rfl (show (1 : Int32).toInt = 1 by decide) (by omega) (by omega)
        refine lv_iinc (v := zi_56) (lv' := [(1, .int zi_56), (0, .ref zy)]) hx hb dX11_image_21 hl (k := 1) rfl (by rw [ezi_56]; rfl) (by decide) rfl (fun ls hl => ?_)
        refine lv_goto (tgt := 2) hx hb dX11_image_24 (by decide) ?_
        have zz_57 : ZI (zI_55 (zR zy 0)) := by rw [(show zI_55 (zR zy 0) = zI_37 (zR zy 0) from by rw [← uzI_55]; exact u2_a (tne t_52 t_51 (by decide)))]; exact e_lp_46_2
        exact ih_46 (392 - zi_56.toInt).toNat (by omega) zi_56 zI_55 _ _ _ rfl (by omega) h_zI_55 (by rw [← uzI_55, u2_r]; exact CPY.s e_lp_46_0 (by omega) (by omega) (by omega) (by rw [← e_lp_46_1]; omega) (by omega)) (by rw [(show zI_55 (zR zy 0) = zI_37 (zR zy 0) from by rw [← uzI_55]; exact u2_a (tne t_52 t_51 (by decide)))]; exact e_lp_46_1) zz_57 hP hD hS (lv_sub hl [1, 0] rfl)
  have qc_0 : (0 : Int32).toInt = 0 := by decide
  exact lp_46 _ (0 : Int32) zI _ _ _ rfl (by decide) h_zI CPY.z rfl hz hP hD hS (lv_sub hl [1, 0] rfl)
set_option maxHeartbeats 8000000 in
set_option maxRecDepth 100000 in
theorem t_X11_restore (l : Launch) (dC : Nat → ClassId) (dI : Nat → Nat → Nat) (cy : Nat → ClassId) (sz : Nat) (zL : List Nat) (zT : Nat → Nat) (zR : Nat → Nat → Nat) (zI : Nat → Nat → Int32) (zJ : Nat → Nat → Int64) (zy : Nat) (hs : SKP zL zT zR) (hw : WT zT zR zI) (t_zy : zT zy = 18) (hz : ZI (zI (zR zy 0))) (hk : (zI zy 23).toInt = 0 ∨ ZI (zI (zR zy 24))) : Met l yX11_restore wsX11_restore ({ frames := 0, cells := 0, slots := 0, locals := 0 } : Room) (va_Pc [.ref zy] (PRE dC dI cy (WL cy zL zT zR zI zJ) sz)) (va_Qi (fun (r : Int32) (u : (Nat → Nat → Int32)) => (WM [10000] AL zT zR zI u) ∧ ((-4) ≤ r.toInt ∧ r.toInt ≤ 1) ∧ (r.toInt = RSv (zI zy 23).toInt) ∧ (¬ (zI zy 23).toInt = 0 → (∀ j : Int, 0 ≤ j → j < 392 → zA (u (zR zy 0)) j = zA (zI (zR zy 24)) j)) ∧ ((zI zy 23).toInt = 0 → u = zI) ∧ (ZI (u (zR zy 0)))) (fun u t => POST dC dI cy (va_A (WL cy zL zT zR zI zJ) sz) (WL cy zL zT zR u zJ) t) (va_A (WL cy zL zT zR zI zJ) sz)) 0 0 (va_A (WL cy zL zT zR zI zJ) sz) := by
  refine Met.ofW (cc := cX11_restore) (maxL := 2) (ret := (some .int)) (by decide) rfl ?_
  intro p e s m args below meth c s₁ B hml hv
  obtain ⟨rfl, hsz, hP, hK, hD0, hN⟩ := hv
  have hx := B.exec
  have hb := B.bytes
  have hr := B.returns
  have hts := atoms_spec (ws := wsX11_restore) B.pre
  have hown : s.vm.findClass RX11 = some m.cls := findClass_of_methodNamed B.named
  have hlocks := B.notSynchronized
  subst hsz
  have hD := hD0.self (sz := s.heap.size)
  generalize hAe : va_A (WL cy zL zT zR zI zJ) s.heap.size = A at hD ⊢
  have hA : ∀ q : Nat, s.heap.size ≤ q → A q := fun q h => by rw [← hAe]; exact Or.inr h
  have hS : va_S A s.heap s.heap [] := va_S.rf
  have hP : va_P (dC, dI) vwCl (WL cy zL zT zR zI zJ) s.heap := hP
  have hl := lv_entry ([.ref zy] : List Value) (n := 2) (Nat.le_of_ble_eq_true rfl)
  rw [lg_entry_eq]
  generalize (lg_sl ([.ref zy] : List Value) ++ List.replicate (2 - (lg_sl ([.ref zy] : List Value)).length) Slot.unset).toArray = ls at hl ⊢
  have hl : lv_has ls 2 [(0, .ref zy)] := hl
  refine w_q (fun Q hQ => ?_)
  have h_zI : WM [10000] AL zT zR zI zI := WM.rf hw
  refine lv_aload_n hx hb dX11_restore_0 rfl (lv_at hl 0 rfl) ?_
  refine ht_geti (C := RX11) (T := TX11) (N := 28) hx hb hts (by decide +kernel) hown hK hP hs t_zy (by decide) rfl rfl 23 (by decide) (hts (.fieldLink RX11 342 "DripStoneModel" "isKept" "Z") (by decide +kernel)) (fun _ h9 => h9) rfl dX11_restore_1 ?_
  refine lv_topi (fun zi_1 ezi_1 => ?_)
  have tzi_1 : 0 ≤ zi_1.toInt ∧ zi_1.toInt ≤ 1 := by rw [ezi_1]; exact h_zI.at t_zy _ rfl
  have lzi_1 : (zI zy 23).toInt = zi_1.toInt := by rw [ezi_1]
  refine lv_if_ne (tgt := 10) hx hb dX11_restore_4 (by decide) (fun c_2 => ?_) (fun c_2 => ?_)
  · have f_3 : zi_1.toInt ≠ 0 := ic_ne (rfl) (by decide) c_2
    refine lv_iconst (v := 0) hx hb dX11_restore_10 (by decide) ?_
    refine lv_istore_n (lv' := [(1, .int 0), (0, .ref zy)]) hx hb dX11_restore_11 rfl hl (by decide) rfl (fun ls hl => ?_)
    have lp_48 : ∀ (n : Nat) (zi_38 : Int32) (zI_39 : Nat → Nat → Int32) (H : Heap) (locs : List Loc) (ls : Array Slot), (392 - zi_38.toInt).toNat = n → (0 ≤ zi_38.toInt ∧ zi_38.toInt ≤ 392) → (WM [10000] AL zT zR zI zI_39) → (CPY (zI (zR zy 0)) (zI (zR zy 24)) (zI_39 (zR zy 0)) (0) zi_38.toInt) → (zI_39 (zR zy 24) = zI (zR zy 24)) → va_P (dC, dI) vwCl (WL cy zL zT zR zI_39 zJ) H → va_D A (WL cy zL zT zR zI_39 zJ) → va_S A s.heap H locs → lv_has ls 2 [(0, .ref zy), (1, .int zi_38)] → W p l e ({ frames := 0, cells := 0, slots := 0, locals := 0 } : Room) s m ([.ref zy] : List Value).toArray below meth c H locs 0 0 Q (F0 m 12 ls []) := by
      intro n
      induction n using Nat.strongRecOn with
      | _ n ih_48 =>
        intro zi_38 zI_39 H locs ls hn b_zi_38 h_zI_39 e_lp_48_0 e_lp_48_1 hP hD hS hl
        refine lv_iload_n hx hb dX11_restore_12 rfl (lv_at hl 1 rfl) ?_
        refine lv_sipush (v := 392) hx hb dX11_restore_13 (by decide) ?_
        refine lv_icmp_ge (tgt := 37) hx hb dX11_restore_16 (by decide) (fun c_49 => ?_) (fun c_49 => ?_)
        · have f_50 : zi_38.toInt ≥ (392 : Int) := ic_ge (rfl) (show (392 : Int32).toInt = 392 by decide) c_49
          have zz_51 : ZI (zI_39 (zR zy 0)) := ZI.cp (hk.resolve_left (by omega)) e_lp_48_0 (by omega)
          refine lv_iconst (v := 1) hx hb dX11_restore_37 (by decide) ?_
          subst hQ
          have qc_1 : (1 : Int32).toInt = 1 := by decide
          exact W.iret (v := (1 : Int32)) hx hb hr (fun t ht hW => ⟨⟨(1 : Int32), zI_39, rfl, ⟨h_zI_39, (show (-4) ≤ (1 : Int32).toInt ∧ (1 : Int32).toInt ≤ 1 from by omega), (show (1 : Int32).toInt = RSv (zI zy 23).toInt from (by have qv9 := (show (1 : Int32).toInt = 1 from by decide); unfold RSv; split <;> first | omega | (split <;> first | omega | (split <;> omega)))), (show ¬ (zI zy 23).toInt = 0 → (∀ j : Int, 0 ≤ j → j < 392 → zA (zI_39 (zR zy 0)) j = zA (zI (zR zy 24)) j) from (fun _ => (fun j j0 j1 => by have q9 := e_lp_48_0.2 j j0 (by omega); rwa [Int.zero_add] at q9))), (show (zI zy 23).toInt = 0 → zI_39 = zI from (fun h9 => absurd h9 (by omega))), (show ZI (zI_39 (zR zy 0)) from zz_51)⟩, ⟨by rw [ht]; exact hP, va_K.moved hW.alike hK, hD⟩⟩, hS.F ht⟩) hS.2.2 dX11_restore_38
        · have f_50 : ¬ (zi_38.toInt ≥ (392 : Int)) := ic_nge (rfl) (show (392 : Int32).toInt = 392 by decide) c_49
          refine lv_aload_n hx hb dX11_restore_19 rfl (lv_at hl 0 rfl) ?_
          refine ht_getr (C := RX11) (T := TX11) (N := 28) hx hb hts (by decide +kernel) hown hK hP hs t_zy (by decide) rfl rfl 0 (by decide) (hts (.fieldLink RX11 7 "DripStoneModel" "z" "[I") (by decide +kernel)) (fun _ h9 => h9) rfl dX11_restore_20 ?_
          have t_52 : zT (zR zy 0) = 100 := sk_f hs t_zy (by decide) rfl (by decide)
          refine lv_iload_n hx hb dX11_restore_23 rfl (lv_at hl 1 rfl) ?_
          refine lv_aload_n hx hb dX11_restore_24 rfl (lv_at hl 0 rfl) ?_
          refine ht_getr (C := RX11) (T := TX11) (N := 28) hx hb hts (by decide +kernel) hown hK hP hs t_zy (by decide) rfl rfl 24 (by decide) (hts (.fieldLink RX11 56 "DripStoneModel" "kept" "[I") (by decide +kernel)) (fun _ h9 => h9) rfl dX11_restore_25 ?_
          have t_53 : zT (zR zy 24) = 109 := sk_f hs t_zy (by decide) rfl (by decide)
          refine lv_iload_n hx hb dX11_restore_28 rfl (lv_at hl 1 rfl) ?_
          refine ht_iald (n := 392) (q := 0) hx hb hK hP hs t_53 (by decide) rfl rfl ⟨by omega, by omega⟩ dX11_restore_29 ?_
          refine lv_topi (fun zi_54 ezi_54 => ?_)
          have la_55 : zi_54.toInt = zA (zI_39 (zR zy 24)) (zi_38.toInt) := (congrArg Int32.toInt (show zI_39 (zR zy 24) zi_38.toNatClampNeg = zi_54 from ezi_54.symm).symm).trans (congrArg (zA (zI_39 (zR zy 24))) (show zi_38.toInt = zi_38.toInt from by omega))
          refine ht_iast (v := zi_54) (n := 392) (q := 0) hx hb hK hP hD hS hs t_52 (by decide) rfl rfl ⟨by omega, by omega⟩ dX11_restore_30 (fun H locs hP hD hS => ?_)
          have h_zI_56 : WM [10000] AL zT zR zI (u2 zI_39 (zR zy 0) zi_38.toNatClampNeg zi_54) := h_zI_39.putA hs t_52 rfl (rgF _) (by decide) (fun h => absurd h (by decide)) (by decide) trivial
          generalize uzI_56 : u2 zI_39 (zR zy 0) zi_38.toNatClampNeg zi_54 = zI_56 at hP hD h_zI_56
          obtain ⟨zi_57, ezi_57⟩ : ∃ y : Int32, y = zi_38 + 1 := ⟨_, rfl⟩
          have tzi_57 : zi_57.toInt = zi_38.toInt + 1 := by rw [ezi_57]; exact tadd rfl (show (1 : Int32).toInt = 1 by decide) (by omega) (by omega)
          refine lv_iinc (v := zi_57) (lv' := [(1, .int zi_57), (0, .ref zy)]) hx hb dX11_restore_31 hl (k := 1) rfl (by rw [ezi_57]; rfl) (by decide) rfl (fun ls hl => ?_)
          refine lv_goto (tgt := 12) hx hb dX11_restore_34 (by decide) ?_
          exact ih_48 (392 - zi_57.toInt).toNat (by omega) zi_57 zI_56 _ _ _ rfl (by omega) h_zI_56 (by rw [← uzI_56, u2_r]; exact CPY.s e_lp_48_0 (by omega) (by omega) (by omega) (by rw [← e_lp_48_1]; omega) (by omega)) (by rw [(show zI_56 (zR zy 24) = zI_39 (zR zy 24) from by rw [← uzI_56]; exact u2_a (tne t_53 t_52 (by decide)))]; exact e_lp_48_1) hP hD hS (lv_sub hl [1, 0] rfl)
    have qc_0 : (0 : Int32).toInt = 0 := by decide
    exact lp_48 _ (0 : Int32) zI _ _ _ rfl (by decide) h_zI CPY.z rfl hP hD hS (lv_sub hl [1, 0] rfl)
  · have f_3 : ¬ (zi_1.toInt ≠ 0) := ic_nne (rfl) (by decide) c_2
    refine lv_bipush (v := (-4)) hx hb dX11_restore_7 (by decide) ?_
    subst hQ
    have qc_m4 : (-4 : Int32).toInt = -4 := by decide
    exact W.iret (v := (-4 : Int32)) hx hb hr (fun t ht hW => ⟨⟨(-4 : Int32), zI, rfl, ⟨h_zI, (show (-4) ≤ (-4 : Int32).toInt ∧ (-4 : Int32).toInt ≤ 1 from by omega), (show (-4 : Int32).toInt = RSv (zI zy 23).toInt from (by have qv9 := (show ((-4) : Int32).toInt = -4 from by decide); unfold RSv; split <;> first | omega | (split <;> first | omega | (split <;> omega)))), (show ¬ (zI zy 23).toInt = 0 → (∀ j : Int, 0 ≤ j → j < 392 → zA (zI (zR zy 0)) j = zA (zI (zR zy 24)) j) from (fun h9 => absurd (by omega) h9)), (show (zI zy 23).toInt = 0 → zI = zI from (fun _ => rfl)), (show ZI (zI (zR zy 0)) from hz)⟩, ⟨by rw [ht]; exact hP, va_K.moved hW.alike hK, hD⟩⟩, hS.F ht⟩) hS.2.2 dX11_restore_9
set_option maxHeartbeats 8000000 in
set_option maxRecDepth 100000 in
theorem t_X11_law (l : Launch) (dC : Nat → ClassId) (dI : Nat → Nat → Nat) (cy : Nat → ClassId) (sz : Nat) (zL : List Nat) (zT : Nat → Nat) (zR : Nat → Nat → Nat) (zI : Nat → Nat → Int32) (zJ : Nat → Nat → Int64) (zy : Nat) (hs : SKP zL zT zR) (hw : WT zT zR zI) (t_zy : zT zy = 18) (hz : ZI (zI (zR zy 0))) : Met l yX11_law wsX11_law ({ frames := 5, cells := 0, slots := 0, locals := 118 } : Room) (va_Pc [.ref zy] (PRE dC dI cy (WL cy zL zT zR zI zJ) sz)) (va_Qi (fun (r : Int32) (u : (Nat → Nat → Int32)) => (WM [1802, 1803, 1804, 10000, 10200] AL zT zR zI u) ∧ ((-100) ≤ r.toInt ∧ r.toInt ≤ 6) ∧ (FQ (zI (zR zy 0)) (u (zR zy 0))) ∧ (ZI (u (zR zy 0)))) (fun u t => POST dC dI cy (va_A (WL cy zL zT zR zI zJ) sz) (WL cy zL zT zR u zJ) t) (va_A (WL cy zL zT zR zI zJ) sz)) 0 0 (va_A (WL cy zL zT zR zI zJ) sz) := by
  refine Met.ofW (cc := cX11_law) (maxL := 3) (ret := (some .int)) (by decide) rfl ?_
  intro p e s m args below meth c s₁ B hml hv
  obtain ⟨rfl, hsz, hP, hK, hD0, hN⟩ := hv
  have hx := B.exec
  have hb := B.bytes
  have hr := B.returns
  have hts := atoms_spec (ws := wsX11_law) B.pre
  have hown : s.vm.findClass RX11 = some m.cls := findClass_of_methodNamed B.named
  have hlocks := B.notSynchronized
  subst hsz
  have hD := hD0.self (sz := s.heap.size)
  generalize hAe : va_A (WL cy zL zT zR zI zJ) s.heap.size = A at hD ⊢
  have hA : ∀ q : Nat, s.heap.size ≤ q → A q := fun q h => by rw [← hAe]; exact Or.inr h
  have hS : va_S A s.heap s.heap [] := va_S.rf
  have hP : va_P (dC, dI) vwCl (WL cy zL zT zR zI zJ) s.heap := hP
  have hl := lv_entry ([.ref zy] : List Value) (n := 3) (Nat.le_of_ble_eq_true rfl)
  rw [lg_entry_eq]
  generalize (lg_sl ([.ref zy] : List Value) ++ List.replicate (3 - (lg_sl ([.ref zy] : List Value)).length) Slot.unset).toArray = ls at hl ⊢
  have hl : lv_has ls 3 [(0, .ref zy)] := hl
  refine w_q (fun Q hQ => ?_)
  have h_zI : WM [1802, 1803, 1804, 10000, 10200] AL zT zR zI zI := WM.rf hw
  refine lv_aload_n hx hb dX11_law_0 rfl (lv_at hl 0 rfl) ?_
  refine hj_i (ws := (WL cy zL zT zR zI zJ)) (w1 := fun (u : (Nat → Nat → Int32)) => (WL cy zL zT zR u zJ)) (va_runV (As := []) (rest := []) ⟨hx, hb, hml, hown, hts⟩ (t_X11_readLaw l dC dI cy s.heap.size zL zT zR zI zJ zy hs h_zI.1 t_zy) (cwV 0 hts gX11_law_X11_readLaw rfl rfl rfl (by decide +kernel) ⟨(Nat.le_of_ble_eq_true rfl), (Nat.le_of_ble_eq_true rfl)⟩) (PRE.v hP hK hD hN (ht_recv hK hP hs t_zy (by decide) rfl rfl)) rfl rfl hl.1 rfl (lv_room (Nat.le_of_ble_eq_true rfl)) dX11_law_1 ⟨(Nat.le_of_ble_eq_true rfl), (Nat.le_of_ble_eq_true rfl)⟩) hP hD hS hA (fun zi_1 zI_4 H locs hw_2 hP hD hS => ?_)
  obtain ⟨k_zI_4, b_zi_1, ps_5⟩ : (WM [1803, 1804, 10200] AL zT zR zI zI_4) ∧ (0 ≤ zi_1.toInt ∧ zi_1.toInt ≤ 1) ∧ (zi_1.toInt = 0 ∨ (1 ≤ (zI_4 zy 4).toInt ∧ (zI_4 zy 4).toInt ≤ 6 ∧ RLX (zI_4 (zR zy 5)) (zI_4 zy 4).toInt)) := hw_2
  have h_zI_4 : WM [1802, 1803, 1804, 10000, 10200] AL zT zR zI zI_4 := h_zI.tr k_zI_4 (by decide) (fun _ _ => trivial)
  obtain ⟨zi_6, ezi_6⟩ : ∃ y : Int32, y = zI_4 zy 4 := ⟨_, rfl⟩
  have tzi_6 : 0 ≤ zi_6.toInt ∧ zi_6.toInt ≤ 6 := by rw [ezi_6]; exact h_zI_4.at t_zy _ rfl
  have lzi_6 : (zI_4 zy 4).toInt = zi_6.toInt := by rw [ezi_6]
  have lk_7 : (zI_4 zy 4).toInt = zi_6.toInt := congrArg Int32.toInt ezi_6.symm
  refine lv_istore_n (lv' := [(1, .int zi_1), (0, .ref zy)]) hx hb dX11_law_4 rfl hl (by decide) rfl (fun ls hl => ?_)
  refine lv_aload_n hx hb dX11_law_5 rfl (lv_at hl 1 rfl) ?_
  refine lv_iconst (v := 0) hx hb dX11_law_6 (by decide) ?_
  refine ht_puti (v := (0 : Int32)) (ty := .int) (C := RX11) (T := TX11) (N := 28) hx hb hts (by decide +kernel) tyX11 tyX11_ok nmX11 hown hK hP hD hS hs t_zy (by decide) rfl rfl 2 (by decide) (hts (.fieldLink RX11 112 "DripStoneModel" "taped" "I") (by decide +kernel)) (fun _ h9 => h9) rfl (by decide +kernel) rfl rfl rfl dX11_law_7 (fun H locs hP hD hS => ?_)
  have h_zI_8 : WM [1802, 1803, 1804, 10000, 10200] AL zT zR zI (u2 zI_4 zy 2 (0 : Int32)) := h_zI_4.put hs t_zy rfl (by decide) (by decide) (fun h => absurd h (by decide)) (by decide) trivial
  generalize uzI_8 : u2 zI_4 zy 2 (0 : Int32) = zI_8 at hP hD h_zI_8
  refine lv_iload_n hx hb dX11_law_10 rfl (lv_at hl 0 rfl) ?_
  refine lv_if_ne (tgt := 22) hx hb dX11_law_11 (by decide) (fun c_9 => ?_) (fun c_9 => ?_)
  · have f_10 : zi_1.toInt ≠ 0 := ic_ne (rfl) (by decide) c_9
    have t_11 : zT (zR zy 0) = 100 := sk_f hs t_zy (by decide) rfl (by decide)
    have zz_12 : ZI (zI_8 (zR zy 0)) := by rw [(show zI_8 (zR zy 0) = zI_4 (zR zy 0) from by rw [← uzI_8]; exact u2_a (tne t_11 t_zy (by decide))), (k_zI_4.2.row t_11 (by decide) (by decide))]; exact hz
    refine lv_iconst (v := 0) hx hb dX11_law_22 (by decide) ?_
    refine lv_istore_n (lv' := [(2, .int 0), (1, .int zi_1), (0, .ref zy)]) hx hb dX11_law_23 rfl hl (by decide) rfl (fun ls hl => ?_)
    have lp_58 : ∀ (n : Nat) (zi_48 : Int32) (zI_49 : Nat → Nat → Int32) (H : Heap) (locs : List Loc) (ls : Array Slot), (66 - zi_48.toInt).toNat = n → (0 ≤ zi_48.toInt ∧ zi_48.toInt ≤ 66) → (WM [1802, 1803, 1804, 10000, 10200] AL zT zR zI zI_49) → (CPY (zI_8 (zR zy 0)) (zI_8 (zR zy 5)) (zI_49 (zR zy 0)) (92) zi_48.toInt) → (zI_49 (zR zy 5) = zI_8 (zR zy 5)) → (FQ (zI (zR zy 0)) (zI_49 (zR zy 0))) → (zI_49 zy 4 = zi_6) → va_P (dC, dI) vwCl (WL cy zL zT zR zI_49 zJ) H → va_D A (WL cy zL zT zR zI_49 zJ) → va_S A s.heap H locs → lv_has ls 3 [(0, .ref zy), (1, .int zi_1), (2, .int zi_48)] → W p l e ({ frames := 5, cells := 0, slots := 0, locals := 118 } : Room) s m ([.ref zy] : List Value).toArray below meth c H locs 0 0 Q (F0 m 24 ls []) := by
      intro n
      induction n using Nat.strongRecOn with
      | _ n ih_58 =>
        intro zi_48 zI_49 H locs ls hn b_zi_48 h_zI_49 e_lp_58_0 e_lp_58_1 e_lp_58_2 e_lp_58_3 hP hD hS hl
        refine lv_iload_n hx hb dX11_law_24 rfl (lv_at hl 2 rfl) ?_
        refine lv_bipush (v := 66) hx hb dX11_law_25 (by decide) ?_
        refine lv_icmp_ge (tgt := 51) hx hb dX11_law_27 (by decide) (fun c_59 => ?_) (fun c_59 => ?_)
        · have f_60 : zi_48.toInt ≥ (66 : Int) := ic_ge (rfl) (show (66 : Int32).toInt = 66 by decide) c_59
          refine lv_aload_n hx hb dX11_law_51 rfl (lv_at hl 0 rfl) ?_
          refine ht_getr (C := RX11) (T := TX11) (N := 28) hx hb hts (by decide +kernel) hown hK hP hs t_zy (by decide) rfl rfl 0 (by decide) (hts (.fieldLink RX11 7 "DripStoneModel" "z" "[I") (by decide +kernel)) (fun _ h9 => h9) rfl dX11_law_52 ?_
          refine lv_iconst (v := 2) hx hb dX11_law_55 (by decide) ?_
          refine lv_aload_n hx hb dX11_law_56 rfl (lv_at hl 0 rfl) ?_
          refine ht_geti (C := RX11) (T := TX11) (N := 28) hx hb hts (by decide +kernel) hown hK hP hs t_zy (by decide) rfl rfl 4 (by decide) (hts (.fieldLink RX11 141 "DripStoneModel" "reads" "I") (by decide +kernel)) (fun _ h9 => h9) rfl dX11_law_57 ?_
          refine lv_topi (fun zi_61 ezi_61 => ?_)
          obtain rfl : zi_6 = zi_61 := (ezi_61.trans e_lp_58_3).symm
          refine ht_iast (v := zi_6) (n := 392) (q := 0) hx hb hK hP hD hS hs t_11 (by decide) rfl rfl ⟨by decide, by decide⟩ dX11_law_60 (fun H locs hP hD hS => ?_)
          have h_zI_62 : WM [1802, 1803, 1804, 10000, 10200] AL zT zR zI (u2 zI_49 (zR zy 0) (2 : Int32).toNatClampNeg zi_6) := h_zI_49.putA hs t_11 rfl (rgF _) (by decide) (fun h => absurd h (by decide)) (by decide) trivial
          generalize uzI_62 : u2 zI_49 (zR zy 0) (2 : Int32).toNatClampNeg zi_6 = zI_62 at hP hD h_zI_62
          have qc_2 : (2 : Int32).toInt = 2 := by decide
          have fq_zI_62 : FQ (zI (zR zy 0)) (zI_62 (zR zy 0)) := by rw [← uzI_62, u2_r]; exact FQ.up e_lp_58_2 (by omega) (by omega)
          have t_64 : zT (zR zy 5) = 102 := sk_f hs t_zy (by decide) rfl (by decide)
          have zz_63 : ZI (zI_62 (zR zy 0)) := by rw [← uzI_62, u2_r]; exact ZI.law zz_12 (CPY.e e_lp_58_0 (by omega)) (by omega) (by rw [(show zI_8 (zR zy 5) = zI_4 (zR zy 5) from by rw [← uzI_8]; exact u2_a (tne t_64 t_zy (by decide)))]; exact RLX.e (ps_5.resolve_left (by omega)).2.2 (by omega)) (by decide)
          refine lv_aload_n hx hb dX11_law_61 rfl (lv_at hl 0 rfl) ?_
          refine ht_geti (C := RX11) (T := TX11) (N := 28) hx hb hts (by decide +kernel) hown hK hP hs t_zy (by decide) rfl rfl 4 (by decide) (hts (.fieldLink RX11 141 "DripStoneModel" "reads" "I") (by decide +kernel)) (fun _ h9 => h9) rfl dX11_law_62 ?_
          refine lv_topi (fun zi_65 ezi_65 => ?_)
          obtain rfl : zi_6 = zi_65 := (ezi_65.trans ((show zI_62 zy 4 = zI_49 zy 4 from by rw [← uzI_62]; exact u2_n (tne t_zy t_11 (by decide))).trans e_lp_58_3)).symm
          subst hQ
          exact W.iret (v := zi_6) hx hb hr (fun t ht hW => ⟨⟨zi_6, zI_62, rfl, ⟨h_zI_62, (show (-100) ≤ zi_6.toInt ∧ zi_6.toInt ≤ 6 from by omega), (show FQ (zI (zR zy 0)) (zI_62 (zR zy 0)) from fq_zI_62), (show ZI (zI_62 (zR zy 0)) from zz_63)⟩, ⟨by rw [ht]; exact hP, va_K.moved hW.alike hK, hD⟩⟩, hS.F ht⟩) hS.2.2 dX11_law_65
        · have f_60 : ¬ (zi_48.toInt ≥ (66 : Int)) := ic_nge (rfl) (show (66 : Int32).toInt = 66 by decide) c_59
          refine lv_aload_n hx hb dX11_law_30 rfl (lv_at hl 0 rfl) ?_
          refine ht_getr (C := RX11) (T := TX11) (N := 28) hx hb hts (by decide +kernel) hown hK hP hs t_zy (by decide) rfl rfl 0 (by decide) (hts (.fieldLink RX11 7 "DripStoneModel" "z" "[I") (by decide +kernel)) (fun _ h9 => h9) rfl dX11_law_31 ?_
          refine lv_bipush (v := 92) hx hb dX11_law_34 (by decide) ?_
          refine lv_iload_n hx hb dX11_law_36 rfl (lv_at hl 2 rfl) ?_
          refine lv_iadd hx hb dX11_law_37 ?_
          refine lv_topi (fun zi_66 ezi_66 => ?_)
          have tzi_66 : zi_66.toInt = (92 : Int) + zi_48.toInt := by rw [ezi_66]; exact tiadd (show (92 : Int32).toInt = 92 by decide) (rfl) (by omega) (by omega)
          refine lv_aload_n hx hb dX11_law_38 rfl (lv_at hl 0 rfl) ?_
          refine ht_getr (C := RX11) (T := TX11) (N := 28) hx hb hts (by decide +kernel) hown hK hP hs t_zy (by decide) rfl rfl 5 (by decide) (hts (.fieldLink RX11 16 "DripStoneModel" "read" "[I") (by decide +kernel)) (fun _ h9 => h9) rfl dX11_law_39 ?_
          have t_67 : zT (zR zy 5) = 102 := sk_f hs t_zy (by decide) rfl (by decide)
          refine lv_iload_n hx hb dX11_law_42 rfl (lv_at hl 2 rfl) ?_
          refine ht_iald (n := 66) (q := 0) hx hb hK hP hs t_67 (by decide) rfl rfl ⟨by omega, by omega⟩ dX11_law_43 ?_
          refine lv_topi (fun zi_68 ezi_68 => ?_)
          have la_69 : zi_68.toInt = zA (zI_49 (zR zy 5)) (zi_48.toInt) := (congrArg Int32.toInt (show zI_49 (zR zy 5) zi_48.toNatClampNeg = zi_68 from ezi_68.symm).symm).trans (congrArg (zA (zI_49 (zR zy 5))) (show zi_48.toInt = zi_48.toInt from by omega))
          refine ht_iast (v := zi_68) (n := 392) (q := 0) hx hb hK hP hD hS hs t_11 (by decide) rfl rfl ⟨by omega, by omega⟩ dX11_law_44 (fun H locs hP hD hS => ?_)
          have h_zI_70 : WM [1802, 1803, 1804, 10000, 10200] AL zT zR zI (u2 zI_49 (zR zy 0) zi_66.toNatClampNeg zi_68) := h_zI_49.putA hs t_11 rfl (rgF _) (by decide) (fun h => absurd h (by decide)) (by decide) trivial
          generalize uzI_70 : u2 zI_49 (zR zy 0) zi_66.toNatClampNeg zi_68 = zI_70 at hP hD h_zI_70
          have fq_zI_70 : FQ (zI (zR zy 0)) (zI_70 (zR zy 0)) := by rw [← uzI_70, u2_r]; exact FQ.up e_lp_58_2 (by omega) (by omega)
          obtain ⟨zi_71, ezi_71⟩ : ∃ y : Int32, y = zi_48 + 1 := ⟨_, rfl⟩
          have tzi_71 : zi_71.toInt = zi_48.toInt + 1 := by rw [ezi_71]; exact tadd rfl (show (1 : Int32).toInt = 1 by decide) (by omega) (by omega)
          refine lv_iinc (v := zi_71) (lv' := [(2, .int zi_71), (0, .ref zy), (1, .int zi_1)]) hx hb dX11_law_45 hl (k := 2) rfl (by rw [ezi_71]; rfl) (by decide) rfl (fun ls hl => ?_)
          refine lv_goto (tgt := 24) hx hb dX11_law_48 (by decide) ?_
          exact ih_58 (66 - zi_71.toInt).toNat (by omega) zi_71 zI_70 _ _ _ rfl (by omega) h_zI_70 (by rw [← uzI_70, u2_r]; exact CPY.s e_lp_58_0 (by omega) (by omega) (by omega) (by rw [← e_lp_58_1]; omega) (by omega)) (by rw [(show zI_70 (zR zy 5) = zI_49 (zR zy 5) from by rw [← uzI_70]; exact u2_a (tne t_67 t_11 (by decide)))]; exact e_lp_58_1) fq_zI_70 ((show zI_70 zy 4 = zI_49 zy 4 from by rw [← uzI_70]; exact u2_n (tne t_zy t_11 (by decide))).trans e_lp_58_3) hP hD hS (lv_sub hl [1, 2, 0] rfl)
    have qc_0 : (0 : Int32).toInt = 0 := by decide
    have fq_72 : FQ (zI (zR zy 0)) (zI_8 (zR zy 0)) := by rw [(show zI_8 (zR zy 0) = zI_4 (zR zy 0) from by rw [← uzI_8]; exact u2_a (tne t_11 t_zy (by decide))), (k_zI_4.2.row t_11 (by decide) (by decide))]; exact FQ.rf
    exact lp_58 _ (0 : Int32) zI_8 _ _ _ rfl (by decide) h_zI_8 CPY.z rfl fq_72 ((show zI_8 zy 4 = zI_4 zy 4 from by rw [← uzI_8]; exact u2_k (by decide)).trans ezi_6.symm) hP hD hS (lv_sub hl [2, 1, 0] rfl)
  · have f_10 : ¬ (zi_1.toInt ≠ 0) := ic_nne (rfl) (by decide) c_9
    refine lv_bipush (v := (-20)) hx hb dX11_law_14 (by decide) ?_
    refine lv_aload_n hx hb dX11_law_16 rfl (lv_at hl 1 rfl) ?_
    refine ht_geti (C := RX11) (T := TX11) (N := 28) hx hb hts (by decide +kernel) hown hK hP hs t_zy (by decide) rfl rfl 3 (by decide) (hts (.fieldLink RX11 116 "DripStoneModel" "at" "I") (by decide +kernel)) (fun _ h9 => h9) rfl dX11_law_17 ?_
    refine lv_topi (fun zi_73 ezi_73 => ?_)
    have tzi_73 : 0 ≤ zi_73.toInt ∧ zi_73.toInt ≤ 80 := by rw [ezi_73]; exact h_zI_8.at t_zy _ rfl
    refine lv_isub hx hb dX11_law_20 ?_
    refine lv_topi (fun zi_74 ezi_74 => ?_)
    have tzi_74 : zi_74.toInt = (-20 : Int) - zi_73.toInt := by rw [ezi_74]; exact tisub (show ((-20) : Int32).toInt = -20 by decide) (rfl) (by omega) (by omega)
    subst hQ
    have t_75 : zT (zR zy 0) = 100 := sk_f hs t_zy (by decide) rfl (by decide)
    have fq_76 : FQ (zI (zR zy 0)) (zI_8 (zR zy 0)) := by rw [(show zI_8 (zR zy 0) = zI_4 (zR zy 0) from by rw [← uzI_8]; exact u2_a (tne t_75 t_zy (by decide))), (k_zI_4.2.row t_75 (by decide) (by decide))]; exact FQ.rf
    have zz_77 : ZI (zI_8 (zR zy 0)) := by rw [(show zI_8 (zR zy 0) = zI_4 (zR zy 0) from by rw [← uzI_8]; exact u2_a (tne t_75 t_zy (by decide))), (k_zI_4.2.row t_75 (by decide) (by decide))]; exact hz
    exact W.iret (v := zi_74) hx hb hr (fun t ht hW => ⟨⟨zi_74, zI_8, rfl, ⟨h_zI_8, (show (-100) ≤ zi_74.toInt ∧ zi_74.toInt ≤ 6 from by omega), (show FQ (zI (zR zy 0)) (zI_8 (zR zy 0)) from fq_76), (show ZI (zI_8 (zR zy 0)) from zz_77)⟩, ⟨by rw [ht]; exact hP, va_K.moved hW.alike hK, hD⟩⟩, hS.F ht⟩) hS.2.2 dX11_law_21
