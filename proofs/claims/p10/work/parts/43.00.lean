set_option maxHeartbeats 8000000 in
set_option maxRecDepth 100000 in
theorem t_X3_take_4_13 (l : Launch) (dC : Nat → ClassId) (dI : Nat → Nat → Nat) (cy : Nat → ClassId) (sz : Nat) (zL : List Nat) (zT : Nat → Nat) (zR : Nat → Nat → Nat) (zI : Nat → Nat → Int32) (zJ : Nat → Nat → Int64) (zt : Nat) (zo : Nat) (hs : SKP zL zT zR) (hw : WT zT zR zI) (t_zt : zT zt = 4) (t_zo : zT zo = 13) : Met l yX3_take wsX3_take ({ frames := 2, cells := 0, slots := 0, locals := 51 } : Room) (va_Pc [.ref zt, .ref zo] (PRE dC dI cy (WL cy zL zT zR zI zJ) sz)) (va_Qv (fun (u : (Nat → Nat → Int32)) => (WM [401, 402, 3400] AL zT zR zI u) ∧ (TKH zR zI u zt zo)) (fun u t => POST dC dI cy (va_A (WL cy zL zT zR zI zJ) sz) (WL cy zL zT zR u zJ) t) (va_A (WL cy zL zT zR zI zJ) sz)) 0 0 (va_A (WL cy zL zT zR zI zJ) sz) := by
  refine Met.ofW (cc := cX3_take) (maxL := 3) (ret := none) (by decide) rfl ?_
  intro p e s m args below meth c s₁ B hml hv
  obtain ⟨rfl, hsz, hP, hK, hD0, hN⟩ := hv
  have hx := B.exec
  have hb := B.bytes
  have hr := B.returns
  have hts := atoms_spec (ws := wsX3_take) B.pre
  have hown : s.vm.findClass RX3 = some m.cls := findClass_of_methodNamed B.named
  have hlocks := B.notSynchronized
  subst hsz
  have hD := hD0.self (sz := s.heap.size)
  generalize hAe : va_A (WL cy zL zT zR zI zJ) s.heap.size = A at hD ⊢
  have hA : ∀ q : Nat, s.heap.size ≤ q → A q := fun q h => by rw [← hAe]; exact Or.inr h
  have hS : va_S A s.heap s.heap [] := va_S.rf
  have hP : va_P (dC, dI) vwCl (WL cy zL zT zR zI zJ) s.heap := hP
  have hl := lv_entry ([.ref zt, .ref zo] : List Value) (n := 3) (Nat.le_of_ble_eq_true rfl)
  rw [lg_entry_eq]
  generalize (lg_sl ([.ref zt, .ref zo] : List Value) ++ List.replicate (3 - (lg_sl ([.ref zt, .ref zo] : List Value)).length) Slot.unset).toArray = ls at hl ⊢
  have hl : lv_has ls 3 [(0, .ref zt), (1, .ref zo)] := hl
  refine w_q (fun Q hQ => ?_)
  have h_zI : WM [401, 402, 3400] AL zT zR zI zI := WM.rf hw
  refine lv_iconst (v := 0) hx hb dX3_take_0 (by decide) ?_
  refine lv_istore_n (lv' := [(2, .int 0), (0, .ref zt), (1, .ref zo)]) hx hb dX3_take_1 rfl hl (by decide) rfl (fun ls hl => ?_)
  have lp_70 : ∀ (n : Nat) (zi_55 : Int32) (zI_56 : Nat → Nat → Int32) (H : Heap) (locs : List Loc) (ls : Array Slot), (3 - zi_55.toInt).toNat = n → (0 ≤ zi_55.toInt ∧ zi_55.toInt ≤ 3) → (WM [401, 402, 3400] AL zT zR zI zI_56) → (TKR zR zI zI_56 zt zo zi_55.toInt) → va_P (dC, dI) vwCl (WL cy zL zT zR zI_56 zJ) H → va_D A (WL cy zL zT zR zI_56 zJ) → va_S A s.heap H locs → lv_has ls 3 [(0, .ref zt), (1, .ref zo), (2, .int zi_55)] → W p l e ({ frames := 2, cells := 0, slots := 0, locals := 51 } : Room) s m ([.ref zt, .ref zo] : List Value).toArray below meth c H locs 0 0 Q (F0 m 2 ls []) := by
    intro n
    induction n using Nat.strongRecOn with
    | _ n ih_70 =>
      intro zi_55 zI_56 H locs ls hn b_zi_55 h_zI_56 e_lp_70_0 hP hD hS hl
      refine lv_iload_n hx hb dX3_take_2 rfl (lv_at hl 2 rfl) ?_
      refine lv_iconst (v := 2) hx hb dX3_take_3 (by decide) ?_
      refine lv_icmp_gt (tgt := 28) hx hb dX3_take_4 (by decide) (fun c_71 => ?_) (fun c_71 => ?_)
      · have f_72 : zi_55.toInt > (2 : Int) := ic_gt (rfl) (show (2 : Int32).toInt = 2 by decide) c_71
        refine lv_aload_n hx hb dX3_take_28 rfl (lv_at hl 0 rfl) ?_
        refine lv_aload_n hx hb dX3_take_29 rfl (lv_at hl 1 rfl) ?_
        refine ht_geti (C := RX3) (T := TX3) (N := 3) hx hb hts (by decide +kernel) hown hK hP hs t_zo (by decide) rfl rfl 1 (by decide) (hts (.fieldLink RX3 16 "DripStone$Hill" "keeps" "I") (by decide +kernel)) (fun _ h9 => h9) rfl dX3_take_30 ?_
        refine lv_topi (fun zi_73 ezi_73 => ?_)
        have tzi_73 : 1 ≤ zi_73.toInt ∧ zi_73.toInt ≤ 5 := by rw [ezi_73]; exact h_zI_56.at t_zo _ rfl
        refine ht_puti (v := zi_73) (ty := .int) (C := RX3) (T := TX3) (N := 3) hx hb hts (by decide +kernel) tyX3 tyX3_ok nmX3 hown hK hP hD hS hs t_zt (by decide) rfl rfl 1 (by decide) (hts (.fieldLink RX3 16 "DripStone$Hill" "keeps" "I") (by decide +kernel)) (fun _ h9 => h9) rfl (by decide +kernel) rfl rfl rfl dX3_take_33 (fun H locs hP hD hS => ?_)
        have h_zI_74 : WM [401, 402, 3400] AL zT zR zI (u2 zI_56 zt 1 zi_73) := h_zI_56.put hs t_zt rfl (by omega) (by decide) (fun h => absurd h (by decide)) (by decide) trivial
        generalize uzI_74 : u2 zI_56 zt 1 zi_73 = zI_74 at hP hD h_zI_74
        refine lv_aload_n hx hb dX3_take_36 rfl (lv_at hl 0 rfl) ?_
        refine lv_aload_n hx hb dX3_take_37 rfl (lv_at hl 1 rfl) ?_
        refine ht_geti (C := RX3) (T := TX3) (N := 3) hx hb hts (by decide +kernel) hown hK hP hs t_zo (by decide) rfl rfl 2 (by decide) (hts (.fieldLink RX3 20 "DripStone$Hill" "seen" "I") (by decide +kernel)) (fun _ h9 => h9) rfl dX3_take_38 ?_
        refine lv_topi (fun zi_75 ezi_75 => ?_)
        have tzi_75 : 1 ≤ zi_75.toInt ∧ zi_75.toInt ≤ 9 := by rw [ezi_75]; exact h_zI_74.at t_zo _ rfl
        refine ht_puti (v := zi_75) (ty := .int) (C := RX3) (T := TX3) (N := 3) hx hb hts (by decide +kernel) tyX3 tyX3_ok nmX3 hown hK hP hD hS hs t_zt (by decide) rfl rfl 2 (by decide) (hts (.fieldLink RX3 20 "DripStone$Hill" "seen" "I") (by decide +kernel)) (fun _ h9 => h9) rfl (by decide +kernel) rfl rfl rfl dX3_take_41 (fun H locs hP hD hS => ?_)
        have h_zI_76 : WM [401, 402, 3400] AL zT zR zI (u2 zI_74 zt 2 zi_75) := h_zI_74.put hs t_zt rfl (by omega) (by decide) (fun h => absurd h (by decide)) (by decide) trivial
        generalize uzI_76 : u2 zI_74 zt 2 zi_75 = zI_76 at hP hD h_zI_76
        subst hQ
        exact W.vret hx hb hr (fun t ht hW => ⟨⟨zI_76, rfl, ⟨h_zI_76, (show TKH zR zI zI_76 zt zo from ⟨(by rw [← uzI_76]; exact TKR.sm (by rw [← uzI_74]; exact TKR.sm (TKR.e e_lp_70_0 (by omega)) hs (Or.inl t_zt) (SM.one t_zt) (by decide)) hs (Or.inl t_zt) (SM.one t_zt) (by decide)), ((show zI_76 zt 1 = zi_73 from ((show zI_76 zt 1 = zI_74 zt 1 from by rw [← uzI_76]; exact u2_k (by decide)).trans (by rw [← uzI_74]; exact u2_s))).trans (ezi_73.symm.symm.trans (h_zI_56.2 zo 1 (Or.inl (by rw [t_zo]; decide))))), ((show zI_76 zt 2 = zi_75 from (by rw [← uzI_76]; exact u2_s)).trans (ezi_75.symm.symm.trans (h_zI_74.2 zo 2 (Or.inl (by rw [t_zo]; decide)))))⟩)⟩, ⟨by rw [ht]; exact hP, va_K.moved hW.alike hK, hD⟩⟩, hS.F ht⟩) hS.2.2 dX3_take_44
      · have f_72 : ¬ (zi_55.toInt > (2 : Int)) := ic_ngt (rfl) (show (2 : Int32).toInt = 2 by decide) c_71
        refine lv_aload_n hx hb dX3_take_7 rfl (lv_at hl 1 rfl) ?_
        refine ht_getr (C := RX3) (T := TX3) (N := 3) hx hb hts (by decide +kernel) hown hK hP hs t_zo (by decide) rfl rfl 0 (by decide) (hts (.fieldLink RX3 11 "DripStone$Hill" "rain" "[[I") (by decide +kernel)) (fun _ h9 => h9) rfl dX3_take_8 ?_
        have t_77 : zT (zR zo 0) = 90 := sk_f hs t_zo (by decide) rfl (by decide)
        refine lv_iload_n hx hb dX3_take_11 rfl (lv_at hl 2 rfl) ?_
        refine ht_aaldA (n := 3) (q := 7) hx hb hK hP hs t_77 (by decide) rfl rfl ⟨by omega, by omega⟩ dX3_take_12 ?_
        have t_78 : zT (zR (zR zo 0) zi_55.toNatClampNeg) = 84 := sk_a (n := 3) hs t_77 rfl rfl (by decide) (cl_lt (by omega) (by omega))
        refine lv_aload_n hx hb dX3_take_13 rfl (lv_at hl 0 rfl) ?_
        refine ht_getr (C := RX3) (T := TX3) (N := 3) hx hb hts (by decide +kernel) hown hK hP hs t_zt (by decide) rfl rfl 0 (by decide) (hts (.fieldLink RX3 11 "DripStone$Hill" "rain" "[[I") (by decide +kernel)) (fun _ h9 => h9) rfl dX3_take_14 ?_
        have t_79 : zT (zR zt 0) = 60 := sk_f hs t_zt (by decide) rfl (by decide)
        refine lv_iload_n hx hb dX3_take_17 rfl (lv_at hl 2 rfl) ?_
        refine ht_aaldA (n := 3) (q := 7) hx hb hK hP hs t_79 (by decide) rfl rfl ⟨by omega, by omega⟩ dX3_take_18 ?_
        have t_80 : zT (zR (zR zt 0) zi_55.toNatClampNeg) = 34 := sk_a (n := 3) hs t_79 rfl rfl (by decide) (cl_lt (by omega) (by omega))
        refine hj_v (ws := (WL cy zL zT zR zI_56 zJ)) (w1 := fun (u : (Nat → Nat → Int32)) => (WL cy zL zT zR u zJ)) (va_runSN (As := [.ref (zR (zR zo 0) zi_55.toNatClampNeg), .ref (zR (zR zt 0) zi_55.toNatClampNeg)]) (rest := []) ⟨hx, hb, hml, hown, hts⟩ (t_copyRow_84_34 l dC dI cy H.size zL zT zR zI_56 zJ (zR (zR zo 0) zi_55.toNatClampNeg) (zR (zR zt 0) zi_55.toNatClampNeg) hs h_zI_56.1 t_78 t_80) ⟨va_cnB 2 hts ggX3_take_X10_copyRow rfl rfl rfl (n0_15 hN) (hts (.initialized RX10) (by decide +kernel)) (by decide +kernel) ⟨(Nat.le_of_ble_eq_true rfl), (Nat.le_of_ble_eq_true rfl)⟩, hts (.static yX10_copyRow) (by decide +kernel), trivial⟩ (PRE.s hP hK hD hN) rfl rfl hl.1 rfl (lv_room (Nat.le_of_ble_eq_true rfl)) dX3_take_19 ⟨(Nat.le_of_ble_eq_true rfl), (Nat.le_of_ble_eq_true rfl)⟩) hP hD hS hA (fun zI_84 H locs hw_82 hP hD hS => ?_)
        obtain ⟨k_zI_84, ps_85, ps_86⟩ : (WM [3400] AL zT zR zI_56 zI_84) ∧ (∀ y9 : Nat, y9 < 24 → zI_84 (zR (zR zt 0) zi_55.toNatClampNeg) y9 = zI_56 (zR (zR zo 0) zi_55.toNatClampNeg) y9) ∧ (∀ a9 : Nat, ¬ a9 = (zR (zR zt 0) zi_55.toNatClampNeg) → zI_84 a9 = zI_56 a9) := hw_82
        have h_zI_84 : WM [401, 402, 3400] AL zT zR zI zI_84 := h_zI_56.tr k_zI_84 (by decide) (fun _ _ => trivial)
        obtain ⟨zi_87, ezi_87⟩ : ∃ y : Int32, y = zi_55 + 1 := ⟨_, rfl⟩
        have tzi_87 : zi_87.toInt = zi_55.toInt + 1 := by rw [ezi_87]; exact tadd rfl (show (1 : Int32).toInt = 1 by decide) (by omega) (by omega)
        refine lv_iinc (v := zi_87) (lv' := [(2, .int zi_87), (0, .ref zt), (1, .ref zo)]) hx hb dX3_take_22 hl (k := 2) rfl (by rw [ezi_87]; rfl) (by decide) rfl (fun ls hl => ?_)
        refine lv_goto (tgt := 2) hx hb dX3_take_25 (by decide) ?_
        exact ih_70 (3 - zi_87.toInt).toNat (by omega) zi_87 zI_84 _ _ _ rfl (by omega) h_zI_84 (TKR.s (e := 0) (i := zi_55) e_lp_70_0 hs t_79 (by decide) (by omega) (by omega) (by omega) ps_85 ps_86 (h_zI_56.2.row t_78 (by decide) (by decide))) hP hD hS (lv_sub hl [1, 2, 0] rfl)
  have qc_0 : (0 : Int32).toInt = 0 := by decide
  exact lp_70 _ (0 : Int32) zI _ _ _ rfl (by decide) h_zI TKR.z hP hD hS (lv_sub hl [1, 2, 0] rfl)
set_option maxHeartbeats 8000000 in
set_option maxRecDepth 100000 in
theorem t_X3_take_13_4 (l : Launch) (dC : Nat → ClassId) (dI : Nat → Nat → Nat) (cy : Nat → ClassId) (sz : Nat) (zL : List Nat) (zT : Nat → Nat) (zR : Nat → Nat → Nat) (zI : Nat → Nat → Int32) (zJ : Nat → Nat → Int64) (zt : Nat) (zo : Nat) (hs : SKP zL zT zR) (hw : WT zT zR zI) (t_zt : zT zt = 13) (t_zo : zT zo = 4) : Met l yX3_take wsX3_take ({ frames := 2, cells := 0, slots := 0, locals := 51 } : Room) (va_Pc [.ref zt, .ref zo] (PRE dC dI cy (WL cy zL zT zR zI zJ) sz)) (va_Qv (fun (u : (Nat → Nat → Int32)) => (WM [1301, 1302, 8400] AL zT zR zI u) ∧ (TKH zR zI u zt zo)) (fun u t => POST dC dI cy (va_A (WL cy zL zT zR zI zJ) sz) (WL cy zL zT zR u zJ) t) (va_A (WL cy zL zT zR zI zJ) sz)) 0 0 (va_A (WL cy zL zT zR zI zJ) sz) := by
  refine Met.ofW (cc := cX3_take) (maxL := 3) (ret := none) (by decide) rfl ?_
  intro p e s m args below meth c s₁ B hml hv
  obtain ⟨rfl, hsz, hP, hK, hD0, hN⟩ := hv
  have hx := B.exec
  have hb := B.bytes
  have hr := B.returns
  have hts := atoms_spec (ws := wsX3_take) B.pre
  have hown : s.vm.findClass RX3 = some m.cls := findClass_of_methodNamed B.named
  have hlocks := B.notSynchronized
  subst hsz
  have hD := hD0.self (sz := s.heap.size)
  generalize hAe : va_A (WL cy zL zT zR zI zJ) s.heap.size = A at hD ⊢
  have hA : ∀ q : Nat, s.heap.size ≤ q → A q := fun q h => by rw [← hAe]; exact Or.inr h
  have hS : va_S A s.heap s.heap [] := va_S.rf
  have hP : va_P (dC, dI) vwCl (WL cy zL zT zR zI zJ) s.heap := hP
  have hl := lv_entry ([.ref zt, .ref zo] : List Value) (n := 3) (Nat.le_of_ble_eq_true rfl)
  rw [lg_entry_eq]
  generalize (lg_sl ([.ref zt, .ref zo] : List Value) ++ List.replicate (3 - (lg_sl ([.ref zt, .ref zo] : List Value)).length) Slot.unset).toArray = ls at hl ⊢
  have hl : lv_has ls 3 [(0, .ref zt), (1, .ref zo)] := hl
  refine w_q (fun Q hQ => ?_)
  have h_zI : WM [1301, 1302, 8400] AL zT zR zI zI := WM.rf hw
  refine lv_iconst (v := 0) hx hb dX3_take_0 (by decide) ?_
  refine lv_istore_n (lv' := [(2, .int 0), (0, .ref zt), (1, .ref zo)]) hx hb dX3_take_1 rfl hl (by decide) rfl (fun ls hl => ?_)
  have lp_70 : ∀ (n : Nat) (zi_55 : Int32) (zI_56 : Nat → Nat → Int32) (H : Heap) (locs : List Loc) (ls : Array Slot), (3 - zi_55.toInt).toNat = n → (0 ≤ zi_55.toInt ∧ zi_55.toInt ≤ 3) → (WM [1301, 1302, 8400] AL zT zR zI zI_56) → (TKR zR zI zI_56 zt zo zi_55.toInt) → va_P (dC, dI) vwCl (WL cy zL zT zR zI_56 zJ) H → va_D A (WL cy zL zT zR zI_56 zJ) → va_S A s.heap H locs → lv_has ls 3 [(0, .ref zt), (1, .ref zo), (2, .int zi_55)] → W p l e ({ frames := 2, cells := 0, slots := 0, locals := 51 } : Room) s m ([.ref zt, .ref zo] : List Value).toArray below meth c H locs 0 0 Q (F0 m 2 ls []) := by
    intro n
    induction n using Nat.strongRecOn with
    | _ n ih_70 =>
      intro zi_55 zI_56 H locs ls hn b_zi_55 h_zI_56 e_lp_70_0 hP hD hS hl
      refine lv_iload_n hx hb dX3_take_2 rfl (lv_at hl 2 rfl) ?_
      refine lv_iconst (v := 2) hx hb dX3_take_3 (by decide) ?_
      refine lv_icmp_gt (tgt := 28) hx hb dX3_take_4 (by decide) (fun c_71 => ?_) (fun c_71 => ?_)
      · have f_72 : zi_55.toInt > (2 : Int) := ic_gt (rfl) (show (2 : Int32).toInt = 2 by decide) c_71
        refine lv_aload_n hx hb dX3_take_28 rfl (lv_at hl 0 rfl) ?_
        refine lv_aload_n hx hb dX3_take_29 rfl (lv_at hl 1 rfl) ?_
        refine ht_geti (C := RX3) (T := TX3) (N := 3) hx hb hts (by decide +kernel) hown hK hP hs t_zo (by decide) rfl rfl 1 (by decide) (hts (.fieldLink RX3 16 "DripStone$Hill" "keeps" "I") (by decide +kernel)) (fun _ h9 => h9) rfl dX3_take_30 ?_
        refine lv_topi (fun zi_73 ezi_73 => ?_)
        have tzi_73 : 1 ≤ zi_73.toInt ∧ zi_73.toInt ≤ 5 := by rw [ezi_73]; exact h_zI_56.at t_zo _ rfl
        refine ht_puti (v := zi_73) (ty := .int) (C := RX3) (T := TX3) (N := 3) hx hb hts (by decide +kernel) tyX3 tyX3_ok nmX3 hown hK hP hD hS hs t_zt (by decide) rfl rfl 1 (by decide) (hts (.fieldLink RX3 16 "DripStone$Hill" "keeps" "I") (by decide +kernel)) (fun _ h9 => h9) rfl (by decide +kernel) rfl rfl rfl dX3_take_33 (fun H locs hP hD hS => ?_)
        have h_zI_74 : WM [1301, 1302, 8400] AL zT zR zI (u2 zI_56 zt 1 zi_73) := h_zI_56.put hs t_zt rfl (by omega) (by decide) (fun h => absurd h (by decide)) (by decide) trivial
        generalize uzI_74 : u2 zI_56 zt 1 zi_73 = zI_74 at hP hD h_zI_74
        refine lv_aload_n hx hb dX3_take_36 rfl (lv_at hl 0 rfl) ?_
        refine lv_aload_n hx hb dX3_take_37 rfl (lv_at hl 1 rfl) ?_
        refine ht_geti (C := RX3) (T := TX3) (N := 3) hx hb hts (by decide +kernel) hown hK hP hs t_zo (by decide) rfl rfl 2 (by decide) (hts (.fieldLink RX3 20 "DripStone$Hill" "seen" "I") (by decide +kernel)) (fun _ h9 => h9) rfl dX3_take_38 ?_
        refine lv_topi (fun zi_75 ezi_75 => ?_)
        have tzi_75 : 1 ≤ zi_75.toInt ∧ zi_75.toInt ≤ 9 := by rw [ezi_75]; exact h_zI_74.at t_zo _ rfl
        refine ht_puti (v := zi_75) (ty := .int) (C := RX3) (T := TX3) (N := 3) hx hb hts (by decide +kernel) tyX3 tyX3_ok nmX3 hown hK hP hD hS hs t_zt (by decide) rfl rfl 2 (by decide) (hts (.fieldLink RX3 20 "DripStone$Hill" "seen" "I") (by decide +kernel)) (fun _ h9 => h9) rfl (by decide +kernel) rfl rfl rfl dX3_take_41 (fun H locs hP hD hS => ?_)
        have h_zI_76 : WM [1301, 1302, 8400] AL zT zR zI (u2 zI_74 zt 2 zi_75) := h_zI_74.put hs t_zt rfl (by omega) (by decide) (fun h => absurd h (by decide)) (by decide) trivial
        generalize uzI_76 : u2 zI_74 zt 2 zi_75 = zI_76 at hP hD h_zI_76
        subst hQ
        exact W.vret hx hb hr (fun t ht hW => ⟨⟨zI_76, rfl, ⟨h_zI_76, (show TKH zR zI zI_76 zt zo from ⟨(by rw [← uzI_76]; exact TKR.sm (by rw [← uzI_74]; exact TKR.sm (TKR.e e_lp_70_0 (by omega)) hs (Or.inr t_zt) (SM.one t_zt) (by decide)) hs (Or.inr t_zt) (SM.one t_zt) (by decide)), ((show zI_76 zt 1 = zi_73 from ((show zI_76 zt 1 = zI_74 zt 1 from by rw [← uzI_76]; exact u2_k (by decide)).trans (by rw [← uzI_74]; exact u2_s))).trans (ezi_73.symm.symm.trans (h_zI_56.2 zo 1 (Or.inl (by rw [t_zo]; decide))))), ((show zI_76 zt 2 = zi_75 from (by rw [← uzI_76]; exact u2_s)).trans (ezi_75.symm.symm.trans (h_zI_74.2 zo 2 (Or.inl (by rw [t_zo]; decide)))))⟩)⟩, ⟨by rw [ht]; exact hP, va_K.moved hW.alike hK, hD⟩⟩, hS.F ht⟩) hS.2.2 dX3_take_44
      · have f_72 : ¬ (zi_55.toInt > (2 : Int)) := ic_ngt (rfl) (show (2 : Int32).toInt = 2 by decide) c_71
        refine lv_aload_n hx hb dX3_take_7 rfl (lv_at hl 1 rfl) ?_
        refine ht_getr (C := RX3) (T := TX3) (N := 3) hx hb hts (by decide +kernel) hown hK hP hs t_zo (by decide) rfl rfl 0 (by decide) (hts (.fieldLink RX3 11 "DripStone$Hill" "rain" "[[I") (by decide +kernel)) (fun _ h9 => h9) rfl dX3_take_8 ?_
        have t_77 : zT (zR zo 0) = 60 := sk_f hs t_zo (by decide) rfl (by decide)
        refine lv_iload_n hx hb dX3_take_11 rfl (lv_at hl 2 rfl) ?_
        refine ht_aaldA (n := 3) (q := 7) hx hb hK hP hs t_77 (by decide) rfl rfl ⟨by omega, by omega⟩ dX3_take_12 ?_
        have t_78 : zT (zR (zR zo 0) zi_55.toNatClampNeg) = 34 := sk_a (n := 3) hs t_77 rfl rfl (by decide) (cl_lt (by omega) (by omega))
        refine lv_aload_n hx hb dX3_take_13 rfl (lv_at hl 0 rfl) ?_
        refine ht_getr (C := RX3) (T := TX3) (N := 3) hx hb hts (by decide +kernel) hown hK hP hs t_zt (by decide) rfl rfl 0 (by decide) (hts (.fieldLink RX3 11 "DripStone$Hill" "rain" "[[I") (by decide +kernel)) (fun _ h9 => h9) rfl dX3_take_14 ?_
        have t_79 : zT (zR zt 0) = 90 := sk_f hs t_zt (by decide) rfl (by decide)
        refine lv_iload_n hx hb dX3_take_17 rfl (lv_at hl 2 rfl) ?_
        refine ht_aaldA (n := 3) (q := 7) hx hb hK hP hs t_79 (by decide) rfl rfl ⟨by omega, by omega⟩ dX3_take_18 ?_
        have t_80 : zT (zR (zR zt 0) zi_55.toNatClampNeg) = 84 := sk_a (n := 3) hs t_79 rfl rfl (by decide) (cl_lt (by omega) (by omega))
        refine hj_v (ws := (WL cy zL zT zR zI_56 zJ)) (w1 := fun (u : (Nat → Nat → Int32)) => (WL cy zL zT zR u zJ)) (va_runSN (As := [.ref (zR (zR zo 0) zi_55.toNatClampNeg), .ref (zR (zR zt 0) zi_55.toNatClampNeg)]) (rest := []) ⟨hx, hb, hml, hown, hts⟩ (t_copyRow_34_84 l dC dI cy H.size zL zT zR zI_56 zJ (zR (zR zo 0) zi_55.toNatClampNeg) (zR (zR zt 0) zi_55.toNatClampNeg) hs h_zI_56.1 t_78 t_80) ⟨va_cnB 2 hts ggX3_take_X10_copyRow rfl rfl rfl (n0_15 hN) (hts (.initialized RX10) (by decide +kernel)) (by decide +kernel) ⟨(Nat.le_of_ble_eq_true rfl), (Nat.le_of_ble_eq_true rfl)⟩, hts (.static yX10_copyRow) (by decide +kernel), trivial⟩ (PRE.s hP hK hD hN) rfl rfl hl.1 rfl (lv_room (Nat.le_of_ble_eq_true rfl)) dX3_take_19 ⟨(Nat.le_of_ble_eq_true rfl), (Nat.le_of_ble_eq_true rfl)⟩) hP hD hS hA (fun zI_84 H locs hw_82 hP hD hS => ?_)
        obtain ⟨k_zI_84, ps_85, ps_86⟩ : (WM [8400] AL zT zR zI_56 zI_84) ∧ (∀ y9 : Nat, y9 < 24 → zI_84 (zR (zR zt 0) zi_55.toNatClampNeg) y9 = zI_56 (zR (zR zo 0) zi_55.toNatClampNeg) y9) ∧ (∀ a9 : Nat, ¬ a9 = (zR (zR zt 0) zi_55.toNatClampNeg) → zI_84 a9 = zI_56 a9) := hw_82
        have h_zI_84 : WM [1301, 1302, 8400] AL zT zR zI zI_84 := h_zI_56.tr k_zI_84 (by decide) (fun _ _ => trivial)
        obtain ⟨zi_87, ezi_87⟩ : ∃ y : Int32, y = zi_55 + 1 := ⟨_, rfl⟩
        have tzi_87 : zi_87.toInt = zi_55.toInt + 1 := by rw [ezi_87]; exact tadd rfl (show (1 : Int32).toInt = 1 by decide) (by omega) (by omega)
        refine lv_iinc (v := zi_87) (lv' := [(2, .int zi_87), (0, .ref zt), (1, .ref zo)]) hx hb dX3_take_22 hl (k := 2) rfl (by rw [ezi_87]; rfl) (by decide) rfl (fun ls hl => ?_)
        refine lv_goto (tgt := 2) hx hb dX3_take_25 (by decide) ?_
        exact ih_70 (3 - zi_87.toInt).toNat (by omega) zi_87 zI_84 _ _ _ rfl (by omega) h_zI_84 (TKR.s (e := 0) (i := zi_55) e_lp_70_0 hs t_79 (by decide) (by omega) (by omega) (by omega) ps_85 ps_86 (h_zI_56.2.row t_78 (by decide) (by decide))) hP hD hS (lv_sub hl [1, 2, 0] rfl)
  have qc_0 : (0 : Int32).toInt = 0 := by decide
  exact lp_70 _ (0 : Int32) zI _ _ _ rfl (by decide) h_zI TKR.z hP hD hS (lv_sub hl [1, 2, 0] rfl)
set_option maxHeartbeats 8000000 in
set_option maxRecDepth 100000 in
theorem t_X4_take_5_14 (l : Launch) (dC : Nat → ClassId) (dI : Nat → Nat → Nat) (cy : Nat → ClassId) (sz : Nat) (zL : List Nat) (zT : Nat → Nat) (zR : Nat → Nat → Nat) (zI : Nat → Nat → Int32) (zJ : Nat → Nat → Int64) (zt : Nat) (zo : Nat) (hs : SKP zL zT zR) (hw : WT zT zR zI) (t_zt : zT zt = 5) (t_zo : zT zo = 14) : Met l yX4_take wsX4_take ({ frames := 2, cells := 0, slots := 0, locals := 51 } : Room) (va_Pc [.ref zt, .ref zo] (PRE dC dI cy (WL cy zL zT zR zI zJ) sz)) (va_Qv (fun (u : (Nat → Nat → Int32)) => (WM [505, 2200, 2900, 3000] AL zT zR zI u)) (fun u t => POST dC dI cy (va_A (WL cy zL zT zR zI zJ) sz) (WL cy zL zT zR u zJ) t) (va_A (WL cy zL zT zR zI zJ) sz)) 0 0 (va_A (WL cy zL zT zR zI zJ) sz) := by
  refine Met.ofW (cc := cX4_take) (maxL := 2) (ret := none) (by decide) rfl ?_
  intro p e s m args below meth c s₁ B hml hv
  obtain ⟨rfl, hsz, hP, hK, hD0, hN⟩ := hv
  have hx := B.exec
  have hb := B.bytes
  have hr := B.returns
  have hts := atoms_spec (ws := wsX4_take) B.pre
  have hown : s.vm.findClass RX4 = some m.cls := findClass_of_methodNamed B.named
  have hlocks := B.notSynchronized
  subst hsz
  have hD := hD0.self (sz := s.heap.size)
  generalize hAe : va_A (WL cy zL zT zR zI zJ) s.heap.size = A at hD ⊢
  have hA : ∀ q : Nat, s.heap.size ≤ q → A q := fun q h => by rw [← hAe]; exact Or.inr h
  have hS : va_S A s.heap s.heap [] := va_S.rf
  have hP : va_P (dC, dI) vwCl (WL cy zL zT zR zI zJ) s.heap := hP
  have hl := lv_entry ([.ref zt, .ref zo] : List Value) (n := 2) (Nat.le_of_ble_eq_true rfl)
  rw [lg_entry_eq]
  generalize (lg_sl ([.ref zt, .ref zo] : List Value) ++ List.replicate (2 - (lg_sl ([.ref zt, .ref zo] : List Value)).length) Slot.unset).toArray = ls at hl ⊢
  have hl : lv_has ls 2 [(0, .ref zt), (1, .ref zo)] := hl
  refine w_q (fun Q hQ => ?_)
  have h_zI : WM [505, 2200, 2900, 3000] AL zT zR zI zI := WM.rf hw
  refine lv_aload_n hx hb dX4_take_0 rfl (lv_at hl 1 rfl) ?_
  refine ht_getr (C := RX4) (T := TX4) (N := 6) hx hb hts (by decide +kernel) hown hK hP hs t_zo (by decide) rfl rfl 0 (by decide) (hts (.fieldLink RX4 9 "DripStone$Law" "digits" "[I") (by decide +kernel)) (fun _ h9 => h9) rfl dX4_take_1 ?_
  have t_1 : zT (zR zo 0) = 72 := sk_f hs t_zo (by decide) rfl (by decide)
  refine lv_aload_n hx hb dX4_take_4 rfl (lv_at hl 0 rfl) ?_
  refine ht_getr (C := RX4) (T := TX4) (N := 6) hx hb hts (by decide +kernel) hown hK hP hs t_zt (by decide) rfl rfl 0 (by decide) (hts (.fieldLink RX4 9 "DripStone$Law" "digits" "[I") (by decide +kernel)) (fun _ h9 => h9) rfl dX4_take_5 ?_
  have t_2 : zT (zR zt 0) = 22 := sk_f hs t_zt (by decide) rfl (by decide)
  refine hj_v (ws := (WL cy zL zT zR zI zJ)) (w1 := fun (u : (Nat → Nat → Int32)) => (WL cy zL zT zR u zJ)) (va_runSN (As := [.ref (zR zo 0), .ref (zR zt 0)]) (rest := []) ⟨hx, hb, hml, hown, hts⟩ (t_copyRow_72_22 l dC dI cy s.heap.size zL zT zR zI zJ (zR zo 0) (zR zt 0) hs h_zI.1 t_1 t_2) ⟨va_cnB 2 hts ggX4_take_X10_copyRow rfl rfl rfl (n0_17 hN) (hts (.initialized RX10) (by decide +kernel)) (by decide +kernel) ⟨(Nat.le_of_ble_eq_true rfl), (Nat.le_of_ble_eq_true rfl)⟩, hts (.static yX10_copyRow) (by decide +kernel), trivial⟩ (PRE.s hP hK hD hN) rfl rfl hl.1 rfl (lv_room (Nat.le_of_ble_eq_true rfl)) dX4_take_8 ⟨(Nat.le_of_ble_eq_true rfl), (Nat.le_of_ble_eq_true rfl)⟩) hP hD hS hA (fun zI_6 H locs hw_4 hP hD hS => ?_)
  have k_zI_6 : WM [2200] AL zT zR zI zI_6 := hw_4
  have h_zI_6 : WM [505, 2200, 2900, 3000] AL zT zR zI zI_6 := h_zI.tr k_zI_6 (by decide) (fun _ _ => trivial)
  refine lv_aload_n hx hb dX4_take_11 rfl (lv_at hl 1 rfl) ?_
  refine ht_getr (C := RX4) (T := TX4) (N := 6) hx hb hts (by decide +kernel) hown hK hP hs t_zo (by decide) rfl rfl 1 (by decide) (hts (.fieldLink RX4 15 "DripStone$Law" "conditions" "[I") (by decide +kernel)) (fun _ h9 => h9) rfl dX4_take_12 ?_
  have t_7 : zT (zR zo 1) = 79 := sk_f hs t_zo (by decide) rfl (by decide)
  refine lv_aload_n hx hb dX4_take_15 rfl (lv_at hl 0 rfl) ?_
  refine ht_getr (C := RX4) (T := TX4) (N := 6) hx hb hts (by decide +kernel) hown hK hP hs t_zt (by decide) rfl rfl 1 (by decide) (hts (.fieldLink RX4 15 "DripStone$Law" "conditions" "[I") (by decide +kernel)) (fun _ h9 => h9) rfl dX4_take_16 ?_
  have t_8 : zT (zR zt 1) = 29 := sk_f hs t_zt (by decide) rfl (by decide)
  refine hj_v (ws := (WL cy zL zT zR zI_6 zJ)) (w1 := fun (u : (Nat → Nat → Int32)) => (WL cy zL zT zR u zJ)) (va_runSN (As := [.ref (zR zo 1), .ref (zR zt 1)]) (rest := []) ⟨hx, hb, hml, hown, hts⟩ (t_copyRow_79_29 l dC dI cy H.size zL zT zR zI_6 zJ (zR zo 1) (zR zt 1) hs h_zI_6.1 t_7 t_8) ⟨va_cnB 2 hts ggX4_take_X10_copyRow rfl rfl rfl (n0_17 hN) (hts (.initialized RX10) (by decide +kernel)) (by decide +kernel) ⟨(Nat.le_of_ble_eq_true rfl), (Nat.le_of_ble_eq_true rfl)⟩, hts (.static yX10_copyRow) (by decide +kernel), trivial⟩ (PRE.s hP hK hD hN) rfl rfl hl.1 rfl (lv_room (Nat.le_of_ble_eq_true rfl)) dX4_take_19 ⟨(Nat.le_of_ble_eq_true rfl), (Nat.le_of_ble_eq_true rfl)⟩) hP hD hS hA (fun zI_12 H locs hw_10 hP hD hS => ?_)
  have k_zI_12 : WM [2900] AL zT zR zI_6 zI_12 := hw_10
  have h_zI_12 : WM [505, 2200, 2900, 3000] AL zT zR zI zI_12 := h_zI_6.tr k_zI_12 (by decide) (fun _ _ => trivial)
  refine lv_aload_n hx hb dX4_take_22 rfl (lv_at hl 1 rfl) ?_
  refine ht_getr (C := RX4) (T := TX4) (N := 6) hx hb hts (by decide +kernel) hown hK hP hs t_zo (by decide) rfl rfl 2 (by decide) (hts (.fieldLink RX4 18 "DripStone$Law" "subjects" "[I") (by decide +kernel)) (fun _ h9 => h9) rfl dX4_take_23 ?_
  have t_13 : zT (zR zo 2) = 80 := sk_f hs t_zo (by decide) rfl (by decide)
  refine lv_aload_n hx hb dX4_take_26 rfl (lv_at hl 0 rfl) ?_
  refine ht_getr (C := RX4) (T := TX4) (N := 6) hx hb hts (by decide +kernel) hown hK hP hs t_zt (by decide) rfl rfl 2 (by decide) (hts (.fieldLink RX4 18 "DripStone$Law" "subjects" "[I") (by decide +kernel)) (fun _ h9 => h9) rfl dX4_take_27 ?_
  have t_14 : zT (zR zt 2) = 30 := sk_f hs t_zt (by decide) rfl (by decide)
  refine hj_v (ws := (WL cy zL zT zR zI_12 zJ)) (w1 := fun (u : (Nat → Nat → Int32)) => (WL cy zL zT zR u zJ)) (va_runSN (As := [.ref (zR zo 2), .ref (zR zt 2)]) (rest := []) ⟨hx, hb, hml, hown, hts⟩ (t_copyRow_80_30 l dC dI cy H.size zL zT zR zI_12 zJ (zR zo 2) (zR zt 2) hs h_zI_12.1 t_13 t_14) ⟨va_cnB 2 hts ggX4_take_X10_copyRow rfl rfl rfl (n0_17 hN) (hts (.initialized RX10) (by decide +kernel)) (by decide +kernel) ⟨(Nat.le_of_ble_eq_true rfl), (Nat.le_of_ble_eq_true rfl)⟩, hts (.static yX10_copyRow) (by decide +kernel), trivial⟩ (PRE.s hP hK hD hN) rfl rfl hl.1 rfl (lv_room (Nat.le_of_ble_eq_true rfl)) dX4_take_30 ⟨(Nat.le_of_ble_eq_true rfl), (Nat.le_of_ble_eq_true rfl)⟩) hP hD hS hA (fun zI_18 H locs hw_16 hP hD hS => ?_)
  have k_zI_18 : WM [3000] AL zT zR zI_12 zI_18 := hw_16
  have h_zI_18 : WM [505, 2200, 2900, 3000] AL zT zR zI zI_18 := h_zI_12.tr k_zI_18 (by decide) (fun _ _ => trivial)
  refine lv_aload_n hx hb dX4_take_33 rfl (lv_at hl 1 rfl) ?_
  refine ht_getr (C := RX4) (T := TX4) (N := 6) hx hb hts (by decide +kernel) hown hK hP hs t_zo (by decide) rfl rfl 3 (by decide) (hts (.fieldLink RX4 21 "DripStone$Law" "signs" "[I") (by decide +kernel)) (fun _ h9 => h9) rfl dX4_take_34 ?_
  have t_19 : zT (zR zo 3) = 80 := sk_f hs t_zo (by decide) rfl (by decide)
  refine lv_aload_n hx hb dX4_take_37 rfl (lv_at hl 0 rfl) ?_
  refine ht_getr (C := RX4) (T := TX4) (N := 6) hx hb hts (by decide +kernel) hown hK hP hs t_zt (by decide) rfl rfl 3 (by decide) (hts (.fieldLink RX4 21 "DripStone$Law" "signs" "[I") (by decide +kernel)) (fun _ h9 => h9) rfl dX4_take_38 ?_
  have t_20 : zT (zR zt 3) = 30 := sk_f hs t_zt (by decide) rfl (by decide)
  refine hj_v (ws := (WL cy zL zT zR zI_18 zJ)) (w1 := fun (u : (Nat → Nat → Int32)) => (WL cy zL zT zR u zJ)) (va_runSN (As := [.ref (zR zo 3), .ref (zR zt 3)]) (rest := []) ⟨hx, hb, hml, hown, hts⟩ (t_copyRow_80_30 l dC dI cy H.size zL zT zR zI_18 zJ (zR zo 3) (zR zt 3) hs h_zI_18.1 t_19 t_20) ⟨va_cnB 2 hts ggX4_take_X10_copyRow rfl rfl rfl (n0_17 hN) (hts (.initialized RX10) (by decide +kernel)) (by decide +kernel) ⟨(Nat.le_of_ble_eq_true rfl), (Nat.le_of_ble_eq_true rfl)⟩, hts (.static yX10_copyRow) (by decide +kernel), trivial⟩ (PRE.s hP hK hD hN) rfl rfl hl.1 rfl (lv_room (Nat.le_of_ble_eq_true rfl)) dX4_take_41 ⟨(Nat.le_of_ble_eq_true rfl), (Nat.le_of_ble_eq_true rfl)⟩) hP hD hS hA (fun zI_24 H locs hw_22 hP hD hS => ?_)
  have k_zI_24 : WM [3000] AL zT zR zI_18 zI_24 := hw_22
  have h_zI_24 : WM [505, 2200, 2900, 3000] AL zT zR zI zI_24 := h_zI_18.tr k_zI_24 (by decide) (fun _ _ => trivial)
  refine lv_aload_n hx hb dX4_take_44 rfl (lv_at hl 1 rfl) ?_
  refine ht_getr (C := RX4) (T := TX4) (N := 6) hx hb hts (by decide +kernel) hown hK hP hs t_zo (by decide) rfl rfl 4 (by decide) (hts (.fieldLink RX4 24 "DripStone$Law" "numbers" "[I") (by decide +kernel)) (fun _ h9 => h9) rfl dX4_take_45 ?_
  have t_25 : zT (zR zo 4) = 80 := sk_f hs t_zo (by decide) rfl (by decide)
  refine lv_aload_n hx hb dX4_take_48 rfl (lv_at hl 0 rfl) ?_
  refine ht_getr (C := RX4) (T := TX4) (N := 6) hx hb hts (by decide +kernel) hown hK hP hs t_zt (by decide) rfl rfl 4 (by decide) (hts (.fieldLink RX4 24 "DripStone$Law" "numbers" "[I") (by decide +kernel)) (fun _ h9 => h9) rfl dX4_take_49 ?_
  have t_26 : zT (zR zt 4) = 30 := sk_f hs t_zt (by decide) rfl (by decide)
  refine hj_v (ws := (WL cy zL zT zR zI_24 zJ)) (w1 := fun (u : (Nat → Nat → Int32)) => (WL cy zL zT zR u zJ)) (va_runSN (As := [.ref (zR zo 4), .ref (zR zt 4)]) (rest := []) ⟨hx, hb, hml, hown, hts⟩ (t_copyRow_80_30 l dC dI cy H.size zL zT zR zI_24 zJ (zR zo 4) (zR zt 4) hs h_zI_24.1 t_25 t_26) ⟨va_cnB 2 hts ggX4_take_X10_copyRow rfl rfl rfl (n0_17 hN) (hts (.initialized RX10) (by decide +kernel)) (by decide +kernel) ⟨(Nat.le_of_ble_eq_true rfl), (Nat.le_of_ble_eq_true rfl)⟩, hts (.static yX10_copyRow) (by decide +kernel), trivial⟩ (PRE.s hP hK hD hN) rfl rfl hl.1 rfl (lv_room (Nat.le_of_ble_eq_true rfl)) dX4_take_52 ⟨(Nat.le_of_ble_eq_true rfl), (Nat.le_of_ble_eq_true rfl)⟩) hP hD hS hA (fun zI_30 H locs hw_28 hP hD hS => ?_)
  have k_zI_30 : WM [3000] AL zT zR zI_24 zI_30 := hw_28
  have h_zI_30 : WM [505, 2200, 2900, 3000] AL zT zR zI zI_30 := h_zI_24.tr k_zI_30 (by decide) (fun _ _ => trivial)
  refine lv_aload_n hx hb dX4_take_55 rfl (lv_at hl 0 rfl) ?_
  refine lv_aload_n hx hb dX4_take_56 rfl (lv_at hl 1 rfl) ?_
  refine ht_geti (C := RX4) (T := TX4) (N := 6) hx hb hts (by decide +kernel) hown hK hP hs t_zo (by decide) rfl rfl 5 (by decide) (hts (.fieldLink RX4 37 "DripStone$Law" "clauses" "I") (by decide +kernel)) (fun _ h9 => h9) rfl dX4_take_57 ?_
  refine lv_topi (fun zi_31 ezi_31 => ?_)
  have tzi_31 : 0 ≤ zi_31.toInt ∧ zi_31.toInt ≤ 6 := by rw [ezi_31]; exact h_zI_30.at t_zo _ rfl
  refine ht_puti (v := zi_31) (ty := .int) (C := RX4) (T := TX4) (N := 6) hx hb hts (by decide +kernel) tyX4 tyX4_ok nmX4 hown hK hP hD hS hs t_zt (by decide) rfl rfl 5 (by decide) (hts (.fieldLink RX4 37 "DripStone$Law" "clauses" "I") (by decide +kernel)) (fun _ h9 => h9) rfl (by decide +kernel) rfl rfl rfl dX4_take_60 (fun H locs hP hD hS => ?_)
  have h_zI_32 : WM [505, 2200, 2900, 3000] AL zT zR zI (u2 zI_30 zt 5 zi_31) := h_zI_30.put hs t_zt rfl (by omega) (by decide) (fun h => absurd h (by decide)) (by decide) trivial
  generalize uzI_32 : u2 zI_30 zt 5 zi_31 = zI_32 at hP hD h_zI_32
  subst hQ
  exact W.vret hx hb hr (fun t ht hW => ⟨⟨zI_32, rfl, h_zI_32, ⟨by rw [ht]; exact hP, va_K.moved hW.alike hK, hD⟩⟩, hS.F ht⟩) hS.2.2 dX4_take_63
set_option maxHeartbeats 8000000 in
set_option maxRecDepth 100000 in
theorem t_X4_take_14_5 (l : Launch) (dC : Nat → ClassId) (dI : Nat → Nat → Nat) (cy : Nat → ClassId) (sz : Nat) (zL : List Nat) (zT : Nat → Nat) (zR : Nat → Nat → Nat) (zI : Nat → Nat → Int32) (zJ : Nat → Nat → Int64) (zt : Nat) (zo : Nat) (hs : SKP zL zT zR) (hw : WT zT zR zI) (t_zt : zT zt = 14) (t_zo : zT zo = 5) : Met l yX4_take wsX4_take ({ frames := 2, cells := 0, slots := 0, locals := 51 } : Room) (va_Pc [.ref zt, .ref zo] (PRE dC dI cy (WL cy zL zT zR zI zJ) sz)) (va_Qv (fun (u : (Nat → Nat → Int32)) => (WM [1405, 7200, 7900, 8000] AL zT zR zI u)) (fun u t => POST dC dI cy (va_A (WL cy zL zT zR zI zJ) sz) (WL cy zL zT zR u zJ) t) (va_A (WL cy zL zT zR zI zJ) sz)) 0 0 (va_A (WL cy zL zT zR zI zJ) sz) := by
  refine Met.ofW (cc := cX4_take) (maxL := 2) (ret := none) (by decide) rfl ?_
  intro p e s m args below meth c s₁ B hml hv
  obtain ⟨rfl, hsz, hP, hK, hD0, hN⟩ := hv
  have hx := B.exec
  have hb := B.bytes
  have hr := B.returns
  have hts := atoms_spec (ws := wsX4_take) B.pre
  have hown : s.vm.findClass RX4 = some m.cls := findClass_of_methodNamed B.named
  have hlocks := B.notSynchronized
  subst hsz
  have hD := hD0.self (sz := s.heap.size)
  generalize hAe : va_A (WL cy zL zT zR zI zJ) s.heap.size = A at hD ⊢
  have hA : ∀ q : Nat, s.heap.size ≤ q → A q := fun q h => by rw [← hAe]; exact Or.inr h
  have hS : va_S A s.heap s.heap [] := va_S.rf
  have hP : va_P (dC, dI) vwCl (WL cy zL zT zR zI zJ) s.heap := hP
  have hl := lv_entry ([.ref zt, .ref zo] : List Value) (n := 2) (Nat.le_of_ble_eq_true rfl)
  rw [lg_entry_eq]
  generalize (lg_sl ([.ref zt, .ref zo] : List Value) ++ List.replicate (2 - (lg_sl ([.ref zt, .ref zo] : List Value)).length) Slot.unset).toArray = ls at hl ⊢
  have hl : lv_has ls 2 [(0, .ref zt), (1, .ref zo)] := hl
  refine w_q (fun Q hQ => ?_)
  have h_zI : WM [1405, 7200, 7900, 8000] AL zT zR zI zI := WM.rf hw
  refine lv_aload_n hx hb dX4_take_0 rfl (lv_at hl 1 rfl) ?_
  refine ht_getr (C := RX4) (T := TX4) (N := 6) hx hb hts (by decide +kernel) hown hK hP hs t_zo (by decide) rfl rfl 0 (by decide) (hts (.fieldLink RX4 9 "DripStone$Law" "digits" "[I") (by decide +kernel)) (fun _ h9 => h9) rfl dX4_take_1 ?_
  have t_1 : zT (zR zo 0) = 22 := sk_f hs t_zo (by decide) rfl (by decide)
  refine lv_aload_n hx hb dX4_take_4 rfl (lv_at hl 0 rfl) ?_
  refine ht_getr (C := RX4) (T := TX4) (N := 6) hx hb hts (by decide +kernel) hown hK hP hs t_zt (by decide) rfl rfl 0 (by decide) (hts (.fieldLink RX4 9 "DripStone$Law" "digits" "[I") (by decide +kernel)) (fun _ h9 => h9) rfl dX4_take_5 ?_
  have t_2 : zT (zR zt 0) = 72 := sk_f hs t_zt (by decide) rfl (by decide)
  refine hj_v (ws := (WL cy zL zT zR zI zJ)) (w1 := fun (u : (Nat → Nat → Int32)) => (WL cy zL zT zR u zJ)) (va_runSN (As := [.ref (zR zo 0), .ref (zR zt 0)]) (rest := []) ⟨hx, hb, hml, hown, hts⟩ (t_copyRow_22_72 l dC dI cy s.heap.size zL zT zR zI zJ (zR zo 0) (zR zt 0) hs h_zI.1 t_1 t_2) ⟨va_cnB 2 hts ggX4_take_X10_copyRow rfl rfl rfl (n0_17 hN) (hts (.initialized RX10) (by decide +kernel)) (by decide +kernel) ⟨(Nat.le_of_ble_eq_true rfl), (Nat.le_of_ble_eq_true rfl)⟩, hts (.static yX10_copyRow) (by decide +kernel), trivial⟩ (PRE.s hP hK hD hN) rfl rfl hl.1 rfl (lv_room (Nat.le_of_ble_eq_true rfl)) dX4_take_8 ⟨(Nat.le_of_ble_eq_true rfl), (Nat.le_of_ble_eq_true rfl)⟩) hP hD hS hA (fun zI_6 H locs hw_4 hP hD hS => ?_)
  have k_zI_6 : WM [7200] AL zT zR zI zI_6 := hw_4
  have h_zI_6 : WM [1405, 7200, 7900, 8000] AL zT zR zI zI_6 := h_zI.tr k_zI_6 (by decide) (fun _ _ => trivial)
  refine lv_aload_n hx hb dX4_take_11 rfl (lv_at hl 1 rfl) ?_
  refine ht_getr (C := RX4) (T := TX4) (N := 6) hx hb hts (by decide +kernel) hown hK hP hs t_zo (by decide) rfl rfl 1 (by decide) (hts (.fieldLink RX4 15 "DripStone$Law" "conditions" "[I") (by decide +kernel)) (fun _ h9 => h9) rfl dX4_take_12 ?_
  have t_7 : zT (zR zo 1) = 29 := sk_f hs t_zo (by decide) rfl (by decide)
  refine lv_aload_n hx hb dX4_take_15 rfl (lv_at hl 0 rfl) ?_
  refine ht_getr (C := RX4) (T := TX4) (N := 6) hx hb hts (by decide +kernel) hown hK hP hs t_zt (by decide) rfl rfl 1 (by decide) (hts (.fieldLink RX4 15 "DripStone$Law" "conditions" "[I") (by decide +kernel)) (fun _ h9 => h9) rfl dX4_take_16 ?_
  have t_8 : zT (zR zt 1) = 79 := sk_f hs t_zt (by decide) rfl (by decide)
  refine hj_v (ws := (WL cy zL zT zR zI_6 zJ)) (w1 := fun (u : (Nat → Nat → Int32)) => (WL cy zL zT zR u zJ)) (va_runSN (As := [.ref (zR zo 1), .ref (zR zt 1)]) (rest := []) ⟨hx, hb, hml, hown, hts⟩ (t_copyRow_29_79 l dC dI cy H.size zL zT zR zI_6 zJ (zR zo 1) (zR zt 1) hs h_zI_6.1 t_7 t_8) ⟨va_cnB 2 hts ggX4_take_X10_copyRow rfl rfl rfl (n0_17 hN) (hts (.initialized RX10) (by decide +kernel)) (by decide +kernel) ⟨(Nat.le_of_ble_eq_true rfl), (Nat.le_of_ble_eq_true rfl)⟩, hts (.static yX10_copyRow) (by decide +kernel), trivial⟩ (PRE.s hP hK hD hN) rfl rfl hl.1 rfl (lv_room (Nat.le_of_ble_eq_true rfl)) dX4_take_19 ⟨(Nat.le_of_ble_eq_true rfl), (Nat.le_of_ble_eq_true rfl)⟩) hP hD hS hA (fun zI_12 H locs hw_10 hP hD hS => ?_)
  have k_zI_12 : WM [7900] AL zT zR zI_6 zI_12 := hw_10
  have h_zI_12 : WM [1405, 7200, 7900, 8000] AL zT zR zI zI_12 := h_zI_6.tr k_zI_12 (by decide) (fun _ _ => trivial)
  refine lv_aload_n hx hb dX4_take_22 rfl (lv_at hl 1 rfl) ?_
  refine ht_getr (C := RX4) (T := TX4) (N := 6) hx hb hts (by decide +kernel) hown hK hP hs t_zo (by decide) rfl rfl 2 (by decide) (hts (.fieldLink RX4 18 "DripStone$Law" "subjects" "[I") (by decide +kernel)) (fun _ h9 => h9) rfl dX4_take_23 ?_
  have t_13 : zT (zR zo 2) = 30 := sk_f hs t_zo (by decide) rfl (by decide)
  refine lv_aload_n hx hb dX4_take_26 rfl (lv_at hl 0 rfl) ?_
  refine ht_getr (C := RX4) (T := TX4) (N := 6) hx hb hts (by decide +kernel) hown hK hP hs t_zt (by decide) rfl rfl 2 (by decide) (hts (.fieldLink RX4 18 "DripStone$Law" "subjects" "[I") (by decide +kernel)) (fun _ h9 => h9) rfl dX4_take_27 ?_
  have t_14 : zT (zR zt 2) = 80 := sk_f hs t_zt (by decide) rfl (by decide)
  refine hj_v (ws := (WL cy zL zT zR zI_12 zJ)) (w1 := fun (u : (Nat → Nat → Int32)) => (WL cy zL zT zR u zJ)) (va_runSN (As := [.ref (zR zo 2), .ref (zR zt 2)]) (rest := []) ⟨hx, hb, hml, hown, hts⟩ (t_copyRow_30_80 l dC dI cy H.size zL zT zR zI_12 zJ (zR zo 2) (zR zt 2) hs h_zI_12.1 t_13 t_14) ⟨va_cnB 2 hts ggX4_take_X10_copyRow rfl rfl rfl (n0_17 hN) (hts (.initialized RX10) (by decide +kernel)) (by decide +kernel) ⟨(Nat.le_of_ble_eq_true rfl), (Nat.le_of_ble_eq_true rfl)⟩, hts (.static yX10_copyRow) (by decide +kernel), trivial⟩ (PRE.s hP hK hD hN) rfl rfl hl.1 rfl (lv_room (Nat.le_of_ble_eq_true rfl)) dX4_take_30 ⟨(Nat.le_of_ble_eq_true rfl), (Nat.le_of_ble_eq_true rfl)⟩) hP hD hS hA (fun zI_18 H locs hw_16 hP hD hS => ?_)
  have k_zI_18 : WM [8000] AL zT zR zI_12 zI_18 := hw_16
  have h_zI_18 : WM [1405, 7200, 7900, 8000] AL zT zR zI zI_18 := h_zI_12.tr k_zI_18 (by decide) (fun _ _ => trivial)
  refine lv_aload_n hx hb dX4_take_33 rfl (lv_at hl 1 rfl) ?_
  refine ht_getr (C := RX4) (T := TX4) (N := 6) hx hb hts (by decide +kernel) hown hK hP hs t_zo (by decide) rfl rfl 3 (by decide) (hts (.fieldLink RX4 21 "DripStone$Law" "signs" "[I") (by decide +kernel)) (fun _ h9 => h9) rfl dX4_take_34 ?_
  have t_19 : zT (zR zo 3) = 30 := sk_f hs t_zo (by decide) rfl (by decide)
  refine lv_aload_n hx hb dX4_take_37 rfl (lv_at hl 0 rfl) ?_
  refine ht_getr (C := RX4) (T := TX4) (N := 6) hx hb hts (by decide +kernel) hown hK hP hs t_zt (by decide) rfl rfl 3 (by decide) (hts (.fieldLink RX4 21 "DripStone$Law" "signs" "[I") (by decide +kernel)) (fun _ h9 => h9) rfl dX4_take_38 ?_
  have t_20 : zT (zR zt 3) = 80 := sk_f hs t_zt (by decide) rfl (by decide)
  refine hj_v (ws := (WL cy zL zT zR zI_18 zJ)) (w1 := fun (u : (Nat → Nat → Int32)) => (WL cy zL zT zR u zJ)) (va_runSN (As := [.ref (zR zo 3), .ref (zR zt 3)]) (rest := []) ⟨hx, hb, hml, hown, hts⟩ (t_copyRow_30_80 l dC dI cy H.size zL zT zR zI_18 zJ (zR zo 3) (zR zt 3) hs h_zI_18.1 t_19 t_20) ⟨va_cnB 2 hts ggX4_take_X10_copyRow rfl rfl rfl (n0_17 hN) (hts (.initialized RX10) (by decide +kernel)) (by decide +kernel) ⟨(Nat.le_of_ble_eq_true rfl), (Nat.le_of_ble_eq_true rfl)⟩, hts (.static yX10_copyRow) (by decide +kernel), trivial⟩ (PRE.s hP hK hD hN) rfl rfl hl.1 rfl (lv_room (Nat.le_of_ble_eq_true rfl)) dX4_take_41 ⟨(Nat.le_of_ble_eq_true rfl), (Nat.le_of_ble_eq_true rfl)⟩) hP hD hS hA (fun zI_24 H locs hw_22 hP hD hS => ?_)
  have k_zI_24 : WM [8000] AL zT zR zI_18 zI_24 := hw_22
  have h_zI_24 : WM [1405, 7200, 7900, 8000] AL zT zR zI zI_24 := h_zI_18.tr k_zI_24 (by decide) (fun _ _ => trivial)
  refine lv_aload_n hx hb dX4_take_44 rfl (lv_at hl 1 rfl) ?_
  refine ht_getr (C := RX4) (T := TX4) (N := 6) hx hb hts (by decide +kernel) hown hK hP hs t_zo (by decide) rfl rfl 4 (by decide) (hts (.fieldLink RX4 24 "DripStone$Law" "numbers" "[I") (by decide +kernel)) (fun _ h9 => h9) rfl dX4_take_45 ?_
  have t_25 : zT (zR zo 4) = 30 := sk_f hs t_zo (by decide) rfl (by decide)
  refine lv_aload_n hx hb dX4_take_48 rfl (lv_at hl 0 rfl) ?_
  refine ht_getr (C := RX4) (T := TX4) (N := 6) hx hb hts (by decide +kernel) hown hK hP hs t_zt (by decide) rfl rfl 4 (by decide) (hts (.fieldLink RX4 24 "DripStone$Law" "numbers" "[I") (by decide +kernel)) (fun _ h9 => h9) rfl dX4_take_49 ?_
  have t_26 : zT (zR zt 4) = 80 := sk_f hs t_zt (by decide) rfl (by decide)
  refine hj_v (ws := (WL cy zL zT zR zI_24 zJ)) (w1 := fun (u : (Nat → Nat → Int32)) => (WL cy zL zT zR u zJ)) (va_runSN (As := [.ref (zR zo 4), .ref (zR zt 4)]) (rest := []) ⟨hx, hb, hml, hown, hts⟩ (t_copyRow_30_80 l dC dI cy H.size zL zT zR zI_24 zJ (zR zo 4) (zR zt 4) hs h_zI_24.1 t_25 t_26) ⟨va_cnB 2 hts ggX4_take_X10_copyRow rfl rfl rfl (n0_17 hN) (hts (.initialized RX10) (by decide +kernel)) (by decide +kernel) ⟨(Nat.le_of_ble_eq_true rfl), (Nat.le_of_ble_eq_true rfl)⟩, hts (.static yX10_copyRow) (by decide +kernel), trivial⟩ (PRE.s hP hK hD hN) rfl rfl hl.1 rfl (lv_room (Nat.le_of_ble_eq_true rfl)) dX4_take_52 ⟨(Nat.le_of_ble_eq_true rfl), (Nat.le_of_ble_eq_true rfl)⟩) hP hD hS hA (fun zI_30 H locs hw_28 hP hD hS => ?_)
  have k_zI_30 : WM [8000] AL zT zR zI_24 zI_30 := hw_28
  have h_zI_30 : WM [1405, 7200, 7900, 8000] AL zT zR zI zI_30 := h_zI_24.tr k_zI_30 (by decide) (fun _ _ => trivial)
  refine lv_aload_n hx hb dX4_take_55 rfl (lv_at hl 0 rfl) ?_
  refine lv_aload_n hx hb dX4_take_56 rfl (lv_at hl 1 rfl) ?_
  refine ht_geti (C := RX4) (T := TX4) (N := 6) hx hb hts (by decide +kernel) hown hK hP hs t_zo (by decide) rfl rfl 5 (by decide) (hts (.fieldLink RX4 37 "DripStone$Law" "clauses" "I") (by decide +kernel)) (fun _ h9 => h9) rfl dX4_take_57 ?_
  refine lv_topi (fun zi_31 ezi_31 => ?_)
  have tzi_31 : 0 ≤ zi_31.toInt ∧ zi_31.toInt ≤ 6 := by rw [ezi_31]; exact h_zI_30.at t_zo _ rfl
  refine ht_puti (v := zi_31) (ty := .int) (C := RX4) (T := TX4) (N := 6) hx hb hts (by decide +kernel) tyX4 tyX4_ok nmX4 hown hK hP hD hS hs t_zt (by decide) rfl rfl 5 (by decide) (hts (.fieldLink RX4 37 "DripStone$Law" "clauses" "I") (by decide +kernel)) (fun _ h9 => h9) rfl (by decide +kernel) rfl rfl rfl dX4_take_60 (fun H locs hP hD hS => ?_)
  have h_zI_32 : WM [1405, 7200, 7900, 8000] AL zT zR zI (u2 zI_30 zt 5 zi_31) := h_zI_30.put hs t_zt rfl (by omega) (by decide) (fun h => absurd h (by decide)) (by decide) trivial
  generalize uzI_32 : u2 zI_30 zt 5 zi_31 = zI_32 at hP hD h_zI_32
  subst hQ
  exact W.vret hx hb hr (fun t ht hW => ⟨⟨zI_32, rfl, h_zI_32, ⟨by rw [ht]; exact hP, va_K.moved hW.alike hK, hD⟩⟩, hS.F ht⟩) hS.2.2 dX4_take_63
set_option maxHeartbeats 8000000 in
set_option maxRecDepth 100000 in
theorem t_X4_take_5_5 (l : Launch) (dC : Nat → ClassId) (dI : Nat → Nat → Nat) (cy : Nat → ClassId) (sz : Nat) (zL : List Nat) (zT : Nat → Nat) (zR : Nat → Nat → Nat) (zI : Nat → Nat → Int32) (zJ : Nat → Nat → Int64) (zt : Nat) (zo : Nat) (hs : SKP zL zT zR) (hw : WT zT zR zI) (t_zt : zT zt = 5) (t_zo : zT zo = 5) : Met l yX4_take wsX4_take ({ frames := 2, cells := 0, slots := 0, locals := 51 } : Room) (va_Pc [.ref zt, .ref zo] (PRE dC dI cy (WL cy zL zT zR zI zJ) sz)) (va_Qv (fun (u : (Nat → Nat → Int32)) => (WM [505, 2200, 2900, 3000] AL zT zR zI u)) (fun u t => POST dC dI cy (va_A (WL cy zL zT zR zI zJ) sz) (WL cy zL zT zR u zJ) t) (va_A (WL cy zL zT zR zI zJ) sz)) 0 0 (va_A (WL cy zL zT zR zI zJ) sz) := by
  refine Met.ofW (cc := cX4_take) (maxL := 2) (ret := none) (by decide) rfl ?_
  intro p e s m args below meth c s₁ B hml hv
  obtain ⟨rfl, hsz, hP, hK, hD0, hN⟩ := hv
  have hx := B.exec
  have hb := B.bytes
  have hr := B.returns
  have hts := atoms_spec (ws := wsX4_take) B.pre
  have hown : s.vm.findClass RX4 = some m.cls := findClass_of_methodNamed B.named
  have hlocks := B.notSynchronized
  subst hsz
  have hD := hD0.self (sz := s.heap.size)
  generalize hAe : va_A (WL cy zL zT zR zI zJ) s.heap.size = A at hD ⊢
  have hA : ∀ q : Nat, s.heap.size ≤ q → A q := fun q h => by rw [← hAe]; exact Or.inr h
  have hS : va_S A s.heap s.heap [] := va_S.rf
  have hP : va_P (dC, dI) vwCl (WL cy zL zT zR zI zJ) s.heap := hP
  have hl := lv_entry ([.ref zt, .ref zo] : List Value) (n := 2) (Nat.le_of_ble_eq_true rfl)
  rw [lg_entry_eq]
  generalize (lg_sl ([.ref zt, .ref zo] : List Value) ++ List.replicate (2 - (lg_sl ([.ref zt, .ref zo] : List Value)).length) Slot.unset).toArray = ls at hl ⊢
  have hl : lv_has ls 2 [(0, .ref zt), (1, .ref zo)] := hl
  refine w_q (fun Q hQ => ?_)
  have h_zI : WM [505, 2200, 2900, 3000] AL zT zR zI zI := WM.rf hw
  refine lv_aload_n hx hb dX4_take_0 rfl (lv_at hl 1 rfl) ?_
  refine ht_getr (C := RX4) (T := TX4) (N := 6) hx hb hts (by decide +kernel) hown hK hP hs t_zo (by decide) rfl rfl 0 (by decide) (hts (.fieldLink RX4 9 "DripStone$Law" "digits" "[I") (by decide +kernel)) (fun _ h9 => h9) rfl dX4_take_1 ?_
  have t_1 : zT (zR zo 0) = 22 := sk_f hs t_zo (by decide) rfl (by decide)
  refine lv_aload_n hx hb dX4_take_4 rfl (lv_at hl 0 rfl) ?_
  refine ht_getr (C := RX4) (T := TX4) (N := 6) hx hb hts (by decide +kernel) hown hK hP hs t_zt (by decide) rfl rfl 0 (by decide) (hts (.fieldLink RX4 9 "DripStone$Law" "digits" "[I") (by decide +kernel)) (fun _ h9 => h9) rfl dX4_take_5 ?_
  have t_2 : zT (zR zt 0) = 22 := sk_f hs t_zt (by decide) rfl (by decide)
  refine hj_v (ws := (WL cy zL zT zR zI zJ)) (w1 := fun (u : (Nat → Nat → Int32)) => (WL cy zL zT zR u zJ)) (va_runSN (As := [.ref (zR zo 0), .ref (zR zt 0)]) (rest := []) ⟨hx, hb, hml, hown, hts⟩ (t_copyRow_22_22 l dC dI cy s.heap.size zL zT zR zI zJ (zR zo 0) (zR zt 0) hs h_zI.1 t_1 t_2) ⟨va_cnB 2 hts ggX4_take_X10_copyRow rfl rfl rfl (n0_17 hN) (hts (.initialized RX10) (by decide +kernel)) (by decide +kernel) ⟨(Nat.le_of_ble_eq_true rfl), (Nat.le_of_ble_eq_true rfl)⟩, hts (.static yX10_copyRow) (by decide +kernel), trivial⟩ (PRE.s hP hK hD hN) rfl rfl hl.1 rfl (lv_room (Nat.le_of_ble_eq_true rfl)) dX4_take_8 ⟨(Nat.le_of_ble_eq_true rfl), (Nat.le_of_ble_eq_true rfl)⟩) hP hD hS hA (fun zI_6 H locs hw_4 hP hD hS => ?_)
  have k_zI_6 : WM [2200] AL zT zR zI zI_6 := hw_4
  have h_zI_6 : WM [505, 2200, 2900, 3000] AL zT zR zI zI_6 := h_zI.tr k_zI_6 (by decide) (fun _ _ => trivial)
  refine lv_aload_n hx hb dX4_take_11 rfl (lv_at hl 1 rfl) ?_
  refine ht_getr (C := RX4) (T := TX4) (N := 6) hx hb hts (by decide +kernel) hown hK hP hs t_zo (by decide) rfl rfl 1 (by decide) (hts (.fieldLink RX4 15 "DripStone$Law" "conditions" "[I") (by decide +kernel)) (fun _ h9 => h9) rfl dX4_take_12 ?_
  have t_7 : zT (zR zo 1) = 29 := sk_f hs t_zo (by decide) rfl (by decide)
  refine lv_aload_n hx hb dX4_take_15 rfl (lv_at hl 0 rfl) ?_
  refine ht_getr (C := RX4) (T := TX4) (N := 6) hx hb hts (by decide +kernel) hown hK hP hs t_zt (by decide) rfl rfl 1 (by decide) (hts (.fieldLink RX4 15 "DripStone$Law" "conditions" "[I") (by decide +kernel)) (fun _ h9 => h9) rfl dX4_take_16 ?_
  have t_8 : zT (zR zt 1) = 29 := sk_f hs t_zt (by decide) rfl (by decide)
  refine hj_v (ws := (WL cy zL zT zR zI_6 zJ)) (w1 := fun (u : (Nat → Nat → Int32)) => (WL cy zL zT zR u zJ)) (va_runSN (As := [.ref (zR zo 1), .ref (zR zt 1)]) (rest := []) ⟨hx, hb, hml, hown, hts⟩ (t_copyRow_29_29 l dC dI cy H.size zL zT zR zI_6 zJ (zR zo 1) (zR zt 1) hs h_zI_6.1 t_7 t_8) ⟨va_cnB 2 hts ggX4_take_X10_copyRow rfl rfl rfl (n0_17 hN) (hts (.initialized RX10) (by decide +kernel)) (by decide +kernel) ⟨(Nat.le_of_ble_eq_true rfl), (Nat.le_of_ble_eq_true rfl)⟩, hts (.static yX10_copyRow) (by decide +kernel), trivial⟩ (PRE.s hP hK hD hN) rfl rfl hl.1 rfl (lv_room (Nat.le_of_ble_eq_true rfl)) dX4_take_19 ⟨(Nat.le_of_ble_eq_true rfl), (Nat.le_of_ble_eq_true rfl)⟩) hP hD hS hA (fun zI_12 H locs hw_10 hP hD hS => ?_)
  have k_zI_12 : WM [2900] AL zT zR zI_6 zI_12 := hw_10
  have h_zI_12 : WM [505, 2200, 2900, 3000] AL zT zR zI zI_12 := h_zI_6.tr k_zI_12 (by decide) (fun _ _ => trivial)
  refine lv_aload_n hx hb dX4_take_22 rfl (lv_at hl 1 rfl) ?_
  refine ht_getr (C := RX4) (T := TX4) (N := 6) hx hb hts (by decide +kernel) hown hK hP hs t_zo (by decide) rfl rfl 2 (by decide) (hts (.fieldLink RX4 18 "DripStone$Law" "subjects" "[I") (by decide +kernel)) (fun _ h9 => h9) rfl dX4_take_23 ?_
  have t_13 : zT (zR zo 2) = 30 := sk_f hs t_zo (by decide) rfl (by decide)
  refine lv_aload_n hx hb dX4_take_26 rfl (lv_at hl 0 rfl) ?_
  refine ht_getr (C := RX4) (T := TX4) (N := 6) hx hb hts (by decide +kernel) hown hK hP hs t_zt (by decide) rfl rfl 2 (by decide) (hts (.fieldLink RX4 18 "DripStone$Law" "subjects" "[I") (by decide +kernel)) (fun _ h9 => h9) rfl dX4_take_27 ?_
  have t_14 : zT (zR zt 2) = 30 := sk_f hs t_zt (by decide) rfl (by decide)
  refine hj_v (ws := (WL cy zL zT zR zI_12 zJ)) (w1 := fun (u : (Nat → Nat → Int32)) => (WL cy zL zT zR u zJ)) (va_runSN (As := [.ref (zR zo 2), .ref (zR zt 2)]) (rest := []) ⟨hx, hb, hml, hown, hts⟩ (t_copyRow_30_30 l dC dI cy H.size zL zT zR zI_12 zJ (zR zo 2) (zR zt 2) hs h_zI_12.1 t_13 t_14) ⟨va_cnB 2 hts ggX4_take_X10_copyRow rfl rfl rfl (n0_17 hN) (hts (.initialized RX10) (by decide +kernel)) (by decide +kernel) ⟨(Nat.le_of_ble_eq_true rfl), (Nat.le_of_ble_eq_true rfl)⟩, hts (.static yX10_copyRow) (by decide +kernel), trivial⟩ (PRE.s hP hK hD hN) rfl rfl hl.1 rfl (lv_room (Nat.le_of_ble_eq_true rfl)) dX4_take_30 ⟨(Nat.le_of_ble_eq_true rfl), (Nat.le_of_ble_eq_true rfl)⟩) hP hD hS hA (fun zI_18 H locs hw_16 hP hD hS => ?_)
  have k_zI_18 : WM [3000] AL zT zR zI_12 zI_18 := hw_16
  have h_zI_18 : WM [505, 2200, 2900, 3000] AL zT zR zI zI_18 := h_zI_12.tr k_zI_18 (by decide) (fun _ _ => trivial)
  refine lv_aload_n hx hb dX4_take_33 rfl (lv_at hl 1 rfl) ?_
  refine ht_getr (C := RX4) (T := TX4) (N := 6) hx hb hts (by decide +kernel) hown hK hP hs t_zo (by decide) rfl rfl 3 (by decide) (hts (.fieldLink RX4 21 "DripStone$Law" "signs" "[I") (by decide +kernel)) (fun _ h9 => h9) rfl dX4_take_34 ?_
  have t_19 : zT (zR zo 3) = 30 := sk_f hs t_zo (by decide) rfl (by decide)
  refine lv_aload_n hx hb dX4_take_37 rfl (lv_at hl 0 rfl) ?_
  refine ht_getr (C := RX4) (T := TX4) (N := 6) hx hb hts (by decide +kernel) hown hK hP hs t_zt (by decide) rfl rfl 3 (by decide) (hts (.fieldLink RX4 21 "DripStone$Law" "signs" "[I") (by decide +kernel)) (fun _ h9 => h9) rfl dX4_take_38 ?_
  have t_20 : zT (zR zt 3) = 30 := sk_f hs t_zt (by decide) rfl (by decide)
  refine hj_v (ws := (WL cy zL zT zR zI_18 zJ)) (w1 := fun (u : (Nat → Nat → Int32)) => (WL cy zL zT zR u zJ)) (va_runSN (As := [.ref (zR zo 3), .ref (zR zt 3)]) (rest := []) ⟨hx, hb, hml, hown, hts⟩ (t_copyRow_30_30 l dC dI cy H.size zL zT zR zI_18 zJ (zR zo 3) (zR zt 3) hs h_zI_18.1 t_19 t_20) ⟨va_cnB 2 hts ggX4_take_X10_copyRow rfl rfl rfl (n0_17 hN) (hts (.initialized RX10) (by decide +kernel)) (by decide +kernel) ⟨(Nat.le_of_ble_eq_true rfl), (Nat.le_of_ble_eq_true rfl)⟩, hts (.static yX10_copyRow) (by decide +kernel), trivial⟩ (PRE.s hP hK hD hN) rfl rfl hl.1 rfl (lv_room (Nat.le_of_ble_eq_true rfl)) dX4_take_41 ⟨(Nat.le_of_ble_eq_true rfl), (Nat.le_of_ble_eq_true rfl)⟩) hP hD hS hA (fun zI_24 H locs hw_22 hP hD hS => ?_)
  have k_zI_24 : WM [3000] AL zT zR zI_18 zI_24 := hw_22
  have h_zI_24 : WM [505, 2200, 2900, 3000] AL zT zR zI zI_24 := h_zI_18.tr k_zI_24 (by decide) (fun _ _ => trivial)
  refine lv_aload_n hx hb dX4_take_44 rfl (lv_at hl 1 rfl) ?_
  refine ht_getr (C := RX4) (T := TX4) (N := 6) hx hb hts (by decide +kernel) hown hK hP hs t_zo (by decide) rfl rfl 4 (by decide) (hts (.fieldLink RX4 24 "DripStone$Law" "numbers" "[I") (by decide +kernel)) (fun _ h9 => h9) rfl dX4_take_45 ?_
  have t_25 : zT (zR zo 4) = 30 := sk_f hs t_zo (by decide) rfl (by decide)
  refine lv_aload_n hx hb dX4_take_48 rfl (lv_at hl 0 rfl) ?_
  refine ht_getr (C := RX4) (T := TX4) (N := 6) hx hb hts (by decide +kernel) hown hK hP hs t_zt (by decide) rfl rfl 4 (by decide) (hts (.fieldLink RX4 24 "DripStone$Law" "numbers" "[I") (by decide +kernel)) (fun _ h9 => h9) rfl dX4_take_49 ?_
  have t_26 : zT (zR zt 4) = 30 := sk_f hs t_zt (by decide) rfl (by decide)
  refine hj_v (ws := (WL cy zL zT zR zI_24 zJ)) (w1 := fun (u : (Nat → Nat → Int32)) => (WL cy zL zT zR u zJ)) (va_runSN (As := [.ref (zR zo 4), .ref (zR zt 4)]) (rest := []) ⟨hx, hb, hml, hown, hts⟩ (t_copyRow_30_30 l dC dI cy H.size zL zT zR zI_24 zJ (zR zo 4) (zR zt 4) hs h_zI_24.1 t_25 t_26) ⟨va_cnB 2 hts ggX4_take_X10_copyRow rfl rfl rfl (n0_17 hN) (hts (.initialized RX10) (by decide +kernel)) (by decide +kernel) ⟨(Nat.le_of_ble_eq_true rfl), (Nat.le_of_ble_eq_true rfl)⟩, hts (.static yX10_copyRow) (by decide +kernel), trivial⟩ (PRE.s hP hK hD hN) rfl rfl hl.1 rfl (lv_room (Nat.le_of_ble_eq_true rfl)) dX4_take_52 ⟨(Nat.le_of_ble_eq_true rfl), (Nat.le_of_ble_eq_true rfl)⟩) hP hD hS hA (fun zI_30 H locs hw_28 hP hD hS => ?_)
  have k_zI_30 : WM [3000] AL zT zR zI_24 zI_30 := hw_28
  have h_zI_30 : WM [505, 2200, 2900, 3000] AL zT zR zI zI_30 := h_zI_24.tr k_zI_30 (by decide) (fun _ _ => trivial)
  refine lv_aload_n hx hb dX4_take_55 rfl (lv_at hl 0 rfl) ?_
  refine lv_aload_n hx hb dX4_take_56 rfl (lv_at hl 1 rfl) ?_
  refine ht_geti (C := RX4) (T := TX4) (N := 6) hx hb hts (by decide +kernel) hown hK hP hs t_zo (by decide) rfl rfl 5 (by decide) (hts (.fieldLink RX4 37 "DripStone$Law" "clauses" "I") (by decide +kernel)) (fun _ h9 => h9) rfl dX4_take_57 ?_
  refine lv_topi (fun zi_31 ezi_31 => ?_)
  have tzi_31 : 0 ≤ zi_31.toInt ∧ zi_31.toInt ≤ 6 := by rw [ezi_31]; exact h_zI_30.at t_zo _ rfl
  refine ht_puti (v := zi_31) (ty := .int) (C := RX4) (T := TX4) (N := 6) hx hb hts (by decide +kernel) tyX4 tyX4_ok nmX4 hown hK hP hD hS hs t_zt (by decide) rfl rfl 5 (by decide) (hts (.fieldLink RX4 37 "DripStone$Law" "clauses" "I") (by decide +kernel)) (fun _ h9 => h9) rfl (by decide +kernel) rfl rfl rfl dX4_take_60 (fun H locs hP hD hS => ?_)
  have h_zI_32 : WM [505, 2200, 2900, 3000] AL zT zR zI (u2 zI_30 zt 5 zi_31) := h_zI_30.put hs t_zt rfl (by omega) (by decide) (fun h => absurd h (by decide)) (by decide) trivial
  generalize uzI_32 : u2 zI_30 zt 5 zi_31 = zI_32 at hP hD h_zI_32
  subst hQ
  exact W.vret hx hb hr (fun t ht hW => ⟨⟨zI_32, rfl, h_zI_32, ⟨by rw [ht]; exact hP, va_K.moved hW.alike hK, hD⟩⟩, hS.F ht⟩) hS.2.2 dX4_take_63
set_option maxHeartbeats 8000000 in
set_option maxRecDepth 100000 in
theorem t_X2_take_3_16 (l : Launch) (dC : Nat → ClassId) (dI : Nat → Nat → Nat) (cy : Nat → ClassId) (sz : Nat) (zL : List Nat) (zT : Nat → Nat) (zR : Nat → Nat → Nat) (zI : Nat → Nat → Int32) (zJ : Nat → Nat → Int64) (zt : Nat) (zo : Nat) (hs : SKP zL zT zR) (hw : WT zT zR zI) (t_zt : zT zt = 3) (t_zo : zT zo = 16) : Met l yX2_take wsX2_take ({ frames := 2, cells := 0, slots := 0, locals := 51 } : Room) (va_Pc [.ref zt, .ref zo] (PRE dC dI cy (WL cy zL zT zR zI zJ) sz)) (va_Qv (fun (u : (Nat → Nat → Int32)) => (WM [306, 2400, 2500, 2600, 2700] AL zT zR zI u)) (fun u t => POST dC dI cy (va_A (WL cy zL zT zR zI zJ) sz) (WL cy zL zT zR u zJ) t) (va_A (WL cy zL zT zR zI zJ) sz)) 0 0 (va_A (WL cy zL zT zR zI zJ) sz) := by
  refine Met.ofW (cc := cX2_take) (maxL := 2) (ret := none) (by decide) rfl ?_
  intro p e s m args below meth c s₁ B hml hv
  obtain ⟨rfl, hsz, hP, hK, hD0, hN⟩ := hv
  have hx := B.exec
  have hb := B.bytes
  have hr := B.returns
  have hts := atoms_spec (ws := wsX2_take) B.pre
  have hown : s.vm.findClass RX2 = some m.cls := findClass_of_methodNamed B.named
  have hlocks := B.notSynchronized
  subst hsz
  have hD := hD0.self (sz := s.heap.size)
  generalize hAe : va_A (WL cy zL zT zR zI zJ) s.heap.size = A at hD ⊢
  have hA : ∀ q : Nat, s.heap.size ≤ q → A q := fun q h => by rw [← hAe]; exact Or.inr h
  have hS : va_S A s.heap s.heap [] := va_S.rf
  have hP : va_P (dC, dI) vwCl (WL cy zL zT zR zI zJ) s.heap := hP
  have hl := lv_entry ([.ref zt, .ref zo] : List Value) (n := 2) (Nat.le_of_ble_eq_true rfl)
  rw [lg_entry_eq]
  generalize (lg_sl ([.ref zt, .ref zo] : List Value) ++ List.replicate (2 - (lg_sl ([.ref zt, .ref zo] : List Value)).length) Slot.unset).toArray = ls at hl ⊢
  have hl : lv_has ls 2 [(0, .ref zt), (1, .ref zo)] := hl
  refine w_q (fun Q hQ => ?_)
  have h_zI : WM [306, 2400, 2500, 2600, 2700] AL zT zR zI zI := WM.rf hw
  refine lv_aload_n hx hb dX2_take_0 rfl (lv_at hl 1 rfl) ?_
  refine ht_getr (C := RX2) (T := TX2) (N := 7) hx hb hts (by decide +kernel) hown hK hP hs t_zo (by decide) rfl rfl 0 (by decide) (hts (.fieldLink RX2 9 "DripStone$Dates" "candles" "[I") (by decide +kernel)) (fun _ h9 => h9) rfl dX2_take_1 ?_
  have t_1 : zT (zR zo 0) = 74 := sk_f hs t_zo (by decide) rfl (by decide)
  refine lv_aload_n hx hb dX2_take_4 rfl (lv_at hl 0 rfl) ?_
  refine ht_getr (C := RX2) (T := TX2) (N := 7) hx hb hts (by decide +kernel) hown hK hP hs t_zt (by decide) rfl rfl 0 (by decide) (hts (.fieldLink RX2 9 "DripStone$Dates" "candles" "[I") (by decide +kernel)) (fun _ h9 => h9) rfl dX2_take_5 ?_
  have t_2 : zT (zR zt 0) = 24 := sk_f hs t_zt (by decide) rfl (by decide)
  refine hj_v (ws := (WL cy zL zT zR zI zJ)) (w1 := fun (u : (Nat → Nat → Int32)) => (WL cy zL zT zR u zJ)) (va_runSN (As := [.ref (zR zo 0), .ref (zR zt 0)]) (rest := []) ⟨hx, hb, hml, hown, hts⟩ (t_copyRow_74_24 l dC dI cy s.heap.size zL zT zR zI zJ (zR zo 0) (zR zt 0) hs h_zI.1 t_1 t_2) ⟨va_cnB 2 hts ggX2_take_X10_copyRow rfl rfl rfl (n0_20 hN) (hts (.initialized RX10) (by decide +kernel)) (by decide +kernel) ⟨(Nat.le_of_ble_eq_true rfl), (Nat.le_of_ble_eq_true rfl)⟩, hts (.static yX10_copyRow) (by decide +kernel), trivial⟩ (PRE.s hP hK hD hN) rfl rfl hl.1 rfl (lv_room (Nat.le_of_ble_eq_true rfl)) dX2_take_8 ⟨(Nat.le_of_ble_eq_true rfl), (Nat.le_of_ble_eq_true rfl)⟩) hP hD hS hA (fun zI_6 H locs hw_4 hP hD hS => ?_)
  have k_zI_6 : WM [2400] AL zT zR zI zI_6 := hw_4
  have h_zI_6 : WM [306, 2400, 2500, 2600, 2700] AL zT zR zI zI_6 := h_zI.tr k_zI_6 (by decide) (fun _ _ => trivial)
  refine lv_aload_n hx hb dX2_take_11 rfl (lv_at hl 1 rfl) ?_
  refine ht_getr (C := RX2) (T := TX2) (N := 7) hx hb hts (by decide +kernel) hown hK hP hs t_zo (by decide) rfl rfl 1 (by decide) (hts (.fieldLink RX2 15 "DripStone$Dates" "things" "[I") (by decide +kernel)) (fun _ h9 => h9) rfl dX2_take_12 ?_
  have t_7 : zT (zR zo 1) = 75 := sk_f hs t_zo (by decide) rfl (by decide)
  refine lv_aload_n hx hb dX2_take_15 rfl (lv_at hl 0 rfl) ?_
  refine ht_getr (C := RX2) (T := TX2) (N := 7) hx hb hts (by decide +kernel) hown hK hP hs t_zt (by decide) rfl rfl 1 (by decide) (hts (.fieldLink RX2 15 "DripStone$Dates" "things" "[I") (by decide +kernel)) (fun _ h9 => h9) rfl dX2_take_16 ?_
  have t_8 : zT (zR zt 1) = 25 := sk_f hs t_zt (by decide) rfl (by decide)
  refine hj_v (ws := (WL cy zL zT zR zI_6 zJ)) (w1 := fun (u : (Nat → Nat → Int32)) => (WL cy zL zT zR u zJ)) (va_runSN (As := [.ref (zR zo 1), .ref (zR zt 1)]) (rest := []) ⟨hx, hb, hml, hown, hts⟩ (t_copyRow_75_25 l dC dI cy H.size zL zT zR zI_6 zJ (zR zo 1) (zR zt 1) hs h_zI_6.1 t_7 t_8) ⟨va_cnB 2 hts ggX2_take_X10_copyRow rfl rfl rfl (n0_20 hN) (hts (.initialized RX10) (by decide +kernel)) (by decide +kernel) ⟨(Nat.le_of_ble_eq_true rfl), (Nat.le_of_ble_eq_true rfl)⟩, hts (.static yX10_copyRow) (by decide +kernel), trivial⟩ (PRE.s hP hK hD hN) rfl rfl hl.1 rfl (lv_room (Nat.le_of_ble_eq_true rfl)) dX2_take_19 ⟨(Nat.le_of_ble_eq_true rfl), (Nat.le_of_ble_eq_true rfl)⟩) hP hD hS hA (fun zI_12 H locs hw_10 hP hD hS => ?_)
  have k_zI_12 : WM [2500] AL zT zR zI_6 zI_12 := hw_10
  have h_zI_12 : WM [306, 2400, 2500, 2600, 2700] AL zT zR zI zI_12 := h_zI_6.tr k_zI_12 (by decide) (fun _ _ => trivial)
  refine lv_aload_n hx hb dX2_take_22 rfl (lv_at hl 1 rfl) ?_
  refine ht_getr (C := RX2) (T := TX2) (N := 7) hx hb hts (by decide +kernel) hown hK hP hs t_zo (by decide) rfl rfl 2 (by decide) (hts (.fieldLink RX2 18 "DripStone$Dates" "froms" "[I") (by decide +kernel)) (fun _ h9 => h9) rfl dX2_take_23 ?_
  have t_13 : zT (zR zo 2) = 76 := sk_f hs t_zo (by decide) rfl (by decide)
  refine lv_aload_n hx hb dX2_take_26 rfl (lv_at hl 0 rfl) ?_
  refine ht_getr (C := RX2) (T := TX2) (N := 7) hx hb hts (by decide +kernel) hown hK hP hs t_zt (by decide) rfl rfl 2 (by decide) (hts (.fieldLink RX2 18 "DripStone$Dates" "froms" "[I") (by decide +kernel)) (fun _ h9 => h9) rfl dX2_take_27 ?_
  have t_14 : zT (zR zt 2) = 26 := sk_f hs t_zt (by decide) rfl (by decide)
  refine hj_v (ws := (WL cy zL zT zR zI_12 zJ)) (w1 := fun (u : (Nat → Nat → Int32)) => (WL cy zL zT zR u zJ)) (va_runSN (As := [.ref (zR zo 2), .ref (zR zt 2)]) (rest := []) ⟨hx, hb, hml, hown, hts⟩ (t_copyRow_76_26 l dC dI cy H.size zL zT zR zI_12 zJ (zR zo 2) (zR zt 2) hs h_zI_12.1 t_13 t_14) ⟨va_cnB 2 hts ggX2_take_X10_copyRow rfl rfl rfl (n0_20 hN) (hts (.initialized RX10) (by decide +kernel)) (by decide +kernel) ⟨(Nat.le_of_ble_eq_true rfl), (Nat.le_of_ble_eq_true rfl)⟩, hts (.static yX10_copyRow) (by decide +kernel), trivial⟩ (PRE.s hP hK hD hN) rfl rfl hl.1 rfl (lv_room (Nat.le_of_ble_eq_true rfl)) dX2_take_30 ⟨(Nat.le_of_ble_eq_true rfl), (Nat.le_of_ble_eq_true rfl)⟩) hP hD hS hA (fun zI_18 H locs hw_16 hP hD hS => ?_)
  have k_zI_18 : WM [2600] AL zT zR zI_12 zI_18 := hw_16
  have h_zI_18 : WM [306, 2400, 2500, 2600, 2700] AL zT zR zI zI_18 := h_zI_12.tr k_zI_18 (by decide) (fun _ _ => trivial)
  refine lv_aload_n hx hb dX2_take_33 rfl (lv_at hl 1 rfl) ?_
  refine ht_getr (C := RX2) (T := TX2) (N := 7) hx hb hts (by decide +kernel) hown hK hP hs t_zo (by decide) rfl rfl 3 (by decide) (hts (.fieldLink RX2 21 "DripStone$Dates" "tos" "[I") (by decide +kernel)) (fun _ h9 => h9) rfl dX2_take_34 ?_
  have t_19 : zT (zR zo 3) = 76 := sk_f hs t_zo (by decide) rfl (by decide)
  refine lv_aload_n hx hb dX2_take_37 rfl (lv_at hl 0 rfl) ?_
  refine ht_getr (C := RX2) (T := TX2) (N := 7) hx hb hts (by decide +kernel) hown hK hP hs t_zt (by decide) rfl rfl 3 (by decide) (hts (.fieldLink RX2 21 "DripStone$Dates" "tos" "[I") (by decide +kernel)) (fun _ h9 => h9) rfl dX2_take_38 ?_
  have t_20 : zT (zR zt 3) = 26 := sk_f hs t_zt (by decide) rfl (by decide)
  refine hj_v (ws := (WL cy zL zT zR zI_18 zJ)) (w1 := fun (u : (Nat → Nat → Int32)) => (WL cy zL zT zR u zJ)) (va_runSN (As := [.ref (zR zo 3), .ref (zR zt 3)]) (rest := []) ⟨hx, hb, hml, hown, hts⟩ (t_copyRow_76_26 l dC dI cy H.size zL zT zR zI_18 zJ (zR zo 3) (zR zt 3) hs h_zI_18.1 t_19 t_20) ⟨va_cnB 2 hts ggX2_take_X10_copyRow rfl rfl rfl (n0_20 hN) (hts (.initialized RX10) (by decide +kernel)) (by decide +kernel) ⟨(Nat.le_of_ble_eq_true rfl), (Nat.le_of_ble_eq_true rfl)⟩, hts (.static yX10_copyRow) (by decide +kernel), trivial⟩ (PRE.s hP hK hD hN) rfl rfl hl.1 rfl (lv_room (Nat.le_of_ble_eq_true rfl)) dX2_take_41 ⟨(Nat.le_of_ble_eq_true rfl), (Nat.le_of_ble_eq_true rfl)⟩) hP hD hS hA (fun zI_24 H locs hw_22 hP hD hS => ?_)
  have k_zI_24 : WM [2600] AL zT zR zI_18 zI_24 := hw_22
  have h_zI_24 : WM [306, 2400, 2500, 2600, 2700] AL zT zR zI zI_24 := h_zI_18.tr k_zI_24 (by decide) (fun _ _ => trivial)
  refine lv_aload_n hx hb dX2_take_44 rfl (lv_at hl 1 rfl) ?_
  refine ht_getr (C := RX2) (T := TX2) (N := 7) hx hb hts (by decide +kernel) hown hK hP hs t_zo (by decide) rfl rfl 4 (by decide) (hts (.fieldLink RX2 24 "DripStone$Dates" "dirts" "[I") (by decide +kernel)) (fun _ h9 => h9) rfl dX2_take_45 ?_
  have t_25 : zT (zR zo 4) = 77 := sk_f hs t_zo (by decide) rfl (by decide)
  refine lv_aload_n hx hb dX2_take_48 rfl (lv_at hl 0 rfl) ?_
  refine ht_getr (C := RX2) (T := TX2) (N := 7) hx hb hts (by decide +kernel) hown hK hP hs t_zt (by decide) rfl rfl 4 (by decide) (hts (.fieldLink RX2 24 "DripStone$Dates" "dirts" "[I") (by decide +kernel)) (fun _ h9 => h9) rfl dX2_take_49 ?_
  have t_26 : zT (zR zt 4) = 27 := sk_f hs t_zt (by decide) rfl (by decide)
  refine hj_v (ws := (WL cy zL zT zR zI_24 zJ)) (w1 := fun (u : (Nat → Nat → Int32)) => (WL cy zL zT zR u zJ)) (va_runSN (As := [.ref (zR zo 4), .ref (zR zt 4)]) (rest := []) ⟨hx, hb, hml, hown, hts⟩ (t_copyRow_77_27 l dC dI cy H.size zL zT zR zI_24 zJ (zR zo 4) (zR zt 4) hs h_zI_24.1 t_25 t_26) ⟨va_cnB 2 hts ggX2_take_X10_copyRow rfl rfl rfl (n0_20 hN) (hts (.initialized RX10) (by decide +kernel)) (by decide +kernel) ⟨(Nat.le_of_ble_eq_true rfl), (Nat.le_of_ble_eq_true rfl)⟩, hts (.static yX10_copyRow) (by decide +kernel), trivial⟩ (PRE.s hP hK hD hN) rfl rfl hl.1 rfl (lv_room (Nat.le_of_ble_eq_true rfl)) dX2_take_52 ⟨(Nat.le_of_ble_eq_true rfl), (Nat.le_of_ble_eq_true rfl)⟩) hP hD hS hA (fun zI_30 H locs hw_28 hP hD hS => ?_)
  have k_zI_30 : WM [2700] AL zT zR zI_24 zI_30 := hw_28
  have h_zI_30 : WM [306, 2400, 2500, 2600, 2700] AL zT zR zI zI_30 := h_zI_24.tr k_zI_30 (by decide) (fun _ _ => trivial)
  refine lv_aload_n hx hb dX2_take_55 rfl (lv_at hl 1 rfl) ?_
  refine ht_getr (C := RX2) (T := TX2) (N := 7) hx hb hts (by decide +kernel) hown hK hP hs t_zo (by decide) rfl rfl 5 (by decide) (hts (.fieldLink RX2 27 "DripStone$Dates" "reasons" "[I") (by decide +kernel)) (fun _ h9 => h9) rfl dX2_take_56 ?_
  have t_31 : zT (zR zo 5) = 77 := sk_f hs t_zo (by decide) rfl (by decide)
  refine lv_aload_n hx hb dX2_take_59 rfl (lv_at hl 0 rfl) ?_
  refine ht_getr (C := RX2) (T := TX2) (N := 7) hx hb hts (by decide +kernel) hown hK hP hs t_zt (by decide) rfl rfl 5 (by decide) (hts (.fieldLink RX2 27 "DripStone$Dates" "reasons" "[I") (by decide +kernel)) (fun _ h9 => h9) rfl dX2_take_60 ?_
  have t_32 : zT (zR zt 5) = 27 := sk_f hs t_zt (by decide) rfl (by decide)
  refine hj_v (ws := (WL cy zL zT zR zI_30 zJ)) (w1 := fun (u : (Nat → Nat → Int32)) => (WL cy zL zT zR u zJ)) (va_runSN (As := [.ref (zR zo 5), .ref (zR zt 5)]) (rest := []) ⟨hx, hb, hml, hown, hts⟩ (t_copyRow_77_27 l dC dI cy H.size zL zT zR zI_30 zJ (zR zo 5) (zR zt 5) hs h_zI_30.1 t_31 t_32) ⟨va_cnB 2 hts ggX2_take_X10_copyRow rfl rfl rfl (n0_20 hN) (hts (.initialized RX10) (by decide +kernel)) (by decide +kernel) ⟨(Nat.le_of_ble_eq_true rfl), (Nat.le_of_ble_eq_true rfl)⟩, hts (.static yX10_copyRow) (by decide +kernel), trivial⟩ (PRE.s hP hK hD hN) rfl rfl hl.1 rfl (lv_room (Nat.le_of_ble_eq_true rfl)) dX2_take_63 ⟨(Nat.le_of_ble_eq_true rfl), (Nat.le_of_ble_eq_true rfl)⟩) hP hD hS hA (fun zI_36 H locs hw_34 hP hD hS => ?_)
  have k_zI_36 : WM [2700] AL zT zR zI_30 zI_36 := hw_34
  have h_zI_36 : WM [306, 2400, 2500, 2600, 2700] AL zT zR zI zI_36 := h_zI_30.tr k_zI_36 (by decide) (fun _ _ => trivial)
  refine lv_aload_n hx hb dX2_take_66 rfl (lv_at hl 0 rfl) ?_
  refine lv_aload_n hx hb dX2_take_67 rfl (lv_at hl 1 rfl) ?_
  refine ht_geti (C := RX2) (T := TX2) (N := 7) hx hb hts (by decide +kernel) hown hK hP hs t_zo (by decide) rfl rfl 6 (by decide) (hts (.fieldLink RX2 30 "DripStone$Dates" "held" "I") (by decide +kernel)) (fun _ h9 => h9) rfl dX2_take_68 ?_
  refine lv_topi (fun zi_37 ezi_37 => ?_)
  have tzi_37 : 0 ≤ zi_37.toInt ∧ zi_37.toInt ≤ 8 := by rw [ezi_37]; exact h_zI_36.at t_zo _ rfl
  refine ht_puti (v := zi_37) (ty := .int) (C := RX2) (T := TX2) (N := 7) hx hb hts (by decide +kernel) tyX2 tyX2_ok nmX2 hown hK hP hD hS hs t_zt (by decide) rfl rfl 6 (by decide) (hts (.fieldLink RX2 30 "DripStone$Dates" "held" "I") (by decide +kernel)) (fun _ h9 => h9) rfl (by decide +kernel) rfl rfl rfl dX2_take_71 (fun H locs hP hD hS => ?_)
  have h_zI_38 : WM [306, 2400, 2500, 2600, 2700] AL zT zR zI (u2 zI_36 zt 6 zi_37) := h_zI_36.put hs t_zt rfl (by omega) (by decide) (fun h => absurd h (by decide)) (by decide) trivial
  generalize uzI_38 : u2 zI_36 zt 6 zi_37 = zI_38 at hP hD h_zI_38
  subst hQ
  exact W.vret hx hb hr (fun t ht hW => ⟨⟨zI_38, rfl, h_zI_38, ⟨by rw [ht]; exact hP, va_K.moved hW.alike hK, hD⟩⟩, hS.F ht⟩) hS.2.2 dX2_take_74
set_option maxHeartbeats 8000000 in
set_option maxRecDepth 100000 in
theorem t_X2_take_16_3 (l : Launch) (dC : Nat → ClassId) (dI : Nat → Nat → Nat) (cy : Nat → ClassId) (sz : Nat) (zL : List Nat) (zT : Nat → Nat) (zR : Nat → Nat → Nat) (zI : Nat → Nat → Int32) (zJ : Nat → Nat → Int64) (zt : Nat) (zo : Nat) (hs : SKP zL zT zR) (hw : WT zT zR zI) (t_zt : zT zt = 16) (t_zo : zT zo = 3) : Met l yX2_take wsX2_take ({ frames := 2, cells := 0, slots := 0, locals := 51 } : Room) (va_Pc [.ref zt, .ref zo] (PRE dC dI cy (WL cy zL zT zR zI zJ) sz)) (va_Qv (fun (u : (Nat → Nat → Int32)) => (WM [1606, 7400, 7500, 7600, 7700] AL zT zR zI u)) (fun u t => POST dC dI cy (va_A (WL cy zL zT zR zI zJ) sz) (WL cy zL zT zR u zJ) t) (va_A (WL cy zL zT zR zI zJ) sz)) 0 0 (va_A (WL cy zL zT zR zI zJ) sz) := by
  refine Met.ofW (cc := cX2_take) (maxL := 2) (ret := none) (by decide) rfl ?_
  intro p e s m args below meth c s₁ B hml hv
  obtain ⟨rfl, hsz, hP, hK, hD0, hN⟩ := hv
  have hx := B.exec
  have hb := B.bytes
  have hr := B.returns
  have hts := atoms_spec (ws := wsX2_take) B.pre
  have hown : s.vm.findClass RX2 = some m.cls := findClass_of_methodNamed B.named
  have hlocks := B.notSynchronized
  subst hsz
  have hD := hD0.self (sz := s.heap.size)
  generalize hAe : va_A (WL cy zL zT zR zI zJ) s.heap.size = A at hD ⊢
  have hA : ∀ q : Nat, s.heap.size ≤ q → A q := fun q h => by rw [← hAe]; exact Or.inr h
  have hS : va_S A s.heap s.heap [] := va_S.rf
  have hP : va_P (dC, dI) vwCl (WL cy zL zT zR zI zJ) s.heap := hP
  have hl := lv_entry ([.ref zt, .ref zo] : List Value) (n := 2) (Nat.le_of_ble_eq_true rfl)
  rw [lg_entry_eq]
  generalize (lg_sl ([.ref zt, .ref zo] : List Value) ++ List.replicate (2 - (lg_sl ([.ref zt, .ref zo] : List Value)).length) Slot.unset).toArray = ls at hl ⊢
  have hl : lv_has ls 2 [(0, .ref zt), (1, .ref zo)] := hl
  refine w_q (fun Q hQ => ?_)
  have h_zI : WM [1606, 7400, 7500, 7600, 7700] AL zT zR zI zI := WM.rf hw
  refine lv_aload_n hx hb dX2_take_0 rfl (lv_at hl 1 rfl) ?_
  refine ht_getr (C := RX2) (T := TX2) (N := 7) hx hb hts (by decide +kernel) hown hK hP hs t_zo (by decide) rfl rfl 0 (by decide) (hts (.fieldLink RX2 9 "DripStone$Dates" "candles" "[I") (by decide +kernel)) (fun _ h9 => h9) rfl dX2_take_1 ?_
  have t_1 : zT (zR zo 0) = 24 := sk_f hs t_zo (by decide) rfl (by decide)
  refine lv_aload_n hx hb dX2_take_4 rfl (lv_at hl 0 rfl) ?_
  refine ht_getr (C := RX2) (T := TX2) (N := 7) hx hb hts (by decide +kernel) hown hK hP hs t_zt (by decide) rfl rfl 0 (by decide) (hts (.fieldLink RX2 9 "DripStone$Dates" "candles" "[I") (by decide +kernel)) (fun _ h9 => h9) rfl dX2_take_5 ?_
  have t_2 : zT (zR zt 0) = 74 := sk_f hs t_zt (by decide) rfl (by decide)
  refine hj_v (ws := (WL cy zL zT zR zI zJ)) (w1 := fun (u : (Nat → Nat → Int32)) => (WL cy zL zT zR u zJ)) (va_runSN (As := [.ref (zR zo 0), .ref (zR zt 0)]) (rest := []) ⟨hx, hb, hml, hown, hts⟩ (t_copyRow_24_74 l dC dI cy s.heap.size zL zT zR zI zJ (zR zo 0) (zR zt 0) hs h_zI.1 t_1 t_2) ⟨va_cnB 2 hts ggX2_take_X10_copyRow rfl rfl rfl (n0_20 hN) (hts (.initialized RX10) (by decide +kernel)) (by decide +kernel) ⟨(Nat.le_of_ble_eq_true rfl), (Nat.le_of_ble_eq_true rfl)⟩, hts (.static yX10_copyRow) (by decide +kernel), trivial⟩ (PRE.s hP hK hD hN) rfl rfl hl.1 rfl (lv_room (Nat.le_of_ble_eq_true rfl)) dX2_take_8 ⟨(Nat.le_of_ble_eq_true rfl), (Nat.le_of_ble_eq_true rfl)⟩) hP hD hS hA (fun zI_6 H locs hw_4 hP hD hS => ?_)
  have k_zI_6 : WM [7400] AL zT zR zI zI_6 := hw_4
  have h_zI_6 : WM [1606, 7400, 7500, 7600, 7700] AL zT zR zI zI_6 := h_zI.tr k_zI_6 (by decide) (fun _ _ => trivial)
  refine lv_aload_n hx hb dX2_take_11 rfl (lv_at hl 1 rfl) ?_
  refine ht_getr (C := RX2) (T := TX2) (N := 7) hx hb hts (by decide +kernel) hown hK hP hs t_zo (by decide) rfl rfl 1 (by decide) (hts (.fieldLink RX2 15 "DripStone$Dates" "things" "[I") (by decide +kernel)) (fun _ h9 => h9) rfl dX2_take_12 ?_
  have t_7 : zT (zR zo 1) = 25 := sk_f hs t_zo (by decide) rfl (by decide)
  refine lv_aload_n hx hb dX2_take_15 rfl (lv_at hl 0 rfl) ?_
  refine ht_getr (C := RX2) (T := TX2) (N := 7) hx hb hts (by decide +kernel) hown hK hP hs t_zt (by decide) rfl rfl 1 (by decide) (hts (.fieldLink RX2 15 "DripStone$Dates" "things" "[I") (by decide +kernel)) (fun _ h9 => h9) rfl dX2_take_16 ?_
  have t_8 : zT (zR zt 1) = 75 := sk_f hs t_zt (by decide) rfl (by decide)
  refine hj_v (ws := (WL cy zL zT zR zI_6 zJ)) (w1 := fun (u : (Nat → Nat → Int32)) => (WL cy zL zT zR u zJ)) (va_runSN (As := [.ref (zR zo 1), .ref (zR zt 1)]) (rest := []) ⟨hx, hb, hml, hown, hts⟩ (t_copyRow_25_75 l dC dI cy H.size zL zT zR zI_6 zJ (zR zo 1) (zR zt 1) hs h_zI_6.1 t_7 t_8) ⟨va_cnB 2 hts ggX2_take_X10_copyRow rfl rfl rfl (n0_20 hN) (hts (.initialized RX10) (by decide +kernel)) (by decide +kernel) ⟨(Nat.le_of_ble_eq_true rfl), (Nat.le_of_ble_eq_true rfl)⟩, hts (.static yX10_copyRow) (by decide +kernel), trivial⟩ (PRE.s hP hK hD hN) rfl rfl hl.1 rfl (lv_room (Nat.le_of_ble_eq_true rfl)) dX2_take_19 ⟨(Nat.le_of_ble_eq_true rfl), (Nat.le_of_ble_eq_true rfl)⟩) hP hD hS hA (fun zI_12 H locs hw_10 hP hD hS => ?_)
  have k_zI_12 : WM [7500] AL zT zR zI_6 zI_12 := hw_10
  have h_zI_12 : WM [1606, 7400, 7500, 7600, 7700] AL zT zR zI zI_12 := h_zI_6.tr k_zI_12 (by decide) (fun _ _ => trivial)
  refine lv_aload_n hx hb dX2_take_22 rfl (lv_at hl 1 rfl) ?_
  refine ht_getr (C := RX2) (T := TX2) (N := 7) hx hb hts (by decide +kernel) hown hK hP hs t_zo (by decide) rfl rfl 2 (by decide) (hts (.fieldLink RX2 18 "DripStone$Dates" "froms" "[I") (by decide +kernel)) (fun _ h9 => h9) rfl dX2_take_23 ?_
  have t_13 : zT (zR zo 2) = 26 := sk_f hs t_zo (by decide) rfl (by decide)
  refine lv_aload_n hx hb dX2_take_26 rfl (lv_at hl 0 rfl) ?_
  refine ht_getr (C := RX2) (T := TX2) (N := 7) hx hb hts (by decide +kernel) hown hK hP hs t_zt (by decide) rfl rfl 2 (by decide) (hts (.fieldLink RX2 18 "DripStone$Dates" "froms" "[I") (by decide +kernel)) (fun _ h9 => h9) rfl dX2_take_27 ?_
  have t_14 : zT (zR zt 2) = 76 := sk_f hs t_zt (by decide) rfl (by decide)
  refine hj_v (ws := (WL cy zL zT zR zI_12 zJ)) (w1 := fun (u : (Nat → Nat → Int32)) => (WL cy zL zT zR u zJ)) (va_runSN (As := [.ref (zR zo 2), .ref (zR zt 2)]) (rest := []) ⟨hx, hb, hml, hown, hts⟩ (t_copyRow_26_76 l dC dI cy H.size zL zT zR zI_12 zJ (zR zo 2) (zR zt 2) hs h_zI_12.1 t_13 t_14) ⟨va_cnB 2 hts ggX2_take_X10_copyRow rfl rfl rfl (n0_20 hN) (hts (.initialized RX10) (by decide +kernel)) (by decide +kernel) ⟨(Nat.le_of_ble_eq_true rfl), (Nat.le_of_ble_eq_true rfl)⟩, hts (.static yX10_copyRow) (by decide +kernel), trivial⟩ (PRE.s hP hK hD hN) rfl rfl hl.1 rfl (lv_room (Nat.le_of_ble_eq_true rfl)) dX2_take_30 ⟨(Nat.le_of_ble_eq_true rfl), (Nat.le_of_ble_eq_true rfl)⟩) hP hD hS hA (fun zI_18 H locs hw_16 hP hD hS => ?_)
  have k_zI_18 : WM [7600] AL zT zR zI_12 zI_18 := hw_16
  have h_zI_18 : WM [1606, 7400, 7500, 7600, 7700] AL zT zR zI zI_18 := h_zI_12.tr k_zI_18 (by decide) (fun _ _ => trivial)
  refine lv_aload_n hx hb dX2_take_33 rfl (lv_at hl 1 rfl) ?_
  refine ht_getr (C := RX2) (T := TX2) (N := 7) hx hb hts (by decide +kernel) hown hK hP hs t_zo (by decide) rfl rfl 3 (by decide) (hts (.fieldLink RX2 21 "DripStone$Dates" "tos" "[I") (by decide +kernel)) (fun _ h9 => h9) rfl dX2_take_34 ?_
  have t_19 : zT (zR zo 3) = 26 := sk_f hs t_zo (by decide) rfl (by decide)
  refine lv_aload_n hx hb dX2_take_37 rfl (lv_at hl 0 rfl) ?_
  refine ht_getr (C := RX2) (T := TX2) (N := 7) hx hb hts (by decide +kernel) hown hK hP hs t_zt (by decide) rfl rfl 3 (by decide) (hts (.fieldLink RX2 21 "DripStone$Dates" "tos" "[I") (by decide +kernel)) (fun _ h9 => h9) rfl dX2_take_38 ?_
  have t_20 : zT (zR zt 3) = 76 := sk_f hs t_zt (by decide) rfl (by decide)
  refine hj_v (ws := (WL cy zL zT zR zI_18 zJ)) (w1 := fun (u : (Nat → Nat → Int32)) => (WL cy zL zT zR u zJ)) (va_runSN (As := [.ref (zR zo 3), .ref (zR zt 3)]) (rest := []) ⟨hx, hb, hml, hown, hts⟩ (t_copyRow_26_76 l dC dI cy H.size zL zT zR zI_18 zJ (zR zo 3) (zR zt 3) hs h_zI_18.1 t_19 t_20) ⟨va_cnB 2 hts ggX2_take_X10_copyRow rfl rfl rfl (n0_20 hN) (hts (.initialized RX10) (by decide +kernel)) (by decide +kernel) ⟨(Nat.le_of_ble_eq_true rfl), (Nat.le_of_ble_eq_true rfl)⟩, hts (.static yX10_copyRow) (by decide +kernel), trivial⟩ (PRE.s hP hK hD hN) rfl rfl hl.1 rfl (lv_room (Nat.le_of_ble_eq_true rfl)) dX2_take_41 ⟨(Nat.le_of_ble_eq_true rfl), (Nat.le_of_ble_eq_true rfl)⟩) hP hD hS hA (fun zI_24 H locs hw_22 hP hD hS => ?_)
  have k_zI_24 : WM [7600] AL zT zR zI_18 zI_24 := hw_22
  have h_zI_24 : WM [1606, 7400, 7500, 7600, 7700] AL zT zR zI zI_24 := h_zI_18.tr k_zI_24 (by decide) (fun _ _ => trivial)
  refine lv_aload_n hx hb dX2_take_44 rfl (lv_at hl 1 rfl) ?_
  refine ht_getr (C := RX2) (T := TX2) (N := 7) hx hb hts (by decide +kernel) hown hK hP hs t_zo (by decide) rfl rfl 4 (by decide) (hts (.fieldLink RX2 24 "DripStone$Dates" "dirts" "[I") (by decide +kernel)) (fun _ h9 => h9) rfl dX2_take_45 ?_
  have t_25 : zT (zR zo 4) = 27 := sk_f hs t_zo (by decide) rfl (by decide)
  refine lv_aload_n hx hb dX2_take_48 rfl (lv_at hl 0 rfl) ?_
  refine ht_getr (C := RX2) (T := TX2) (N := 7) hx hb hts (by decide +kernel) hown hK hP hs t_zt (by decide) rfl rfl 4 (by decide) (hts (.fieldLink RX2 24 "DripStone$Dates" "dirts" "[I") (by decide +kernel)) (fun _ h9 => h9) rfl dX2_take_49 ?_
  have t_26 : zT (zR zt 4) = 77 := sk_f hs t_zt (by decide) rfl (by decide)
  refine hj_v (ws := (WL cy zL zT zR zI_24 zJ)) (w1 := fun (u : (Nat → Nat → Int32)) => (WL cy zL zT zR u zJ)) (va_runSN (As := [.ref (zR zo 4), .ref (zR zt 4)]) (rest := []) ⟨hx, hb, hml, hown, hts⟩ (t_copyRow_27_77 l dC dI cy H.size zL zT zR zI_24 zJ (zR zo 4) (zR zt 4) hs h_zI_24.1 t_25 t_26) ⟨va_cnB 2 hts ggX2_take_X10_copyRow rfl rfl rfl (n0_20 hN) (hts (.initialized RX10) (by decide +kernel)) (by decide +kernel) ⟨(Nat.le_of_ble_eq_true rfl), (Nat.le_of_ble_eq_true rfl)⟩, hts (.static yX10_copyRow) (by decide +kernel), trivial⟩ (PRE.s hP hK hD hN) rfl rfl hl.1 rfl (lv_room (Nat.le_of_ble_eq_true rfl)) dX2_take_52 ⟨(Nat.le_of_ble_eq_true rfl), (Nat.le_of_ble_eq_true rfl)⟩) hP hD hS hA (fun zI_30 H locs hw_28 hP hD hS => ?_)
  have k_zI_30 : WM [7700] AL zT zR zI_24 zI_30 := hw_28
  have h_zI_30 : WM [1606, 7400, 7500, 7600, 7700] AL zT zR zI zI_30 := h_zI_24.tr k_zI_30 (by decide) (fun _ _ => trivial)
  refine lv_aload_n hx hb dX2_take_55 rfl (lv_at hl 1 rfl) ?_
  refine ht_getr (C := RX2) (T := TX2) (N := 7) hx hb hts (by decide +kernel) hown hK hP hs t_zo (by decide) rfl rfl 5 (by decide) (hts (.fieldLink RX2 27 "DripStone$Dates" "reasons" "[I") (by decide +kernel)) (fun _ h9 => h9) rfl dX2_take_56 ?_
  have t_31 : zT (zR zo 5) = 27 := sk_f hs t_zo (by decide) rfl (by decide)
  refine lv_aload_n hx hb dX2_take_59 rfl (lv_at hl 0 rfl) ?_
  refine ht_getr (C := RX2) (T := TX2) (N := 7) hx hb hts (by decide +kernel) hown hK hP hs t_zt (by decide) rfl rfl 5 (by decide) (hts (.fieldLink RX2 27 "DripStone$Dates" "reasons" "[I") (by decide +kernel)) (fun _ h9 => h9) rfl dX2_take_60 ?_
  have t_32 : zT (zR zt 5) = 77 := sk_f hs t_zt (by decide) rfl (by decide)
  refine hj_v (ws := (WL cy zL zT zR zI_30 zJ)) (w1 := fun (u : (Nat → Nat → Int32)) => (WL cy zL zT zR u zJ)) (va_runSN (As := [.ref (zR zo 5), .ref (zR zt 5)]) (rest := []) ⟨hx, hb, hml, hown, hts⟩ (t_copyRow_27_77 l dC dI cy H.size zL zT zR zI_30 zJ (zR zo 5) (zR zt 5) hs h_zI_30.1 t_31 t_32) ⟨va_cnB 2 hts ggX2_take_X10_copyRow rfl rfl rfl (n0_20 hN) (hts (.initialized RX10) (by decide +kernel)) (by decide +kernel) ⟨(Nat.le_of_ble_eq_true rfl), (Nat.le_of_ble_eq_true rfl)⟩, hts (.static yX10_copyRow) (by decide +kernel), trivial⟩ (PRE.s hP hK hD hN) rfl rfl hl.1 rfl (lv_room (Nat.le_of_ble_eq_true rfl)) dX2_take_63 ⟨(Nat.le_of_ble_eq_true rfl), (Nat.le_of_ble_eq_true rfl)⟩) hP hD hS hA (fun zI_36 H locs hw_34 hP hD hS => ?_)
  have k_zI_36 : WM [7700] AL zT zR zI_30 zI_36 := hw_34
  have h_zI_36 : WM [1606, 7400, 7500, 7600, 7700] AL zT zR zI zI_36 := h_zI_30.tr k_zI_36 (by decide) (fun _ _ => trivial)
  refine lv_aload_n hx hb dX2_take_66 rfl (lv_at hl 0 rfl) ?_
  refine lv_aload_n hx hb dX2_take_67 rfl (lv_at hl 1 rfl) ?_
  refine ht_geti (C := RX2) (T := TX2) (N := 7) hx hb hts (by decide +kernel) hown hK hP hs t_zo (by decide) rfl rfl 6 (by decide) (hts (.fieldLink RX2 30 "DripStone$Dates" "held" "I") (by decide +kernel)) (fun _ h9 => h9) rfl dX2_take_68 ?_
  refine lv_topi (fun zi_37 ezi_37 => ?_)
  have tzi_37 : 0 ≤ zi_37.toInt ∧ zi_37.toInt ≤ 8 := by rw [ezi_37]; exact h_zI_36.at t_zo _ rfl
  refine ht_puti (v := zi_37) (ty := .int) (C := RX2) (T := TX2) (N := 7) hx hb hts (by decide +kernel) tyX2 tyX2_ok nmX2 hown hK hP hD hS hs t_zt (by decide) rfl rfl 6 (by decide) (hts (.fieldLink RX2 30 "DripStone$Dates" "held" "I") (by decide +kernel)) (fun _ h9 => h9) rfl (by decide +kernel) rfl rfl rfl dX2_take_71 (fun H locs hP hD hS => ?_)
  have h_zI_38 : WM [1606, 7400, 7500, 7600, 7700] AL zT zR zI (u2 zI_36 zt 6 zi_37) := h_zI_36.put hs t_zt rfl (by omega) (by decide) (fun h => absurd h (by decide)) (by decide) trivial
  generalize uzI_38 : u2 zI_36 zt 6 zi_37 = zI_38 at hP hD h_zI_38
  subst hQ
  exact W.vret hx hb hr (fun t ht hW => ⟨⟨zI_38, rfl, h_zI_38, ⟨by rw [ht]; exact hP, va_K.moved hW.alike hK, hD⟩⟩, hS.F ht⟩) hS.2.2 dX2_take_74
set_option maxHeartbeats 8000000 in
set_option maxRecDepth 100000 in
theorem t_X0_take_1_15 (l : Launch) (dC : Nat → ClassId) (dI : Nat → Nat → Nat) (cy : Nat → ClassId) (sz : Nat) (zL : List Nat) (zT : Nat → Nat) (zR : Nat → Nat → Nat) (zI : Nat → Nat → Int32) (zJ : Nat → Nat → Int64) (zt : Nat) (zo : Nat) (hs : SKP zL zT zR) (hw : WT zT zR zI) (t_zt : zT zt = 1) (t_zo : zT zo = 15) : Met l yX0_take wsX0_take ({ frames := 2, cells := 0, slots := 0, locals := 51 } : Room) (va_Pc [.ref zt, .ref zo] (PRE dC dI cy (WL cy zL zT zR zI zJ) sz)) (va_Qv (fun (u : (Nat → Nat → Int32)) => (WM [107, 108, 109, 110, 2000, 2100, 2200, 2300] AL zT zR zI u) ∧ (u zt 9 = zI zo 9) ∧ (∀ a9 : Nat, zT a9 = 1 → ¬ a9 = zt → u a9 9 = zI a9 9)) (fun u t => POST dC dI cy (va_A (WL cy zL zT zR zI zJ) sz) (WL cy zL zT zR u zJ) t) (va_A (WL cy zL zT zR zI zJ) sz)) 0 0 (va_A (WL cy zL zT zR zI zJ) sz) := by
  refine Met.ofW (cc := cX0_take) (maxL := 2) (ret := none) (by decide) rfl ?_
  intro p e s m args below meth c s₁ B hml hv
  obtain ⟨rfl, hsz, hP, hK, hD0, hN⟩ := hv
  have hx := B.exec
  have hb := B.bytes
  have hr := B.returns
  have hts := atoms_spec (ws := wsX0_take) B.pre
  have hown : s.vm.findClass RX0 = some m.cls := findClass_of_methodNamed B.named
  have hlocks := B.notSynchronized
  subst hsz
  have hD := hD0.self (sz := s.heap.size)
  generalize hAe : va_A (WL cy zL zT zR zI zJ) s.heap.size = A at hD ⊢
  have hA : ∀ q : Nat, s.heap.size ≤ q → A q := fun q h => by rw [← hAe]; exact Or.inr h
  have hS : va_S A s.heap s.heap [] := va_S.rf
  have hP : va_P (dC, dI) vwCl (WL cy zL zT zR zI zJ) s.heap := hP
  have hl := lv_entry ([.ref zt, .ref zo] : List Value) (n := 2) (Nat.le_of_ble_eq_true rfl)
  rw [lg_entry_eq]
  generalize (lg_sl ([.ref zt, .ref zo] : List Value) ++ List.replicate (2 - (lg_sl ([.ref zt, .ref zo] : List Value)).length) Slot.unset).toArray = ls at hl ⊢
  have hl : lv_has ls 2 [(0, .ref zt), (1, .ref zo)] := hl
  refine w_q (fun Q hQ => ?_)
  have h_zI : WM [107, 108, 109, 110, 2000, 2100, 2200, 2300] AL zT zR zI zI := WM.rf hw
  refine lv_aload_n hx hb dX0_take_0 rfl (lv_at hl 1 rfl) ?_
  refine ht_getr (C := RX0) (T := TX0) (N := 11) hx hb hts (by decide +kernel) hown hK hP hs t_zo (by decide) rfl rfl 0 (by decide) (hts (.fieldLink RX0 9 "DripStone$Candle" "kinds" "[I") (by decide +kernel)) (fun _ h9 => h9) rfl dX0_take_1 ?_
  have t_1 : zT (zR zo 0) = 70 := sk_f hs t_zo (by decide) rfl (by decide)
  refine lv_aload_n hx hb dX0_take_4 rfl (lv_at hl 0 rfl) ?_
  refine ht_getr (C := RX0) (T := TX0) (N := 11) hx hb hts (by decide +kernel) hown hK hP hs t_zt (by decide) rfl rfl 0 (by decide) (hts (.fieldLink RX0 9 "DripStone$Candle" "kinds" "[I") (by decide +kernel)) (fun _ h9 => h9) rfl dX0_take_5 ?_
  have t_2 : zT (zR zt 0) = 20 := sk_f hs t_zt (by decide) rfl (by decide)
  refine hj_v (ws := (WL cy zL zT zR zI zJ)) (w1 := fun (u : (Nat → Nat → Int32)) => (WL cy zL zT zR u zJ)) (va_runSN (As := [.ref (zR zo 0), .ref (zR zt 0)]) (rest := []) ⟨hx, hb, hml, hown, hts⟩ (t_copyRow_70_20 l dC dI cy s.heap.size zL zT zR zI zJ (zR zo 0) (zR zt 0) hs h_zI.1 t_1 t_2) ⟨va_cnB 2 hts ggX0_take_X10_copyRow rfl rfl rfl (n0_21 hN) (hts (.initialized RX10) (by decide +kernel)) (by decide +kernel) ⟨(Nat.le_of_ble_eq_true rfl), (Nat.le_of_ble_eq_true rfl)⟩, hts (.static yX10_copyRow) (by decide +kernel), trivial⟩ (PRE.s hP hK hD hN) rfl rfl hl.1 rfl (lv_room (Nat.le_of_ble_eq_true rfl)) dX0_take_8 ⟨(Nat.le_of_ble_eq_true rfl), (Nat.le_of_ble_eq_true rfl)⟩) hP hD hS hA (fun zI_6 H locs hw_4 hP hD hS => ?_)
  have k_zI_6 : WM [2000] AL zT zR zI zI_6 := hw_4
  have h_zI_6 : WM [107, 108, 109, 110, 2000, 2100, 2200, 2300] AL zT zR zI zI_6 := h_zI.tr k_zI_6 (by decide) (fun _ _ => trivial)
  refine lv_aload_n hx hb dX0_take_11 rfl (lv_at hl 1 rfl) ?_
  refine ht_getr (C := RX0) (T := TX0) (N := 11) hx hb hts (by decide +kernel) hown hK hP hs t_zo (by decide) rfl rfl 1 (by decide) (hts (.fieldLink RX0 15 "DripStone$Candle" "weights" "[I") (by decide +kernel)) (fun _ h9 => h9) rfl dX0_take_12 ?_
  have t_7 : zT (zR zo 1) = 71 := sk_f hs t_zo (by decide) rfl (by decide)
  refine lv_aload_n hx hb dX0_take_15 rfl (lv_at hl 0 rfl) ?_
  refine ht_getr (C := RX0) (T := TX0) (N := 11) hx hb hts (by decide +kernel) hown hK hP hs t_zt (by decide) rfl rfl 1 (by decide) (hts (.fieldLink RX0 15 "DripStone$Candle" "weights" "[I") (by decide +kernel)) (fun _ h9 => h9) rfl dX0_take_16 ?_
  have t_8 : zT (zR zt 1) = 21 := sk_f hs t_zt (by decide) rfl (by decide)
  refine hj_v (ws := (WL cy zL zT zR zI_6 zJ)) (w1 := fun (u : (Nat → Nat → Int32)) => (WL cy zL zT zR u zJ)) (va_runSN (As := [.ref (zR zo 1), .ref (zR zt 1)]) (rest := []) ⟨hx, hb, hml, hown, hts⟩ (t_copyRow_71_21 l dC dI cy H.size zL zT zR zI_6 zJ (zR zo 1) (zR zt 1) hs h_zI_6.1 t_7 t_8) ⟨va_cnB 2 hts ggX0_take_X10_copyRow rfl rfl rfl (n0_21 hN) (hts (.initialized RX10) (by decide +kernel)) (by decide +kernel) ⟨(Nat.le_of_ble_eq_true rfl), (Nat.le_of_ble_eq_true rfl)⟩, hts (.static yX10_copyRow) (by decide +kernel), trivial⟩ (PRE.s hP hK hD hN) rfl rfl hl.1 rfl (lv_room (Nat.le_of_ble_eq_true rfl)) dX0_take_19 ⟨(Nat.le_of_ble_eq_true rfl), (Nat.le_of_ble_eq_true rfl)⟩) hP hD hS hA (fun zI_12 H locs hw_10 hP hD hS => ?_)
  have k_zI_12 : WM [2100] AL zT zR zI_6 zI_12 := hw_10
  have h_zI_12 : WM [107, 108, 109, 110, 2000, 2100, 2200, 2300] AL zT zR zI zI_12 := h_zI_6.tr k_zI_12 (by decide) (fun _ _ => trivial)
  refine lv_aload_n hx hb dX0_take_22 rfl (lv_at hl 1 rfl) ?_
  refine ht_getr (C := RX0) (T := TX0) (N := 11) hx hb hts (by decide +kernel) hown hK hP hs t_zo (by decide) rfl rfl 2 (by decide) (hts (.fieldLink RX0 18 "DripStone$Candle" "years" "[I") (by decide +kernel)) (fun _ h9 => h9) rfl dX0_take_23 ?_
  have t_13 : zT (zR zo 2) = 71 := sk_f hs t_zo (by decide) rfl (by decide)
  refine lv_aload_n hx hb dX0_take_26 rfl (lv_at hl 0 rfl) ?_
  refine ht_getr (C := RX0) (T := TX0) (N := 11) hx hb hts (by decide +kernel) hown hK hP hs t_zt (by decide) rfl rfl 2 (by decide) (hts (.fieldLink RX0 18 "DripStone$Candle" "years" "[I") (by decide +kernel)) (fun _ h9 => h9) rfl dX0_take_27 ?_
  have t_14 : zT (zR zt 2) = 21 := sk_f hs t_zt (by decide) rfl (by decide)
  refine hj_v (ws := (WL cy zL zT zR zI_12 zJ)) (w1 := fun (u : (Nat → Nat → Int32)) => (WL cy zL zT zR u zJ)) (va_runSN (As := [.ref (zR zo 2), .ref (zR zt 2)]) (rest := []) ⟨hx, hb, hml, hown, hts⟩ (t_copyRow_71_21 l dC dI cy H.size zL zT zR zI_12 zJ (zR zo 2) (zR zt 2) hs h_zI_12.1 t_13 t_14) ⟨va_cnB 2 hts ggX0_take_X10_copyRow rfl rfl rfl (n0_21 hN) (hts (.initialized RX10) (by decide +kernel)) (by decide +kernel) ⟨(Nat.le_of_ble_eq_true rfl), (Nat.le_of_ble_eq_true rfl)⟩, hts (.static yX10_copyRow) (by decide +kernel), trivial⟩ (PRE.s hP hK hD hN) rfl rfl hl.1 rfl (lv_room (Nat.le_of_ble_eq_true rfl)) dX0_take_30 ⟨(Nat.le_of_ble_eq_true rfl), (Nat.le_of_ble_eq_true rfl)⟩) hP hD hS hA (fun zI_18 H locs hw_16 hP hD hS => ?_)
  have k_zI_18 : WM [2100] AL zT zR zI_12 zI_18 := hw_16
  have h_zI_18 : WM [107, 108, 109, 110, 2000, 2100, 2200, 2300] AL zT zR zI zI_18 := h_zI_12.tr k_zI_18 (by decide) (fun _ _ => trivial)
  refine lv_aload_n hx hb dX0_take_33 rfl (lv_at hl 1 rfl) ?_
  refine ht_getr (C := RX0) (T := TX0) (N := 11) hx hb hts (by decide +kernel) hown hK hP hs t_zo (by decide) rfl rfl 3 (by decide) (hts (.fieldLink RX0 21 "DripStone$Candle" "stretchKinds" "[I") (by decide +kernel)) (fun _ h9 => h9) rfl dX0_take_34 ?_
  have t_19 : zT (zR zo 3) = 72 := sk_f hs t_zo (by decide) rfl (by decide)
  refine lv_aload_n hx hb dX0_take_37 rfl (lv_at hl 0 rfl) ?_
  refine ht_getr (C := RX0) (T := TX0) (N := 11) hx hb hts (by decide +kernel) hown hK hP hs t_zt (by decide) rfl rfl 3 (by decide) (hts (.fieldLink RX0 21 "DripStone$Candle" "stretchKinds" "[I") (by decide +kernel)) (fun _ h9 => h9) rfl dX0_take_38 ?_
  have t_20 : zT (zR zt 3) = 22 := sk_f hs t_zt (by decide) rfl (by decide)
  refine hj_v (ws := (WL cy zL zT zR zI_18 zJ)) (w1 := fun (u : (Nat → Nat → Int32)) => (WL cy zL zT zR u zJ)) (va_runSN (As := [.ref (zR zo 3), .ref (zR zt 3)]) (rest := []) ⟨hx, hb, hml, hown, hts⟩ (t_copyRow_72_22 l dC dI cy H.size zL zT zR zI_18 zJ (zR zo 3) (zR zt 3) hs h_zI_18.1 t_19 t_20) ⟨va_cnB 2 hts ggX0_take_X10_copyRow rfl rfl rfl (n0_21 hN) (hts (.initialized RX10) (by decide +kernel)) (by decide +kernel) ⟨(Nat.le_of_ble_eq_true rfl), (Nat.le_of_ble_eq_true rfl)⟩, hts (.static yX10_copyRow) (by decide +kernel), trivial⟩ (PRE.s hP hK hD hN) rfl rfl hl.1 rfl (lv_room (Nat.le_of_ble_eq_true rfl)) dX0_take_41 ⟨(Nat.le_of_ble_eq_true rfl), (Nat.le_of_ble_eq_true rfl)⟩) hP hD hS hA (fun zI_24 H locs hw_22 hP hD hS => ?_)
  have k_zI_24 : WM [2200] AL zT zR zI_18 zI_24 := hw_22
  have h_zI_24 : WM [107, 108, 109, 110, 2000, 2100, 2200, 2300] AL zT zR zI zI_24 := h_zI_18.tr k_zI_24 (by decide) (fun _ _ => trivial)
  refine lv_aload_n hx hb dX0_take_44 rfl (lv_at hl 1 rfl) ?_
  refine ht_getr (C := RX0) (T := TX0) (N := 11) hx hb hts (by decide +kernel) hown hK hP hs t_zo (by decide) rfl rfl 4 (by decide) (hts (.fieldLink RX0 24 "DripStone$Candle" "firsts" "[I") (by decide +kernel)) (fun _ h9 => h9) rfl dX0_take_45 ?_
  have t_25 : zT (zR zo 4) = 72 := sk_f hs t_zo (by decide) rfl (by decide)
  refine lv_aload_n hx hb dX0_take_48 rfl (lv_at hl 0 rfl) ?_
  refine ht_getr (C := RX0) (T := TX0) (N := 11) hx hb hts (by decide +kernel) hown hK hP hs t_zt (by decide) rfl rfl 4 (by decide) (hts (.fieldLink RX0 24 "DripStone$Candle" "firsts" "[I") (by decide +kernel)) (fun _ h9 => h9) rfl dX0_take_49 ?_
  have t_26 : zT (zR zt 4) = 22 := sk_f hs t_zt (by decide) rfl (by decide)
  refine hj_v (ws := (WL cy zL zT zR zI_24 zJ)) (w1 := fun (u : (Nat → Nat → Int32)) => (WL cy zL zT zR u zJ)) (va_runSN (As := [.ref (zR zo 4), .ref (zR zt 4)]) (rest := []) ⟨hx, hb, hml, hown, hts⟩ (t_copyRow_72_22 l dC dI cy H.size zL zT zR zI_24 zJ (zR zo 4) (zR zt 4) hs h_zI_24.1 t_25 t_26) ⟨va_cnB 2 hts ggX0_take_X10_copyRow rfl rfl rfl (n0_21 hN) (hts (.initialized RX10) (by decide +kernel)) (by decide +kernel) ⟨(Nat.le_of_ble_eq_true rfl), (Nat.le_of_ble_eq_true rfl)⟩, hts (.static yX10_copyRow) (by decide +kernel), trivial⟩ (PRE.s hP hK hD hN) rfl rfl hl.1 rfl (lv_room (Nat.le_of_ble_eq_true rfl)) dX0_take_52 ⟨(Nat.le_of_ble_eq_true rfl), (Nat.le_of_ble_eq_true rfl)⟩) hP hD hS hA (fun zI_30 H locs hw_28 hP hD hS => ?_)
  have k_zI_30 : WM [2200] AL zT zR zI_24 zI_30 := hw_28
  have h_zI_30 : WM [107, 108, 109, 110, 2000, 2100, 2200, 2300] AL zT zR zI zI_30 := h_zI_24.tr k_zI_30 (by decide) (fun _ _ => trivial)
  refine lv_aload_n hx hb dX0_take_55 rfl (lv_at hl 1 rfl) ?_
  refine ht_getr (C := RX0) (T := TX0) (N := 11) hx hb hts (by decide +kernel) hown hK hP hs t_zo (by decide) rfl rfl 5 (by decide) (hts (.fieldLink RX0 27 "DripStone$Candle" "lasts" "[I") (by decide +kernel)) (fun _ h9 => h9) rfl dX0_take_56 ?_
  have t_31 : zT (zR zo 5) = 72 := sk_f hs t_zo (by decide) rfl (by decide)
  refine lv_aload_n hx hb dX0_take_59 rfl (lv_at hl 0 rfl) ?_
  refine ht_getr (C := RX0) (T := TX0) (N := 11) hx hb hts (by decide +kernel) hown hK hP hs t_zt (by decide) rfl rfl 5 (by decide) (hts (.fieldLink RX0 27 "DripStone$Candle" "lasts" "[I") (by decide +kernel)) (fun _ h9 => h9) rfl dX0_take_60 ?_
  have t_32 : zT (zR zt 5) = 22 := sk_f hs t_zt (by decide) rfl (by decide)
  refine hj_v (ws := (WL cy zL zT zR zI_30 zJ)) (w1 := fun (u : (Nat → Nat → Int32)) => (WL cy zL zT zR u zJ)) (va_runSN (As := [.ref (zR zo 5), .ref (zR zt 5)]) (rest := []) ⟨hx, hb, hml, hown, hts⟩ (t_copyRow_72_22 l dC dI cy H.size zL zT zR zI_30 zJ (zR zo 5) (zR zt 5) hs h_zI_30.1 t_31 t_32) ⟨va_cnB 2 hts ggX0_take_X10_copyRow rfl rfl rfl (n0_21 hN) (hts (.initialized RX10) (by decide +kernel)) (by decide +kernel) ⟨(Nat.le_of_ble_eq_true rfl), (Nat.le_of_ble_eq_true rfl)⟩, hts (.static yX10_copyRow) (by decide +kernel), trivial⟩ (PRE.s hP hK hD hN) rfl rfl hl.1 rfl (lv_room (Nat.le_of_ble_eq_true rfl)) dX0_take_63 ⟨(Nat.le_of_ble_eq_true rfl), (Nat.le_of_ble_eq_true rfl)⟩) hP hD hS hA (fun zI_36 H locs hw_34 hP hD hS => ?_)
  have k_zI_36 : WM [2200] AL zT zR zI_30 zI_36 := hw_34
  have h_zI_36 : WM [107, 108, 109, 110, 2000, 2100, 2200, 2300] AL zT zR zI zI_36 := h_zI_30.tr k_zI_36 (by decide) (fun _ _ => trivial)
  refine lv_aload_n hx hb dX0_take_66 rfl (lv_at hl 1 rfl) ?_
  refine ht_getr (C := RX0) (T := TX0) (N := 11) hx hb hts (by decide +kernel) hown hK hP hs t_zo (by decide) rfl rfl 6 (by decide) (hts (.fieldLink RX0 30 "DripStone$Candle" "sizes" "[I") (by decide +kernel)) (fun _ h9 => h9) rfl dX0_take_67 ?_
  have t_37 : zT (zR zo 6) = 73 := sk_f hs t_zo (by decide) rfl (by decide)
  refine lv_aload_n hx hb dX0_take_70 rfl (lv_at hl 0 rfl) ?_
  refine ht_getr (C := RX0) (T := TX0) (N := 11) hx hb hts (by decide +kernel) hown hK hP hs t_zt (by decide) rfl rfl 6 (by decide) (hts (.fieldLink RX0 30 "DripStone$Candle" "sizes" "[I") (by decide +kernel)) (fun _ h9 => h9) rfl dX0_take_71 ?_
  have t_38 : zT (zR zt 6) = 23 := sk_f hs t_zt (by decide) rfl (by decide)
  refine hj_v (ws := (WL cy zL zT zR zI_36 zJ)) (w1 := fun (u : (Nat → Nat → Int32)) => (WL cy zL zT zR u zJ)) (va_runSN (As := [.ref (zR zo 6), .ref (zR zt 6)]) (rest := []) ⟨hx, hb, hml, hown, hts⟩ (t_copyRow_73_23 l dC dI cy H.size zL zT zR zI_36 zJ (zR zo 6) (zR zt 6) hs h_zI_36.1 t_37 t_38) ⟨va_cnB 2 hts ggX0_take_X10_copyRow rfl rfl rfl (n0_21 hN) (hts (.initialized RX10) (by decide +kernel)) (by decide +kernel) ⟨(Nat.le_of_ble_eq_true rfl), (Nat.le_of_ble_eq_true rfl)⟩, hts (.static yX10_copyRow) (by decide +kernel), trivial⟩ (PRE.s hP hK hD hN) rfl rfl hl.1 rfl (lv_room (Nat.le_of_ble_eq_true rfl)) dX0_take_74 ⟨(Nat.le_of_ble_eq_true rfl), (Nat.le_of_ble_eq_true rfl)⟩) hP hD hS hA (fun zI_42 H locs hw_40 hP hD hS => ?_)
  have k_zI_42 : WM [2300] AL zT zR zI_36 zI_42 := hw_40
  have h_zI_42 : WM [107, 108, 109, 110, 2000, 2100, 2200, 2300] AL zT zR zI zI_42 := h_zI_36.tr k_zI_42 (by decide) (fun _ _ => trivial)
  refine lv_aload_n hx hb dX0_take_77 rfl (lv_at hl 0 rfl) ?_
  refine lv_aload_n hx hb dX0_take_78 rfl (lv_at hl 1 rfl) ?_
  refine ht_geti (C := RX0) (T := TX0) (N := 11) hx hb hts (by decide +kernel) hown hK hP hs t_zo (by decide) rfl rfl 7 (by decide) (hts (.fieldLink RX0 37 "DripStone$Candle" "things" "I") (by decide +kernel)) (fun _ h9 => h9) rfl dX0_take_79 ?_
  refine lv_topi (fun zi_43 ezi_43 => ?_)
  have tzi_43 : 0 ≤ zi_43.toInt ∧ zi_43.toInt ≤ 12 := by rw [ezi_43]; exact h_zI_42.at t_zo _ rfl
  refine ht_puti (v := zi_43) (ty := .int) (C := RX0) (T := TX0) (N := 11) hx hb hts (by decide +kernel) tyX0 tyX0_ok nmX0 hown hK hP hD hS hs t_zt (by decide) rfl rfl 7 (by decide) (hts (.fieldLink RX0 37 "DripStone$Candle" "things" "I") (by decide +kernel)) (fun _ h9 => h9) rfl (by decide +kernel) rfl rfl rfl dX0_take_82 (fun H locs hP hD hS => ?_)
  have h_zI_44 : WM [107, 108, 109, 110, 2000, 2100, 2200, 2300] AL zT zR zI (u2 zI_42 zt 7 zi_43) := h_zI_42.put hs t_zt rfl (by omega) (by decide) (fun h => absurd h (by decide)) (by decide) trivial
  generalize uzI_44 : u2 zI_42 zt 7 zi_43 = zI_44 at hP hD h_zI_44
  refine lv_aload_n hx hb dX0_take_85 rfl (lv_at hl 0 rfl) ?_
  refine lv_aload_n hx hb dX0_take_86 rfl (lv_at hl 1 rfl) ?_
  refine ht_geti (C := RX0) (T := TX0) (N := 11) hx hb hts (by decide +kernel) hown hK hP hs t_zo (by decide) rfl rfl 8 (by decide) (hts (.fieldLink RX0 44 "DripStone$Candle" "stretches" "I") (by decide +kernel)) (fun _ h9 => h9) rfl dX0_take_87 ?_
  refine lv_topi (fun zi_45 ezi_45 => ?_)
  have tzi_45 : 0 ≤ zi_45.toInt ∧ zi_45.toInt ≤ 6 := by rw [ezi_45]; exact h_zI_44.at t_zo _ rfl
  refine ht_puti (v := zi_45) (ty := .int) (C := RX0) (T := TX0) (N := 11) hx hb hts (by decide +kernel) tyX0 tyX0_ok nmX0 hown hK hP hD hS hs t_zt (by decide) rfl rfl 8 (by decide) (hts (.fieldLink RX0 44 "DripStone$Candle" "stretches" "I") (by decide +kernel)) (fun _ h9 => h9) rfl (by decide +kernel) rfl rfl rfl dX0_take_90 (fun H locs hP hD hS => ?_)
  have h_zI_46 : WM [107, 108, 109, 110, 2000, 2100, 2200, 2300] AL zT zR zI (u2 zI_44 zt 8 zi_45) := h_zI_44.put hs t_zt rfl (by omega) (by decide) (fun h => absurd h (by decide)) (by decide) trivial
  generalize uzI_46 : u2 zI_44 zt 8 zi_45 = zI_46 at hP hD h_zI_46
  refine lv_aload_n hx hb dX0_take_93 rfl (lv_at hl 0 rfl) ?_
  refine lv_aload_n hx hb dX0_take_94 rfl (lv_at hl 1 rfl) ?_
  refine ht_geti (C := RX0) (T := TX0) (N := 11) hx hb hts (by decide +kernel) hown hK hP hs t_zo (by decide) rfl rfl 9 (by decide) (hts (.fieldLink RX0 33 "DripStone$Candle" "most" "I") (by decide +kernel)) (fun _ h9 => h9) rfl dX0_take_95 ?_
  refine lv_topi (fun zi_47 ezi_47 => ?_)
  have tzi_47 : 1 ≤ zi_47.toInt ∧ zi_47.toInt ≤ 4 := by rw [ezi_47]; exact h_zI_46.at t_zo _ rfl
  refine ht_puti (v := zi_47) (ty := .int) (C := RX0) (T := TX0) (N := 11) hx hb hts (by decide +kernel) tyX0 tyX0_ok nmX0 hown hK hP hD hS hs t_zt (by decide) rfl rfl 9 (by decide) (hts (.fieldLink RX0 33 "DripStone$Candle" "most" "I") (by decide +kernel)) (fun _ h9 => h9) rfl (by decide +kernel) rfl rfl rfl dX0_take_98 (fun H locs hP hD hS => ?_)
  have h_zI_48 : WM [107, 108, 109, 110, 2000, 2100, 2200, 2300] AL zT zR zI (u2 zI_46 zt 9 zi_47) := h_zI_46.put hs t_zt rfl (by omega) (by decide) (fun h => absurd h (by decide)) (by decide) trivial
  generalize uzI_48 : u2 zI_46 zt 9 zi_47 = zI_48 at hP hD h_zI_48
  refine lv_aload_n hx hb dX0_take_101 rfl (lv_at hl 0 rfl) ?_
  refine lv_aload_n hx hb dX0_take_102 rfl (lv_at hl 1 rfl) ?_
  refine ht_geti (C := RX0) (T := TX0) (N := 11) hx hb hts (by decide +kernel) hown hK hP hs t_zo (by decide) rfl rfl 10 (by decide) (hts (.fieldLink RX0 47 "DripStone$Candle" "made" "Z") (by decide +kernel)) (fun _ h9 => h9) rfl dX0_take_103 ?_
  refine lv_topi (fun zi_49 ezi_49 => ?_)
  have tzi_49 : 0 ≤ zi_49.toInt ∧ zi_49.toInt ≤ 1 := by rw [ezi_49]; exact h_zI_48.at t_zo _ rfl
  refine ht_puti (v := zi_49) (ty := .boolean) (C := RX0) (T := TX0) (N := 11) hx hb hts (by decide +kernel) tyX0 tyX0_ok nmX0 hown hK hP hD hS hs t_zt (by decide) rfl rfl 10 (by decide) (hts (.fieldLink RX0 47 "DripStone$Candle" "made" "Z") (by decide +kernel)) (fun _ h9 => h9) rfl (by decide +kernel) (zb_n2 (by omega)) (zb_f2 (by omega)) rfl dX0_take_106 (fun H locs hP hD hS => ?_)
  have h_zI_50 : WM [107, 108, 109, 110, 2000, 2100, 2200, 2300] AL zT zR zI (u2 zI_48 zt 10 zi_49) := h_zI_48.put hs t_zt rfl (by omega) (by decide) (fun h => absurd h (by decide)) (by decide) trivial
  generalize uzI_50 : u2 zI_48 zt 10 zi_49 = zI_50 at hP hD h_zI_50
  subst hQ
  exact W.vret hx hb hr (fun t ht hW => ⟨⟨zI_50, rfl, ⟨h_zI_50, (show zI_50 zt 9 = zI zo 9 from ((show zI_50 zt 9 = zi_47 from ((show zI_50 zt 9 = zI_48 zt 9 from by rw [← uzI_50]; exact u2_k (by decide)).trans (by rw [← uzI_48]; exact u2_s))).trans (ezi_47.symm.symm.trans (h_zI_46.2 zo 9 (Or.inl (by rw [t_zo]; decide)))))), (show ∀ a9 : Nat, zT a9 = 1 → ¬ a9 = zt → zI_50 a9 9 = zI a9 9 from (fun a9 ta9 ha9 => ((show zI_50 a9 9 = zI_48 a9 9 from by rw [← uzI_50]; exact u2_n ha9).trans ((show zI_48 a9 9 = zI_46 a9 9 from by rw [← uzI_48]; exact u2_n ha9).trans ((show zI_46 a9 9 = zI_44 a9 9 from by rw [← uzI_46]; exact u2_n ha9).trans ((show zI_44 a9 9 = zI_42 a9 9 from by rw [← uzI_44]; exact u2_n ha9).trans ((k_zI_42.2 a9 9 (Or.inl (by rw [ta9]; decide))).trans ((k_zI_36.2 a9 9 (Or.inl (by rw [ta9]; decide))).trans ((k_zI_30.2 a9 9 (Or.inl (by rw [ta9]; decide))).trans ((k_zI_24.2 a9 9 (Or.inl (by rw [ta9]; decide))).trans ((k_zI_18.2 a9 9 (Or.inl (by rw [ta9]; decide))).trans ((k_zI_12.2 a9 9 (Or.inl (by rw [ta9]; decide))).trans ((k_zI_6.2 a9 9 (Or.inl (by rw [ta9]; decide))).trans rfl)))))))))))))⟩, ⟨by rw [ht]; exact hP, va_K.moved hW.alike hK, hD⟩⟩, hS.F ht⟩) hS.2.2 dX0_take_109
set_option maxHeartbeats 8000000 in
set_option maxRecDepth 100000 in
theorem t_X0_take_15_1 (l : Launch) (dC : Nat → ClassId) (dI : Nat → Nat → Nat) (cy : Nat → ClassId) (sz : Nat) (zL : List Nat) (zT : Nat → Nat) (zR : Nat → Nat → Nat) (zI : Nat → Nat → Int32) (zJ : Nat → Nat → Int64) (zt : Nat) (zo : Nat) (hs : SKP zL zT zR) (hw : WT zT zR zI) (t_zt : zT zt = 15) (t_zo : zT zo = 1) : Met l yX0_take wsX0_take ({ frames := 2, cells := 0, slots := 0, locals := 51 } : Room) (va_Pc [.ref zt, .ref zo] (PRE dC dI cy (WL cy zL zT zR zI zJ) sz)) (va_Qv (fun (u : (Nat → Nat → Int32)) => (WM [1507, 1508, 1509, 1510, 7000, 7100, 7200, 7300] AL zT zR zI u) ∧ (u zt 9 = zI zo 9) ∧ (∀ a9 : Nat, zT a9 = 15 → ¬ a9 = zt → u a9 9 = zI a9 9)) (fun u t => POST dC dI cy (va_A (WL cy zL zT zR zI zJ) sz) (WL cy zL zT zR u zJ) t) (va_A (WL cy zL zT zR zI zJ) sz)) 0 0 (va_A (WL cy zL zT zR zI zJ) sz) := by
  refine Met.ofW (cc := cX0_take) (maxL := 2) (ret := none) (by decide) rfl ?_
  intro p e s m args below meth c s₁ B hml hv
  obtain ⟨rfl, hsz, hP, hK, hD0, hN⟩ := hv
  have hx := B.exec
  have hb := B.bytes
  have hr := B.returns
  have hts := atoms_spec (ws := wsX0_take) B.pre
  have hown : s.vm.findClass RX0 = some m.cls := findClass_of_methodNamed B.named
  have hlocks := B.notSynchronized
  subst hsz
  have hD := hD0.self (sz := s.heap.size)
  generalize hAe : va_A (WL cy zL zT zR zI zJ) s.heap.size = A at hD ⊢
  have hA : ∀ q : Nat, s.heap.size ≤ q → A q := fun q h => by rw [← hAe]; exact Or.inr h
  have hS : va_S A s.heap s.heap [] := va_S.rf
  have hP : va_P (dC, dI) vwCl (WL cy zL zT zR zI zJ) s.heap := hP
  have hl := lv_entry ([.ref zt, .ref zo] : List Value) (n := 2) (Nat.le_of_ble_eq_true rfl)
  rw [lg_entry_eq]
  generalize (lg_sl ([.ref zt, .ref zo] : List Value) ++ List.replicate (2 - (lg_sl ([.ref zt, .ref zo] : List Value)).length) Slot.unset).toArray = ls at hl ⊢
  have hl : lv_has ls 2 [(0, .ref zt), (1, .ref zo)] := hl
  refine w_q (fun Q hQ => ?_)
  have h_zI : WM [1507, 1508, 1509, 1510, 7000, 7100, 7200, 7300] AL zT zR zI zI := WM.rf hw
  refine lv_aload_n hx hb dX0_take_0 rfl (lv_at hl 1 rfl) ?_
  refine ht_getr (C := RX0) (T := TX0) (N := 11) hx hb hts (by decide +kernel) hown hK hP hs t_zo (by decide) rfl rfl 0 (by decide) (hts (.fieldLink RX0 9 "DripStone$Candle" "kinds" "[I") (by decide +kernel)) (fun _ h9 => h9) rfl dX0_take_1 ?_
  have t_1 : zT (zR zo 0) = 20 := sk_f hs t_zo (by decide) rfl (by decide)
  refine lv_aload_n hx hb dX0_take_4 rfl (lv_at hl 0 rfl) ?_
  refine ht_getr (C := RX0) (T := TX0) (N := 11) hx hb hts (by decide +kernel) hown hK hP hs t_zt (by decide) rfl rfl 0 (by decide) (hts (.fieldLink RX0 9 "DripStone$Candle" "kinds" "[I") (by decide +kernel)) (fun _ h9 => h9) rfl dX0_take_5 ?_
  have t_2 : zT (zR zt 0) = 70 := sk_f hs t_zt (by decide) rfl (by decide)
  refine hj_v (ws := (WL cy zL zT zR zI zJ)) (w1 := fun (u : (Nat → Nat → Int32)) => (WL cy zL zT zR u zJ)) (va_runSN (As := [.ref (zR zo 0), .ref (zR zt 0)]) (rest := []) ⟨hx, hb, hml, hown, hts⟩ (t_copyRow_20_70 l dC dI cy s.heap.size zL zT zR zI zJ (zR zo 0) (zR zt 0) hs h_zI.1 t_1 t_2) ⟨va_cnB 2 hts ggX0_take_X10_copyRow rfl rfl rfl (n0_21 hN) (hts (.initialized RX10) (by decide +kernel)) (by decide +kernel) ⟨(Nat.le_of_ble_eq_true rfl), (Nat.le_of_ble_eq_true rfl)⟩, hts (.static yX10_copyRow) (by decide +kernel), trivial⟩ (PRE.s hP hK hD hN) rfl rfl hl.1 rfl (lv_room (Nat.le_of_ble_eq_true rfl)) dX0_take_8 ⟨(Nat.le_of_ble_eq_true rfl), (Nat.le_of_ble_eq_true rfl)⟩) hP hD hS hA (fun zI_6 H locs hw_4 hP hD hS => ?_)
  have k_zI_6 : WM [7000] AL zT zR zI zI_6 := hw_4
  have h_zI_6 : WM [1507, 1508, 1509, 1510, 7000, 7100, 7200, 7300] AL zT zR zI zI_6 := h_zI.tr k_zI_6 (by decide) (fun _ _ => trivial)
  refine lv_aload_n hx hb dX0_take_11 rfl (lv_at hl 1 rfl) ?_
  refine ht_getr (C := RX0) (T := TX0) (N := 11) hx hb hts (by decide +kernel) hown hK hP hs t_zo (by decide) rfl rfl 1 (by decide) (hts (.fieldLink RX0 15 "DripStone$Candle" "weights" "[I") (by decide +kernel)) (fun _ h9 => h9) rfl dX0_take_12 ?_
  have t_7 : zT (zR zo 1) = 21 := sk_f hs t_zo (by decide) rfl (by decide)
  refine lv_aload_n hx hb dX0_take_15 rfl (lv_at hl 0 rfl) ?_
  refine ht_getr (C := RX0) (T := TX0) (N := 11) hx hb hts (by decide +kernel) hown hK hP hs t_zt (by decide) rfl rfl 1 (by decide) (hts (.fieldLink RX0 15 "DripStone$Candle" "weights" "[I") (by decide +kernel)) (fun _ h9 => h9) rfl dX0_take_16 ?_
  have t_8 : zT (zR zt 1) = 71 := sk_f hs t_zt (by decide) rfl (by decide)
  refine hj_v (ws := (WL cy zL zT zR zI_6 zJ)) (w1 := fun (u : (Nat → Nat → Int32)) => (WL cy zL zT zR u zJ)) (va_runSN (As := [.ref (zR zo 1), .ref (zR zt 1)]) (rest := []) ⟨hx, hb, hml, hown, hts⟩ (t_copyRow_21_71 l dC dI cy H.size zL zT zR zI_6 zJ (zR zo 1) (zR zt 1) hs h_zI_6.1 t_7 t_8) ⟨va_cnB 2 hts ggX0_take_X10_copyRow rfl rfl rfl (n0_21 hN) (hts (.initialized RX10) (by decide +kernel)) (by decide +kernel) ⟨(Nat.le_of_ble_eq_true rfl), (Nat.le_of_ble_eq_true rfl)⟩, hts (.static yX10_copyRow) (by decide +kernel), trivial⟩ (PRE.s hP hK hD hN) rfl rfl hl.1 rfl (lv_room (Nat.le_of_ble_eq_true rfl)) dX0_take_19 ⟨(Nat.le_of_ble_eq_true rfl), (Nat.le_of_ble_eq_true rfl)⟩) hP hD hS hA (fun zI_12 H locs hw_10 hP hD hS => ?_)
  have k_zI_12 : WM [7100] AL zT zR zI_6 zI_12 := hw_10
  have h_zI_12 : WM [1507, 1508, 1509, 1510, 7000, 7100, 7200, 7300] AL zT zR zI zI_12 := h_zI_6.tr k_zI_12 (by decide) (fun _ _ => trivial)
  refine lv_aload_n hx hb dX0_take_22 rfl (lv_at hl 1 rfl) ?_
  refine ht_getr (C := RX0) (T := TX0) (N := 11) hx hb hts (by decide +kernel) hown hK hP hs t_zo (by decide) rfl rfl 2 (by decide) (hts (.fieldLink RX0 18 "DripStone$Candle" "years" "[I") (by decide +kernel)) (fun _ h9 => h9) rfl dX0_take_23 ?_
  have t_13 : zT (zR zo 2) = 21 := sk_f hs t_zo (by decide) rfl (by decide)
  refine lv_aload_n hx hb dX0_take_26 rfl (lv_at hl 0 rfl) ?_
  refine ht_getr (C := RX0) (T := TX0) (N := 11) hx hb hts (by decide +kernel) hown hK hP hs t_zt (by decide) rfl rfl 2 (by decide) (hts (.fieldLink RX0 18 "DripStone$Candle" "years" "[I") (by decide +kernel)) (fun _ h9 => h9) rfl dX0_take_27 ?_
  have t_14 : zT (zR zt 2) = 71 := sk_f hs t_zt (by decide) rfl (by decide)
  refine hj_v (ws := (WL cy zL zT zR zI_12 zJ)) (w1 := fun (u : (Nat → Nat → Int32)) => (WL cy zL zT zR u zJ)) (va_runSN (As := [.ref (zR zo 2), .ref (zR zt 2)]) (rest := []) ⟨hx, hb, hml, hown, hts⟩ (t_copyRow_21_71 l dC dI cy H.size zL zT zR zI_12 zJ (zR zo 2) (zR zt 2) hs h_zI_12.1 t_13 t_14) ⟨va_cnB 2 hts ggX0_take_X10_copyRow rfl rfl rfl (n0_21 hN) (hts (.initialized RX10) (by decide +kernel)) (by decide +kernel) ⟨(Nat.le_of_ble_eq_true rfl), (Nat.le_of_ble_eq_true rfl)⟩, hts (.static yX10_copyRow) (by decide +kernel), trivial⟩ (PRE.s hP hK hD hN) rfl rfl hl.1 rfl (lv_room (Nat.le_of_ble_eq_true rfl)) dX0_take_30 ⟨(Nat.le_of_ble_eq_true rfl), (Nat.le_of_ble_eq_true rfl)⟩) hP hD hS hA (fun zI_18 H locs hw_16 hP hD hS => ?_)
  have k_zI_18 : WM [7100] AL zT zR zI_12 zI_18 := hw_16
  have h_zI_18 : WM [1507, 1508, 1509, 1510, 7000, 7100, 7200, 7300] AL zT zR zI zI_18 := h_zI_12.tr k_zI_18 (by decide) (fun _ _ => trivial)
  refine lv_aload_n hx hb dX0_take_33 rfl (lv_at hl 1 rfl) ?_
  refine ht_getr (C := RX0) (T := TX0) (N := 11) hx hb hts (by decide +kernel) hown hK hP hs t_zo (by decide) rfl rfl 3 (by decide) (hts (.fieldLink RX0 21 "DripStone$Candle" "stretchKinds" "[I") (by decide +kernel)) (fun _ h9 => h9) rfl dX0_take_34 ?_
  have t_19 : zT (zR zo 3) = 22 := sk_f hs t_zo (by decide) rfl (by decide)
  refine lv_aload_n hx hb dX0_take_37 rfl (lv_at hl 0 rfl) ?_
  refine ht_getr (C := RX0) (T := TX0) (N := 11) hx hb hts (by decide +kernel) hown hK hP hs t_zt (by decide) rfl rfl 3 (by decide) (hts (.fieldLink RX0 21 "DripStone$Candle" "stretchKinds" "[I") (by decide +kernel)) (fun _ h9 => h9) rfl dX0_take_38 ?_
  have t_20 : zT (zR zt 3) = 72 := sk_f hs t_zt (by decide) rfl (by decide)
  refine hj_v (ws := (WL cy zL zT zR zI_18 zJ)) (w1 := fun (u : (Nat → Nat → Int32)) => (WL cy zL zT zR u zJ)) (va_runSN (As := [.ref (zR zo 3), .ref (zR zt 3)]) (rest := []) ⟨hx, hb, hml, hown, hts⟩ (t_copyRow_22_72 l dC dI cy H.size zL zT zR zI_18 zJ (zR zo 3) (zR zt 3) hs h_zI_18.1 t_19 t_20) ⟨va_cnB 2 hts ggX0_take_X10_copyRow rfl rfl rfl (n0_21 hN) (hts (.initialized RX10) (by decide +kernel)) (by decide +kernel) ⟨(Nat.le_of_ble_eq_true rfl), (Nat.le_of_ble_eq_true rfl)⟩, hts (.static yX10_copyRow) (by decide +kernel), trivial⟩ (PRE.s hP hK hD hN) rfl rfl hl.1 rfl (lv_room (Nat.le_of_ble_eq_true rfl)) dX0_take_41 ⟨(Nat.le_of_ble_eq_true rfl), (Nat.le_of_ble_eq_true rfl)⟩) hP hD hS hA (fun zI_24 H locs hw_22 hP hD hS => ?_)
  have k_zI_24 : WM [7200] AL zT zR zI_18 zI_24 := hw_22
  have h_zI_24 : WM [1507, 1508, 1509, 1510, 7000, 7100, 7200, 7300] AL zT zR zI zI_24 := h_zI_18.tr k_zI_24 (by decide) (fun _ _ => trivial)
  refine lv_aload_n hx hb dX0_take_44 rfl (lv_at hl 1 rfl) ?_
  refine ht_getr (C := RX0) (T := TX0) (N := 11) hx hb hts (by decide +kernel) hown hK hP hs t_zo (by decide) rfl rfl 4 (by decide) (hts (.fieldLink RX0 24 "DripStone$Candle" "firsts" "[I") (by decide +kernel)) (fun _ h9 => h9) rfl dX0_take_45 ?_
  have t_25 : zT (zR zo 4) = 22 := sk_f hs t_zo (by decide) rfl (by decide)
  refine lv_aload_n hx hb dX0_take_48 rfl (lv_at hl 0 rfl) ?_
  refine ht_getr (C := RX0) (T := TX0) (N := 11) hx hb hts (by decide +kernel) hown hK hP hs t_zt (by decide) rfl rfl 4 (by decide) (hts (.fieldLink RX0 24 "DripStone$Candle" "firsts" "[I") (by decide +kernel)) (fun _ h9 => h9) rfl dX0_take_49 ?_
  have t_26 : zT (zR zt 4) = 72 := sk_f hs t_zt (by decide) rfl (by decide)
  refine hj_v (ws := (WL cy zL zT zR zI_24 zJ)) (w1 := fun (u : (Nat → Nat → Int32)) => (WL cy zL zT zR u zJ)) (va_runSN (As := [.ref (zR zo 4), .ref (zR zt 4)]) (rest := []) ⟨hx, hb, hml, hown, hts⟩ (t_copyRow_22_72 l dC dI cy H.size zL zT zR zI_24 zJ (zR zo 4) (zR zt 4) hs h_zI_24.1 t_25 t_26) ⟨va_cnB 2 hts ggX0_take_X10_copyRow rfl rfl rfl (n0_21 hN) (hts (.initialized RX10) (by decide +kernel)) (by decide +kernel) ⟨(Nat.le_of_ble_eq_true rfl), (Nat.le_of_ble_eq_true rfl)⟩, hts (.static yX10_copyRow) (by decide +kernel), trivial⟩ (PRE.s hP hK hD hN) rfl rfl hl.1 rfl (lv_room (Nat.le_of_ble_eq_true rfl)) dX0_take_52 ⟨(Nat.le_of_ble_eq_true rfl), (Nat.le_of_ble_eq_true rfl)⟩) hP hD hS hA (fun zI_30 H locs hw_28 hP hD hS => ?_)
  have k_zI_30 : WM [7200] AL zT zR zI_24 zI_30 := hw_28
  have h_zI_30 : WM [1507, 1508, 1509, 1510, 7000, 7100, 7200, 7300] AL zT zR zI zI_30 := h_zI_24.tr k_zI_30 (by decide) (fun _ _ => trivial)
  refine lv_aload_n hx hb dX0_take_55 rfl (lv_at hl 1 rfl) ?_
  refine ht_getr (C := RX0) (T := TX0) (N := 11) hx hb hts (by decide +kernel) hown hK hP hs t_zo (by decide) rfl rfl 5 (by decide) (hts (.fieldLink RX0 27 "DripStone$Candle" "lasts" "[I") (by decide +kernel)) (fun _ h9 => h9) rfl dX0_take_56 ?_
  have t_31 : zT (zR zo 5) = 22 := sk_f hs t_zo (by decide) rfl (by decide)
  refine lv_aload_n hx hb dX0_take_59 rfl (lv_at hl 0 rfl) ?_
  refine ht_getr (C := RX0) (T := TX0) (N := 11) hx hb hts (by decide +kernel) hown hK hP hs t_zt (by decide) rfl rfl 5 (by decide) (hts (.fieldLink RX0 27 "DripStone$Candle" "lasts" "[I") (by decide +kernel)) (fun _ h9 => h9) rfl dX0_take_60 ?_
  have t_32 : zT (zR zt 5) = 72 := sk_f hs t_zt (by decide) rfl (by decide)
  refine hj_v (ws := (WL cy zL zT zR zI_30 zJ)) (w1 := fun (u : (Nat → Nat → Int32)) => (WL cy zL zT zR u zJ)) (va_runSN (As := [.ref (zR zo 5), .ref (zR zt 5)]) (rest := []) ⟨hx, hb, hml, hown, hts⟩ (t_copyRow_22_72 l dC dI cy H.size zL zT zR zI_30 zJ (zR zo 5) (zR zt 5) hs h_zI_30.1 t_31 t_32) ⟨va_cnB 2 hts ggX0_take_X10_copyRow rfl rfl rfl (n0_21 hN) (hts (.initialized RX10) (by decide +kernel)) (by decide +kernel) ⟨(Nat.le_of_ble_eq_true rfl), (Nat.le_of_ble_eq_true rfl)⟩, hts (.static yX10_copyRow) (by decide +kernel), trivial⟩ (PRE.s hP hK hD hN) rfl rfl hl.1 rfl (lv_room (Nat.le_of_ble_eq_true rfl)) dX0_take_63 ⟨(Nat.le_of_ble_eq_true rfl), (Nat.le_of_ble_eq_true rfl)⟩) hP hD hS hA (fun zI_36 H locs hw_34 hP hD hS => ?_)
  have k_zI_36 : WM [7200] AL zT zR zI_30 zI_36 := hw_34
  have h_zI_36 : WM [1507, 1508, 1509, 1510, 7000, 7100, 7200, 7300] AL zT zR zI zI_36 := h_zI_30.tr k_zI_36 (by decide) (fun _ _ => trivial)
  refine lv_aload_n hx hb dX0_take_66 rfl (lv_at hl 1 rfl) ?_
  refine ht_getr (C := RX0) (T := TX0) (N := 11) hx hb hts (by decide +kernel) hown hK hP hs t_zo (by decide) rfl rfl 6 (by decide) (hts (.fieldLink RX0 30 "DripStone$Candle" "sizes" "[I") (by decide +kernel)) (fun _ h9 => h9) rfl dX0_take_67 ?_
  have t_37 : zT (zR zo 6) = 23 := sk_f hs t_zo (by decide) rfl (by decide)
  refine lv_aload_n hx hb dX0_take_70 rfl (lv_at hl 0 rfl) ?_
  refine ht_getr (C := RX0) (T := TX0) (N := 11) hx hb hts (by decide +kernel) hown hK hP hs t_zt (by decide) rfl rfl 6 (by decide) (hts (.fieldLink RX0 30 "DripStone$Candle" "sizes" "[I") (by decide +kernel)) (fun _ h9 => h9) rfl dX0_take_71 ?_
  have t_38 : zT (zR zt 6) = 73 := sk_f hs t_zt (by decide) rfl (by decide)
  refine hj_v (ws := (WL cy zL zT zR zI_36 zJ)) (w1 := fun (u : (Nat → Nat → Int32)) => (WL cy zL zT zR u zJ)) (va_runSN (As := [.ref (zR zo 6), .ref (zR zt 6)]) (rest := []) ⟨hx, hb, hml, hown, hts⟩ (t_copyRow_23_73 l dC dI cy H.size zL zT zR zI_36 zJ (zR zo 6) (zR zt 6) hs h_zI_36.1 t_37 t_38) ⟨va_cnB 2 hts ggX0_take_X10_copyRow rfl rfl rfl (n0_21 hN) (hts (.initialized RX10) (by decide +kernel)) (by decide +kernel) ⟨(Nat.le_of_ble_eq_true rfl), (Nat.le_of_ble_eq_true rfl)⟩, hts (.static yX10_copyRow) (by decide +kernel), trivial⟩ (PRE.s hP hK hD hN) rfl rfl hl.1 rfl (lv_room (Nat.le_of_ble_eq_true rfl)) dX0_take_74 ⟨(Nat.le_of_ble_eq_true rfl), (Nat.le_of_ble_eq_true rfl)⟩) hP hD hS hA (fun zI_42 H locs hw_40 hP hD hS => ?_)
  have k_zI_42 : WM [7300] AL zT zR zI_36 zI_42 := hw_40
  have h_zI_42 : WM [1507, 1508, 1509, 1510, 7000, 7100, 7200, 7300] AL zT zR zI zI_42 := h_zI_36.tr k_zI_42 (by decide) (fun _ _ => trivial)
  refine lv_aload_n hx hb dX0_take_77 rfl (lv_at hl 0 rfl) ?_
  refine lv_aload_n hx hb dX0_take_78 rfl (lv_at hl 1 rfl) ?_
  refine ht_geti (C := RX0) (T := TX0) (N := 11) hx hb hts (by decide +kernel) hown hK hP hs t_zo (by decide) rfl rfl 7 (by decide) (hts (.fieldLink RX0 37 "DripStone$Candle" "things" "I") (by decide +kernel)) (fun _ h9 => h9) rfl dX0_take_79 ?_
  refine lv_topi (fun zi_43 ezi_43 => ?_)
  have tzi_43 : 0 ≤ zi_43.toInt ∧ zi_43.toInt ≤ 12 := by rw [ezi_43]; exact h_zI_42.at t_zo _ rfl
  refine ht_puti (v := zi_43) (ty := .int) (C := RX0) (T := TX0) (N := 11) hx hb hts (by decide +kernel) tyX0 tyX0_ok nmX0 hown hK hP hD hS hs t_zt (by decide) rfl rfl 7 (by decide) (hts (.fieldLink RX0 37 "DripStone$Candle" "things" "I") (by decide +kernel)) (fun _ h9 => h9) rfl (by decide +kernel) rfl rfl rfl dX0_take_82 (fun H locs hP hD hS => ?_)
  have h_zI_44 : WM [1507, 1508, 1509, 1510, 7000, 7100, 7200, 7300] AL zT zR zI (u2 zI_42 zt 7 zi_43) := h_zI_42.put hs t_zt rfl (by omega) (by decide) (fun h => absurd h (by decide)) (by decide) trivial
  generalize uzI_44 : u2 zI_42 zt 7 zi_43 = zI_44 at hP hD h_zI_44
  refine lv_aload_n hx hb dX0_take_85 rfl (lv_at hl 0 rfl) ?_
  refine lv_aload_n hx hb dX0_take_86 rfl (lv_at hl 1 rfl) ?_
  refine ht_geti (C := RX0) (T := TX0) (N := 11) hx hb hts (by decide +kernel) hown hK hP hs t_zo (by decide) rfl rfl 8 (by decide) (hts (.fieldLink RX0 44 "DripStone$Candle" "stretches" "I") (by decide +kernel)) (fun _ h9 => h9) rfl dX0_take_87 ?_
  refine lv_topi (fun zi_45 ezi_45 => ?_)
  have tzi_45 : 0 ≤ zi_45.toInt ∧ zi_45.toInt ≤ 6 := by rw [ezi_45]; exact h_zI_44.at t_zo _ rfl
  refine ht_puti (v := zi_45) (ty := .int) (C := RX0) (T := TX0) (N := 11) hx hb hts (by decide +kernel) tyX0 tyX0_ok nmX0 hown hK hP hD hS hs t_zt (by decide) rfl rfl 8 (by decide) (hts (.fieldLink RX0 44 "DripStone$Candle" "stretches" "I") (by decide +kernel)) (fun _ h9 => h9) rfl (by decide +kernel) rfl rfl rfl dX0_take_90 (fun H locs hP hD hS => ?_)
  have h_zI_46 : WM [1507, 1508, 1509, 1510, 7000, 7100, 7200, 7300] AL zT zR zI (u2 zI_44 zt 8 zi_45) := h_zI_44.put hs t_zt rfl (by omega) (by decide) (fun h => absurd h (by decide)) (by decide) trivial
  generalize uzI_46 : u2 zI_44 zt 8 zi_45 = zI_46 at hP hD h_zI_46
  refine lv_aload_n hx hb dX0_take_93 rfl (lv_at hl 0 rfl) ?_
  refine lv_aload_n hx hb dX0_take_94 rfl (lv_at hl 1 rfl) ?_
  refine ht_geti (C := RX0) (T := TX0) (N := 11) hx hb hts (by decide +kernel) hown hK hP hs t_zo (by decide) rfl rfl 9 (by decide) (hts (.fieldLink RX0 33 "DripStone$Candle" "most" "I") (by decide +kernel)) (fun _ h9 => h9) rfl dX0_take_95 ?_
  refine lv_topi (fun zi_47 ezi_47 => ?_)
  have tzi_47 : 1 ≤ zi_47.toInt ∧ zi_47.toInt ≤ 4 := by rw [ezi_47]; exact h_zI_46.at t_zo _ rfl
  refine ht_puti (v := zi_47) (ty := .int) (C := RX0) (T := TX0) (N := 11) hx hb hts (by decide +kernel) tyX0 tyX0_ok nmX0 hown hK hP hD hS hs t_zt (by decide) rfl rfl 9 (by decide) (hts (.fieldLink RX0 33 "DripStone$Candle" "most" "I") (by decide +kernel)) (fun _ h9 => h9) rfl (by decide +kernel) rfl rfl rfl dX0_take_98 (fun H locs hP hD hS => ?_)
  have h_zI_48 : WM [1507, 1508, 1509, 1510, 7000, 7100, 7200, 7300] AL zT zR zI (u2 zI_46 zt 9 zi_47) := h_zI_46.put hs t_zt rfl (by omega) (by decide) (fun h => absurd h (by decide)) (by decide) trivial
  generalize uzI_48 : u2 zI_46 zt 9 zi_47 = zI_48 at hP hD h_zI_48
  refine lv_aload_n hx hb dX0_take_101 rfl (lv_at hl 0 rfl) ?_
  refine lv_aload_n hx hb dX0_take_102 rfl (lv_at hl 1 rfl) ?_
  refine ht_geti (C := RX0) (T := TX0) (N := 11) hx hb hts (by decide +kernel) hown hK hP hs t_zo (by decide) rfl rfl 10 (by decide) (hts (.fieldLink RX0 47 "DripStone$Candle" "made" "Z") (by decide +kernel)) (fun _ h9 => h9) rfl dX0_take_103 ?_
  refine lv_topi (fun zi_49 ezi_49 => ?_)
  have tzi_49 : 0 ≤ zi_49.toInt ∧ zi_49.toInt ≤ 1 := by rw [ezi_49]; exact h_zI_48.at t_zo _ rfl
  refine ht_puti (v := zi_49) (ty := .boolean) (C := RX0) (T := TX0) (N := 11) hx hb hts (by decide +kernel) tyX0 tyX0_ok nmX0 hown hK hP hD hS hs t_zt (by decide) rfl rfl 10 (by decide) (hts (.fieldLink RX0 47 "DripStone$Candle" "made" "Z") (by decide +kernel)) (fun _ h9 => h9) rfl (by decide +kernel) (zb_n2 (by omega)) (zb_f2 (by omega)) rfl dX0_take_106 (fun H locs hP hD hS => ?_)
  have h_zI_50 : WM [1507, 1508, 1509, 1510, 7000, 7100, 7200, 7300] AL zT zR zI (u2 zI_48 zt 10 zi_49) := h_zI_48.put hs t_zt rfl (by omega) (by decide) (fun h => absurd h (by decide)) (by decide) trivial
  generalize uzI_50 : u2 zI_48 zt 10 zi_49 = zI_50 at hP hD h_zI_50
  subst hQ
  exact W.vret hx hb hr (fun t ht hW => ⟨⟨zI_50, rfl, ⟨h_zI_50, (show zI_50 zt 9 = zI zo 9 from ((show zI_50 zt 9 = zi_47 from ((show zI_50 zt 9 = zI_48 zt 9 from by rw [← uzI_50]; exact u2_k (by decide)).trans (by rw [← uzI_48]; exact u2_s))).trans (ezi_47.symm.symm.trans (h_zI_46.2 zo 9 (Or.inl (by rw [t_zo]; decide)))))), (show ∀ a9 : Nat, zT a9 = 15 → ¬ a9 = zt → zI_50 a9 9 = zI a9 9 from (fun a9 ta9 ha9 => ((show zI_50 a9 9 = zI_48 a9 9 from by rw [← uzI_50]; exact u2_n ha9).trans ((show zI_48 a9 9 = zI_46 a9 9 from by rw [← uzI_48]; exact u2_n ha9).trans ((show zI_46 a9 9 = zI_44 a9 9 from by rw [← uzI_46]; exact u2_n ha9).trans ((show zI_44 a9 9 = zI_42 a9 9 from by rw [← uzI_44]; exact u2_n ha9).trans ((k_zI_42.2 a9 9 (Or.inl (by rw [ta9]; decide))).trans ((k_zI_36.2 a9 9 (Or.inl (by rw [ta9]; decide))).trans ((k_zI_30.2 a9 9 (Or.inl (by rw [ta9]; decide))).trans ((k_zI_24.2 a9 9 (Or.inl (by rw [ta9]; decide))).trans ((k_zI_18.2 a9 9 (Or.inl (by rw [ta9]; decide))).trans ((k_zI_12.2 a9 9 (Or.inl (by rw [ta9]; decide))).trans ((k_zI_6.2 a9 9 (Or.inl (by rw [ta9]; decide))).trans rfl)))))))))))))⟩, ⟨by rw [ht]; exact hP, va_K.moved hW.alike hK, hD⟩⟩, hS.F ht⟩) hS.2.2 dX0_take_109
set_option maxHeartbeats 8000000 in
set_option maxRecDepth 100000 in
theorem t_X1_take_2_17 (l : Launch) (dC : Nat → ClassId) (dI : Nat → Nat → Nat) (cy : Nat → ClassId) (sz : Nat) (zL : List Nat) (zT : Nat → Nat) (zR : Nat → Nat → Nat) (zI : Nat → Nat → Int32) (zJ : Nat → Nat → Int64) (zt : Nat) (zo : Nat) (hs : SKP zL zT zR) (hw : WT zT zR zI) (t_zt : zT zt = 2) (t_zo : zT zo = 17) : Met l yX1_take wsX1_take ({ frames := 2, cells := 0, slots := 0, locals := 51 } : Room) (va_Pc [.ref zt, .ref zo] (PRE dC dI cy (WL cy zL zT zR zI zJ) sz)) (va_Qv (fun (u : (Nat → Nat → Int32)) => (WM [206, 207, 3100, 3200, 3300] AL zT zR zI u)) (fun u t => POST dC dI cy (va_A (WL cy zL zT zR zI zJ) sz) (WL cy zL zT zR u zJ) t) (va_A (WL cy zL zT zR zI zJ) sz)) 0 0 (va_A (WL cy zL zT zR zI zJ) sz) := by
  refine Met.ofW (cc := cX1_take) (maxL := 3) (ret := none) (by decide) rfl ?_
  intro p e s m args below meth c s₁ B hml hv
  obtain ⟨rfl, hsz, hP, hK, hD0, hN⟩ := hv
  have hx := B.exec
  have hb := B.bytes
  have hr := B.returns
  have hts := atoms_spec (ws := wsX1_take) B.pre
  have hown : s.vm.findClass RX1 = some m.cls := findClass_of_methodNamed B.named
  have hlocks := B.notSynchronized
  subst hsz
  have hD := hD0.self (sz := s.heap.size)
  generalize hAe : va_A (WL cy zL zT zR zI zJ) s.heap.size = A at hD ⊢
  have hA : ∀ q : Nat, s.heap.size ≤ q → A q := fun q h => by rw [← hAe]; exact Or.inr h
  have hS : va_S A s.heap s.heap [] := va_S.rf
  have hP : va_P (dC, dI) vwCl (WL cy zL zT zR zI zJ) s.heap := hP
  have hl := lv_entry ([.ref zt, .ref zo] : List Value) (n := 3) (Nat.le_of_ble_eq_true rfl)
  rw [lg_entry_eq]
  generalize (lg_sl ([.ref zt, .ref zo] : List Value) ++ List.replicate (3 - (lg_sl ([.ref zt, .ref zo] : List Value)).length) Slot.unset).toArray = ls at hl ⊢
  have hl : lv_has ls 3 [(0, .ref zt), (1, .ref zo)] := hl
  refine w_q (fun Q hQ => ?_)
  have h_zI : WM [206, 207, 3100, 3200, 3300] AL zT zR zI zI := WM.rf hw
  refine lv_aload_n hx hb dX1_take_0 rfl (lv_at hl 1 rfl) ?_
  refine ht_getr (C := RX1) (T := TX1) (N := 8) hx hb hts (by decide +kernel) hown hK hP hs t_zo (by decide) rfl rfl 0 (by decide) (hts (.fieldLink RX1 9 "DripStone$Claim" "tests" "[I") (by decide +kernel)) (fun _ h9 => h9) rfl dX1_take_1 ?_
  have t_1 : zT (zR zo 0) = 81 := sk_f hs t_zo (by decide) rfl (by decide)
  refine lv_aload_n hx hb dX1_take_4 rfl (lv_at hl 0 rfl) ?_
  refine ht_getr (C := RX1) (T := TX1) (N := 8) hx hb hts (by decide +kernel) hown hK hP hs t_zt (by decide) rfl rfl 0 (by decide) (hts (.fieldLink RX1 9 "DripStone$Claim" "tests" "[I") (by decide +kernel)) (fun _ h9 => h9) rfl dX1_take_5 ?_
  have t_2 : zT (zR zt 0) = 31 := sk_f hs t_zt (by decide) rfl (by decide)
  refine hj_v (ws := (WL cy zL zT zR zI zJ)) (w1 := fun (u : (Nat → Nat → Int32)) => (WL cy zL zT zR u zJ)) (va_runSN (As := [.ref (zR zo 0), .ref (zR zt 0)]) (rest := []) ⟨hx, hb, hml, hown, hts⟩ (t_copyRow_81_31 l dC dI cy s.heap.size zL zT zR zI zJ (zR zo 0) (zR zt 0) hs h_zI.1 t_1 t_2) ⟨va_cnB 2 hts ggX1_take_X10_copyRow rfl rfl rfl (n0_19 hN) (hts (.initialized RX10) (by decide +kernel)) (by decide +kernel) ⟨(Nat.le_of_ble_eq_true rfl), (Nat.le_of_ble_eq_true rfl)⟩, hts (.static yX10_copyRow) (by decide +kernel), trivial⟩ (PRE.s hP hK hD hN) rfl rfl hl.1 rfl (lv_room (Nat.le_of_ble_eq_true rfl)) dX1_take_8 ⟨(Nat.le_of_ble_eq_true rfl), (Nat.le_of_ble_eq_true rfl)⟩) hP hD hS hA (fun zI_6 H locs hw_4 hP hD hS => ?_)
  have k_zI_6 : WM [3100] AL zT zR zI zI_6 := hw_4
  have h_zI_6 : WM [206, 207, 3100, 3200, 3300] AL zT zR zI zI_6 := h_zI.tr k_zI_6 (by decide) (fun _ _ => trivial)
  refine lv_aload_n hx hb dX1_take_11 rfl (lv_at hl 1 rfl) ?_
  refine ht_getr (C := RX1) (T := TX1) (N := 8) hx hb hts (by decide +kernel) hown hK hP hs t_zo (by decide) rfl rfl 1 (by decide) (hts (.fieldLink RX1 15 "DripStone$Claim" "weights" "[I") (by decide +kernel)) (fun _ h9 => h9) rfl dX1_take_12 ?_
  have t_7 : zT (zR zo 1) = 81 := sk_f hs t_zo (by decide) rfl (by decide)
  refine lv_aload_n hx hb dX1_take_15 rfl (lv_at hl 0 rfl) ?_
  refine ht_getr (C := RX1) (T := TX1) (N := 8) hx hb hts (by decide +kernel) hown hK hP hs t_zt (by decide) rfl rfl 1 (by decide) (hts (.fieldLink RX1 15 "DripStone$Claim" "weights" "[I") (by decide +kernel)) (fun _ h9 => h9) rfl dX1_take_16 ?_
  have t_8 : zT (zR zt 1) = 31 := sk_f hs t_zt (by decide) rfl (by decide)
  refine hj_v (ws := (WL cy zL zT zR zI_6 zJ)) (w1 := fun (u : (Nat → Nat → Int32)) => (WL cy zL zT zR u zJ)) (va_runSN (As := [.ref (zR zo 1), .ref (zR zt 1)]) (rest := []) ⟨hx, hb, hml, hown, hts⟩ (t_copyRow_81_31 l dC dI cy H.size zL zT zR zI_6 zJ (zR zo 1) (zR zt 1) hs h_zI_6.1 t_7 t_8) ⟨va_cnB 2 hts ggX1_take_X10_copyRow rfl rfl rfl (n0_19 hN) (hts (.initialized RX10) (by decide +kernel)) (by decide +kernel) ⟨(Nat.le_of_ble_eq_true rfl), (Nat.le_of_ble_eq_true rfl)⟩, hts (.static yX10_copyRow) (by decide +kernel), trivial⟩ (PRE.s hP hK hD hN) rfl rfl hl.1 rfl (lv_room (Nat.le_of_ble_eq_true rfl)) dX1_take_19 ⟨(Nat.le_of_ble_eq_true rfl), (Nat.le_of_ble_eq_true rfl)⟩) hP hD hS hA (fun zI_12 H locs hw_10 hP hD hS => ?_)
  have k_zI_12 : WM [3100] AL zT zR zI_6 zI_12 := hw_10
  have h_zI_12 : WM [206, 207, 3100, 3200, 3300] AL zT zR zI zI_12 := h_zI_6.tr k_zI_12 (by decide) (fun _ _ => trivial)
  refine lv_aload_n hx hb dX1_take_22 rfl (lv_at hl 1 rfl) ?_
  refine ht_getr (C := RX1) (T := TX1) (N := 8) hx hb hts (by decide +kernel) hown hK hP hs t_zo (by decide) rfl rfl 2 (by decide) (hts (.fieldLink RX1 18 "DripStone$Claim" "firsts" "[I") (by decide +kernel)) (fun _ h9 => h9) rfl dX1_take_23 ?_
  have t_13 : zT (zR zo 2) = 81 := sk_f hs t_zo (by decide) rfl (by decide)
  refine lv_aload_n hx hb dX1_take_26 rfl (lv_at hl 0 rfl) ?_
  refine ht_getr (C := RX1) (T := TX1) (N := 8) hx hb hts (by decide +kernel) hown hK hP hs t_zt (by decide) rfl rfl 2 (by decide) (hts (.fieldLink RX1 18 "DripStone$Claim" "firsts" "[I") (by decide +kernel)) (fun _ h9 => h9) rfl dX1_take_27 ?_
  have t_14 : zT (zR zt 2) = 31 := sk_f hs t_zt (by decide) rfl (by decide)
  refine hj_v (ws := (WL cy zL zT zR zI_12 zJ)) (w1 := fun (u : (Nat → Nat → Int32)) => (WL cy zL zT zR u zJ)) (va_runSN (As := [.ref (zR zo 2), .ref (zR zt 2)]) (rest := []) ⟨hx, hb, hml, hown, hts⟩ (t_copyRow_81_31 l dC dI cy H.size zL zT zR zI_12 zJ (zR zo 2) (zR zt 2) hs h_zI_12.1 t_13 t_14) ⟨va_cnB 2 hts ggX1_take_X10_copyRow rfl rfl rfl (n0_19 hN) (hts (.initialized RX10) (by decide +kernel)) (by decide +kernel) ⟨(Nat.le_of_ble_eq_true rfl), (Nat.le_of_ble_eq_true rfl)⟩, hts (.static yX10_copyRow) (by decide +kernel), trivial⟩ (PRE.s hP hK hD hN) rfl rfl hl.1 rfl (lv_room (Nat.le_of_ble_eq_true rfl)) dX1_take_30 ⟨(Nat.le_of_ble_eq_true rfl), (Nat.le_of_ble_eq_true rfl)⟩) hP hD hS hA (fun zI_18 H locs hw_16 hP hD hS => ?_)
  have k_zI_18 : WM [3100] AL zT zR zI_12 zI_18 := hw_16
  have h_zI_18 : WM [206, 207, 3100, 3200, 3300] AL zT zR zI zI_18 := h_zI_12.tr k_zI_18 (by decide) (fun _ _ => trivial)
  refine lv_aload_n hx hb dX1_take_33 rfl (lv_at hl 1 rfl) ?_
  refine ht_getr (C := RX1) (T := TX1) (N := 8) hx hb hts (by decide +kernel) hown hK hP hs t_zo (by decide) rfl rfl 3 (by decide) (hts (.fieldLink RX1 21 "DripStone$Claim" "lasts" "[I") (by decide +kernel)) (fun _ h9 => h9) rfl dX1_take_34 ?_
  have t_19 : zT (zR zo 3) = 81 := sk_f hs t_zo (by decide) rfl (by decide)
  refine lv_aload_n hx hb dX1_take_37 rfl (lv_at hl 0 rfl) ?_
  refine ht_getr (C := RX1) (T := TX1) (N := 8) hx hb hts (by decide +kernel) hown hK hP hs t_zt (by decide) rfl rfl 3 (by decide) (hts (.fieldLink RX1 21 "DripStone$Claim" "lasts" "[I") (by decide +kernel)) (fun _ h9 => h9) rfl dX1_take_38 ?_
  have t_20 : zT (zR zt 3) = 31 := sk_f hs t_zt (by decide) rfl (by decide)
  refine hj_v (ws := (WL cy zL zT zR zI_18 zJ)) (w1 := fun (u : (Nat → Nat → Int32)) => (WL cy zL zT zR u zJ)) (va_runSN (As := [.ref (zR zo 3), .ref (zR zt 3)]) (rest := []) ⟨hx, hb, hml, hown, hts⟩ (t_copyRow_81_31 l dC dI cy H.size zL zT zR zI_18 zJ (zR zo 3) (zR zt 3) hs h_zI_18.1 t_19 t_20) ⟨va_cnB 2 hts ggX1_take_X10_copyRow rfl rfl rfl (n0_19 hN) (hts (.initialized RX10) (by decide +kernel)) (by decide +kernel) ⟨(Nat.le_of_ble_eq_true rfl), (Nat.le_of_ble_eq_true rfl)⟩, hts (.static yX10_copyRow) (by decide +kernel), trivial⟩ (PRE.s hP hK hD hN) rfl rfl hl.1 rfl (lv_room (Nat.le_of_ble_eq_true rfl)) dX1_take_41 ⟨(Nat.le_of_ble_eq_true rfl), (Nat.le_of_ble_eq_true rfl)⟩) hP hD hS hA (fun zI_24 H locs hw_22 hP hD hS => ?_)
  have k_zI_24 : WM [3100] AL zT zR zI_18 zI_24 := hw_22
  have h_zI_24 : WM [206, 207, 3100, 3200, 3300] AL zT zR zI zI_24 := h_zI_18.tr k_zI_24 (by decide) (fun _ _ => trivial)
  refine lv_aload_n hx hb dX1_take_44 rfl (lv_at hl 1 rfl) ?_
  refine ht_getr (C := RX1) (T := TX1) (N := 8) hx hb hts (by decide +kernel) hown hK hP hs t_zo (by decide) rfl rfl 4 (by decide) (hts (.fieldLink RX1 24 "DripStone$Claim" "goals" "[I") (by decide +kernel)) (fun _ h9 => h9) rfl dX1_take_45 ?_
  have t_25 : zT (zR zo 4) = 82 := sk_f hs t_zo (by decide) rfl (by decide)
  refine lv_aload_n hx hb dX1_take_48 rfl (lv_at hl 0 rfl) ?_
  refine ht_getr (C := RX1) (T := TX1) (N := 8) hx hb hts (by decide +kernel) hown hK hP hs t_zt (by decide) rfl rfl 4 (by decide) (hts (.fieldLink RX1 24 "DripStone$Claim" "goals" "[I") (by decide +kernel)) (fun _ h9 => h9) rfl dX1_take_49 ?_
  have t_26 : zT (zR zt 4) = 32 := sk_f hs t_zt (by decide) rfl (by decide)
  refine hj_v (ws := (WL cy zL zT zR zI_24 zJ)) (w1 := fun (u : (Nat → Nat → Int32)) => (WL cy zL zT zR u zJ)) (va_runSN (As := [.ref (zR zo 4), .ref (zR zt 4)]) (rest := []) ⟨hx, hb, hml, hown, hts⟩ (t_copyRow_82_32 l dC dI cy H.size zL zT zR zI_24 zJ (zR zo 4) (zR zt 4) hs h_zI_24.1 t_25 t_26) ⟨va_cnB 2 hts ggX1_take_X10_copyRow rfl rfl rfl (n0_19 hN) (hts (.initialized RX10) (by decide +kernel)) (by decide +kernel) ⟨(Nat.le_of_ble_eq_true rfl), (Nat.le_of_ble_eq_true rfl)⟩, hts (.static yX10_copyRow) (by decide +kernel), trivial⟩ (PRE.s hP hK hD hN) rfl rfl hl.1 rfl (lv_room (Nat.le_of_ble_eq_true rfl)) dX1_take_52 ⟨(Nat.le_of_ble_eq_true rfl), (Nat.le_of_ble_eq_true rfl)⟩) hP hD hS hA (fun zI_30 H locs hw_28 hP hD hS => ?_)
  have k_zI_30 : WM [3200] AL zT zR zI_24 zI_30 := hw_28
  have h_zI_30 : WM [206, 207, 3100, 3200, 3300] AL zT zR zI zI_30 := h_zI_24.tr k_zI_30 (by decide) (fun _ _ => trivial)
  refine lv_iconst (v := 0) hx hb dX1_take_55 (by decide) ?_
  refine lv_istore_n (lv' := [(2, .int 0), (0, .ref zt), (1, .ref zo)]) hx hb dX1_take_56 rfl hl (by decide) rfl (fun ls hl => ?_)
  have lp_70 : ∀ (n : Nat) (zi_61 : Int32) (zI_62 : Nat → Nat → Int32) (H : Heap) (locs : List Loc) (ls : Array Slot), (2 - zi_61.toInt).toNat = n → (0 ≤ zi_61.toInt ∧ zi_61.toInt ≤ 2) → (WM [206, 207, 3100, 3200, 3300] AL zT zR zI zI_62) → va_P (dC, dI) vwCl (WL cy zL zT zR zI_62 zJ) H → va_D A (WL cy zL zT zR zI_62 zJ) → va_S A s.heap H locs → lv_has ls 3 [(0, .ref zt), (1, .ref zo), (2, .int zi_61)] → W p l e ({ frames := 2, cells := 0, slots := 0, locals := 51 } : Room) s m ([.ref zt, .ref zo] : List Value).toArray below meth c H locs 0 0 Q (F0 m 57 ls []) := by
    intro n
    induction n using Nat.strongRecOn with
    | _ n ih_70 =>
      intro zi_61 zI_62 H locs ls hn b_zi_61 h_zI_62 hP hD hS hl
      refine lv_iload_n hx hb dX1_take_57 rfl (lv_at hl 2 rfl) ?_
      refine lv_iconst (v := 2) hx hb dX1_take_58 (by decide) ?_
      refine lv_icmp_ge (tgt := 80) hx hb dX1_take_59 (by decide) (fun c_71 => ?_) (fun c_71 => ?_)
      · have f_72 : zi_61.toInt ≥ (2 : Int) := ic_ge (rfl) (show (2 : Int32).toInt = 2 by decide) c_71
        refine lv_aload_n hx hb dX1_take_80 rfl (lv_at hl 0 rfl) ?_
        refine lv_aload_n hx hb dX1_take_81 rfl (lv_at hl 1 rfl) ?_
        refine ht_geti (C := RX1) (T := TX1) (N := 8) hx hb hts (by decide +kernel) hown hK hP hs t_zo (by decide) rfl rfl 6 (by decide) (hts (.fieldLink RX1 56 "DripStone$Claim" "atoms" "I") (by decide +kernel)) (fun _ h9 => h9) rfl dX1_take_82 ?_
        refine lv_topi (fun zi_73 ezi_73 => ?_)
        have tzi_73 : 0 ≤ zi_73.toInt ∧ zi_73.toInt ≤ 2 := by rw [ezi_73]; exact h_zI_62.at t_zo _ rfl
        refine ht_puti (v := zi_73) (ty := .int) (C := RX1) (T := TX1) (N := 8) hx hb hts (by decide +kernel) tyX1 tyX1_ok nmX1 hown hK hP hD hS hs t_zt (by decide) rfl rfl 6 (by decide) (hts (.fieldLink RX1 56 "DripStone$Claim" "atoms" "I") (by decide +kernel)) (fun _ h9 => h9) rfl (by decide +kernel) rfl rfl rfl dX1_take_85 (fun H locs hP hD hS => ?_)
        have h_zI_74 : WM [206, 207, 3100, 3200, 3300] AL zT zR zI (u2 zI_62 zt 6 zi_73) := h_zI_62.put hs t_zt rfl (by omega) (by decide) (fun h => absurd h (by decide)) (by decide) trivial
        generalize uzI_74 : u2 zI_62 zt 6 zi_73 = zI_74 at hP hD h_zI_74
        refine lv_aload_n hx hb dX1_take_88 rfl (lv_at hl 0 rfl) ?_
        refine lv_aload_n hx hb dX1_take_89 rfl (lv_at hl 1 rfl) ?_
        refine ht_geti (C := RX1) (T := TX1) (N := 8) hx hb hts (by decide +kernel) hown hK hP hs t_zo (by decide) rfl rfl 7 (by decide) (hts (.fieldLink RX1 59 "DripStone$Claim" "either" "Z") (by decide +kernel)) (fun _ h9 => h9) rfl dX1_take_90 ?_
        refine lv_topi (fun zi_75 ezi_75 => ?_)
        have tzi_75 : 0 ≤ zi_75.toInt ∧ zi_75.toInt ≤ 1 := by rw [ezi_75]; exact h_zI_74.at t_zo _ rfl
        refine ht_puti (v := zi_75) (ty := .boolean) (C := RX1) (T := TX1) (N := 8) hx hb hts (by decide +kernel) tyX1 tyX1_ok nmX1 hown hK hP hD hS hs t_zt (by decide) rfl rfl 7 (by decide) (hts (.fieldLink RX1 59 "DripStone$Claim" "either" "Z") (by decide +kernel)) (fun _ h9 => h9) rfl (by decide +kernel) (zb_n2 (by omega)) (zb_f2 (by omega)) rfl dX1_take_93 (fun H locs hP hD hS => ?_)
        have h_zI_76 : WM [206, 207, 3100, 3200, 3300] AL zT zR zI (u2 zI_74 zt 7 zi_75) := h_zI_74.put hs t_zt rfl (by omega) (by decide) (fun h => absurd h (by decide)) (by decide) trivial
        generalize uzI_76 : u2 zI_74 zt 7 zi_75 = zI_76 at hP hD h_zI_76
        subst hQ
        exact W.vret hx hb hr (fun t ht hW => ⟨⟨zI_76, rfl, h_zI_76, ⟨by rw [ht]; exact hP, va_K.moved hW.alike hK, hD⟩⟩, hS.F ht⟩) hS.2.2 dX1_take_96
      · have f_72 : ¬ (zi_61.toInt ≥ (2 : Int)) := ic_nge (rfl) (show (2 : Int32).toInt = 2 by decide) c_71
        refine lv_aload_n hx hb dX1_take_62 rfl (lv_at hl 0 rfl) ?_
        refine ht_getr (C := RX1) (T := TX1) (N := 8) hx hb hts (by decide +kernel) hown hK hP hs t_zt (by decide) rfl rfl 5 (by decide) (hts (.fieldLink RX1 27 "DripStone$Claim" "negated" "[Z") (by decide +kernel)) (fun _ h9 => h9) rfl dX1_take_63 ?_
        have t_77 : zT (zR zt 5) = 33 := sk_f hs t_zt (by decide) rfl (by decide)
        refine lv_iload_n hx hb dX1_take_66 rfl (lv_at hl 2 rfl) ?_
        refine lv_aload_n hx hb dX1_take_67 rfl (lv_at hl 1 rfl) ?_
        refine ht_getr (C := RX1) (T := TX1) (N := 8) hx hb hts (by decide +kernel) hown hK hP hs t_zo (by decide) rfl rfl 5 (by decide) (hts (.fieldLink RX1 27 "DripStone$Claim" "negated" "[Z") (by decide +kernel)) (fun _ h9 => h9) rfl dX1_take_68 ?_
        have t_78 : zT (zR zo 5) = 83 := sk_f hs t_zo (by decide) rfl (by decide)
        refine lv_iload_n hx hb dX1_take_71 rfl (lv_at hl 2 rfl) ?_
        refine ht_zald (n := 2) (q := 2) hx hb hK hP hs t_78 (by decide) rfl rfl ⟨by omega, by omega⟩ dX1_take_72 ?_
        refine lv_topi (fun zi_79 ezi_79 => ?_)
        refine ht_zast (v := zi_79) (n := 2) (q := 2) hx hb hK hP hD hS hs t_77 (by decide) rfl rfl ⟨by omega, by omega⟩ dX1_take_73 (fun H locs hP hD hS => ?_)
        have h_zI_80 : WM [206, 207, 3100, 3200, 3300] AL zT zR zI (u2 zI_62 (zR zt 5) zi_61.toNatClampNeg (vp_nar .boolean zi_79)) := h_zI_62.putA hs t_77 rfl (rgF _) (by decide) (fun h => absurd h (by decide)) (by decide) trivial
        generalize uzI_80 : u2 zI_62 (zR zt 5) zi_61.toNatClampNeg (vp_nar .boolean zi_79) = zI_80 at hP hD h_zI_80
        obtain ⟨zi_81, ezi_81⟩ : ∃ y : Int32, y = zi_61 + 1 := ⟨_, rfl⟩
        have tzi_81 : zi_81.toInt = zi_61.toInt + 1 := by rw [ezi_81]; exact tadd rfl (show (1 : Int32).toInt = 1 by decide) (by omega) (by omega)
        refine lv_iinc (v := zi_81) (lv' := [(2, .int zi_81), (0, .ref zt), (1, .ref zo)]) hx hb dX1_take_74 hl (k := 2) rfl (by rw [ezi_81]; rfl) (by decide) rfl (fun ls hl => ?_)
        refine lv_goto (tgt := 57) hx hb dX1_take_77 (by decide) ?_
        exact ih_70 (2 - zi_81.toInt).toNat (by omega) zi_81 zI_80 _ _ _ rfl (by omega) h_zI_80 hP hD hS (lv_sub hl [1, 2, 0] rfl)
  exact lp_70 _ (0 : Int32) zI_30 _ _ _ rfl (by decide) h_zI_30 hP hD hS (lv_sub hl [1, 2, 0] rfl)
set_option maxHeartbeats 8000000 in
set_option maxRecDepth 100000 in
theorem t_X1_take_17_2 (l : Launch) (dC : Nat → ClassId) (dI : Nat → Nat → Nat) (cy : Nat → ClassId) (sz : Nat) (zL : List Nat) (zT : Nat → Nat) (zR : Nat → Nat → Nat) (zI : Nat → Nat → Int32) (zJ : Nat → Nat → Int64) (zt : Nat) (zo : Nat) (hs : SKP zL zT zR) (hw : WT zT zR zI) (t_zt : zT zt = 17) (t_zo : zT zo = 2) : Met l yX1_take wsX1_take ({ frames := 2, cells := 0, slots := 0, locals := 51 } : Room) (va_Pc [.ref zt, .ref zo] (PRE dC dI cy (WL cy zL zT zR zI zJ) sz)) (va_Qv (fun (u : (Nat → Nat → Int32)) => (WM [1706, 1707, 8100, 8200, 8300] AL zT zR zI u)) (fun u t => POST dC dI cy (va_A (WL cy zL zT zR zI zJ) sz) (WL cy zL zT zR u zJ) t) (va_A (WL cy zL zT zR zI zJ) sz)) 0 0 (va_A (WL cy zL zT zR zI zJ) sz) := by
  refine Met.ofW (cc := cX1_take) (maxL := 3) (ret := none) (by decide) rfl ?_
  intro p e s m args below meth c s₁ B hml hv
  obtain ⟨rfl, hsz, hP, hK, hD0, hN⟩ := hv
  have hx := B.exec
  have hb := B.bytes
  have hr := B.returns
  have hts := atoms_spec (ws := wsX1_take) B.pre
  have hown : s.vm.findClass RX1 = some m.cls := findClass_of_methodNamed B.named
  have hlocks := B.notSynchronized
  subst hsz
  have hD := hD0.self (sz := s.heap.size)
  generalize hAe : va_A (WL cy zL zT zR zI zJ) s.heap.size = A at hD ⊢
  have hA : ∀ q : Nat, s.heap.size ≤ q → A q := fun q h => by rw [← hAe]; exact Or.inr h
  have hS : va_S A s.heap s.heap [] := va_S.rf
  have hP : va_P (dC, dI) vwCl (WL cy zL zT zR zI zJ) s.heap := hP
  have hl := lv_entry ([.ref zt, .ref zo] : List Value) (n := 3) (Nat.le_of_ble_eq_true rfl)
  rw [lg_entry_eq]
  generalize (lg_sl ([.ref zt, .ref zo] : List Value) ++ List.replicate (3 - (lg_sl ([.ref zt, .ref zo] : List Value)).length) Slot.unset).toArray = ls at hl ⊢
  have hl : lv_has ls 3 [(0, .ref zt), (1, .ref zo)] := hl
  refine w_q (fun Q hQ => ?_)
  have h_zI : WM [1706, 1707, 8100, 8200, 8300] AL zT zR zI zI := WM.rf hw
  refine lv_aload_n hx hb dX1_take_0 rfl (lv_at hl 1 rfl) ?_
  refine ht_getr (C := RX1) (T := TX1) (N := 8) hx hb hts (by decide +kernel) hown hK hP hs t_zo (by decide) rfl rfl 0 (by decide) (hts (.fieldLink RX1 9 "DripStone$Claim" "tests" "[I") (by decide +kernel)) (fun _ h9 => h9) rfl dX1_take_1 ?_
  have t_1 : zT (zR zo 0) = 31 := sk_f hs t_zo (by decide) rfl (by decide)
  refine lv_aload_n hx hb dX1_take_4 rfl (lv_at hl 0 rfl) ?_
  refine ht_getr (C := RX1) (T := TX1) (N := 8) hx hb hts (by decide +kernel) hown hK hP hs t_zt (by decide) rfl rfl 0 (by decide) (hts (.fieldLink RX1 9 "DripStone$Claim" "tests" "[I") (by decide +kernel)) (fun _ h9 => h9) rfl dX1_take_5 ?_
  have t_2 : zT (zR zt 0) = 81 := sk_f hs t_zt (by decide) rfl (by decide)
  refine hj_v (ws := (WL cy zL zT zR zI zJ)) (w1 := fun (u : (Nat → Nat → Int32)) => (WL cy zL zT zR u zJ)) (va_runSN (As := [.ref (zR zo 0), .ref (zR zt 0)]) (rest := []) ⟨hx, hb, hml, hown, hts⟩ (t_copyRow_31_81 l dC dI cy s.heap.size zL zT zR zI zJ (zR zo 0) (zR zt 0) hs h_zI.1 t_1 t_2) ⟨va_cnB 2 hts ggX1_take_X10_copyRow rfl rfl rfl (n0_19 hN) (hts (.initialized RX10) (by decide +kernel)) (by decide +kernel) ⟨(Nat.le_of_ble_eq_true rfl), (Nat.le_of_ble_eq_true rfl)⟩, hts (.static yX10_copyRow) (by decide +kernel), trivial⟩ (PRE.s hP hK hD hN) rfl rfl hl.1 rfl (lv_room (Nat.le_of_ble_eq_true rfl)) dX1_take_8 ⟨(Nat.le_of_ble_eq_true rfl), (Nat.le_of_ble_eq_true rfl)⟩) hP hD hS hA (fun zI_6 H locs hw_4 hP hD hS => ?_)
  have k_zI_6 : WM [8100] AL zT zR zI zI_6 := hw_4
  have h_zI_6 : WM [1706, 1707, 8100, 8200, 8300] AL zT zR zI zI_6 := h_zI.tr k_zI_6 (by decide) (fun _ _ => trivial)
  refine lv_aload_n hx hb dX1_take_11 rfl (lv_at hl 1 rfl) ?_
  refine ht_getr (C := RX1) (T := TX1) (N := 8) hx hb hts (by decide +kernel) hown hK hP hs t_zo (by decide) rfl rfl 1 (by decide) (hts (.fieldLink RX1 15 "DripStone$Claim" "weights" "[I") (by decide +kernel)) (fun _ h9 => h9) rfl dX1_take_12 ?_
  have t_7 : zT (zR zo 1) = 31 := sk_f hs t_zo (by decide) rfl (by decide)
  refine lv_aload_n hx hb dX1_take_15 rfl (lv_at hl 0 rfl) ?_
  refine ht_getr (C := RX1) (T := TX1) (N := 8) hx hb hts (by decide +kernel) hown hK hP hs t_zt (by decide) rfl rfl 1 (by decide) (hts (.fieldLink RX1 15 "DripStone$Claim" "weights" "[I") (by decide +kernel)) (fun _ h9 => h9) rfl dX1_take_16 ?_
  have t_8 : zT (zR zt 1) = 81 := sk_f hs t_zt (by decide) rfl (by decide)
  refine hj_v (ws := (WL cy zL zT zR zI_6 zJ)) (w1 := fun (u : (Nat → Nat → Int32)) => (WL cy zL zT zR u zJ)) (va_runSN (As := [.ref (zR zo 1), .ref (zR zt 1)]) (rest := []) ⟨hx, hb, hml, hown, hts⟩ (t_copyRow_31_81 l dC dI cy H.size zL zT zR zI_6 zJ (zR zo 1) (zR zt 1) hs h_zI_6.1 t_7 t_8) ⟨va_cnB 2 hts ggX1_take_X10_copyRow rfl rfl rfl (n0_19 hN) (hts (.initialized RX10) (by decide +kernel)) (by decide +kernel) ⟨(Nat.le_of_ble_eq_true rfl), (Nat.le_of_ble_eq_true rfl)⟩, hts (.static yX10_copyRow) (by decide +kernel), trivial⟩ (PRE.s hP hK hD hN) rfl rfl hl.1 rfl (lv_room (Nat.le_of_ble_eq_true rfl)) dX1_take_19 ⟨(Nat.le_of_ble_eq_true rfl), (Nat.le_of_ble_eq_true rfl)⟩) hP hD hS hA (fun zI_12 H locs hw_10 hP hD hS => ?_)
  have k_zI_12 : WM [8100] AL zT zR zI_6 zI_12 := hw_10
  have h_zI_12 : WM [1706, 1707, 8100, 8200, 8300] AL zT zR zI zI_12 := h_zI_6.tr k_zI_12 (by decide) (fun _ _ => trivial)
  refine lv_aload_n hx hb dX1_take_22 rfl (lv_at hl 1 rfl) ?_
  refine ht_getr (C := RX1) (T := TX1) (N := 8) hx hb hts (by decide +kernel) hown hK hP hs t_zo (by decide) rfl rfl 2 (by decide) (hts (.fieldLink RX1 18 "DripStone$Claim" "firsts" "[I") (by decide +kernel)) (fun _ h9 => h9) rfl dX1_take_23 ?_
  have t_13 : zT (zR zo 2) = 31 := sk_f hs t_zo (by decide) rfl (by decide)
  refine lv_aload_n hx hb dX1_take_26 rfl (lv_at hl 0 rfl) ?_
  refine ht_getr (C := RX1) (T := TX1) (N := 8) hx hb hts (by decide +kernel) hown hK hP hs t_zt (by decide) rfl rfl 2 (by decide) (hts (.fieldLink RX1 18 "DripStone$Claim" "firsts" "[I") (by decide +kernel)) (fun _ h9 => h9) rfl dX1_take_27 ?_
  have t_14 : zT (zR zt 2) = 81 := sk_f hs t_zt (by decide) rfl (by decide)
  refine hj_v (ws := (WL cy zL zT zR zI_12 zJ)) (w1 := fun (u : (Nat → Nat → Int32)) => (WL cy zL zT zR u zJ)) (va_runSN (As := [.ref (zR zo 2), .ref (zR zt 2)]) (rest := []) ⟨hx, hb, hml, hown, hts⟩ (t_copyRow_31_81 l dC dI cy H.size zL zT zR zI_12 zJ (zR zo 2) (zR zt 2) hs h_zI_12.1 t_13 t_14) ⟨va_cnB 2 hts ggX1_take_X10_copyRow rfl rfl rfl (n0_19 hN) (hts (.initialized RX10) (by decide +kernel)) (by decide +kernel) ⟨(Nat.le_of_ble_eq_true rfl), (Nat.le_of_ble_eq_true rfl)⟩, hts (.static yX10_copyRow) (by decide +kernel), trivial⟩ (PRE.s hP hK hD hN) rfl rfl hl.1 rfl (lv_room (Nat.le_of_ble_eq_true rfl)) dX1_take_30 ⟨(Nat.le_of_ble_eq_true rfl), (Nat.le_of_ble_eq_true rfl)⟩) hP hD hS hA (fun zI_18 H locs hw_16 hP hD hS => ?_)
  have k_zI_18 : WM [8100] AL zT zR zI_12 zI_18 := hw_16
  have h_zI_18 : WM [1706, 1707, 8100, 8200, 8300] AL zT zR zI zI_18 := h_zI_12.tr k_zI_18 (by decide) (fun _ _ => trivial)
  refine lv_aload_n hx hb dX1_take_33 rfl (lv_at hl 1 rfl) ?_
  refine ht_getr (C := RX1) (T := TX1) (N := 8) hx hb hts (by decide +kernel) hown hK hP hs t_zo (by decide) rfl rfl 3 (by decide) (hts (.fieldLink RX1 21 "DripStone$Claim" "lasts" "[I") (by decide +kernel)) (fun _ h9 => h9) rfl dX1_take_34 ?_
  have t_19 : zT (zR zo 3) = 31 := sk_f hs t_zo (by decide) rfl (by decide)
  refine lv_aload_n hx hb dX1_take_37 rfl (lv_at hl 0 rfl) ?_
  refine ht_getr (C := RX1) (T := TX1) (N := 8) hx hb hts (by decide +kernel) hown hK hP hs t_zt (by decide) rfl rfl 3 (by decide) (hts (.fieldLink RX1 21 "DripStone$Claim" "lasts" "[I") (by decide +kernel)) (fun _ h9 => h9) rfl dX1_take_38 ?_
  have t_20 : zT (zR zt 3) = 81 := sk_f hs t_zt (by decide) rfl (by decide)
  refine hj_v (ws := (WL cy zL zT zR zI_18 zJ)) (w1 := fun (u : (Nat → Nat → Int32)) => (WL cy zL zT zR u zJ)) (va_runSN (As := [.ref (zR zo 3), .ref (zR zt 3)]) (rest := []) ⟨hx, hb, hml, hown, hts⟩ (t_copyRow_31_81 l dC dI cy H.size zL zT zR zI_18 zJ (zR zo 3) (zR zt 3) hs h_zI_18.1 t_19 t_20) ⟨va_cnB 2 hts ggX1_take_X10_copyRow rfl rfl rfl (n0_19 hN) (hts (.initialized RX10) (by decide +kernel)) (by decide +kernel) ⟨(Nat.le_of_ble_eq_true rfl), (Nat.le_of_ble_eq_true rfl)⟩, hts (.static yX10_copyRow) (by decide +kernel), trivial⟩ (PRE.s hP hK hD hN) rfl rfl hl.1 rfl (lv_room (Nat.le_of_ble_eq_true rfl)) dX1_take_41 ⟨(Nat.le_of_ble_eq_true rfl), (Nat.le_of_ble_eq_true rfl)⟩) hP hD hS hA (fun zI_24 H locs hw_22 hP hD hS => ?_)
  have k_zI_24 : WM [8100] AL zT zR zI_18 zI_24 := hw_22
  have h_zI_24 : WM [1706, 1707, 8100, 8200, 8300] AL zT zR zI zI_24 := h_zI_18.tr k_zI_24 (by decide) (fun _ _ => trivial)
  refine lv_aload_n hx hb dX1_take_44 rfl (lv_at hl 1 rfl) ?_
  refine ht_getr (C := RX1) (T := TX1) (N := 8) hx hb hts (by decide +kernel) hown hK hP hs t_zo (by decide) rfl rfl 4 (by decide) (hts (.fieldLink RX1 24 "DripStone$Claim" "goals" "[I") (by decide +kernel)) (fun _ h9 => h9) rfl dX1_take_45 ?_
  have t_25 : zT (zR zo 4) = 32 := sk_f hs t_zo (by decide) rfl (by decide)
  refine lv_aload_n hx hb dX1_take_48 rfl (lv_at hl 0 rfl) ?_
  refine ht_getr (C := RX1) (T := TX1) (N := 8) hx hb hts (by decide +kernel) hown hK hP hs t_zt (by decide) rfl rfl 4 (by decide) (hts (.fieldLink RX1 24 "DripStone$Claim" "goals" "[I") (by decide +kernel)) (fun _ h9 => h9) rfl dX1_take_49 ?_
  have t_26 : zT (zR zt 4) = 82 := sk_f hs t_zt (by decide) rfl (by decide)
  refine hj_v (ws := (WL cy zL zT zR zI_24 zJ)) (w1 := fun (u : (Nat → Nat → Int32)) => (WL cy zL zT zR u zJ)) (va_runSN (As := [.ref (zR zo 4), .ref (zR zt 4)]) (rest := []) ⟨hx, hb, hml, hown, hts⟩ (t_copyRow_32_82 l dC dI cy H.size zL zT zR zI_24 zJ (zR zo 4) (zR zt 4) hs h_zI_24.1 t_25 t_26) ⟨va_cnB 2 hts ggX1_take_X10_copyRow rfl rfl rfl (n0_19 hN) (hts (.initialized RX10) (by decide +kernel)) (by decide +kernel) ⟨(Nat.le_of_ble_eq_true rfl), (Nat.le_of_ble_eq_true rfl)⟩, hts (.static yX10_copyRow) (by decide +kernel), trivial⟩ (PRE.s hP hK hD hN) rfl rfl hl.1 rfl (lv_room (Nat.le_of_ble_eq_true rfl)) dX1_take_52 ⟨(Nat.le_of_ble_eq_true rfl), (Nat.le_of_ble_eq_true rfl)⟩) hP hD hS hA (fun zI_30 H locs hw_28 hP hD hS => ?_)
  have k_zI_30 : WM [8200] AL zT zR zI_24 zI_30 := hw_28
  have h_zI_30 : WM [1706, 1707, 8100, 8200, 8300] AL zT zR zI zI_30 := h_zI_24.tr k_zI_30 (by decide) (fun _ _ => trivial)
  refine lv_iconst (v := 0) hx hb dX1_take_55 (by decide) ?_
  refine lv_istore_n (lv' := [(2, .int 0), (0, .ref zt), (1, .ref zo)]) hx hb dX1_take_56 rfl hl (by decide) rfl (fun ls hl => ?_)
  have lp_70 : ∀ (n : Nat) (zi_61 : Int32) (zI_62 : Nat → Nat → Int32) (H : Heap) (locs : List Loc) (ls : Array Slot), (2 - zi_61.toInt).toNat = n → (0 ≤ zi_61.toInt ∧ zi_61.toInt ≤ 2) → (WM [1706, 1707, 8100, 8200, 8300] AL zT zR zI zI_62) → va_P (dC, dI) vwCl (WL cy zL zT zR zI_62 zJ) H → va_D A (WL cy zL zT zR zI_62 zJ) → va_S A s.heap H locs → lv_has ls 3 [(0, .ref zt), (1, .ref zo), (2, .int zi_61)] → W p l e ({ frames := 2, cells := 0, slots := 0, locals := 51 } : Room) s m ([.ref zt, .ref zo] : List Value).toArray below meth c H locs 0 0 Q (F0 m 57 ls []) := by
    intro n
    induction n using Nat.strongRecOn with
    | _ n ih_70 =>
      intro zi_61 zI_62 H locs ls hn b_zi_61 h_zI_62 hP hD hS hl
      refine lv_iload_n hx hb dX1_take_57 rfl (lv_at hl 2 rfl) ?_
      refine lv_iconst (v := 2) hx hb dX1_take_58 (by decide) ?_
      refine lv_icmp_ge (tgt := 80) hx hb dX1_take_59 (by decide) (fun c_71 => ?_) (fun c_71 => ?_)
      · have f_72 : zi_61.toInt ≥ (2 : Int) := ic_ge (rfl) (show (2 : Int32).toInt = 2 by decide) c_71
        refine lv_aload_n hx hb dX1_take_80 rfl (lv_at hl 0 rfl) ?_
        refine lv_aload_n hx hb dX1_take_81 rfl (lv_at hl 1 rfl) ?_
        refine ht_geti (C := RX1) (T := TX1) (N := 8) hx hb hts (by decide +kernel) hown hK hP hs t_zo (by decide) rfl rfl 6 (by decide) (hts (.fieldLink RX1 56 "DripStone$Claim" "atoms" "I") (by decide +kernel)) (fun _ h9 => h9) rfl dX1_take_82 ?_
        refine lv_topi (fun zi_73 ezi_73 => ?_)
        have tzi_73 : 0 ≤ zi_73.toInt ∧ zi_73.toInt ≤ 2 := by rw [ezi_73]; exact h_zI_62.at t_zo _ rfl
        refine ht_puti (v := zi_73) (ty := .int) (C := RX1) (T := TX1) (N := 8) hx hb hts (by decide +kernel) tyX1 tyX1_ok nmX1 hown hK hP hD hS hs t_zt (by decide) rfl rfl 6 (by decide) (hts (.fieldLink RX1 56 "DripStone$Claim" "atoms" "I") (by decide +kernel)) (fun _ h9 => h9) rfl (by decide +kernel) rfl rfl rfl dX1_take_85 (fun H locs hP hD hS => ?_)
        have h_zI_74 : WM [1706, 1707, 8100, 8200, 8300] AL zT zR zI (u2 zI_62 zt 6 zi_73) := h_zI_62.put hs t_zt rfl (by omega) (by decide) (fun h => absurd h (by decide)) (by decide) trivial
        generalize uzI_74 : u2 zI_62 zt 6 zi_73 = zI_74 at hP hD h_zI_74
        refine lv_aload_n hx hb dX1_take_88 rfl (lv_at hl 0 rfl) ?_
        refine lv_aload_n hx hb dX1_take_89 rfl (lv_at hl 1 rfl) ?_
        refine ht_geti (C := RX1) (T := TX1) (N := 8) hx hb hts (by decide +kernel) hown hK hP hs t_zo (by decide) rfl rfl 7 (by decide) (hts (.fieldLink RX1 59 "DripStone$Claim" "either" "Z") (by decide +kernel)) (fun _ h9 => h9) rfl dX1_take_90 ?_
        refine lv_topi (fun zi_75 ezi_75 => ?_)
        have tzi_75 : 0 ≤ zi_75.toInt ∧ zi_75.toInt ≤ 1 := by rw [ezi_75]; exact h_zI_74.at t_zo _ rfl
        refine ht_puti (v := zi_75) (ty := .boolean) (C := RX1) (T := TX1) (N := 8) hx hb hts (by decide +kernel) tyX1 tyX1_ok nmX1 hown hK hP hD hS hs t_zt (by decide) rfl rfl 7 (by decide) (hts (.fieldLink RX1 59 "DripStone$Claim" "either" "Z") (by decide +kernel)) (fun _ h9 => h9) rfl (by decide +kernel) (zb_n2 (by omega)) (zb_f2 (by omega)) rfl dX1_take_93 (fun H locs hP hD hS => ?_)
        have h_zI_76 : WM [1706, 1707, 8100, 8200, 8300] AL zT zR zI (u2 zI_74 zt 7 zi_75) := h_zI_74.put hs t_zt rfl (by omega) (by decide) (fun h => absurd h (by decide)) (by decide) trivial
        generalize uzI_76 : u2 zI_74 zt 7 zi_75 = zI_76 at hP hD h_zI_76
        subst hQ
        exact W.vret hx hb hr (fun t ht hW => ⟨⟨zI_76, rfl, h_zI_76, ⟨by rw [ht]; exact hP, va_K.moved hW.alike hK, hD⟩⟩, hS.F ht⟩) hS.2.2 dX1_take_96
      · have f_72 : ¬ (zi_61.toInt ≥ (2 : Int)) := ic_nge (rfl) (show (2 : Int32).toInt = 2 by decide) c_71
        refine lv_aload_n hx hb dX1_take_62 rfl (lv_at hl 0 rfl) ?_
        refine ht_getr (C := RX1) (T := TX1) (N := 8) hx hb hts (by decide +kernel) hown hK hP hs t_zt (by decide) rfl rfl 5 (by decide) (hts (.fieldLink RX1 27 "DripStone$Claim" "negated" "[Z") (by decide +kernel)) (fun _ h9 => h9) rfl dX1_take_63 ?_
        have t_77 : zT (zR zt 5) = 83 := sk_f hs t_zt (by decide) rfl (by decide)
        refine lv_iload_n hx hb dX1_take_66 rfl (lv_at hl 2 rfl) ?_
        refine lv_aload_n hx hb dX1_take_67 rfl (lv_at hl 1 rfl) ?_
        refine ht_getr (C := RX1) (T := TX1) (N := 8) hx hb hts (by decide +kernel) hown hK hP hs t_zo (by decide) rfl rfl 5 (by decide) (hts (.fieldLink RX1 27 "DripStone$Claim" "negated" "[Z") (by decide +kernel)) (fun _ h9 => h9) rfl dX1_take_68 ?_
        have t_78 : zT (zR zo 5) = 33 := sk_f hs t_zo (by decide) rfl (by decide)
        refine lv_iload_n hx hb dX1_take_71 rfl (lv_at hl 2 rfl) ?_
        refine ht_zald (n := 2) (q := 2) hx hb hK hP hs t_78 (by decide) rfl rfl ⟨by omega, by omega⟩ dX1_take_72 ?_
        refine lv_topi (fun zi_79 ezi_79 => ?_)
        refine ht_zast (v := zi_79) (n := 2) (q := 2) hx hb hK hP hD hS hs t_77 (by decide) rfl rfl ⟨by omega, by omega⟩ dX1_take_73 (fun H locs hP hD hS => ?_)
        have h_zI_80 : WM [1706, 1707, 8100, 8200, 8300] AL zT zR zI (u2 zI_62 (zR zt 5) zi_61.toNatClampNeg (vp_nar .boolean zi_79)) := h_zI_62.putA hs t_77 rfl (rgF _) (by decide) (fun h => absurd h (by decide)) (by decide) trivial
        generalize uzI_80 : u2 zI_62 (zR zt 5) zi_61.toNatClampNeg (vp_nar .boolean zi_79) = zI_80 at hP hD h_zI_80
        obtain ⟨zi_81, ezi_81⟩ : ∃ y : Int32, y = zi_61 + 1 := ⟨_, rfl⟩
        have tzi_81 : zi_81.toInt = zi_61.toInt + 1 := by rw [ezi_81]; exact tadd rfl (show (1 : Int32).toInt = 1 by decide) (by omega) (by omega)
        refine lv_iinc (v := zi_81) (lv' := [(2, .int zi_81), (0, .ref zt), (1, .ref zo)]) hx hb dX1_take_74 hl (k := 2) rfl (by rw [ezi_81]; rfl) (by decide) rfl (fun ls hl => ?_)
        refine lv_goto (tgt := 57) hx hb dX1_take_77 (by decide) ?_
        exact ih_70 (2 - zi_81.toInt).toNat (by omega) zi_81 zI_80 _ _ _ rfl (by omega) h_zI_80 hP hD hS (lv_sub hl [1, 2, 0] rfl)
  exact lp_70 _ (0 : Int32) zI_30 _ _ _ rfl (by decide) h_zI_30 hP hD hS (lv_sub hl [1, 2, 0] rfl)
set_option maxHeartbeats 8000000 in
set_option maxRecDepth 100000 in
theorem t_X1_take_2_2 (l : Launch) (dC : Nat → ClassId) (dI : Nat → Nat → Nat) (cy : Nat → ClassId) (sz : Nat) (zL : List Nat) (zT : Nat → Nat) (zR : Nat → Nat → Nat) (zI : Nat → Nat → Int32) (zJ : Nat → Nat → Int64) (zt : Nat) (zo : Nat) (hs : SKP zL zT zR) (hw : WT zT zR zI) (t_zt : zT zt = 2) (t_zo : zT zo = 2) : Met l yX1_take wsX1_take ({ frames := 2, cells := 0, slots := 0, locals := 51 } : Room) (va_Pc [.ref zt, .ref zo] (PRE dC dI cy (WL cy zL zT zR zI zJ) sz)) (va_Qv (fun (u : (Nat → Nat → Int32)) => (WM [206, 207, 3100, 3200, 3300] AL zT zR zI u)) (fun u t => POST dC dI cy (va_A (WL cy zL zT zR zI zJ) sz) (WL cy zL zT zR u zJ) t) (va_A (WL cy zL zT zR zI zJ) sz)) 0 0 (va_A (WL cy zL zT zR zI zJ) sz) := by
  refine Met.ofW (cc := cX1_take) (maxL := 3) (ret := none) (by decide) rfl ?_
  intro p e s m args below meth c s₁ B hml hv
  obtain ⟨rfl, hsz, hP, hK, hD0, hN⟩ := hv
  have hx := B.exec
  have hb := B.bytes
  have hr := B.returns
  have hts := atoms_spec (ws := wsX1_take) B.pre
  have hown : s.vm.findClass RX1 = some m.cls := findClass_of_methodNamed B.named
  have hlocks := B.notSynchronized
  subst hsz
  have hD := hD0.self (sz := s.heap.size)
  generalize hAe : va_A (WL cy zL zT zR zI zJ) s.heap.size = A at hD ⊢
  have hA : ∀ q : Nat, s.heap.size ≤ q → A q := fun q h => by rw [← hAe]; exact Or.inr h
  have hS : va_S A s.heap s.heap [] := va_S.rf
  have hP : va_P (dC, dI) vwCl (WL cy zL zT zR zI zJ) s.heap := hP
  have hl := lv_entry ([.ref zt, .ref zo] : List Value) (n := 3) (Nat.le_of_ble_eq_true rfl)
  rw [lg_entry_eq]
  generalize (lg_sl ([.ref zt, .ref zo] : List Value) ++ List.replicate (3 - (lg_sl ([.ref zt, .ref zo] : List Value)).length) Slot.unset).toArray = ls at hl ⊢
  have hl : lv_has ls 3 [(0, .ref zt), (1, .ref zo)] := hl
  refine w_q (fun Q hQ => ?_)
  have h_zI : WM [206, 207, 3100, 3200, 3300] AL zT zR zI zI := WM.rf hw
  refine lv_aload_n hx hb dX1_take_0 rfl (lv_at hl 1 rfl) ?_
  refine ht_getr (C := RX1) (T := TX1) (N := 8) hx hb hts (by decide +kernel) hown hK hP hs t_zo (by decide) rfl rfl 0 (by decide) (hts (.fieldLink RX1 9 "DripStone$Claim" "tests" "[I") (by decide +kernel)) (fun _ h9 => h9) rfl dX1_take_1 ?_
  have t_1 : zT (zR zo 0) = 31 := sk_f hs t_zo (by decide) rfl (by decide)
  refine lv_aload_n hx hb dX1_take_4 rfl (lv_at hl 0 rfl) ?_
  refine ht_getr (C := RX1) (T := TX1) (N := 8) hx hb hts (by decide +kernel) hown hK hP hs t_zt (by decide) rfl rfl 0 (by decide) (hts (.fieldLink RX1 9 "DripStone$Claim" "tests" "[I") (by decide +kernel)) (fun _ h9 => h9) rfl dX1_take_5 ?_
  have t_2 : zT (zR zt 0) = 31 := sk_f hs t_zt (by decide) rfl (by decide)
  refine hj_v (ws := (WL cy zL zT zR zI zJ)) (w1 := fun (u : (Nat → Nat → Int32)) => (WL cy zL zT zR u zJ)) (va_runSN (As := [.ref (zR zo 0), .ref (zR zt 0)]) (rest := []) ⟨hx, hb, hml, hown, hts⟩ (t_copyRow_31_31 l dC dI cy s.heap.size zL zT zR zI zJ (zR zo 0) (zR zt 0) hs h_zI.1 t_1 t_2) ⟨va_cnB 2 hts ggX1_take_X10_copyRow rfl rfl rfl (n0_19 hN) (hts (.initialized RX10) (by decide +kernel)) (by decide +kernel) ⟨(Nat.le_of_ble_eq_true rfl), (Nat.le_of_ble_eq_true rfl)⟩, hts (.static yX10_copyRow) (by decide +kernel), trivial⟩ (PRE.s hP hK hD hN) rfl rfl hl.1 rfl (lv_room (Nat.le_of_ble_eq_true rfl)) dX1_take_8 ⟨(Nat.le_of_ble_eq_true rfl), (Nat.le_of_ble_eq_true rfl)⟩) hP hD hS hA (fun zI_6 H locs hw_4 hP hD hS => ?_)
  have k_zI_6 : WM [3100] AL zT zR zI zI_6 := hw_4
  have h_zI_6 : WM [206, 207, 3100, 3200, 3300] AL zT zR zI zI_6 := h_zI.tr k_zI_6 (by decide) (fun _ _ => trivial)
  refine lv_aload_n hx hb dX1_take_11 rfl (lv_at hl 1 rfl) ?_
  refine ht_getr (C := RX1) (T := TX1) (N := 8) hx hb hts (by decide +kernel) hown hK hP hs t_zo (by decide) rfl rfl 1 (by decide) (hts (.fieldLink RX1 15 "DripStone$Claim" "weights" "[I") (by decide +kernel)) (fun _ h9 => h9) rfl dX1_take_12 ?_
  have t_7 : zT (zR zo 1) = 31 := sk_f hs t_zo (by decide) rfl (by decide)
  refine lv_aload_n hx hb dX1_take_15 rfl (lv_at hl 0 rfl) ?_
  refine ht_getr (C := RX1) (T := TX1) (N := 8) hx hb hts (by decide +kernel) hown hK hP hs t_zt (by decide) rfl rfl 1 (by decide) (hts (.fieldLink RX1 15 "DripStone$Claim" "weights" "[I") (by decide +kernel)) (fun _ h9 => h9) rfl dX1_take_16 ?_
  have t_8 : zT (zR zt 1) = 31 := sk_f hs t_zt (by decide) rfl (by decide)
  refine hj_v (ws := (WL cy zL zT zR zI_6 zJ)) (w1 := fun (u : (Nat → Nat → Int32)) => (WL cy zL zT zR u zJ)) (va_runSN (As := [.ref (zR zo 1), .ref (zR zt 1)]) (rest := []) ⟨hx, hb, hml, hown, hts⟩ (t_copyRow_31_31 l dC dI cy H.size zL zT zR zI_6 zJ (zR zo 1) (zR zt 1) hs h_zI_6.1 t_7 t_8) ⟨va_cnB 2 hts ggX1_take_X10_copyRow rfl rfl rfl (n0_19 hN) (hts (.initialized RX10) (by decide +kernel)) (by decide +kernel) ⟨(Nat.le_of_ble_eq_true rfl), (Nat.le_of_ble_eq_true rfl)⟩, hts (.static yX10_copyRow) (by decide +kernel), trivial⟩ (PRE.s hP hK hD hN) rfl rfl hl.1 rfl (lv_room (Nat.le_of_ble_eq_true rfl)) dX1_take_19 ⟨(Nat.le_of_ble_eq_true rfl), (Nat.le_of_ble_eq_true rfl)⟩) hP hD hS hA (fun zI_12 H locs hw_10 hP hD hS => ?_)
  have k_zI_12 : WM [3100] AL zT zR zI_6 zI_12 := hw_10
  have h_zI_12 : WM [206, 207, 3100, 3200, 3300] AL zT zR zI zI_12 := h_zI_6.tr k_zI_12 (by decide) (fun _ _ => trivial)
  refine lv_aload_n hx hb dX1_take_22 rfl (lv_at hl 1 rfl) ?_
  refine ht_getr (C := RX1) (T := TX1) (N := 8) hx hb hts (by decide +kernel) hown hK hP hs t_zo (by decide) rfl rfl 2 (by decide) (hts (.fieldLink RX1 18 "DripStone$Claim" "firsts" "[I") (by decide +kernel)) (fun _ h9 => h9) rfl dX1_take_23 ?_
  have t_13 : zT (zR zo 2) = 31 := sk_f hs t_zo (by decide) rfl (by decide)
  refine lv_aload_n hx hb dX1_take_26 rfl (lv_at hl 0 rfl) ?_
  refine ht_getr (C := RX1) (T := TX1) (N := 8) hx hb hts (by decide +kernel) hown hK hP hs t_zt (by decide) rfl rfl 2 (by decide) (hts (.fieldLink RX1 18 "DripStone$Claim" "firsts" "[I") (by decide +kernel)) (fun _ h9 => h9) rfl dX1_take_27 ?_
  have t_14 : zT (zR zt 2) = 31 := sk_f hs t_zt (by decide) rfl (by decide)
  refine hj_v (ws := (WL cy zL zT zR zI_12 zJ)) (w1 := fun (u : (Nat → Nat → Int32)) => (WL cy zL zT zR u zJ)) (va_runSN (As := [.ref (zR zo 2), .ref (zR zt 2)]) (rest := []) ⟨hx, hb, hml, hown, hts⟩ (t_copyRow_31_31 l dC dI cy H.size zL zT zR zI_12 zJ (zR zo 2) (zR zt 2) hs h_zI_12.1 t_13 t_14) ⟨va_cnB 2 hts ggX1_take_X10_copyRow rfl rfl rfl (n0_19 hN) (hts (.initialized RX10) (by decide +kernel)) (by decide +kernel) ⟨(Nat.le_of_ble_eq_true rfl), (Nat.le_of_ble_eq_true rfl)⟩, hts (.static yX10_copyRow) (by decide +kernel), trivial⟩ (PRE.s hP hK hD hN) rfl rfl hl.1 rfl (lv_room (Nat.le_of_ble_eq_true rfl)) dX1_take_30 ⟨(Nat.le_of_ble_eq_true rfl), (Nat.le_of_ble_eq_true rfl)⟩) hP hD hS hA (fun zI_18 H locs hw_16 hP hD hS => ?_)
  have k_zI_18 : WM [3100] AL zT zR zI_12 zI_18 := hw_16
  have h_zI_18 : WM [206, 207, 3100, 3200, 3300] AL zT zR zI zI_18 := h_zI_12.tr k_zI_18 (by decide) (fun _ _ => trivial)
  refine lv_aload_n hx hb dX1_take_33 rfl (lv_at hl 1 rfl) ?_
  refine ht_getr (C := RX1) (T := TX1) (N := 8) hx hb hts (by decide +kernel) hown hK hP hs t_zo (by decide) rfl rfl 3 (by decide) (hts (.fieldLink RX1 21 "DripStone$Claim" "lasts" "[I") (by decide +kernel)) (fun _ h9 => h9) rfl dX1_take_34 ?_
  have t_19 : zT (zR zo 3) = 31 := sk_f hs t_zo (by decide) rfl (by decide)
  refine lv_aload_n hx hb dX1_take_37 rfl (lv_at hl 0 rfl) ?_
  refine ht_getr (C := RX1) (T := TX1) (N := 8) hx hb hts (by decide +kernel) hown hK hP hs t_zt (by decide) rfl rfl 3 (by decide) (hts (.fieldLink RX1 21 "DripStone$Claim" "lasts" "[I") (by decide +kernel)) (fun _ h9 => h9) rfl dX1_take_38 ?_
  have t_20 : zT (zR zt 3) = 31 := sk_f hs t_zt (by decide) rfl (by decide)
  refine hj_v (ws := (WL cy zL zT zR zI_18 zJ)) (w1 := fun (u : (Nat → Nat → Int32)) => (WL cy zL zT zR u zJ)) (va_runSN (As := [.ref (zR zo 3), .ref (zR zt 3)]) (rest := []) ⟨hx, hb, hml, hown, hts⟩ (t_copyRow_31_31 l dC dI cy H.size zL zT zR zI_18 zJ (zR zo 3) (zR zt 3) hs h_zI_18.1 t_19 t_20) ⟨va_cnB 2 hts ggX1_take_X10_copyRow rfl rfl rfl (n0_19 hN) (hts (.initialized RX10) (by decide +kernel)) (by decide +kernel) ⟨(Nat.le_of_ble_eq_true rfl), (Nat.le_of_ble_eq_true rfl)⟩, hts (.static yX10_copyRow) (by decide +kernel), trivial⟩ (PRE.s hP hK hD hN) rfl rfl hl.1 rfl (lv_room (Nat.le_of_ble_eq_true rfl)) dX1_take_41 ⟨(Nat.le_of_ble_eq_true rfl), (Nat.le_of_ble_eq_true rfl)⟩) hP hD hS hA (fun zI_24 H locs hw_22 hP hD hS => ?_)
  have k_zI_24 : WM [3100] AL zT zR zI_18 zI_24 := hw_22
  have h_zI_24 : WM [206, 207, 3100, 3200, 3300] AL zT zR zI zI_24 := h_zI_18.tr k_zI_24 (by decide) (fun _ _ => trivial)
  refine lv_aload_n hx hb dX1_take_44 rfl (lv_at hl 1 rfl) ?_
  refine ht_getr (C := RX1) (T := TX1) (N := 8) hx hb hts (by decide +kernel) hown hK hP hs t_zo (by decide) rfl rfl 4 (by decide) (hts (.fieldLink RX1 24 "DripStone$Claim" "goals" "[I") (by decide +kernel)) (fun _ h9 => h9) rfl dX1_take_45 ?_
  have t_25 : zT (zR zo 4) = 32 := sk_f hs t_zo (by decide) rfl (by decide)
  refine lv_aload_n hx hb dX1_take_48 rfl (lv_at hl 0 rfl) ?_
  refine ht_getr (C := RX1) (T := TX1) (N := 8) hx hb hts (by decide +kernel) hown hK hP hs t_zt (by decide) rfl rfl 4 (by decide) (hts (.fieldLink RX1 24 "DripStone$Claim" "goals" "[I") (by decide +kernel)) (fun _ h9 => h9) rfl dX1_take_49 ?_
  have t_26 : zT (zR zt 4) = 32 := sk_f hs t_zt (by decide) rfl (by decide)
  refine hj_v (ws := (WL cy zL zT zR zI_24 zJ)) (w1 := fun (u : (Nat → Nat → Int32)) => (WL cy zL zT zR u zJ)) (va_runSN (As := [.ref (zR zo 4), .ref (zR zt 4)]) (rest := []) ⟨hx, hb, hml, hown, hts⟩ (t_copyRow_32_32 l dC dI cy H.size zL zT zR zI_24 zJ (zR zo 4) (zR zt 4) hs h_zI_24.1 t_25 t_26) ⟨va_cnB 2 hts ggX1_take_X10_copyRow rfl rfl rfl (n0_19 hN) (hts (.initialized RX10) (by decide +kernel)) (by decide +kernel) ⟨(Nat.le_of_ble_eq_true rfl), (Nat.le_of_ble_eq_true rfl)⟩, hts (.static yX10_copyRow) (by decide +kernel), trivial⟩ (PRE.s hP hK hD hN) rfl rfl hl.1 rfl (lv_room (Nat.le_of_ble_eq_true rfl)) dX1_take_52 ⟨(Nat.le_of_ble_eq_true rfl), (Nat.le_of_ble_eq_true rfl)⟩) hP hD hS hA (fun zI_30 H locs hw_28 hP hD hS => ?_)
  have k_zI_30 : WM [3200] AL zT zR zI_24 zI_30 := hw_28
  have h_zI_30 : WM [206, 207, 3100, 3200, 3300] AL zT zR zI zI_30 := h_zI_24.tr k_zI_30 (by decide) (fun _ _ => trivial)
  refine lv_iconst (v := 0) hx hb dX1_take_55 (by decide) ?_
  refine lv_istore_n (lv' := [(2, .int 0), (0, .ref zt), (1, .ref zo)]) hx hb dX1_take_56 rfl hl (by decide) rfl (fun ls hl => ?_)
  have lp_70 : ∀ (n : Nat) (zi_61 : Int32) (zI_62 : Nat → Nat → Int32) (H : Heap) (locs : List Loc) (ls : Array Slot), (2 - zi_61.toInt).toNat = n → (0 ≤ zi_61.toInt ∧ zi_61.toInt ≤ 2) → (WM [206, 207, 3100, 3200, 3300] AL zT zR zI zI_62) → va_P (dC, dI) vwCl (WL cy zL zT zR zI_62 zJ) H → va_D A (WL cy zL zT zR zI_62 zJ) → va_S A s.heap H locs → lv_has ls 3 [(0, .ref zt), (1, .ref zo), (2, .int zi_61)] → W p l e ({ frames := 2, cells := 0, slots := 0, locals := 51 } : Room) s m ([.ref zt, .ref zo] : List Value).toArray below meth c H locs 0 0 Q (F0 m 57 ls []) := by
    intro n
    induction n using Nat.strongRecOn with
    | _ n ih_70 =>
      intro zi_61 zI_62 H locs ls hn b_zi_61 h_zI_62 hP hD hS hl
      refine lv_iload_n hx hb dX1_take_57 rfl (lv_at hl 2 rfl) ?_
      refine lv_iconst (v := 2) hx hb dX1_take_58 (by decide) ?_
      refine lv_icmp_ge (tgt := 80) hx hb dX1_take_59 (by decide) (fun c_71 => ?_) (fun c_71 => ?_)
      · have f_72 : zi_61.toInt ≥ (2 : Int) := ic_ge (rfl) (show (2 : Int32).toInt = 2 by decide) c_71
        refine lv_aload_n hx hb dX1_take_80 rfl (lv_at hl 0 rfl) ?_
        refine lv_aload_n hx hb dX1_take_81 rfl (lv_at hl 1 rfl) ?_
        refine ht_geti (C := RX1) (T := TX1) (N := 8) hx hb hts (by decide +kernel) hown hK hP hs t_zo (by decide) rfl rfl 6 (by decide) (hts (.fieldLink RX1 56 "DripStone$Claim" "atoms" "I") (by decide +kernel)) (fun _ h9 => h9) rfl dX1_take_82 ?_
        refine lv_topi (fun zi_73 ezi_73 => ?_)
        have tzi_73 : 0 ≤ zi_73.toInt ∧ zi_73.toInt ≤ 2 := by rw [ezi_73]; exact h_zI_62.at t_zo _ rfl
        refine ht_puti (v := zi_73) (ty := .int) (C := RX1) (T := TX1) (N := 8) hx hb hts (by decide +kernel) tyX1 tyX1_ok nmX1 hown hK hP hD hS hs t_zt (by decide) rfl rfl 6 (by decide) (hts (.fieldLink RX1 56 "DripStone$Claim" "atoms" "I") (by decide +kernel)) (fun _ h9 => h9) rfl (by decide +kernel) rfl rfl rfl dX1_take_85 (fun H locs hP hD hS => ?_)
        have h_zI_74 : WM [206, 207, 3100, 3200, 3300] AL zT zR zI (u2 zI_62 zt 6 zi_73) := h_zI_62.put hs t_zt rfl (by omega) (by decide) (fun h => absurd h (by decide)) (by decide) trivial
        generalize uzI_74 : u2 zI_62 zt 6 zi_73 = zI_74 at hP hD h_zI_74
        refine lv_aload_n hx hb dX1_take_88 rfl (lv_at hl 0 rfl) ?_
        refine lv_aload_n hx hb dX1_take_89 rfl (lv_at hl 1 rfl) ?_
        refine ht_geti (C := RX1) (T := TX1) (N := 8) hx hb hts (by decide +kernel) hown hK hP hs t_zo (by decide) rfl rfl 7 (by decide) (hts (.fieldLink RX1 59 "DripStone$Claim" "either" "Z") (by decide +kernel)) (fun _ h9 => h9) rfl dX1_take_90 ?_
        refine lv_topi (fun zi_75 ezi_75 => ?_)
        have tzi_75 : 0 ≤ zi_75.toInt ∧ zi_75.toInt ≤ 1 := by rw [ezi_75]; exact h_zI_74.at t_zo _ rfl
        refine ht_puti (v := zi_75) (ty := .boolean) (C := RX1) (T := TX1) (N := 8) hx hb hts (by decide +kernel) tyX1 tyX1_ok nmX1 hown hK hP hD hS hs t_zt (by decide) rfl rfl 7 (by decide) (hts (.fieldLink RX1 59 "DripStone$Claim" "either" "Z") (by decide +kernel)) (fun _ h9 => h9) rfl (by decide +kernel) (zb_n2 (by omega)) (zb_f2 (by omega)) rfl dX1_take_93 (fun H locs hP hD hS => ?_)
        have h_zI_76 : WM [206, 207, 3100, 3200, 3300] AL zT zR zI (u2 zI_74 zt 7 zi_75) := h_zI_74.put hs t_zt rfl (by omega) (by decide) (fun h => absurd h (by decide)) (by decide) trivial
        generalize uzI_76 : u2 zI_74 zt 7 zi_75 = zI_76 at hP hD h_zI_76
        subst hQ
        exact W.vret hx hb hr (fun t ht hW => ⟨⟨zI_76, rfl, h_zI_76, ⟨by rw [ht]; exact hP, va_K.moved hW.alike hK, hD⟩⟩, hS.F ht⟩) hS.2.2 dX1_take_96
      · have f_72 : ¬ (zi_61.toInt ≥ (2 : Int)) := ic_nge (rfl) (show (2 : Int32).toInt = 2 by decide) c_71
        refine lv_aload_n hx hb dX1_take_62 rfl (lv_at hl 0 rfl) ?_
        refine ht_getr (C := RX1) (T := TX1) (N := 8) hx hb hts (by decide +kernel) hown hK hP hs t_zt (by decide) rfl rfl 5 (by decide) (hts (.fieldLink RX1 27 "DripStone$Claim" "negated" "[Z") (by decide +kernel)) (fun _ h9 => h9) rfl dX1_take_63 ?_
        have t_77 : zT (zR zt 5) = 33 := sk_f hs t_zt (by decide) rfl (by decide)
        refine lv_iload_n hx hb dX1_take_66 rfl (lv_at hl 2 rfl) ?_
        refine lv_aload_n hx hb dX1_take_67 rfl (lv_at hl 1 rfl) ?_
        refine ht_getr (C := RX1) (T := TX1) (N := 8) hx hb hts (by decide +kernel) hown hK hP hs t_zo (by decide) rfl rfl 5 (by decide) (hts (.fieldLink RX1 27 "DripStone$Claim" "negated" "[Z") (by decide +kernel)) (fun _ h9 => h9) rfl dX1_take_68 ?_
        have t_78 : zT (zR zo 5) = 33 := sk_f hs t_zo (by decide) rfl (by decide)
        refine lv_iload_n hx hb dX1_take_71 rfl (lv_at hl 2 rfl) ?_
        refine ht_zald (n := 2) (q := 2) hx hb hK hP hs t_78 (by decide) rfl rfl ⟨by omega, by omega⟩ dX1_take_72 ?_
        refine lv_topi (fun zi_79 ezi_79 => ?_)
        refine ht_zast (v := zi_79) (n := 2) (q := 2) hx hb hK hP hD hS hs t_77 (by decide) rfl rfl ⟨by omega, by omega⟩ dX1_take_73 (fun H locs hP hD hS => ?_)
        have h_zI_80 : WM [206, 207, 3100, 3200, 3300] AL zT zR zI (u2 zI_62 (zR zt 5) zi_61.toNatClampNeg (vp_nar .boolean zi_79)) := h_zI_62.putA hs t_77 rfl (rgF _) (by decide) (fun h => absurd h (by decide)) (by decide) trivial
        generalize uzI_80 : u2 zI_62 (zR zt 5) zi_61.toNatClampNeg (vp_nar .boolean zi_79) = zI_80 at hP hD h_zI_80
        obtain ⟨zi_81, ezi_81⟩ : ∃ y : Int32, y = zi_61 + 1 := ⟨_, rfl⟩
        have tzi_81 : zi_81.toInt = zi_61.toInt + 1 := by rw [ezi_81]; exact tadd rfl (show (1 : Int32).toInt = 1 by decide) (by omega) (by omega)
        refine lv_iinc (v := zi_81) (lv' := [(2, .int zi_81), (0, .ref zt), (1, .ref zo)]) hx hb dX1_take_74 hl (k := 2) rfl (by rw [ezi_81]; rfl) (by decide) rfl (fun ls hl => ?_)
        refine lv_goto (tgt := 57) hx hb dX1_take_77 (by decide) ?_
        exact ih_70 (2 - zi_81.toInt).toNat (by omega) zi_81 zI_80 _ _ _ rfl (by omega) h_zI_80 hP hD hS (lv_sub hl [1, 2, 0] rfl)
  exact lp_70 _ (0 : Int32) zI_30 _ _ _ rfl (by decide) h_zI_30 hP hD hS (lv_sub hl [1, 2, 0] rfl)
set_option maxHeartbeats 8000000 in
set_option maxRecDepth 100000 in
theorem t_X8_take_9_12 (l : Launch) (dC : Nat → ClassId) (dI : Nat → Nat → Nat) (cy : Nat → ClassId) (sz : Nat) (zL : List Nat) (zT : Nat → Nat) (zR : Nat → Nat → Nat) (zI : Nat → Nat → Int32) (zJ : Nat → Nat → Int64) (zt : Nat) (zo : Nat) (hs : SKP zL zT zR) (hw : WT zT zR zI) (t_zt : zT zt = 9) (t_zo : zT zo = 12) : Met l yX8_take wsX8_take ({ frames := 3, cells := 0, slots := 0, locals := 73 } : Room) (va_Pc [.ref zt, .ref zo] (PRE dC dI cy (WL cy zL zT zR zI zJ) sz)) (va_Qv (fun (u : (Nat → Nat → Int32)) => (WM [107, 108, 109, 110, 206, 207, 306, 401, 402, 505, 907, 908, 2000, 2100, 2200, 2300, 2400, 2500, 2600, 2700, 2900, 3000, 3100, 3200, 3300, 3400, 4800] AL zT zR zI u) ∧ (TKS zR zI u zt zo)) (fun u t => POST dC dI cy (va_A (WL cy zL zT zR zI zJ) sz) (WL cy zL zT zR u zJ) t) (va_A (WL cy zL zT zR zI zJ) sz)) 0 0 (va_A (WL cy zL zT zR zI zJ) sz) := by
  refine Met.ofW (cc := cX8_take) (maxL := 3) (ret := none) (by decide) rfl ?_
  intro p e s m args below meth c s₁ B hml hv
  obtain ⟨rfl, hsz, hP, hK, hD0, hN⟩ := hv
  have hx := B.exec
  have hb := B.bytes
  have hr := B.returns
  have hts := atoms_spec (ws := wsX8_take) B.pre
  have hown : s.vm.findClass RX8 = some m.cls := findClass_of_methodNamed B.named
  have hlocks := B.notSynchronized
  subst hsz
  have hD := hD0.self (sz := s.heap.size)
  generalize hAe : va_A (WL cy zL zT zR zI zJ) s.heap.size = A at hD ⊢
  have hA : ∀ q : Nat, s.heap.size ≤ q → A q := fun q h => by rw [← hAe]; exact Or.inr h
  have hS : va_S A s.heap s.heap [] := va_S.rf
  have hP : va_P (dC, dI) vwCl (WL cy zL zT zR zI zJ) s.heap := hP
  have hl := lv_entry ([.ref zt, .ref zo] : List Value) (n := 3) (Nat.le_of_ble_eq_true rfl)
  rw [lg_entry_eq]
  generalize (lg_sl ([.ref zt, .ref zo] : List Value) ++ List.replicate (3 - (lg_sl ([.ref zt, .ref zo] : List Value)).length) Slot.unset).toArray = ls at hl ⊢
  have hl : lv_has ls 3 [(0, .ref zt), (1, .ref zo)] := hl
  refine w_q (fun Q hQ => ?_)
  have h_zI : WM [107, 108, 109, 110, 206, 207, 306, 401, 402, 505, 907, 908, 2000, 2100, 2200, 2300, 2400, 2500, 2600, 2700, 2900, 3000, 3100, 3200, 3300, 3400, 4800] AL zT zR zI zI := WM.rf hw
  refine lv_aload_n hx hb dX8_take_0 rfl (lv_at hl 0 rfl) ?_
  refine ht_getr (C := RX8) (T := TX8) (N := 9) hx hb hts (by decide +kernel) hown hK hP hs t_zt (by decide) rfl rfl 0 (by decide) (hts (.fieldLink RX8 12 "DripStone$State" "hill" "LDripStone$Hill;") (by decide +kernel)) (fun _ h9 => h9) rfl dX8_take_1 ?_
  have t_1 : zT (zR zt 0) = 4 := sk_f hs t_zt (by decide) rfl (by decide)
  refine lv_aload_n hx hb dX8_take_4 rfl (lv_at hl 1 rfl) ?_
  refine ht_getr (C := RX8) (T := TX8) (N := 9) hx hb hts (by decide +kernel) hown hK hP hs t_zo (by decide) rfl rfl 0 (by decide) (hts (.fieldLink RX8 12 "DripStone$State" "hill" "LDripStone$Hill;") (by decide +kernel)) (fun _ h9 => h9) rfl dX8_take_5 ?_
  have t_2 : zT (zR zo 0) = 13 := sk_f hs t_zo (by decide) rfl (by decide)
  refine hj_v (ws := (WL cy zL zT zR zI zJ)) (w1 := fun (u : (Nat → Nat → Int32)) => (WL cy zL zT zR u zJ)) (va_runV (As := [.ref (zR zo 0)]) (rest := []) ⟨hx, hb, hml, hown, hts⟩ (t_X3_take_4_13 l dC dI cy s.heap.size zL zT zR zI zJ (zR zt 0) (zR zo 0) hs h_zI.1 t_1 t_2) (cwV 1 hts gX8_take_X3_take rfl rfl rfl (by decide +kernel) ⟨(Nat.le_of_ble_eq_true rfl), (Nat.le_of_ble_eq_true rfl)⟩) (PRE.v hP hK hD hN (ht_recv hK hP hs t_1 (by decide) rfl rfl)) rfl rfl hl.1 rfl (lv_room (Nat.le_of_ble_eq_true rfl)) dX8_take_8 ⟨(Nat.le_of_ble_eq_true rfl), (Nat.le_of_ble_eq_true rfl)⟩) hP hD hS hA (fun zI_6 H locs hw_4 hP hD hS => ?_)
  obtain ⟨k_zI_6, ps_7⟩ : (WM [401, 402, 3400] AL zT zR zI zI_6) ∧ (TKH zR zI zI_6 (zR zt 0) (zR zo 0)) := hw_4
  have h_zI_6 : WM [107, 108, 109, 110, 206, 207, 306, 401, 402, 505, 907, 908, 2000, 2100, 2200, 2300, 2400, 2500, 2600, 2700, 2900, 3000, 3100, 3200, 3300, 3400, 4800] AL zT zR zI zI_6 := h_zI.tr k_zI_6 (by decide) (fun _ _ => trivial)
  refine lv_aload_n hx hb dX8_take_11 rfl (lv_at hl 0 rfl) ?_
  refine ht_getr (C := RX8) (T := TX8) (N := 9) hx hb hts (by decide +kernel) hown hK hP hs t_zt (by decide) rfl rfl 1 (by decide) (hts (.fieldLink RX8 21 "DripStone$State" "law" "LDripStone$Law;") (by decide +kernel)) (fun _ h9 => h9) rfl dX8_take_12 ?_
  have t_8 : zT (zR zt 1) = 5 := sk_f hs t_zt (by decide) rfl (by decide)
  refine lv_aload_n hx hb dX8_take_15 rfl (lv_at hl 1 rfl) ?_
  refine ht_getr (C := RX8) (T := TX8) (N := 9) hx hb hts (by decide +kernel) hown hK hP hs t_zo (by decide) rfl rfl 1 (by decide) (hts (.fieldLink RX8 21 "DripStone$State" "law" "LDripStone$Law;") (by decide +kernel)) (fun _ h9 => h9) rfl dX8_take_16 ?_
  have t_9 : zT (zR zo 1) = 14 := sk_f hs t_zo (by decide) rfl (by decide)
  refine hj_v (ws := (WL cy zL zT zR zI_6 zJ)) (w1 := fun (u : (Nat → Nat → Int32)) => (WL cy zL zT zR u zJ)) (va_runV (As := [.ref (zR zo 1)]) (rest := []) ⟨hx, hb, hml, hown, hts⟩ (t_X4_take_5_14 l dC dI cy H.size zL zT zR zI_6 zJ (zR zt 1) (zR zo 1) hs h_zI_6.1 t_8 t_9) (cwV 1 hts gX8_take_X4_take rfl rfl rfl (by decide +kernel) ⟨(Nat.le_of_ble_eq_true rfl), (Nat.le_of_ble_eq_true rfl)⟩) (PRE.v hP hK hD hN (ht_recv hK hP hs t_8 (by decide) rfl rfl)) rfl rfl hl.1 rfl (lv_room (Nat.le_of_ble_eq_true rfl)) dX8_take_19 ⟨(Nat.le_of_ble_eq_true rfl), (Nat.le_of_ble_eq_true rfl)⟩) hP hD hS hA (fun zI_13 H locs hw_11 hP hD hS => ?_)
  have k_zI_13 : WM [505, 2200, 2900, 3000] AL zT zR zI_6 zI_13 := hw_11
  have h_zI_13 : WM [107, 108, 109, 110, 206, 207, 306, 401, 402, 505, 907, 908, 2000, 2100, 2200, 2300, 2400, 2500, 2600, 2700, 2900, 3000, 3100, 3200, 3300, 3400, 4800] AL zT zR zI zI_13 := h_zI_6.tr k_zI_13 (by decide) (fun _ _ => trivial)
  have th_zI_13 : TKH zR zI zI_13 (zR zt 0) (zR zo 0) := TKH.sm ps_7 hs (Or.inl t_1) k_zI_13.2 (by decide)
  refine lv_aload_n hx hb dX8_take_22 rfl (lv_at hl 0 rfl) ?_
  refine ht_getr (C := RX8) (T := TX8) (N := 9) hx hb hts (by decide +kernel) hown hK hP hs t_zt (by decide) rfl rfl 3 (by decide) (hts (.fieldLink RX8 35 "DripStone$State" "dates" "LDripStone$Dates;") (by decide +kernel)) (fun _ h9 => h9) rfl dX8_take_23 ?_
  have t_14 : zT (zR zt 3) = 3 := sk_f hs t_zt (by decide) rfl (by decide)
  refine lv_aload_n hx hb dX8_take_26 rfl (lv_at hl 1 rfl) ?_
  refine ht_getr (C := RX8) (T := TX8) (N := 9) hx hb hts (by decide +kernel) hown hK hP hs t_zo (by decide) rfl rfl 3 (by decide) (hts (.fieldLink RX8 35 "DripStone$State" "dates" "LDripStone$Dates;") (by decide +kernel)) (fun _ h9 => h9) rfl dX8_take_27 ?_
  have t_15 : zT (zR zo 3) = 16 := sk_f hs t_zo (by decide) rfl (by decide)
  refine hj_v (ws := (WL cy zL zT zR zI_13 zJ)) (w1 := fun (u : (Nat → Nat → Int32)) => (WL cy zL zT zR u zJ)) (va_runV (As := [.ref (zR zo 3)]) (rest := []) ⟨hx, hb, hml, hown, hts⟩ (t_X2_take_3_16 l dC dI cy H.size zL zT zR zI_13 zJ (zR zt 3) (zR zo 3) hs h_zI_13.1 t_14 t_15) (cwV 1 hts gX8_take_X2_take rfl rfl rfl (by decide +kernel) ⟨(Nat.le_of_ble_eq_true rfl), (Nat.le_of_ble_eq_true rfl)⟩) (PRE.v hP hK hD hN (ht_recv hK hP hs t_14 (by decide) rfl rfl)) rfl rfl hl.1 rfl (lv_room (Nat.le_of_ble_eq_true rfl)) dX8_take_30 ⟨(Nat.le_of_ble_eq_true rfl), (Nat.le_of_ble_eq_true rfl)⟩) hP hD hS hA (fun zI_19 H locs hw_17 hP hD hS => ?_)
  have k_zI_19 : WM [306, 2400, 2500, 2600, 2700] AL zT zR zI_13 zI_19 := hw_17
  have h_zI_19 : WM [107, 108, 109, 110, 206, 207, 306, 401, 402, 505, 907, 908, 2000, 2100, 2200, 2300, 2400, 2500, 2600, 2700, 2900, 3000, 3100, 3200, 3300, 3400, 4800] AL zT zR zI zI_19 := h_zI_13.tr k_zI_19 (by decide) (fun _ _ => trivial)
  have th_zI_19 : TKH zR zI zI_19 (zR zt 0) (zR zo 0) := TKH.sm th_zI_13 hs (Or.inl t_1) k_zI_19.2 (by decide)
  refine lv_iconst (v := 0) hx hb dX8_take_33 (by decide) ?_
  refine lv_istore_n (lv' := [(2, .int 0), (0, .ref zt), (1, .ref zo)]) hx hb dX8_take_34 rfl hl (by decide) rfl (fun ls hl => ?_)
  have lp_89 : ∀ (n : Nat) (zi_74 : Int32) (zI_75 : Nat → Nat → Int32) (H : Heap) (locs : List Loc) (ls : Array Slot), (2 - zi_74.toInt).toNat = n → (0 ≤ zi_74.toInt ∧ zi_74.toInt ≤ 2) → (WM [107, 108, 109, 110, 206, 207, 306, 401, 402, 505, 907, 908, 2000, 2100, 2200, 2300, 2400, 2500, 2600, 2700, 2900, 3000, 3100, 3200, 3300, 3400, 4800] AL zT zR zI zI_75) → (TKH zR zI zI_75 (zR zt 0) (zR zo 0)) → (TKM zR zI zI_75 zt zo zi_74.toInt) → va_P (dC, dI) vwCl (WL cy zL zT zR zI_75 zJ) H → va_D A (WL cy zL zT zR zI_75 zJ) → va_S A s.heap H locs → lv_has ls 3 [(0, .ref zt), (1, .ref zo), (2, .int zi_74)] → W p l e ({ frames := 3, cells := 0, slots := 0, locals := 73 } : Room) s m ([.ref zt, .ref zo] : List Value).toArray below meth c H locs 0 0 Q (F0 m 35 ls []) := by
    intro n
    induction n using Nat.strongRecOn with
    | _ n ih_89 =>
      intro zi_74 zI_75 H locs ls hn b_zi_74 h_zI_75 e_lp_89_0 e_lp_89_1 hP hD hS hl
      refine lv_iload_n hx hb dX8_take_35 rfl (lv_at hl 2 rfl) ?_
      refine lv_iconst (v := 2) hx hb dX8_take_36 (by decide) ?_
      refine lv_icmp_ge (tgt := 61) hx hb dX8_take_37 (by decide) (fun c_90 => ?_) (fun c_90 => ?_)
      · have f_91 : zi_74.toInt ≥ (2 : Int) := ic_ge (rfl) (show (2 : Int32).toInt = 2 by decide) c_90
        refine lv_iconst (v := 0) hx hb dX8_take_61 (by decide) ?_
        refine lv_istore_n (lv' := [(2, .int 0), (0, .ref zt), (1, .ref zo)]) hx hb dX8_take_62 rfl hl (by decide) rfl (fun ls hl => ?_)
        have lp_151 : ∀ (n : Nat) (zi_138 : Int32) (zI_139 : Nat → Nat → Int32) (H : Heap) (locs : List Loc) (ls : Array Slot), (4 - zi_138.toInt).toNat = n → (0 ≤ zi_138.toInt ∧ zi_138.toInt ≤ 4) → (WM [107, 108, 109, 110, 206, 207, 306, 401, 402, 505, 907, 908, 2000, 2100, 2200, 2300, 2400, 2500, 2600, 2700, 2900, 3000, 3100, 3200, 3300, 3400, 4800] AL zT zR zI zI_139) → (TKH zR zI zI_139 (zR zt 0) (zR zo 0)) → (TKM zR zI zI_139 zt zo 2) → va_P (dC, dI) vwCl (WL cy zL zT zR zI_139 zJ) H → va_D A (WL cy zL zT zR zI_139 zJ) → va_S A s.heap H locs → lv_has ls 3 [(0, .ref zt), (1, .ref zo), (2, .int zi_138)] → W p l e ({ frames := 3, cells := 0, slots := 0, locals := 73 } : Room) s m ([.ref zt, .ref zo] : List Value).toArray below meth c H locs 0 0 Q (F0 m 63 ls []) := by
          intro n
          induction n using Nat.strongRecOn with
          | _ n ih_151 =>
            intro zi_138 zI_139 H locs ls hn b_zi_138 h_zI_139 e_lp_151_0 e_lp_151_1 hP hD hS hl
            refine lv_iload_n hx hb dX8_take_63 rfl (lv_at hl 2 rfl) ?_
            refine lv_iconst (v := 4) hx hb dX8_take_64 (by decide) ?_
            refine lv_icmp_ge (tgt := 89) hx hb dX8_take_65 (by decide) (fun c_152 => ?_) (fun c_152 => ?_)
            · have f_153 : zi_138.toInt ≥ (4 : Int) := ic_ge (rfl) (show (4 : Int32).toInt = 4 by decide) c_152
              refine lv_aload_n hx hb dX8_take_89 rfl (lv_at hl 1 rfl) ?_
              refine ht_getr (C := RX8) (T := TX8) (N := 9) hx hb hts (by decide +kernel) hown hK hP hs t_zo (by decide) rfl rfl 5 (by decide) (hts (.fieldLink RX8 46 "DripStone$State" "lows" "[I") (by decide +kernel)) (fun _ h9 => h9) rfl dX8_take_90 ?_
              have t_154 : zT (zR zo 5) = 98 := sk_f hs t_zo (by decide) rfl (by decide)
              refine lv_aload_n hx hb dX8_take_93 rfl (lv_at hl 0 rfl) ?_
              refine ht_getr (C := RX8) (T := TX8) (N := 9) hx hb hts (by decide +kernel) hown hK hP hs t_zt (by decide) rfl rfl 5 (by decide) (hts (.fieldLink RX8 46 "DripStone$State" "lows" "[I") (by decide +kernel)) (fun _ h9 => h9) rfl dX8_take_94 ?_
              have t_155 : zT (zR zt 5) = 48 := sk_f hs t_zt (by decide) rfl (by decide)
              refine hj_v (ws := (WL cy zL zT zR zI_139 zJ)) (w1 := fun (u : (Nat → Nat → Int32)) => (WL cy zL zT zR u zJ)) (va_runSN (As := [.ref (zR zo 5), .ref (zR zt 5)]) (rest := []) ⟨hx, hb, hml, hown, hts⟩ (t_copyRow_98_48 l dC dI cy H.size zL zT zR zI_139 zJ (zR zo 5) (zR zt 5) hs h_zI_139.1 t_154 t_155) ⟨va_cnB 2 hts ggX8_take_X10_copyRow rfl rfl rfl (n0_12 hN) (hts (.initialized RX10) (by decide +kernel)) (by decide +kernel) ⟨(Nat.le_of_ble_eq_true rfl), (Nat.le_of_ble_eq_true rfl)⟩, hts (.static yX10_copyRow) (by decide +kernel), trivial⟩ (PRE.s hP hK hD hN) rfl rfl hl.1 rfl (lv_room (Nat.le_of_ble_eq_true rfl)) dX8_take_97 ⟨(Nat.le_of_ble_eq_true rfl), (Nat.le_of_ble_eq_true rfl)⟩) hP hD hS hA (fun zI_159 H locs hw_157 hP hD hS => ?_)
              have k_zI_159 : WM [4800] AL zT zR zI_139 zI_159 := hw_157
              have h_zI_159 : WM [107, 108, 109, 110, 206, 207, 306, 401, 402, 505, 907, 908, 2000, 2100, 2200, 2300, 2400, 2500, 2600, 2700, 2900, 3000, 3100, 3200, 3300, 3400, 4800] AL zT zR zI zI_159 := h_zI_139.tr k_zI_159 (by decide) (fun _ _ => trivial)
              have th_zI_159 : TKH zR zI zI_159 (zR zt 0) (zR zo 0) := TKH.sm e_lp_151_0 hs (Or.inl t_1) k_zI_159.2 (by decide)
              have tm_zI_159 : TKM zR zI zI_159 zt zo 2 := TKM.sm e_lp_151_1 hs (Or.inl t_zt) k_zI_159.2 (by decide)
              refine lv_aload_n hx hb dX8_take_100 rfl (lv_at hl 1 rfl) ?_
              refine ht_getr (C := RX8) (T := TX8) (N := 9) hx hb hts (by decide +kernel) hown hK hP hs t_zo (by decide) rfl rfl 6 (by decide) (hts (.fieldLink RX8 50 "DripStone$State" "highs" "[I") (by decide +kernel)) (fun _ h9 => h9) rfl dX8_take_101 ?_
              have t_160 : zT (zR zo 6) = 98 := sk_f hs t_zo (by decide) rfl (by decide)
              refine lv_aload_n hx hb dX8_take_104 rfl (lv_at hl 0 rfl) ?_
              refine ht_getr (C := RX8) (T := TX8) (N := 9) hx hb hts (by decide +kernel) hown hK hP hs t_zt (by decide) rfl rfl 6 (by decide) (hts (.fieldLink RX8 50 "DripStone$State" "highs" "[I") (by decide +kernel)) (fun _ h9 => h9) rfl dX8_take_105 ?_
              have t_161 : zT (zR zt 6) = 48 := sk_f hs t_zt (by decide) rfl (by decide)
              refine hj_v (ws := (WL cy zL zT zR zI_159 zJ)) (w1 := fun (u : (Nat → Nat → Int32)) => (WL cy zL zT zR u zJ)) (va_runSN (As := [.ref (zR zo 6), .ref (zR zt 6)]) (rest := []) ⟨hx, hb, hml, hown, hts⟩ (t_copyRow_98_48 l dC dI cy H.size zL zT zR zI_159 zJ (zR zo 6) (zR zt 6) hs h_zI_159.1 t_160 t_161) ⟨va_cnB 2 hts ggX8_take_X10_copyRow rfl rfl rfl (n0_12 hN) (hts (.initialized RX10) (by decide +kernel)) (by decide +kernel) ⟨(Nat.le_of_ble_eq_true rfl), (Nat.le_of_ble_eq_true rfl)⟩, hts (.static yX10_copyRow) (by decide +kernel), trivial⟩ (PRE.s hP hK hD hN) rfl rfl hl.1 rfl (lv_room (Nat.le_of_ble_eq_true rfl)) dX8_take_108 ⟨(Nat.le_of_ble_eq_true rfl), (Nat.le_of_ble_eq_true rfl)⟩) hP hD hS hA (fun zI_165 H locs hw_163 hP hD hS => ?_)
              have k_zI_165 : WM [4800] AL zT zR zI_159 zI_165 := hw_163
              have h_zI_165 : WM [107, 108, 109, 110, 206, 207, 306, 401, 402, 505, 907, 908, 2000, 2100, 2200, 2300, 2400, 2500, 2600, 2700, 2900, 3000, 3100, 3200, 3300, 3400, 4800] AL zT zR zI zI_165 := h_zI_159.tr k_zI_165 (by decide) (fun _ _ => trivial)
              have th_zI_165 : TKH zR zI zI_165 (zR zt 0) (zR zo 0) := TKH.sm th_zI_159 hs (Or.inl t_1) k_zI_165.2 (by decide)
              have tm_zI_165 : TKM zR zI zI_165 zt zo 2 := TKM.sm tm_zI_159 hs (Or.inl t_zt) k_zI_165.2 (by decide)
              refine lv_aload_n hx hb dX8_take_111 rfl (lv_at hl 0 rfl) ?_
              refine lv_aload_n hx hb dX8_take_112 rfl (lv_at hl 1 rfl) ?_
              refine ht_geti (C := RX8) (T := TX8) (N := 9) hx hb hts (by decide +kernel) hown hK hP hs t_zo (by decide) rfl rfl 7 (by decide) (hts (.fieldLink RX8 73 "DripStone$State" "claimed" "I") (by decide +kernel)) (fun _ h9 => h9) rfl dX8_take_113 ?_
              refine lv_topi (fun zi_166 ezi_166 => ?_)
              have tzi_166 : 0 ≤ zi_166.toInt ∧ zi_166.toInt ≤ 4 := by rw [ezi_166]; exact h_zI_165.at t_zo _ rfl
              refine ht_puti (v := zi_166) (ty := .int) (C := RX8) (T := TX8) (N := 9) hx hb hts (by decide +kernel) tyX8 tyX8_ok nmX8 hown hK hP hD hS hs t_zt (by decide) rfl rfl 7 (by decide) (hts (.fieldLink RX8 73 "DripStone$State" "claimed" "I") (by decide +kernel)) (fun _ h9 => h9) rfl (by decide +kernel) rfl rfl rfl dX8_take_116 (fun H locs hP hD hS => ?_)
              have h_zI_167 : WM [107, 108, 109, 110, 206, 207, 306, 401, 402, 505, 907, 908, 2000, 2100, 2200, 2300, 2400, 2500, 2600, 2700, 2900, 3000, 3100, 3200, 3300, 3400, 4800] AL zT zR zI (u2 zI_165 zt 7 zi_166) := h_zI_165.put hs t_zt rfl (by omega) (by decide) (fun h => absurd h (by decide)) (by decide) trivial
              generalize uzI_167 : u2 zI_165 zt 7 zi_166 = zI_167 at hP hD h_zI_167
              have th_zI_167 : TKH zR zI zI_167 (zR zt 0) (zR zo 0) := by rw [← uzI_167]; exact TKH.sm th_zI_165 hs (Or.inl t_1) (SM.one t_zt) (by decide)
              have tm_zI_167 : TKM zR zI zI_167 zt zo 2 := by rw [← uzI_167]; exact TKM.sm tm_zI_165 hs (Or.inl t_zt) (SM.one t_zt) (by decide)
              refine lv_aload_n hx hb dX8_take_119 rfl (lv_at hl 0 rfl) ?_
              refine lv_aload_n hx hb dX8_take_120 rfl (lv_at hl 1 rfl) ?_
              refine ht_geti (C := RX8) (T := TX8) (N := 9) hx hb hts (by decide +kernel) hown hK hP hs t_zo (by decide) rfl rfl 8 (by decide) (hts (.fieldLink RX8 77 "DripStone$State" "caused" "I") (by decide +kernel)) (fun _ h9 => h9) rfl dX8_take_121 ?_
              refine lv_topi (fun zi_168 ezi_168 => ?_)
              have tzi_168 : 0 ≤ zi_168.toInt ∧ zi_168.toInt ≤ 5 := by rw [ezi_168]; exact h_zI_167.at t_zo _ rfl
              refine ht_puti (v := zi_168) (ty := .int) (C := RX8) (T := TX8) (N := 9) hx hb hts (by decide +kernel) tyX8 tyX8_ok nmX8 hown hK hP hD hS hs t_zt (by decide) rfl rfl 8 (by decide) (hts (.fieldLink RX8 77 "DripStone$State" "caused" "I") (by decide +kernel)) (fun _ h9 => h9) rfl (by decide +kernel) rfl rfl rfl dX8_take_124 (fun H locs hP hD hS => ?_)
              have h_zI_169 : WM [107, 108, 109, 110, 206, 207, 306, 401, 402, 505, 907, 908, 2000, 2100, 2200, 2300, 2400, 2500, 2600, 2700, 2900, 3000, 3100, 3200, 3300, 3400, 4800] AL zT zR zI (u2 zI_167 zt 8 zi_168) := h_zI_167.put hs t_zt rfl (by omega) (by decide) (fun h => absurd h (by decide)) (by decide) trivial
              generalize uzI_169 : u2 zI_167 zt 8 zi_168 = zI_169 at hP hD h_zI_169
              have th_zI_169 : TKH zR zI zI_169 (zR zt 0) (zR zo 0) := by rw [← uzI_169]; exact TKH.sm th_zI_167 hs (Or.inl t_1) (SM.one t_zt) (by decide)
              have tm_zI_169 : TKM zR zI zI_169 zt zo 2 := by rw [← uzI_169]; exact TKM.sm tm_zI_167 hs (Or.inl t_zt) (SM.one t_zt) (by decide)
              subst hQ
              exact W.vret hx hb hr (fun t ht hW => ⟨⟨zI_169, rfl, ⟨h_zI_169, (show TKS zR zI zI_169 zt zo from ⟨((show zI_169 zt 8 = zi_168 from (by rw [← uzI_169]; exact u2_s)).trans (ezi_168.symm.symm.trans (h_zI_167.2 zo 8 (Or.inl (by rw [t_zo]; decide))))), th_zI_169, tm_zI_169⟩)⟩, ⟨by rw [ht]; exact hP, va_K.moved hW.alike hK, hD⟩⟩, hS.F ht⟩) hS.2.2 dX8_take_127
            · have f_153 : ¬ (zi_138.toInt ≥ (4 : Int)) := ic_nge (rfl) (show (4 : Int32).toInt = 4 by decide) c_152
              refine lv_aload_n hx hb dX8_take_68 rfl (lv_at hl 0 rfl) ?_
              refine ht_getr (C := RX8) (T := TX8) (N := 9) hx hb hts (by decide +kernel) hown hK hP hs t_zt (by decide) rfl rfl 4 (by decide) (hts (.fieldLink RX8 42 "DripStone$State" "claims" "[LDripStone$Claim;") (by decide +kernel)) (fun _ h9 => h9) rfl dX8_take_69 ?_
              have t_170 : zT (zR zt 4) = 62 := sk_f hs t_zt (by decide) rfl (by decide)
              refine lv_iload_n hx hb dX8_take_72 rfl (lv_at hl 2 rfl) ?_
              refine ht_aald (n := 4) (q := 4) hx hb hK hP hs t_170 (by decide) rfl rfl ⟨by omega, by omega⟩ dX8_take_73 ?_
              have t_171 : zT (zR (zR zt 4) zi_138.toNatClampNeg) = 2 := sk_a (n := 4) hs t_170 rfl rfl (by decide) (cl_lt (by omega) (by omega))
              refine lv_aload_n hx hb dX8_take_74 rfl (lv_at hl 1 rfl) ?_
              refine ht_getr (C := RX8) (T := TX8) (N := 9) hx hb hts (by decide +kernel) hown hK hP hs t_zo (by decide) rfl rfl 4 (by decide) (hts (.fieldLink RX8 42 "DripStone$State" "claims" "[LDripStone$Claim;") (by decide +kernel)) (fun _ h9 => h9) rfl dX8_take_75 ?_
              have t_172 : zT (zR zo 4) = 92 := sk_f hs t_zo (by decide) rfl (by decide)
              refine lv_iload_n hx hb dX8_take_78 rfl (lv_at hl 2 rfl) ?_
              refine ht_aald (n := 4) (q := 4) hx hb hK hP hs t_172 (by decide) rfl rfl ⟨by omega, by omega⟩ dX8_take_79 ?_
              have t_173 : zT (zR (zR zo 4) zi_138.toNatClampNeg) = 17 := sk_a (n := 4) hs t_172 rfl rfl (by decide) (cl_lt (by omega) (by omega))
              refine hj_v (ws := (WL cy zL zT zR zI_139 zJ)) (w1 := fun (u : (Nat → Nat → Int32)) => (WL cy zL zT zR u zJ)) (va_runV (As := [.ref (zR (zR zo 4) zi_138.toNatClampNeg)]) (rest := []) ⟨hx, hb, hml, hown, hts⟩ (t_X1_take_2_17 l dC dI cy H.size zL zT zR zI_139 zJ (zR (zR zt 4) zi_138.toNatClampNeg) (zR (zR zo 4) zi_138.toNatClampNeg) hs h_zI_139.1 t_171 t_173) (cwV 1 hts gX8_take_X1_take rfl rfl rfl (by decide +kernel) ⟨(Nat.le_of_ble_eq_true rfl), (Nat.le_of_ble_eq_true rfl)⟩) (PRE.v hP hK hD hN (ht_recv hK hP hs t_171 (by decide) rfl rfl)) rfl rfl hl.1 rfl (lv_room (Nat.le_of_ble_eq_true rfl)) dX8_take_80 ⟨(Nat.le_of_ble_eq_true rfl), (Nat.le_of_ble_eq_true rfl)⟩) hP hD hS hA (fun zI_177 H locs hw_175 hP hD hS => ?_)
              have k_zI_177 : WM [206, 207, 3100, 3200, 3300] AL zT zR zI_139 zI_177 := hw_175
              have h_zI_177 : WM [107, 108, 109, 110, 206, 207, 306, 401, 402, 505, 907, 908, 2000, 2100, 2200, 2300, 2400, 2500, 2600, 2700, 2900, 3000, 3100, 3200, 3300, 3400, 4800] AL zT zR zI zI_177 := h_zI_139.tr k_zI_177 (by decide) (fun _ _ => trivial)
              have th_zI_177 : TKH zR zI zI_177 (zR zt 0) (zR zo 0) := TKH.sm e_lp_151_0 hs (Or.inl t_1) k_zI_177.2 (by decide)
              have tm_zI_177 : TKM zR zI zI_177 zt zo 2 := TKM.sm e_lp_151_1 hs (Or.inl t_zt) k_zI_177.2 (by decide)
              obtain ⟨zi_178, ezi_178⟩ : ∃ y : Int32, y = zi_138 + 1 := ⟨_, rfl⟩
              have tzi_178 : zi_178.toInt = zi_138.toInt + 1 := by rw [ezi_178]; exact tadd rfl (show (1 : Int32).toInt = 1 by decide) (by omega) (by omega)
              refine lv_iinc (v := zi_178) (lv' := [(2, .int zi_178), (0, .ref zt), (1, .ref zo)]) hx hb dX8_take_83 hl (k := 2) rfl (by rw [ezi_178]; rfl) (by decide) rfl (fun ls hl => ?_)
              refine lv_goto (tgt := 63) hx hb dX8_take_86 (by decide) ?_
              exact ih_151 (4 - zi_178.toInt).toNat (by omega) zi_178 zI_177 _ _ _ rfl (by omega) h_zI_177 th_zI_177 tm_zI_177 hP hD hS (lv_sub hl [1, 2, 0] rfl)
        have qc_0 : (0 : Int32).toInt = 0 := by decide
        exact lp_151 _ (0 : Int32) zI_75 _ _ _ rfl (by decide) h_zI_75 e_lp_89_0 (TKM.e e_lp_89_1 (by omega)) hP hD hS (lv_sub hl [1, 2, 0] rfl)
      · have f_91 : ¬ (zi_74.toInt ≥ (2 : Int)) := ic_nge (rfl) (show (2 : Int32).toInt = 2 by decide) c_90
        refine lv_aload_n hx hb dX8_take_40 rfl (lv_at hl 0 rfl) ?_
        refine ht_getr (C := RX8) (T := TX8) (N := 9) hx hb hts (by decide +kernel) hown hK hP hs t_zt (by decide) rfl rfl 2 (by decide) (hts (.fieldLink RX8 28 "DripStone$State" "candles" "[LDripStone$Candle;") (by decide +kernel)) (fun _ h9 => h9) rfl dX8_take_41 ?_
        have t_179 : zT (zR zt 2) = 61 := sk_f hs t_zt (by decide) rfl (by decide)
        refine lv_iload_n hx hb dX8_take_44 rfl (lv_at hl 2 rfl) ?_
        refine ht_aald (n := 2) (q := 3) hx hb hK hP hs t_179 (by decide) rfl rfl ⟨by omega, by omega⟩ dX8_take_45 ?_
        have t_180 : zT (zR (zR zt 2) zi_74.toNatClampNeg) = 1 := sk_a (n := 2) hs t_179 rfl rfl (by decide) (cl_lt (by omega) (by omega))
        refine lv_aload_n hx hb dX8_take_46 rfl (lv_at hl 1 rfl) ?_
        refine ht_getr (C := RX8) (T := TX8) (N := 9) hx hb hts (by decide +kernel) hown hK hP hs t_zo (by decide) rfl rfl 2 (by decide) (hts (.fieldLink RX8 28 "DripStone$State" "candles" "[LDripStone$Candle;") (by decide +kernel)) (fun _ h9 => h9) rfl dX8_take_47 ?_
        have t_181 : zT (zR zo 2) = 91 := sk_f hs t_zo (by decide) rfl (by decide)
        refine lv_iload_n hx hb dX8_take_50 rfl (lv_at hl 2 rfl) ?_
        refine ht_aald (n := 2) (q := 3) hx hb hK hP hs t_181 (by decide) rfl rfl ⟨by omega, by omega⟩ dX8_take_51 ?_
        have t_182 : zT (zR (zR zo 2) zi_74.toNatClampNeg) = 15 := sk_a (n := 2) hs t_181 rfl rfl (by decide) (cl_lt (by omega) (by omega))
        refine hj_v (ws := (WL cy zL zT zR zI_75 zJ)) (w1 := fun (u : (Nat → Nat → Int32)) => (WL cy zL zT zR u zJ)) (va_runV (As := [.ref (zR (zR zo 2) zi_74.toNatClampNeg)]) (rest := []) ⟨hx, hb, hml, hown, hts⟩ (t_X0_take_1_15 l dC dI cy H.size zL zT zR zI_75 zJ (zR (zR zt 2) zi_74.toNatClampNeg) (zR (zR zo 2) zi_74.toNatClampNeg) hs h_zI_75.1 t_180 t_182) (cwV 1 hts gX8_take_X0_take rfl rfl rfl (by decide +kernel) ⟨(Nat.le_of_ble_eq_true rfl), (Nat.le_of_ble_eq_true rfl)⟩) (PRE.v hP hK hD hN (ht_recv hK hP hs t_180 (by decide) rfl rfl)) rfl rfl hl.1 rfl (lv_room (Nat.le_of_ble_eq_true rfl)) dX8_take_52 ⟨(Nat.le_of_ble_eq_true rfl), (Nat.le_of_ble_eq_true rfl)⟩) hP hD hS hA (fun zI_186 H locs hw_184 hP hD hS => ?_)
        obtain ⟨k_zI_186, ps_187, ps_188⟩ : (WM [107, 108, 109, 110, 2000, 2100, 2200, 2300] AL zT zR zI_75 zI_186) ∧ (zI_186 (zR (zR zt 2) zi_74.toNatClampNeg) 9 = zI_75 (zR (zR zo 2) zi_74.toNatClampNeg) 9) ∧ (∀ a9 : Nat, zT a9 = 1 → ¬ a9 = (zR (zR zt 2) zi_74.toNatClampNeg) → zI_186 a9 9 = zI_75 a9 9) := hw_184
        have h_zI_186 : WM [107, 108, 109, 110, 206, 207, 306, 401, 402, 505, 907, 908, 2000, 2100, 2200, 2300, 2400, 2500, 2600, 2700, 2900, 3000, 3100, 3200, 3300, 3400, 4800] AL zT zR zI zI_186 := h_zI_75.tr k_zI_186 (by decide) (fun _ _ => trivial)
        have th_zI_186 : TKH zR zI zI_186 (zR zt 0) (zR zo 0) := TKH.sm e_lp_89_0 hs (Or.inl t_1) k_zI_186.2 (by decide)
        obtain ⟨zi_189, ezi_189⟩ : ∃ y : Int32, y = zi_74 + 1 := ⟨_, rfl⟩
        have tzi_189 : zi_189.toInt = zi_74.toInt + 1 := by rw [ezi_189]; exact tadd rfl (show (1 : Int32).toInt = 1 by decide) (by omega) (by omega)
        refine lv_iinc (v := zi_189) (lv' := [(2, .int zi_189), (0, .ref zt), (1, .ref zo)]) hx hb dX8_take_55 hl (k := 2) rfl (by rw [ezi_189]; rfl) (by decide) rfl (fun ls hl => ?_)
        refine lv_goto (tgt := 35) hx hb dX8_take_58 (by decide) ?_
        exact ih_89 (2 - zi_189.toInt).toNat (by omega) zi_189 zI_186 _ _ _ rfl (by omega) h_zI_186 th_zI_186 (TKM.s (i := zi_74) e_lp_89_1 hs (Or.inl t_zt) (by omega) rfl (by omega) (fun c hc => sk_a (n := 2) hs t_179 rfl rfl (by decide) hc) ps_187 ps_188 (h_zI_75.2 (zR (zR zo 2) zi_74.toNatClampNeg) 9 (Or.inl (by rw [t_182]; decide)))) hP hD hS (lv_sub hl [1, 2, 0] rfl)
  have qc_0 : (0 : Int32).toInt = 0 := by decide
  exact lp_89 _ (0 : Int32) zI_19 _ _ _ rfl (by decide) h_zI_19 th_zI_19 TKM.z hP hD hS (lv_sub hl [1, 2, 0] rfl)
set_option maxHeartbeats 8000000 in
set_option maxRecDepth 100000 in
theorem t_X8_take_12_9 (l : Launch) (dC : Nat → ClassId) (dI : Nat → Nat → Nat) (cy : Nat → ClassId) (sz : Nat) (zL : List Nat) (zT : Nat → Nat) (zR : Nat → Nat → Nat) (zI : Nat → Nat → Int32) (zJ : Nat → Nat → Int64) (zt : Nat) (zo : Nat) (hs : SKP zL zT zR) (hw : WT zT zR zI) (t_zt : zT zt = 12) (t_zo : zT zo = 9) : Met l yX8_take wsX8_take ({ frames := 3, cells := 0, slots := 0, locals := 73 } : Room) (va_Pc [.ref zt, .ref zo] (PRE dC dI cy (WL cy zL zT zR zI zJ) sz)) (va_Qv (fun (u : (Nat → Nat → Int32)) => (WM [1207, 1208, 1301, 1302, 1405, 1507, 1508, 1509, 1510, 1606, 1706, 1707, 7000, 7100, 7200, 7300, 7400, 7500, 7600, 7700, 7900, 8000, 8100, 8200, 8300, 8400, 9800] AL zT zR zI u) ∧ (TKS zR zI u zt zo)) (fun u t => POST dC dI cy (va_A (WL cy zL zT zR zI zJ) sz) (WL cy zL zT zR u zJ) t) (va_A (WL cy zL zT zR zI zJ) sz)) 0 0 (va_A (WL cy zL zT zR zI zJ) sz) := by
  refine Met.ofW (cc := cX8_take) (maxL := 3) (ret := none) (by decide) rfl ?_
  intro p e s m args below meth c s₁ B hml hv
  obtain ⟨rfl, hsz, hP, hK, hD0, hN⟩ := hv
  have hx := B.exec
  have hb := B.bytes
  have hr := B.returns
  have hts := atoms_spec (ws := wsX8_take) B.pre
  have hown : s.vm.findClass RX8 = some m.cls := findClass_of_methodNamed B.named
  have hlocks := B.notSynchronized
  subst hsz
  have hD := hD0.self (sz := s.heap.size)
  generalize hAe : va_A (WL cy zL zT zR zI zJ) s.heap.size = A at hD ⊢
  have hA : ∀ q : Nat, s.heap.size ≤ q → A q := fun q h => by rw [← hAe]; exact Or.inr h
  have hS : va_S A s.heap s.heap [] := va_S.rf
  have hP : va_P (dC, dI) vwCl (WL cy zL zT zR zI zJ) s.heap := hP
  have hl := lv_entry ([.ref zt, .ref zo] : List Value) (n := 3) (Nat.le_of_ble_eq_true rfl)
  rw [lg_entry_eq]
  generalize (lg_sl ([.ref zt, .ref zo] : List Value) ++ List.replicate (3 - (lg_sl ([.ref zt, .ref zo] : List Value)).length) Slot.unset).toArray = ls at hl ⊢
  have hl : lv_has ls 3 [(0, .ref zt), (1, .ref zo)] := hl
  refine w_q (fun Q hQ => ?_)
  have h_zI : WM [1207, 1208, 1301, 1302, 1405, 1507, 1508, 1509, 1510, 1606, 1706, 1707, 7000, 7100, 7200, 7300, 7400, 7500, 7600, 7700, 7900, 8000, 8100, 8200, 8300, 8400, 9800] AL zT zR zI zI := WM.rf hw
  refine lv_aload_n hx hb dX8_take_0 rfl (lv_at hl 0 rfl) ?_
  refine ht_getr (C := RX8) (T := TX8) (N := 9) hx hb hts (by decide +kernel) hown hK hP hs t_zt (by decide) rfl rfl 0 (by decide) (hts (.fieldLink RX8 12 "DripStone$State" "hill" "LDripStone$Hill;") (by decide +kernel)) (fun _ h9 => h9) rfl dX8_take_1 ?_
  have t_1 : zT (zR zt 0) = 13 := sk_f hs t_zt (by decide) rfl (by decide)
  refine lv_aload_n hx hb dX8_take_4 rfl (lv_at hl 1 rfl) ?_
  refine ht_getr (C := RX8) (T := TX8) (N := 9) hx hb hts (by decide +kernel) hown hK hP hs t_zo (by decide) rfl rfl 0 (by decide) (hts (.fieldLink RX8 12 "DripStone$State" "hill" "LDripStone$Hill;") (by decide +kernel)) (fun _ h9 => h9) rfl dX8_take_5 ?_
  have t_2 : zT (zR zo 0) = 4 := sk_f hs t_zo (by decide) rfl (by decide)
  refine hj_v (ws := (WL cy zL zT zR zI zJ)) (w1 := fun (u : (Nat → Nat → Int32)) => (WL cy zL zT zR u zJ)) (va_runV (As := [.ref (zR zo 0)]) (rest := []) ⟨hx, hb, hml, hown, hts⟩ (t_X3_take_13_4 l dC dI cy s.heap.size zL zT zR zI zJ (zR zt 0) (zR zo 0) hs h_zI.1 t_1 t_2) (cwV 1 hts gX8_take_X3_take rfl rfl rfl (by decide +kernel) ⟨(Nat.le_of_ble_eq_true rfl), (Nat.le_of_ble_eq_true rfl)⟩) (PRE.v hP hK hD hN (ht_recv hK hP hs t_1 (by decide) rfl rfl)) rfl rfl hl.1 rfl (lv_room (Nat.le_of_ble_eq_true rfl)) dX8_take_8 ⟨(Nat.le_of_ble_eq_true rfl), (Nat.le_of_ble_eq_true rfl)⟩) hP hD hS hA (fun zI_6 H locs hw_4 hP hD hS => ?_)
  obtain ⟨k_zI_6, ps_7⟩ : (WM [1301, 1302, 8400] AL zT zR zI zI_6) ∧ (TKH zR zI zI_6 (zR zt 0) (zR zo 0)) := hw_4
  have h_zI_6 : WM [1207, 1208, 1301, 1302, 1405, 1507, 1508, 1509, 1510, 1606, 1706, 1707, 7000, 7100, 7200, 7300, 7400, 7500, 7600, 7700, 7900, 8000, 8100, 8200, 8300, 8400, 9800] AL zT zR zI zI_6 := h_zI.tr k_zI_6 (by decide) (fun _ _ => trivial)
  refine lv_aload_n hx hb dX8_take_11 rfl (lv_at hl 0 rfl) ?_
  refine ht_getr (C := RX8) (T := TX8) (N := 9) hx hb hts (by decide +kernel) hown hK hP hs t_zt (by decide) rfl rfl 1 (by decide) (hts (.fieldLink RX8 21 "DripStone$State" "law" "LDripStone$Law;") (by decide +kernel)) (fun _ h9 => h9) rfl dX8_take_12 ?_
  have t_8 : zT (zR zt 1) = 14 := sk_f hs t_zt (by decide) rfl (by decide)
  refine lv_aload_n hx hb dX8_take_15 rfl (lv_at hl 1 rfl) ?_
  refine ht_getr (C := RX8) (T := TX8) (N := 9) hx hb hts (by decide +kernel) hown hK hP hs t_zo (by decide) rfl rfl 1 (by decide) (hts (.fieldLink RX8 21 "DripStone$State" "law" "LDripStone$Law;") (by decide +kernel)) (fun _ h9 => h9) rfl dX8_take_16 ?_
  have t_9 : zT (zR zo 1) = 5 := sk_f hs t_zo (by decide) rfl (by decide)
  refine hj_v (ws := (WL cy zL zT zR zI_6 zJ)) (w1 := fun (u : (Nat → Nat → Int32)) => (WL cy zL zT zR u zJ)) (va_runV (As := [.ref (zR zo 1)]) (rest := []) ⟨hx, hb, hml, hown, hts⟩ (t_X4_take_14_5 l dC dI cy H.size zL zT zR zI_6 zJ (zR zt 1) (zR zo 1) hs h_zI_6.1 t_8 t_9) (cwV 1 hts gX8_take_X4_take rfl rfl rfl (by decide +kernel) ⟨(Nat.le_of_ble_eq_true rfl), (Nat.le_of_ble_eq_true rfl)⟩) (PRE.v hP hK hD hN (ht_recv hK hP hs t_8 (by decide) rfl rfl)) rfl rfl hl.1 rfl (lv_room (Nat.le_of_ble_eq_true rfl)) dX8_take_19 ⟨(Nat.le_of_ble_eq_true rfl), (Nat.le_of_ble_eq_true rfl)⟩) hP hD hS hA (fun zI_13 H locs hw_11 hP hD hS => ?_)
  have k_zI_13 : WM [1405, 7200, 7900, 8000] AL zT zR zI_6 zI_13 := hw_11
  have h_zI_13 : WM [1207, 1208, 1301, 1302, 1405, 1507, 1508, 1509, 1510, 1606, 1706, 1707, 7000, 7100, 7200, 7300, 7400, 7500, 7600, 7700, 7900, 8000, 8100, 8200, 8300, 8400, 9800] AL zT zR zI zI_13 := h_zI_6.tr k_zI_13 (by decide) (fun _ _ => trivial)
  have th_zI_13 : TKH zR zI zI_13 (zR zt 0) (zR zo 0) := TKH.sm ps_7 hs (Or.inr t_1) k_zI_13.2 (by decide)
  refine lv_aload_n hx hb dX8_take_22 rfl (lv_at hl 0 rfl) ?_
  refine ht_getr (C := RX8) (T := TX8) (N := 9) hx hb hts (by decide +kernel) hown hK hP hs t_zt (by decide) rfl rfl 3 (by decide) (hts (.fieldLink RX8 35 "DripStone$State" "dates" "LDripStone$Dates;") (by decide +kernel)) (fun _ h9 => h9) rfl dX8_take_23 ?_
  have t_14 : zT (zR zt 3) = 16 := sk_f hs t_zt (by decide) rfl (by decide)
  refine lv_aload_n hx hb dX8_take_26 rfl (lv_at hl 1 rfl) ?_
  refine ht_getr (C := RX8) (T := TX8) (N := 9) hx hb hts (by decide +kernel) hown hK hP hs t_zo (by decide) rfl rfl 3 (by decide) (hts (.fieldLink RX8 35 "DripStone$State" "dates" "LDripStone$Dates;") (by decide +kernel)) (fun _ h9 => h9) rfl dX8_take_27 ?_
  have t_15 : zT (zR zo 3) = 3 := sk_f hs t_zo (by decide) rfl (by decide)
  refine hj_v (ws := (WL cy zL zT zR zI_13 zJ)) (w1 := fun (u : (Nat → Nat → Int32)) => (WL cy zL zT zR u zJ)) (va_runV (As := [.ref (zR zo 3)]) (rest := []) ⟨hx, hb, hml, hown, hts⟩ (t_X2_take_16_3 l dC dI cy H.size zL zT zR zI_13 zJ (zR zt 3) (zR zo 3) hs h_zI_13.1 t_14 t_15) (cwV 1 hts gX8_take_X2_take rfl rfl rfl (by decide +kernel) ⟨(Nat.le_of_ble_eq_true rfl), (Nat.le_of_ble_eq_true rfl)⟩) (PRE.v hP hK hD hN (ht_recv hK hP hs t_14 (by decide) rfl rfl)) rfl rfl hl.1 rfl (lv_room (Nat.le_of_ble_eq_true rfl)) dX8_take_30 ⟨(Nat.le_of_ble_eq_true rfl), (Nat.le_of_ble_eq_true rfl)⟩) hP hD hS hA (fun zI_19 H locs hw_17 hP hD hS => ?_)
  have k_zI_19 : WM [1606, 7400, 7500, 7600, 7700] AL zT zR zI_13 zI_19 := hw_17
  have h_zI_19 : WM [1207, 1208, 1301, 1302, 1405, 1507, 1508, 1509, 1510, 1606, 1706, 1707, 7000, 7100, 7200, 7300, 7400, 7500, 7600, 7700, 7900, 8000, 8100, 8200, 8300, 8400, 9800] AL zT zR zI zI_19 := h_zI_13.tr k_zI_19 (by decide) (fun _ _ => trivial)
  have th_zI_19 : TKH zR zI zI_19 (zR zt 0) (zR zo 0) := TKH.sm th_zI_13 hs (Or.inr t_1) k_zI_19.2 (by decide)
  refine lv_iconst (v := 0) hx hb dX8_take_33 (by decide) ?_
  refine lv_istore_n (lv' := [(2, .int 0), (0, .ref zt), (1, .ref zo)]) hx hb dX8_take_34 rfl hl (by decide) rfl (fun ls hl => ?_)
  have lp_89 : ∀ (n : Nat) (zi_74 : Int32) (zI_75 : Nat → Nat → Int32) (H : Heap) (locs : List Loc) (ls : Array Slot), (2 - zi_74.toInt).toNat = n → (0 ≤ zi_74.toInt ∧ zi_74.toInt ≤ 2) → (WM [1207, 1208, 1301, 1302, 1405, 1507, 1508, 1509, 1510, 1606, 1706, 1707, 7000, 7100, 7200, 7300, 7400, 7500, 7600, 7700, 7900, 8000, 8100, 8200, 8300, 8400, 9800] AL zT zR zI zI_75) → (TKH zR zI zI_75 (zR zt 0) (zR zo 0)) → (TKM zR zI zI_75 zt zo zi_74.toInt) → va_P (dC, dI) vwCl (WL cy zL zT zR zI_75 zJ) H → va_D A (WL cy zL zT zR zI_75 zJ) → va_S A s.heap H locs → lv_has ls 3 [(0, .ref zt), (1, .ref zo), (2, .int zi_74)] → W p l e ({ frames := 3, cells := 0, slots := 0, locals := 73 } : Room) s m ([.ref zt, .ref zo] : List Value).toArray below meth c H locs 0 0 Q (F0 m 35 ls []) := by
    intro n
    induction n using Nat.strongRecOn with
    | _ n ih_89 =>
      intro zi_74 zI_75 H locs ls hn b_zi_74 h_zI_75 e_lp_89_0 e_lp_89_1 hP hD hS hl
      refine lv_iload_n hx hb dX8_take_35 rfl (lv_at hl 2 rfl) ?_
      refine lv_iconst (v := 2) hx hb dX8_take_36 (by decide) ?_
      refine lv_icmp_ge (tgt := 61) hx hb dX8_take_37 (by decide) (fun c_90 => ?_) (fun c_90 => ?_)
      · have f_91 : zi_74.toInt ≥ (2 : Int) := ic_ge (rfl) (show (2 : Int32).toInt = 2 by decide) c_90
        refine lv_iconst (v := 0) hx hb dX8_take_61 (by decide) ?_
        refine lv_istore_n (lv' := [(2, .int 0), (0, .ref zt), (1, .ref zo)]) hx hb dX8_take_62 rfl hl (by decide) rfl (fun ls hl => ?_)
        have lp_151 : ∀ (n : Nat) (zi_138 : Int32) (zI_139 : Nat → Nat → Int32) (H : Heap) (locs : List Loc) (ls : Array Slot), (4 - zi_138.toInt).toNat = n → (0 ≤ zi_138.toInt ∧ zi_138.toInt ≤ 4) → (WM [1207, 1208, 1301, 1302, 1405, 1507, 1508, 1509, 1510, 1606, 1706, 1707, 7000, 7100, 7200, 7300, 7400, 7500, 7600, 7700, 7900, 8000, 8100, 8200, 8300, 8400, 9800] AL zT zR zI zI_139) → (TKH zR zI zI_139 (zR zt 0) (zR zo 0)) → (TKM zR zI zI_139 zt zo 2) → va_P (dC, dI) vwCl (WL cy zL zT zR zI_139 zJ) H → va_D A (WL cy zL zT zR zI_139 zJ) → va_S A s.heap H locs → lv_has ls 3 [(0, .ref zt), (1, .ref zo), (2, .int zi_138)] → W p l e ({ frames := 3, cells := 0, slots := 0, locals := 73 } : Room) s m ([.ref zt, .ref zo] : List Value).toArray below meth c H locs 0 0 Q (F0 m 63 ls []) := by
          intro n
          induction n using Nat.strongRecOn with
          | _ n ih_151 =>
            intro zi_138 zI_139 H locs ls hn b_zi_138 h_zI_139 e_lp_151_0 e_lp_151_1 hP hD hS hl
            refine lv_iload_n hx hb dX8_take_63 rfl (lv_at hl 2 rfl) ?_
            refine lv_iconst (v := 4) hx hb dX8_take_64 (by decide) ?_
            refine lv_icmp_ge (tgt := 89) hx hb dX8_take_65 (by decide) (fun c_152 => ?_) (fun c_152 => ?_)
            · have f_153 : zi_138.toInt ≥ (4 : Int) := ic_ge (rfl) (show (4 : Int32).toInt = 4 by decide) c_152
              refine lv_aload_n hx hb dX8_take_89 rfl (lv_at hl 1 rfl) ?_
              refine ht_getr (C := RX8) (T := TX8) (N := 9) hx hb hts (by decide +kernel) hown hK hP hs t_zo (by decide) rfl rfl 5 (by decide) (hts (.fieldLink RX8 46 "DripStone$State" "lows" "[I") (by decide +kernel)) (fun _ h9 => h9) rfl dX8_take_90 ?_
              have t_154 : zT (zR zo 5) = 48 := sk_f hs t_zo (by decide) rfl (by decide)
              refine lv_aload_n hx hb dX8_take_93 rfl (lv_at hl 0 rfl) ?_
              refine ht_getr (C := RX8) (T := TX8) (N := 9) hx hb hts (by decide +kernel) hown hK hP hs t_zt (by decide) rfl rfl 5 (by decide) (hts (.fieldLink RX8 46 "DripStone$State" "lows" "[I") (by decide +kernel)) (fun _ h9 => h9) rfl dX8_take_94 ?_
              have t_155 : zT (zR zt 5) = 98 := sk_f hs t_zt (by decide) rfl (by decide)
              refine hj_v (ws := (WL cy zL zT zR zI_139 zJ)) (w1 := fun (u : (Nat → Nat → Int32)) => (WL cy zL zT zR u zJ)) (va_runSN (As := [.ref (zR zo 5), .ref (zR zt 5)]) (rest := []) ⟨hx, hb, hml, hown, hts⟩ (t_copyRow_48_98 l dC dI cy H.size zL zT zR zI_139 zJ (zR zo 5) (zR zt 5) hs h_zI_139.1 t_154 t_155) ⟨va_cnB 2 hts ggX8_take_X10_copyRow rfl rfl rfl (n0_12 hN) (hts (.initialized RX10) (by decide +kernel)) (by decide +kernel) ⟨(Nat.le_of_ble_eq_true rfl), (Nat.le_of_ble_eq_true rfl)⟩, hts (.static yX10_copyRow) (by decide +kernel), trivial⟩ (PRE.s hP hK hD hN) rfl rfl hl.1 rfl (lv_room (Nat.le_of_ble_eq_true rfl)) dX8_take_97 ⟨(Nat.le_of_ble_eq_true rfl), (Nat.le_of_ble_eq_true rfl)⟩) hP hD hS hA (fun zI_159 H locs hw_157 hP hD hS => ?_)
              have k_zI_159 : WM [9800] AL zT zR zI_139 zI_159 := hw_157
              have h_zI_159 : WM [1207, 1208, 1301, 1302, 1405, 1507, 1508, 1509, 1510, 1606, 1706, 1707, 7000, 7100, 7200, 7300, 7400, 7500, 7600, 7700, 7900, 8000, 8100, 8200, 8300, 8400, 9800] AL zT zR zI zI_159 := h_zI_139.tr k_zI_159 (by decide) (fun _ _ => trivial)
              have th_zI_159 : TKH zR zI zI_159 (zR zt 0) (zR zo 0) := TKH.sm e_lp_151_0 hs (Or.inr t_1) k_zI_159.2 (by decide)
              have tm_zI_159 : TKM zR zI zI_159 zt zo 2 := TKM.sm e_lp_151_1 hs (Or.inr t_zt) k_zI_159.2 (by decide)
              refine lv_aload_n hx hb dX8_take_100 rfl (lv_at hl 1 rfl) ?_
              refine ht_getr (C := RX8) (T := TX8) (N := 9) hx hb hts (by decide +kernel) hown hK hP hs t_zo (by decide) rfl rfl 6 (by decide) (hts (.fieldLink RX8 50 "DripStone$State" "highs" "[I") (by decide +kernel)) (fun _ h9 => h9) rfl dX8_take_101 ?_
              have t_160 : zT (zR zo 6) = 48 := sk_f hs t_zo (by decide) rfl (by decide)
              refine lv_aload_n hx hb dX8_take_104 rfl (lv_at hl 0 rfl) ?_
              refine ht_getr (C := RX8) (T := TX8) (N := 9) hx hb hts (by decide +kernel) hown hK hP hs t_zt (by decide) rfl rfl 6 (by decide) (hts (.fieldLink RX8 50 "DripStone$State" "highs" "[I") (by decide +kernel)) (fun _ h9 => h9) rfl dX8_take_105 ?_
              have t_161 : zT (zR zt 6) = 98 := sk_f hs t_zt (by decide) rfl (by decide)
              refine hj_v (ws := (WL cy zL zT zR zI_159 zJ)) (w1 := fun (u : (Nat → Nat → Int32)) => (WL cy zL zT zR u zJ)) (va_runSN (As := [.ref (zR zo 6), .ref (zR zt 6)]) (rest := []) ⟨hx, hb, hml, hown, hts⟩ (t_copyRow_48_98 l dC dI cy H.size zL zT zR zI_159 zJ (zR zo 6) (zR zt 6) hs h_zI_159.1 t_160 t_161) ⟨va_cnB 2 hts ggX8_take_X10_copyRow rfl rfl rfl (n0_12 hN) (hts (.initialized RX10) (by decide +kernel)) (by decide +kernel) ⟨(Nat.le_of_ble_eq_true rfl), (Nat.le_of_ble_eq_true rfl)⟩, hts (.static yX10_copyRow) (by decide +kernel), trivial⟩ (PRE.s hP hK hD hN) rfl rfl hl.1 rfl (lv_room (Nat.le_of_ble_eq_true rfl)) dX8_take_108 ⟨(Nat.le_of_ble_eq_true rfl), (Nat.le_of_ble_eq_true rfl)⟩) hP hD hS hA (fun zI_165 H locs hw_163 hP hD hS => ?_)
              have k_zI_165 : WM [9800] AL zT zR zI_159 zI_165 := hw_163
              have h_zI_165 : WM [1207, 1208, 1301, 1302, 1405, 1507, 1508, 1509, 1510, 1606, 1706, 1707, 7000, 7100, 7200, 7300, 7400, 7500, 7600, 7700, 7900, 8000, 8100, 8200, 8300, 8400, 9800] AL zT zR zI zI_165 := h_zI_159.tr k_zI_165 (by decide) (fun _ _ => trivial)
              have th_zI_165 : TKH zR zI zI_165 (zR zt 0) (zR zo 0) := TKH.sm th_zI_159 hs (Or.inr t_1) k_zI_165.2 (by decide)
              have tm_zI_165 : TKM zR zI zI_165 zt zo 2 := TKM.sm tm_zI_159 hs (Or.inr t_zt) k_zI_165.2 (by decide)
              refine lv_aload_n hx hb dX8_take_111 rfl (lv_at hl 0 rfl) ?_
              refine lv_aload_n hx hb dX8_take_112 rfl (lv_at hl 1 rfl) ?_
              refine ht_geti (C := RX8) (T := TX8) (N := 9) hx hb hts (by decide +kernel) hown hK hP hs t_zo (by decide) rfl rfl 7 (by decide) (hts (.fieldLink RX8 73 "DripStone$State" "claimed" "I") (by decide +kernel)) (fun _ h9 => h9) rfl dX8_take_113 ?_
              refine lv_topi (fun zi_166 ezi_166 => ?_)
              have tzi_166 : 0 ≤ zi_166.toInt ∧ zi_166.toInt ≤ 4 := by rw [ezi_166]; exact h_zI_165.at t_zo _ rfl
              refine ht_puti (v := zi_166) (ty := .int) (C := RX8) (T := TX8) (N := 9) hx hb hts (by decide +kernel) tyX8 tyX8_ok nmX8 hown hK hP hD hS hs t_zt (by decide) rfl rfl 7 (by decide) (hts (.fieldLink RX8 73 "DripStone$State" "claimed" "I") (by decide +kernel)) (fun _ h9 => h9) rfl (by decide +kernel) rfl rfl rfl dX8_take_116 (fun H locs hP hD hS => ?_)
              have h_zI_167 : WM [1207, 1208, 1301, 1302, 1405, 1507, 1508, 1509, 1510, 1606, 1706, 1707, 7000, 7100, 7200, 7300, 7400, 7500, 7600, 7700, 7900, 8000, 8100, 8200, 8300, 8400, 9800] AL zT zR zI (u2 zI_165 zt 7 zi_166) := h_zI_165.put hs t_zt rfl (by omega) (by decide) (fun h => absurd h (by decide)) (by decide) trivial
              generalize uzI_167 : u2 zI_165 zt 7 zi_166 = zI_167 at hP hD h_zI_167
              have th_zI_167 : TKH zR zI zI_167 (zR zt 0) (zR zo 0) := by rw [← uzI_167]; exact TKH.sm th_zI_165 hs (Or.inr t_1) (SM.one t_zt) (by decide)
              have tm_zI_167 : TKM zR zI zI_167 zt zo 2 := by rw [← uzI_167]; exact TKM.sm tm_zI_165 hs (Or.inr t_zt) (SM.one t_zt) (by decide)
              refine lv_aload_n hx hb dX8_take_119 rfl (lv_at hl 0 rfl) ?_
              refine lv_aload_n hx hb dX8_take_120 rfl (lv_at hl 1 rfl) ?_
              refine ht_geti (C := RX8) (T := TX8) (N := 9) hx hb hts (by decide +kernel) hown hK hP hs t_zo (by decide) rfl rfl 8 (by decide) (hts (.fieldLink RX8 77 "DripStone$State" "caused" "I") (by decide +kernel)) (fun _ h9 => h9) rfl dX8_take_121 ?_
              refine lv_topi (fun zi_168 ezi_168 => ?_)
              have tzi_168 : 0 ≤ zi_168.toInt ∧ zi_168.toInt ≤ 5 := by rw [ezi_168]; exact h_zI_167.at t_zo _ rfl
              refine ht_puti (v := zi_168) (ty := .int) (C := RX8) (T := TX8) (N := 9) hx hb hts (by decide +kernel) tyX8 tyX8_ok nmX8 hown hK hP hD hS hs t_zt (by decide) rfl rfl 8 (by decide) (hts (.fieldLink RX8 77 "DripStone$State" "caused" "I") (by decide +kernel)) (fun _ h9 => h9) rfl (by decide +kernel) rfl rfl rfl dX8_take_124 (fun H locs hP hD hS => ?_)
              have h_zI_169 : WM [1207, 1208, 1301, 1302, 1405, 1507, 1508, 1509, 1510, 1606, 1706, 1707, 7000, 7100, 7200, 7300, 7400, 7500, 7600, 7700, 7900, 8000, 8100, 8200, 8300, 8400, 9800] AL zT zR zI (u2 zI_167 zt 8 zi_168) := h_zI_167.put hs t_zt rfl (by omega) (by decide) (fun h => absurd h (by decide)) (by decide) trivial
              generalize uzI_169 : u2 zI_167 zt 8 zi_168 = zI_169 at hP hD h_zI_169
              have th_zI_169 : TKH zR zI zI_169 (zR zt 0) (zR zo 0) := by rw [← uzI_169]; exact TKH.sm th_zI_167 hs (Or.inr t_1) (SM.one t_zt) (by decide)
              have tm_zI_169 : TKM zR zI zI_169 zt zo 2 := by rw [← uzI_169]; exact TKM.sm tm_zI_167 hs (Or.inr t_zt) (SM.one t_zt) (by decide)
              subst hQ
              exact W.vret hx hb hr (fun t ht hW => ⟨⟨zI_169, rfl, ⟨h_zI_169, (show TKS zR zI zI_169 zt zo from ⟨((show zI_169 zt 8 = zi_168 from (by rw [← uzI_169]; exact u2_s)).trans (ezi_168.symm.symm.trans (h_zI_167.2 zo 8 (Or.inl (by rw [t_zo]; decide))))), th_zI_169, tm_zI_169⟩)⟩, ⟨by rw [ht]; exact hP, va_K.moved hW.alike hK, hD⟩⟩, hS.F ht⟩) hS.2.2 dX8_take_127
            · have f_153 : ¬ (zi_138.toInt ≥ (4 : Int)) := ic_nge (rfl) (show (4 : Int32).toInt = 4 by decide) c_152
              refine lv_aload_n hx hb dX8_take_68 rfl (lv_at hl 0 rfl) ?_
              refine ht_getr (C := RX8) (T := TX8) (N := 9) hx hb hts (by decide +kernel) hown hK hP hs t_zt (by decide) rfl rfl 4 (by decide) (hts (.fieldLink RX8 42 "DripStone$State" "claims" "[LDripStone$Claim;") (by decide +kernel)) (fun _ h9 => h9) rfl dX8_take_69 ?_
              have t_170 : zT (zR zt 4) = 92 := sk_f hs t_zt (by decide) rfl (by decide)
              refine lv_iload_n hx hb dX8_take_72 rfl (lv_at hl 2 rfl) ?_
              refine ht_aald (n := 4) (q := 4) hx hb hK hP hs t_170 (by decide) rfl rfl ⟨by omega, by omega⟩ dX8_take_73 ?_
              have t_171 : zT (zR (zR zt 4) zi_138.toNatClampNeg) = 17 := sk_a (n := 4) hs t_170 rfl rfl (by decide) (cl_lt (by omega) (by omega))
              refine lv_aload_n hx hb dX8_take_74 rfl (lv_at hl 1 rfl) ?_
              refine ht_getr (C := RX8) (T := TX8) (N := 9) hx hb hts (by decide +kernel) hown hK hP hs t_zo (by decide) rfl rfl 4 (by decide) (hts (.fieldLink RX8 42 "DripStone$State" "claims" "[LDripStone$Claim;") (by decide +kernel)) (fun _ h9 => h9) rfl dX8_take_75 ?_
              have t_172 : zT (zR zo 4) = 62 := sk_f hs t_zo (by decide) rfl (by decide)
              refine lv_iload_n hx hb dX8_take_78 rfl (lv_at hl 2 rfl) ?_
              refine ht_aald (n := 4) (q := 4) hx hb hK hP hs t_172 (by decide) rfl rfl ⟨by omega, by omega⟩ dX8_take_79 ?_
              have t_173 : zT (zR (zR zo 4) zi_138.toNatClampNeg) = 2 := sk_a (n := 4) hs t_172 rfl rfl (by decide) (cl_lt (by omega) (by omega))
              refine hj_v (ws := (WL cy zL zT zR zI_139 zJ)) (w1 := fun (u : (Nat → Nat → Int32)) => (WL cy zL zT zR u zJ)) (va_runV (As := [.ref (zR (zR zo 4) zi_138.toNatClampNeg)]) (rest := []) ⟨hx, hb, hml, hown, hts⟩ (t_X1_take_17_2 l dC dI cy H.size zL zT zR zI_139 zJ (zR (zR zt 4) zi_138.toNatClampNeg) (zR (zR zo 4) zi_138.toNatClampNeg) hs h_zI_139.1 t_171 t_173) (cwV 1 hts gX8_take_X1_take rfl rfl rfl (by decide +kernel) ⟨(Nat.le_of_ble_eq_true rfl), (Nat.le_of_ble_eq_true rfl)⟩) (PRE.v hP hK hD hN (ht_recv hK hP hs t_171 (by decide) rfl rfl)) rfl rfl hl.1 rfl (lv_room (Nat.le_of_ble_eq_true rfl)) dX8_take_80 ⟨(Nat.le_of_ble_eq_true rfl), (Nat.le_of_ble_eq_true rfl)⟩) hP hD hS hA (fun zI_177 H locs hw_175 hP hD hS => ?_)
              have k_zI_177 : WM [1706, 1707, 8100, 8200, 8300] AL zT zR zI_139 zI_177 := hw_175
              have h_zI_177 : WM [1207, 1208, 1301, 1302, 1405, 1507, 1508, 1509, 1510, 1606, 1706, 1707, 7000, 7100, 7200, 7300, 7400, 7500, 7600, 7700, 7900, 8000, 8100, 8200, 8300, 8400, 9800] AL zT zR zI zI_177 := h_zI_139.tr k_zI_177 (by decide) (fun _ _ => trivial)
              have th_zI_177 : TKH zR zI zI_177 (zR zt 0) (zR zo 0) := TKH.sm e_lp_151_0 hs (Or.inr t_1) k_zI_177.2 (by decide)
              have tm_zI_177 : TKM zR zI zI_177 zt zo 2 := TKM.sm e_lp_151_1 hs (Or.inr t_zt) k_zI_177.2 (by decide)
              obtain ⟨zi_178, ezi_178⟩ : ∃ y : Int32, y = zi_138 + 1 := ⟨_, rfl⟩
              have tzi_178 : zi_178.toInt = zi_138.toInt + 1 := by rw [ezi_178]; exact tadd rfl (show (1 : Int32).toInt = 1 by decide) (by omega) (by omega)
              refine lv_iinc (v := zi_178) (lv' := [(2, .int zi_178), (0, .ref zt), (1, .ref zo)]) hx hb dX8_take_83 hl (k := 2) rfl (by rw [ezi_178]; rfl) (by decide) rfl (fun ls hl => ?_)
              refine lv_goto (tgt := 63) hx hb dX8_take_86 (by decide) ?_
              exact ih_151 (4 - zi_178.toInt).toNat (by omega) zi_178 zI_177 _ _ _ rfl (by omega) h_zI_177 th_zI_177 tm_zI_177 hP hD hS (lv_sub hl [1, 2, 0] rfl)
        have qc_0 : (0 : Int32).toInt = 0 := by decide
        exact lp_151 _ (0 : Int32) zI_75 _ _ _ rfl (by decide) h_zI_75 e_lp_89_0 (TKM.e e_lp_89_1 (by omega)) hP hD hS (lv_sub hl [1, 2, 0] rfl)
      · have f_91 : ¬ (zi_74.toInt ≥ (2 : Int)) := ic_nge (rfl) (show (2 : Int32).toInt = 2 by decide) c_90
        refine lv_aload_n hx hb dX8_take_40 rfl (lv_at hl 0 rfl) ?_
        refine ht_getr (C := RX8) (T := TX8) (N := 9) hx hb hts (by decide +kernel) hown hK hP hs t_zt (by decide) rfl rfl 2 (by decide) (hts (.fieldLink RX8 28 "DripStone$State" "candles" "[LDripStone$Candle;") (by decide +kernel)) (fun _ h9 => h9) rfl dX8_take_41 ?_
        have t_179 : zT (zR zt 2) = 91 := sk_f hs t_zt (by decide) rfl (by decide)
        refine lv_iload_n hx hb dX8_take_44 rfl (lv_at hl 2 rfl) ?_
        refine ht_aald (n := 2) (q := 3) hx hb hK hP hs t_179 (by decide) rfl rfl ⟨by omega, by omega⟩ dX8_take_45 ?_
        have t_180 : zT (zR (zR zt 2) zi_74.toNatClampNeg) = 15 := sk_a (n := 2) hs t_179 rfl rfl (by decide) (cl_lt (by omega) (by omega))
        refine lv_aload_n hx hb dX8_take_46 rfl (lv_at hl 1 rfl) ?_
        refine ht_getr (C := RX8) (T := TX8) (N := 9) hx hb hts (by decide +kernel) hown hK hP hs t_zo (by decide) rfl rfl 2 (by decide) (hts (.fieldLink RX8 28 "DripStone$State" "candles" "[LDripStone$Candle;") (by decide +kernel)) (fun _ h9 => h9) rfl dX8_take_47 ?_
        have t_181 : zT (zR zo 2) = 61 := sk_f hs t_zo (by decide) rfl (by decide)
        refine lv_iload_n hx hb dX8_take_50 rfl (lv_at hl 2 rfl) ?_
        refine ht_aald (n := 2) (q := 3) hx hb hK hP hs t_181 (by decide) rfl rfl ⟨by omega, by omega⟩ dX8_take_51 ?_
        have t_182 : zT (zR (zR zo 2) zi_74.toNatClampNeg) = 1 := sk_a (n := 2) hs t_181 rfl rfl (by decide) (cl_lt (by omega) (by omega))
        refine hj_v (ws := (WL cy zL zT zR zI_75 zJ)) (w1 := fun (u : (Nat → Nat → Int32)) => (WL cy zL zT zR u zJ)) (va_runV (As := [.ref (zR (zR zo 2) zi_74.toNatClampNeg)]) (rest := []) ⟨hx, hb, hml, hown, hts⟩ (t_X0_take_15_1 l dC dI cy H.size zL zT zR zI_75 zJ (zR (zR zt 2) zi_74.toNatClampNeg) (zR (zR zo 2) zi_74.toNatClampNeg) hs h_zI_75.1 t_180 t_182) (cwV 1 hts gX8_take_X0_take rfl rfl rfl (by decide +kernel) ⟨(Nat.le_of_ble_eq_true rfl), (Nat.le_of_ble_eq_true rfl)⟩) (PRE.v hP hK hD hN (ht_recv hK hP hs t_180 (by decide) rfl rfl)) rfl rfl hl.1 rfl (lv_room (Nat.le_of_ble_eq_true rfl)) dX8_take_52 ⟨(Nat.le_of_ble_eq_true rfl), (Nat.le_of_ble_eq_true rfl)⟩) hP hD hS hA (fun zI_186 H locs hw_184 hP hD hS => ?_)
        obtain ⟨k_zI_186, ps_187, ps_188⟩ : (WM [1507, 1508, 1509, 1510, 7000, 7100, 7200, 7300] AL zT zR zI_75 zI_186) ∧ (zI_186 (zR (zR zt 2) zi_74.toNatClampNeg) 9 = zI_75 (zR (zR zo 2) zi_74.toNatClampNeg) 9) ∧ (∀ a9 : Nat, zT a9 = 15 → ¬ a9 = (zR (zR zt 2) zi_74.toNatClampNeg) → zI_186 a9 9 = zI_75 a9 9) := hw_184
        have h_zI_186 : WM [1207, 1208, 1301, 1302, 1405, 1507, 1508, 1509, 1510, 1606, 1706, 1707, 7000, 7100, 7200, 7300, 7400, 7500, 7600, 7700, 7900, 8000, 8100, 8200, 8300, 8400, 9800] AL zT zR zI zI_186 := h_zI_75.tr k_zI_186 (by decide) (fun _ _ => trivial)
        have th_zI_186 : TKH zR zI zI_186 (zR zt 0) (zR zo 0) := TKH.sm e_lp_89_0 hs (Or.inr t_1) k_zI_186.2 (by decide)
        obtain ⟨zi_189, ezi_189⟩ : ∃ y : Int32, y = zi_74 + 1 := ⟨_, rfl⟩
        have tzi_189 : zi_189.toInt = zi_74.toInt + 1 := by rw [ezi_189]; exact tadd rfl (show (1 : Int32).toInt = 1 by decide) (by omega) (by omega)
        refine lv_iinc (v := zi_189) (lv' := [(2, .int zi_189), (0, .ref zt), (1, .ref zo)]) hx hb dX8_take_55 hl (k := 2) rfl (by rw [ezi_189]; rfl) (by decide) rfl (fun ls hl => ?_)
        refine lv_goto (tgt := 35) hx hb dX8_take_58 (by decide) ?_
        exact ih_89 (2 - zi_189.toInt).toNat (by omega) zi_189 zI_186 _ _ _ rfl (by omega) h_zI_186 th_zI_186 (TKM.s (i := zi_74) e_lp_89_1 hs (Or.inr t_zt) (by omega) rfl (by omega) (fun c hc => sk_a (n := 2) hs t_179 rfl rfl (by decide) hc) ps_187 ps_188 (h_zI_75.2 (zR (zR zo 2) zi_74.toNatClampNeg) 9 (Or.inl (by rw [t_182]; decide)))) hP hD hS (lv_sub hl [1, 2, 0] rfl)
  have qc_0 : (0 : Int32).toInt = 0 := by decide
  exact lp_89 _ (0 : Int32) zI_19 _ _ _ rfl (by decide) h_zI_19 th_zI_19 TKM.z hP hD hS (lv_sub hl [1, 2, 0] rfl)
set_option maxHeartbeats 8000000 in
set_option maxRecDepth 100000 in
theorem t_X8_canSay (l : Launch) (dC : Nat → ClassId) (dI : Nat → Nat → Nat) (cy : Nat → ClassId) (sz : Nat) (zL : List Nat) (zT : Nat → Nat) (zR : Nat → Nat → Nat) (zI : Nat → Nat → Int32) (zJ : Nat → Nat → Int64) (zn : Nat) (zia : Int32) (zib : Int32) (hs : SKP zL zT zR) (hw : WT zT zR zI) (t_zn : zT zn = 9) : Met l yX8_canSay wsX8_canSay ({ frames := 1, cells := 0, slots := 0, locals := 22 } : Room) (va_Pc [.ref zn, .int zia, .int zib] (PRE dC dI cy (WL cy zL zT zR zI zJ) sz)) (va_Qi (fun (r : Int32) (u : Unit) => (0 ≤ r.toInt ∧ r.toInt ≤ 1)) (fun u t => POST dC dI cy (va_A (WL cy zL zT zR zI zJ) sz) (WL cy zL zT zR zI zJ) t) (va_A (WL cy zL zT zR zI zJ) sz)) 0 0 (va_A (WL cy zL zT zR zI zJ) sz) := by
  refine Met.ofW (cc := cX8_canSay) (maxL := 6) (ret := (some .boolean)) (by decide) rfl ?_
  intro p e s m args below meth c s₁ B hml hv
  obtain ⟨rfl, hsz, hP, hK, hD0, hN⟩ := hv
  have hx := B.exec
  have hb := B.bytes
  have hr := B.returns
  have hts := atoms_spec (ws := wsX8_canSay) B.pre
  have hown : s.vm.findClass RX8 = some m.cls := findClass_of_methodNamed B.named
  have hlocks := B.notSynchronized
  subst hsz
  have hD := hD0.self (sz := s.heap.size)
  generalize hAe : va_A (WL cy zL zT zR zI zJ) s.heap.size = A at hD ⊢
  have hA : ∀ q : Nat, s.heap.size ≤ q → A q := fun q h => by rw [← hAe]; exact Or.inr h
  have hS : va_S A s.heap s.heap [] := va_S.rf
  have hP : va_P (dC, dI) vwCl (WL cy zL zT zR zI zJ) s.heap := hP
  have hl := lv_entry ([.ref zn, .int zia, .int zib] : List Value) (n := 6) (Nat.le_of_ble_eq_true rfl)
  rw [lg_entry_eq]
  generalize (lg_sl ([.ref zn, .int zia, .int zib] : List Value) ++ List.replicate (6 - (lg_sl ([.ref zn, .int zia, .int zib] : List Value)).length) Slot.unset).toArray = ls at hl ⊢
  have hl : lv_has ls 6 [(0, .ref zn), (1, .int zia), (2, .int zib)] := hl
  refine w_q (fun Q hQ => ?_)
  have h_zI : WM [] AL zT zR zI zI := WM.rf hw
  refine lv_iconst (v := 0) hx hb dX8_canSay_0 (by decide) ?_
  refine lv_istore_n (lv' := [(3, .int 0), (0, .ref zn), (1, .int zia), (2, .int zib)]) hx hb dX8_canSay_1 rfl hl (by decide) rfl (fun ls hl => ?_)
  refine lv_iconst (v := 0) hx hb dX8_canSay_2 (by decide) ?_
  refine lv_istore (lv' := [(4, .int 0), (3, .int 0), (0, .ref zn), (1, .int zia), (2, .int zib)]) hx hb dX8_canSay_3 hl (by decide) rfl (fun ls hl => ?_)
  refine lv_iconst (v := 0) hx hb dX8_canSay_5 (by decide) ?_
  refine lv_istore (lv' := [(5, .int 0), (4, .int 0), (3, .int 0), (0, .ref zn), (1, .int zia), (2, .int zib)]) hx hb dX8_canSay_6 hl (by decide) rfl (fun ls hl => ?_)
  have lp_993 : ∀ (n : Nat) (zi_102 : Int32) (zi_103 : Int32) (zi_104 : Int32) (H : Heap) (locs : List Loc) (ls : Array Slot), (5 - zi_104.toInt).toNat = n → (0 ≤ zi_104.toInt ∧ zi_104.toInt ≤ 5) → va_P (dC, dI) vwCl (WL cy zL zT zR zI zJ) H → va_D A (WL cy zL zT zR zI zJ) → va_S A s.heap H locs → lv_has ls 6 [(0, .ref zn), (1, .int zia), (2, .int zib), (3, .int zi_102), (4, .int zi_103), (5, .int zi_104)] → W p l e ({ frames := 1, cells := 0, slots := 0, locals := 22 } : Room) s m ([.ref zn, .int zia, .int zib] : List Value).toArray below meth c H locs 0 0 Q (F0 m 8 ls []) := by
    intro n
    induction n using Nat.strongRecOn with
    | _ n ih_993 =>
      intro zi_102 zi_103 zi_104 H locs ls hn b_zi_104 hP hD hS hl
      refine lv_iload hx hb dX8_canSay_8 (lv_at hl 5 rfl) ?_
      refine lv_aload_n hx hb dX8_canSay_10 rfl (lv_at hl 0 rfl) ?_
      refine ht_geti (C := RX8) (T := TX8) (N := 9) hx hb hts (by decide +kernel) hown hK hP hs t_zn (by decide) rfl rfl 8 (by decide) (hts (.fieldLink RX8 77 "DripStone$State" "caused" "I") (by decide +kernel)) (fun _ h9 => h9) rfl dX8_canSay_11 ?_
      refine lv_topi (fun zi_994 ezi_994 => ?_)
      have tzi_994 : 0 ≤ zi_994.toInt ∧ zi_994.toInt ≤ 5 := by rw [ezi_994]; exact h_zI.at t_zn _ rfl
      refine lv_icmp_ge (tgt := 55) hx hb dX8_canSay_14 (by decide) (fun c_995 => ?_) (fun c_995 => ?_)
      · have f_996 : zi_104.toInt ≥ zi_994.toInt := ic_ge (rfl) (rfl) c_995
        refine lv_iload_n hx hb dX8_canSay_55 rfl (lv_at hl 2 rfl) ?_
        refine lv_iload_n hx hb dX8_canSay_56 rfl (lv_at hl 3 rfl) ?_
        refine lv_iload hx hb dX8_canSay_57 (lv_at hl 4 rfl) ?_
        refine hj0_i (ws := (WL cy zL zT zR zI zJ)) (va_runSN (As := [.int zib, .int zi_102, .int zi_103]) (rest := []) ⟨hx, hb, hml, hown, hts⟩ (c_X10_isWithin l dC dI cy H.size zib zi_102 zi_103 zi_102.toInt zi_103.toInt (by first | rfl | decide | omega | exact Int32.toInt_toInt64 _) (by first | rfl | decide | omega | exact Int32.toInt_toInt64 _)) ⟨va_cnB 3 hts ggX8_canSay_X10_isWithin rfl rfl rfl (n0_13 hN) (hts (.initialized RX10) (by decide +kernel)) (by decide +kernel) ⟨(Nat.le_of_ble_eq_true rfl), (Nat.le_of_ble_eq_true rfl)⟩, hts (.static yX10_isWithin) (by decide +kernel), trivial⟩ (PRE.s (hP.sub [] rfl) hK (hD.sub [] (by decide) rfl) hN) rfl rfl hl.1 rfl (lv_room (Nat.le_of_ble_eq_true rfl)) dX8_canSay_59 ⟨(Nat.le_of_ble_eq_true rfl), (Nat.le_of_ble_eq_true rfl)⟩) hP hD hS hA (fun zi_997 u_999 H locs hw_998 hP hD hS => ?_)
        have hw_998 : zi_997 = if zi_102.toInt ≤ zib.toInt ∧ zib.toInt ≤ zi_103.toInt then 1 else 0 := hw_998
        have b_zi_997 : 0 ≤ zi_997.toInt ∧ zi_997.toInt ≤ 1 := bz_b hw_998
        have i_1000 := bz_or hw_998
        subst hQ
        exact W.zret (v := zi_997) hx hb hr (zb_n2 (by omega)) (fun t ht hW => ⟨⟨zi_997, (), rfl, (show 0 ≤ zi_997.toInt ∧ zi_997.toInt ≤ 1 from by omega), ⟨by rw [ht]; exact hP, va_K.moved hW.alike hK, hD⟩⟩, hS.F ht⟩) hS.2.2 dX8_canSay_62
      · have f_996 : ¬ (zi_104.toInt ≥ zi_994.toInt) := ic_nge (rfl) (rfl) c_995
        refine lv_iload_n hx hb dX8_canSay_17 rfl (lv_at hl 1 rfl) ?_
        refine lv_iload hx hb dX8_canSay_18 (lv_at hl 5 rfl) ?_
        refine lv_ishr hx hb dX8_canSay_20 ?_
        refine lv_topi (fun zi_1001 ezi_1001 => ?_)
        have rzi_1001 := rng zi_1001
        refine lv_iconst (v := 1) hx hb dX8_canSay_21 (by decide) ?_
        refine lv_iand hx hb dX8_canSay_22 ?_
        refine lv_topi (fun zi_1002 ezi_1002 => ?_)
        have tzi_1002 : 0 ≤ zi_1002.toInt ∧ zi_1002.toInt ≤ 1 := by rw [ezi_1002]; exact andb (k := 1) (by decide) (by decide) (by decide)
        refine lv_iconst (v := 1) hx hb dX8_canSay_23 (by decide) ?_
        have jn_1013 : ∀ (zi_1011 : Int32) (zi_1012 : Int32) (H : Heap) (locs : List Loc) (ls : Array Slot), va_P (dC, dI) vwCl (WL cy zL zT zR zI zJ) H → va_D A (WL cy zL zT zR zI zJ) → va_S A s.heap H locs → lv_has ls 6 [(0, .ref zn), (1, .int zia), (2, .int zib), (3, .int zi_1011), (4, .int zi_1012), (5, .int zi_104)] → W p l e ({ frames := 1, cells := 0, slots := 0, locals := 22 } : Room) s m ([.ref zn, .int zia, .int zib] : List Value).toArray below meth c H locs 0 0 Q (F0 m 49 ls []) := by
          intro zi_1011 zi_1012 H locs ls  hP hD hS hl
          obtain ⟨zi_1014, ezi_1014⟩ : ∃ y : Int32, y = zi_104 + 1 := ⟨_, rfl⟩
          have tzi_1014 : zi_1014.toInt = zi_104.toInt + 1 := by rw [ezi_1014]; exact tadd rfl (show (1 : Int32).toInt = 1 by decide) (by omega) (by omega)
          refine lv_iinc (v := zi_1014) (lv' := [(5, .int zi_1014), (0, .ref zn), (1, .int zia), (2, .int zib), (3, .int zi_1011), (4, .int zi_1012)]) hx hb dX8_canSay_49 hl (k := 5) rfl (by rw [ezi_1014]; rfl) (by decide) rfl (fun ls hl => ?_)
          refine lv_goto (tgt := 8) hx hb dX8_canSay_52 (by decide) ?_
          exact ih_993 (5 - zi_1014.toInt).toNat (by omega) zi_1011 zi_1012 zi_1014 _ _ _ rfl (by omega) hP hD hS (lv_sub hl [1, 2, 3, 4, 5, 0] rfl)
        refine lv_icmp_ne (tgt := 49) hx hb dX8_canSay_24 (by decide) (fun c_1015 => ?_) (fun c_1015 => ?_)
        · have f_1016 : zi_1002.toInt ≠ (1 : Int) := ic_ne (rfl) (show (1 : Int32).toInt = 1 by decide) c_1015
          exact jn_1013 zi_102 zi_103 _ _ _  hP hD hS (lv_sub hl [0, 1, 2, 3, 4, 5] rfl)
        · have f_1016 : ¬ (zi_1002.toInt ≠ (1 : Int)) := ic_nne (rfl) (show (1 : Int32).toInt = 1 by decide) c_1015
          refine lv_iload_n hx hb dX8_canSay_27 rfl (lv_at hl 3 rfl) ?_
          refine lv_aload_n hx hb dX8_canSay_28 rfl (lv_at hl 0 rfl) ?_
          refine ht_getr (C := RX8) (T := TX8) (N := 9) hx hb hts (by decide +kernel) hown hK hP hs t_zn (by decide) rfl rfl 5 (by decide) (hts (.fieldLink RX8 46 "DripStone$State" "lows" "[I") (by decide +kernel)) (fun _ h9 => h9) rfl dX8_canSay_29 ?_
          have t_1017 : zT (zR zn 5) = 48 := sk_f hs t_zn (by decide) rfl (by decide)
          refine lv_iload hx hb dX8_canSay_32 (lv_at hl 5 rfl) ?_
          refine ht_iald (n := 5) (q := 0) hx hb hK hP hs t_1017 (by decide) rfl rfl ⟨by omega, by omega⟩ dX8_canSay_34 ?_
          refine lv_topi (fun zi_1018 ezi_1018 => ?_)
          refine lv_iadd hx hb dX8_canSay_35 ?_
          refine lv_topi (fun zi_1019 ezi_1019 => ?_)
          refine lv_istore_n (lv' := [(3, .int zi_1019), (0, .ref zn), (1, .int zia), (2, .int zib), (4, .int zi_103), (5, .int zi_104)]) hx hb dX8_canSay_36 rfl hl (by decide) rfl (fun ls hl => ?_)
          refine lv_iload hx hb dX8_canSay_37 (lv_at hl 4 rfl) ?_
          refine lv_aload_n hx hb dX8_canSay_39 rfl (lv_at hl 1 rfl) ?_
          refine ht_getr (C := RX8) (T := TX8) (N := 9) hx hb hts (by decide +kernel) hown hK hP hs t_zn (by decide) rfl rfl 6 (by decide) (hts (.fieldLink RX8 50 "DripStone$State" "highs" "[I") (by decide +kernel)) (fun _ h9 => h9) rfl dX8_canSay_40 ?_
          have t_1020 : zT (zR zn 6) = 48 := sk_f hs t_zn (by decide) rfl (by decide)
          refine lv_iload hx hb dX8_canSay_43 (lv_at hl 5 rfl) ?_
          refine ht_iald (n := 5) (q := 0) hx hb hK hP hs t_1020 (by decide) rfl rfl ⟨by omega, by omega⟩ dX8_canSay_45 ?_
          refine lv_topi (fun zi_1021 ezi_1021 => ?_)
          refine lv_iadd hx hb dX8_canSay_46 ?_
          refine lv_topi (fun zi_1022 ezi_1022 => ?_)
          refine lv_istore (lv' := [(4, .int zi_1022), (3, .int zi_1019), (0, .ref zn), (1, .int zia), (2, .int zib), (5, .int zi_104)]) hx hb dX8_canSay_47 hl (by decide) rfl (fun ls hl => ?_)
          exact jn_1013 zi_1019 zi_1022 _ _ _  hP hD hS (lv_sub hl [2, 3, 4, 1, 0, 5] rfl)
  exact lp_993 _ (0 : Int32) (0 : Int32) (0 : Int32) _ _ _ rfl (by decide) hP hD hS (lv_sub hl [3, 4, 5, 2, 1, 0] rfl)
