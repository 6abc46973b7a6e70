set_option maxHeartbeats 8000000 in
set_option maxRecDepth 100000 in
theorem t_X6_look (l : Launch) (dC : Nat → ClassId) (dI : Nat → Nat → Nat) (cy : Nat → ClassId) (sz : Nat) (zL : List Nat) (zT : Nat → Nat) (zR : Nat → Nat → Nat) (zI : Nat → Nat → Int32) (zJ : Nat → Nat → Int64) (zr : Nat) (hs : SKP zL zT zR) (hw : WT zT zR zI) (t_zr : zT zr = 7) : Met l yX6_look wsX6_look ({ frames := 0, cells := 0, slots := 0, locals := 0 } : Room) (va_Pc [.ref zr] (PRE dC dI cy (WL cy zL zT zR zI zJ) sz)) (va_Qi (fun (r : Int32) (u : (Nat → Nat → Int32)) => (WM [702] AL zT zR zI u) ∧ ((-1) ≤ r.toInt ∧ r.toInt ≤ 255) ∧ (r.toInt = -1 ∨ (u zr 2).toInt ≤ 79)) (fun u t => POST dC dI cy (va_A (WL cy zL zT zR zI zJ) sz) (WL cy zL zT zR u zJ) t) (va_A (WL cy zL zT zR zI zJ) sz)) 0 0 (va_A (WL cy zL zT zR zI zJ) sz) := by
  refine Met.ofW (cc := cX6_look) (maxL := 1) (ret := (some .int)) (by decide) rfl ?_
  intro p e s m args below meth c s₁ B hml hv
  obtain ⟨rfl, hsz, hP, hK, hD0, hN⟩ := hv
  have hx := B.exec
  have hb := B.bytes
  have hr := B.returns
  have hts := atoms_spec (ws := wsX6_look) B.pre
  have hown : s.vm.findClass RX6 = some m.cls := findClass_of_methodNamed B.named
  have hlocks := B.notSynchronized
  subst hsz
  have hD := hD0.self (sz := s.heap.size)
  generalize hAe : va_A (WL cy zL zT zR zI zJ) s.heap.size = A at hD ⊢
  have hA : ∀ q : Nat, s.heap.size ≤ q → A q := fun q h => by rw [← hAe]; exact Or.inr h
  have hS : va_S A s.heap s.heap [] := va_S.rf
  have hP : va_P (dC, dI) vwCl (WL cy zL zT zR zI zJ) s.heap := hP
  have hl := lv_entry ([.ref zr] : List Value) (n := 1) (Nat.le_of_ble_eq_true rfl)
  rw [lg_entry_eq]
  generalize (lg_sl ([.ref zr] : List Value) ++ List.replicate (1 - (lg_sl ([.ref zr] : List Value)).length) Slot.unset).toArray = ls at hl ⊢
  have hl : lv_has ls 1 [(0, .ref zr)] := hl
  refine w_q (fun Q hQ => ?_)
  have h_zI : WM [702] AL zT zR zI zI := WM.rf hw
  obtain ⟨zi_1, ezi_1⟩ : ∃ y : Int32, y = zI zr 2 := ⟨_, rfl⟩
  have tzi_1 : 0 ≤ zi_1.toInt ∧ zi_1.toInt ≤ 80 := by rw [ezi_1]; exact h_zI.at t_zr _ rfl
  have lzi_1 : (zI zr 2).toInt = zi_1.toInt := by rw [ezi_1]
  obtain ⟨zi_2, ezi_2⟩ : ∃ y : Int32, y = zI zr 1 := ⟨_, rfl⟩
  have tzi_2 : 0 ≤ zi_2.toInt ∧ zi_2.toInt ≤ 80 := by rw [ezi_2]; exact h_zI.at t_zr _ rfl
  have lzi_2 : (zI zr 1).toInt = zi_2.toInt := by rw [ezi_2]
  have lp_71 : ∀ (n : Nat) (zI_25 : Nat → Nat → Int32) (zi_26 : Int32) (H : Heap) (locs : List Loc) (ls : Array Slot), (zi_2.toInt - zi_26.toInt).toNat = n → (WM [702] AL zT zR zI zI_25) → (0 ≤ zi_26.toInt ∧ zi_26.toInt ≤ 80) → (zI_25 zr 2 = zi_26) → (zI_25 zr 1 = zi_2) → va_P (dC, dI) vwCl (WL cy zL zT zR zI_25 zJ) H → va_D A (WL cy zL zT zR zI_25 zJ) → va_S A s.heap H locs → lv_has ls 1 [(0, .ref zr)] → W p l e ({ frames := 0, cells := 0, slots := 0, locals := 0 } : Room) s m ([.ref zr] : List Value).toArray below meth c H locs 0 0 Q (F0 m 0 ls []) := by
    intro n
    induction n using Nat.strongRecOn with
    | _ n ih_71 =>
      intro zI_25 zi_26 H locs ls hn h_zI_25 b_zi_26 e_lp_71_0 e_lp_71_1 hP hD hS hl
      refine lv_aload_n hx hb dX6_look_0 rfl (lv_at hl 0 rfl) ?_
      refine ht_geti (C := RX6) (T := TX6) (N := 4) hx hb hts (by decide +kernel) hown hK hP hs t_zr (by decide) rfl rfl 2 (by decide) (hts (.fieldLink RX6 15 "DripStone$Reader" "at" "I") (by decide +kernel)) (fun _ h9 => h9) rfl dX6_look_1 ?_
      refine lv_topi (fun zi_72 ezi_72 => ?_)
      obtain rfl : zi_26 = zi_72 := (ezi_72.trans e_lp_71_0).symm
      refine lv_aload_n hx hb dX6_look_4 rfl (lv_at hl 0 rfl) ?_
      refine ht_geti (C := RX6) (T := TX6) (N := 4) hx hb hts (by decide +kernel) hown hK hP hs t_zr (by decide) rfl rfl 1 (by decide) (hts (.fieldLink RX6 110 "DripStone$Reader" "typed" "I") (by decide +kernel)) (fun _ h9 => h9) rfl dX6_look_5 ?_
      refine lv_topi (fun zi_73 ezi_73 => ?_)
      obtain rfl : zi_2 = zi_73 := (ezi_73.trans e_lp_71_1).symm
      have jn_84 : ∀  (H : Heap) (locs : List Loc) (ls : Array Slot), va_P (dC, dI) vwCl (WL cy zL zT zR zI_25 zJ) H → va_D A (WL cy zL zT zR zI_25 zJ) → va_S A s.heap H locs → lv_has ls 1 [(0, .ref zr)] → W p l e ({ frames := 0, cells := 0, slots := 0, locals := 0 } : Room) s m ([.ref zr] : List Value).toArray below meth c H locs 0 0 Q (F0 m 38 ls []) := by
        intro  H locs ls  hP hD hS hl
        refine lv_aload_n hx hb dX6_look_38 rfl (lv_at hl 0 rfl) ?_
        refine ht_geti (C := RX6) (T := TX6) (N := 4) hx hb hts (by decide +kernel) hown hK hP hs t_zr (by decide) rfl rfl 2 (by decide) (hts (.fieldLink RX6 15 "DripStone$Reader" "at" "I") (by decide +kernel)) (fun _ h9 => h9) rfl dX6_look_39 ?_
        refine lv_topi (fun zi_85 ezi_85 => ?_)
        obtain rfl : zi_26 = zi_85 := (ezi_85.trans e_lp_71_0).symm
        refine lv_aload_n hx hb dX6_look_42 rfl (lv_at hl 0 rfl) ?_
        refine ht_geti (C := RX6) (T := TX6) (N := 4) hx hb hts (by decide +kernel) hown hK hP hs t_zr (by decide) rfl rfl 1 (by decide) (hts (.fieldLink RX6 110 "DripStone$Reader" "typed" "I") (by decide +kernel)) (fun _ h9 => h9) rfl dX6_look_43 ?_
        refine lv_topi (fun zi_86 ezi_86 => ?_)
        obtain rfl : zi_2 = zi_86 := (ezi_86.trans e_lp_71_1).symm
        refine lv_icmp_ge (tgt := 61) hx hb dX6_look_46 (by decide) (fun c_87 => ?_) (fun c_87 => ?_)
        · have f_88 : zi_26.toInt ≥ zi_2.toInt := ic_ge (rfl) (rfl) c_87
          refine lv_iconst (v := (-1)) hx hb dX6_look_61 (by decide) ?_
          subst hQ
          have qc_m1 : (-1 : Int32).toInt = -1 := by decide
          have lk_89 : (zI_25 zr 2).toInt = zi_26.toInt := congrArg Int32.toInt e_lp_71_0
          exact W.iret (v := (-1 : Int32)) hx hb hr (fun t ht hW => ⟨⟨(-1 : Int32), zI_25, rfl, ⟨h_zI_25, (show (-1) ≤ (-1 : Int32).toInt ∧ (-1 : Int32).toInt ≤ 255 from by omega), (show (-1 : Int32).toInt = -1 ∨ (zI_25 zr 2).toInt ≤ 79 from by omega)⟩, ⟨by rw [ht]; exact hP, va_K.moved hW.alike hK, hD⟩⟩, hS.F ht⟩) hS.2.2 dX6_look_62
        · have f_88 : ¬ (zi_26.toInt ≥ zi_2.toInt) := ic_nge (rfl) (rfl) c_87
          refine lv_aload_n hx hb dX6_look_49 rfl (lv_at hl 0 rfl) ?_
          refine ht_getr (C := RX6) (T := TX6) (N := 4) hx hb hts (by decide +kernel) hown hK hP hs t_zr (by decide) rfl rfl 0 (by decide) (hts (.fieldLink RX6 9 "DripStone$Reader" "tape" "[I") (by decide +kernel)) (fun _ h9 => h9) rfl dX6_look_50 ?_
          have t_90 : zT (zR zr 0) = 35 := sk_f hs t_zr (by decide) rfl (by decide)
          refine lv_aload_n hx hb dX6_look_53 rfl (lv_at hl 0 rfl) ?_
          refine ht_geti (C := RX6) (T := TX6) (N := 4) hx hb hts (by decide +kernel) hown hK hP hs t_zr (by decide) rfl rfl 2 (by decide) (hts (.fieldLink RX6 15 "DripStone$Reader" "at" "I") (by decide +kernel)) (fun _ h9 => h9) rfl dX6_look_54 ?_
          refine lv_topi (fun zi_91 ezi_91 => ?_)
          obtain rfl : zi_26 = zi_91 := (ezi_91.trans e_lp_71_0).symm
          refine ht_iald (n := 80) (q := 0) hx hb hK hP hs t_90 (by decide) rfl rfl ⟨by omega, by omega⟩ dX6_look_57 ?_
          refine lv_topi (fun zi_92 ezi_92 => ?_)
          have tzi_92 : 0 ≤ zi_92.toInt ∧ zi_92.toInt ≤ 255 := by rw [ezi_92]; exact h_zI_25.at t_90 _ rfl
          refine lv_goto (tgt := 62) hx hb dX6_look_58 (by decide) ?_
          subst hQ
          have lk_93 : (zI_25 zr 2).toInt = zi_26.toInt := congrArg Int32.toInt e_lp_71_0
          exact W.iret (v := zi_92) hx hb hr (fun t ht hW => ⟨⟨zi_92, zI_25, rfl, ⟨h_zI_25, (show (-1) ≤ zi_92.toInt ∧ zi_92.toInt ≤ 255 from by omega), (show zi_92.toInt = -1 ∨ (zI_25 zr 2).toInt ≤ 79 from by omega)⟩, ⟨by rw [ht]; exact hP, va_K.moved hW.alike hK, hD⟩⟩, hS.F ht⟩) hS.2.2 dX6_look_62
      refine lv_icmp_ge (tgt := 38) hx hb dX6_look_8 (by decide) (fun c_94 => ?_) (fun c_94 => ?_)
      · have f_95 : zi_26.toInt ≥ zi_2.toInt := ic_ge (rfl) (rfl) c_94
        exact jn_84  _ _ _  hP hD hS (lv_sub hl [0] rfl)
      · have f_95 : ¬ (zi_26.toInt ≥ zi_2.toInt) := ic_nge (rfl) (rfl) c_94
        refine lv_aload_n hx hb dX6_look_11 rfl (lv_at hl 0 rfl) ?_
        refine ht_getr (C := RX6) (T := TX6) (N := 4) hx hb hts (by decide +kernel) hown hK hP hs t_zr (by decide) rfl rfl 0 (by decide) (hts (.fieldLink RX6 9 "DripStone$Reader" "tape" "[I") (by decide +kernel)) (fun _ h9 => h9) rfl dX6_look_12 ?_
        have t_96 : zT (zR zr 0) = 35 := sk_f hs t_zr (by decide) rfl (by decide)
        refine lv_aload_n hx hb dX6_look_15 rfl (lv_at hl 0 rfl) ?_
        refine ht_geti (C := RX6) (T := TX6) (N := 4) hx hb hts (by decide +kernel) hown hK hP hs t_zr (by decide) rfl rfl 2 (by decide) (hts (.fieldLink RX6 15 "DripStone$Reader" "at" "I") (by decide +kernel)) (fun _ h9 => h9) rfl dX6_look_16 ?_
        refine lv_topi (fun zi_97 ezi_97 => ?_)
        obtain rfl : zi_26 = zi_97 := (ezi_97.trans e_lp_71_0).symm
        refine ht_iald (n := 80) (q := 0) hx hb hK hP hs t_96 (by decide) rfl rfl ⟨by omega, by omega⟩ dX6_look_19 ?_
        refine lv_topi (fun zi_98 ezi_98 => ?_)
        have tzi_98 : 0 ≤ zi_98.toInt ∧ zi_98.toInt ≤ 255 := by rw [ezi_98]; exact h_zI_25.at t_96 _ rfl
        refine lv_bipush (v := 32) hx hb dX6_look_20 (by decide) ?_
        refine lv_icmp_ne (tgt := 38) hx hb dX6_look_22 (by decide) (fun c_99 => ?_) (fun c_99 => ?_)
        · have f_100 : zi_98.toInt ≠ (32 : Int) := ic_ne (rfl) (show (32 : Int32).toInt = 32 by decide) c_99
          exact jn_84  _ _ _  hP hD hS (lv_sub hl [0] rfl)
        · have f_100 : ¬ (zi_98.toInt ≠ (32 : Int)) := ic_nne (rfl) (show (32 : Int32).toInt = 32 by decide) c_99
          refine lv_aload_n hx hb dX6_look_25 rfl (lv_at hl 0 rfl) ?_
          refine lv_dup hx hb dX6_look_26 rfl ?_
          refine ht_geti (C := RX6) (T := TX6) (N := 4) hx hb hts (by decide +kernel) hown hK hP hs t_zr (by decide) rfl rfl 2 (by decide) (hts (.fieldLink RX6 15 "DripStone$Reader" "at" "I") (by decide +kernel)) (fun _ h9 => h9) rfl dX6_look_27 ?_
          refine lv_topi (fun zi_101 ezi_101 => ?_)
          obtain rfl : zi_26 = zi_101 := (ezi_101.trans e_lp_71_0).symm
          refine lv_iconst (v := 1) hx hb dX6_look_30 (by decide) ?_
          refine lv_iadd hx hb dX6_look_31 ?_
          refine lv_topi (fun zi_102 ezi_102 => ?_)
          have tzi_102 : zi_102.toInt = zi_26.toInt + (1 : Int) := by rw [ezi_102]; exact tiadd (rfl) (show (1 : Int32).toInt = 1 by decide) (by omega) (by omega)
          refine ht_puti (v := zi_102) (ty := .int) (C := RX6) (T := TX6) (N := 4) hx hb hts (by decide +kernel) tyX6 tyX6_ok nmX6 hown hK hP hD hS hs t_zr (by decide) rfl rfl 2 (by decide) (hts (.fieldLink RX6 15 "DripStone$Reader" "at" "I") (by decide +kernel)) (fun _ h9 => h9) rfl (by decide +kernel) rfl rfl rfl dX6_look_32 (fun H locs hP hD hS => ?_)
          have h_zI_103 : WM [702] AL zT zR zI (u2 zI_25 zr 2 zi_102) := h_zI_25.put hs t_zr rfl (by omega) (by decide) (fun h => absurd h (by decide)) (by decide) trivial
          generalize uzI_103 : u2 zI_25 zr 2 zi_102 = zI_103 at hP hD h_zI_103
          refine lv_goto (tgt := 0) hx hb dX6_look_35 (by decide) ?_
          exact ih_71 (zi_2.toInt - zi_102.toInt).toNat (by omega) zI_103 zi_102 _ _ _ rfl h_zI_103 (by omega) (by rw [← uzI_103]; exact u2_s) ((show zI_103 zr 1 = zI_25 zr 1 from by rw [← uzI_103]; exact u2_k (by decide)).trans e_lp_71_1) hP hD hS (lv_sub hl [0] rfl)
  exact lp_71 _ zI zi_1 _ _ _ rfl h_zI (by omega) ezi_1.symm ezi_2.symm hP hD hS (lv_sub hl [0] rfl)
set_option maxHeartbeats 8000000 in
set_option maxRecDepth 100000 in
theorem t_X6_reads (l : Launch) (dC : Nat → ClassId) (dI : Nat → Nat → Nat) (cy : Nat → ClassId) (sz : Nat) (zL : List Nat) (zT : Nat → Nat) (zR : Nat → Nat → Nat) (zI : Nat → Nat → Int32) (zJ : Nat → Nat → Int64) (zr : Nat) (zia : Int32) (hs : SKP zL zT zR) (hw : WT zT zR zI) (t_zr : zT zr = 7) (b_zia : 33 ≤ zia.toInt ∧ zia.toInt ≤ 126) : Met l yX6_reads wsX6_reads ({ frames := 1, cells := 0, slots := 0, locals := 20 } : Room) (va_Pc [.ref zr, .int zia] (PRE dC dI cy (WL cy zL zT zR zI zJ) sz)) (va_Qi (fun (r : Int32) (u : (Nat → Nat → Int32)) => (WM [702] AL zT zR zI u) ∧ (0 ≤ r.toInt ∧ r.toInt ≤ 1)) (fun u t => POST dC dI cy (va_A (WL cy zL zT zR zI zJ) sz) (WL cy zL zT zR u zJ) t) (va_A (WL cy zL zT zR zI zJ) sz)) 0 0 (va_A (WL cy zL zT zR zI zJ) sz) := by
  refine Met.ofW (cc := cX6_reads) (maxL := 2) (ret := (some .boolean)) (by decide) rfl ?_
  intro p e s m args below meth c s₁ B hml hv
  obtain ⟨rfl, hsz, hP, hK, hD0, hN⟩ := hv
  have hx := B.exec
  have hb := B.bytes
  have hr := B.returns
  have hts := atoms_spec (ws := wsX6_reads) B.pre
  have hown : s.vm.findClass RX6 = some m.cls := findClass_of_methodNamed B.named
  have hlocks := B.notSynchronized
  subst hsz
  have hD := hD0.self (sz := s.heap.size)
  generalize hAe : va_A (WL cy zL zT zR zI zJ) s.heap.size = A at hD ⊢
  have hA : ∀ q : Nat, s.heap.size ≤ q → A q := fun q h => by rw [← hAe]; exact Or.inr h
  have hS : va_S A s.heap s.heap [] := va_S.rf
  have hP : va_P (dC, dI) vwCl (WL cy zL zT zR zI zJ) s.heap := hP
  have hl := lv_entry ([.ref zr, .int zia] : List Value) (n := 2) (Nat.le_of_ble_eq_true rfl)
  rw [lg_entry_eq]
  generalize (lg_sl ([.ref zr, .int zia] : List Value) ++ List.replicate (2 - (lg_sl ([.ref zr, .int zia] : List Value)).length) Slot.unset).toArray = ls at hl ⊢
  have hl : lv_has ls 2 [(0, .ref zr), (1, .int zia)] := hl
  refine w_q (fun Q hQ => ?_)
  have h_zI : WM [702] AL zT zR zI zI := WM.rf hw
  refine lv_aload_n hx hb dX6_reads_0 rfl (lv_at hl 0 rfl) ?_
  refine hj_i (ws := (WL cy zL zT zR zI zJ)) (w1 := fun (u : (Nat → Nat → Int32)) => (WL cy zL zT zR u zJ)) (va_runV (As := []) (rest := []) ⟨hx, hb, hml, hown, hts⟩ (t_X6_look l dC dI cy s.heap.size zL zT zR zI zJ zr hs h_zI.1 t_zr) (cwV 0 hts gX6_reads_X6_look rfl rfl rfl (by decide +kernel) ⟨(Nat.le_of_ble_eq_true rfl), (Nat.le_of_ble_eq_true rfl)⟩) (PRE.v hP hK hD hN (ht_recv hK hP hs t_zr (by decide) rfl rfl)) rfl rfl hl.1 rfl (lv_room (Nat.le_of_ble_eq_true rfl)) dX6_reads_1 ⟨(Nat.le_of_ble_eq_true rfl), (Nat.le_of_ble_eq_true rfl)⟩) hP hD hS hA (fun zi_1 zI_4 H locs hw_2 hP hD hS => ?_)
  obtain ⟨k_zI_4, b_zi_1, ps_5⟩ : (WM [702] AL zT zR zI zI_4) ∧ ((-1) ≤ zi_1.toInt ∧ zi_1.toInt ≤ 255) ∧ (zi_1.toInt = -1 ∨ (zI_4 zr 2).toInt ≤ 79) := hw_2
  have h_zI_4 : WM [702] AL zT zR zI zI_4 := h_zI.tr k_zI_4 (by decide) (fun _ _ => trivial)
  obtain ⟨zi_6, ezi_6⟩ : ∃ y : Int32, y = zI_4 zr 2 := ⟨_, rfl⟩
  have tzi_6 : 0 ≤ zi_6.toInt ∧ zi_6.toInt ≤ 80 := by rw [ezi_6]; exact h_zI_4.at t_zr _ rfl
  have lzi_6 : (zI_4 zr 2).toInt = zi_6.toInt := by rw [ezi_6]
  have lk_7 : (zI_4 zr 2).toInt = zi_6.toInt := congrArg Int32.toInt ezi_6.symm
  refine lv_iload_n hx hb dX6_reads_4 rfl (lv_at hl 1 rfl) ?_
  refine lv_icmp_eq (tgt := 10) hx hb dX6_reads_5 (by decide) (fun c_8 => ?_) (fun c_8 => ?_)
  · have f_9 : zi_1.toInt = zia.toInt := ic_eq (rfl) (rfl) c_8
    refine lv_aload_n hx hb dX6_reads_10 rfl (lv_at hl 0 rfl) ?_
    refine lv_dup hx hb dX6_reads_11 rfl ?_
    refine ht_geti (C := RX6) (T := TX6) (N := 4) hx hb hts (by decide +kernel) hown hK hP hs t_zr (by decide) rfl rfl 2 (by decide) (hts (.fieldLink RX6 15 "DripStone$Reader" "at" "I") (by decide +kernel)) (fun _ h9 => h9) rfl dX6_reads_12 ?_
    refine lv_topi (fun zi_10 ezi_10 => ?_)
    obtain rfl : zi_6 = zi_10 := (ezi_10.trans ezi_6.symm).symm
    refine lv_iconst (v := 1) hx hb dX6_reads_15 (by decide) ?_
    refine lv_iadd hx hb dX6_reads_16 ?_
    refine lv_topi (fun zi_11 ezi_11 => ?_)
    have tzi_11 : zi_11.toInt = zi_6.toInt + (1 : Int) := by rw [ezi_11]; exact tiadd (rfl) (show (1 : Int32).toInt = 1 by decide) (by omega) (by omega)
    refine ht_puti (v := zi_11) (ty := .int) (C := RX6) (T := TX6) (N := 4) hx hb hts (by decide +kernel) tyX6 tyX6_ok nmX6 hown hK hP hD hS hs t_zr (by decide) rfl rfl 2 (by decide) (hts (.fieldLink RX6 15 "DripStone$Reader" "at" "I") (by decide +kernel)) (fun _ h9 => h9) rfl (by decide +kernel) rfl rfl rfl dX6_reads_17 (fun H locs hP hD hS => ?_)
    have h_zI_12 : WM [702] AL zT zR zI (u2 zI_4 zr 2 zi_11) := h_zI_4.put hs t_zr rfl (by omega) (by decide) (fun h => absurd h (by decide)) (by decide) trivial
    generalize uzI_12 : u2 zI_4 zr 2 zi_11 = zI_12 at hP hD h_zI_12
    refine lv_iconst (v := 1) hx hb dX6_reads_20 (by decide) ?_
    subst hQ
    have qc_1 : (1 : Int32).toInt = 1 := by decide
    exact W.zret (v := (1 : Int32)) hx hb hr rfl (fun t ht hW => ⟨⟨(1 : Int32), zI_12, rfl, ⟨h_zI_12, (show 0 ≤ (1 : Int32).toInt ∧ (1 : Int32).toInt ≤ 1 from by omega)⟩, ⟨by rw [ht]; exact hP, va_K.moved hW.alike hK, hD⟩⟩, hS.F ht⟩) hS.2.2 dX6_reads_21
  · have f_9 : ¬ (zi_1.toInt = zia.toInt) := ic_neq (rfl) (rfl) c_8
    refine lv_iconst (v := 0) hx hb dX6_reads_8 (by decide) ?_
    subst hQ
    have qc_0 : (0 : Int32).toInt = 0 := by decide
    exact W.zret (v := (0 : Int32)) hx hb hr rfl (fun t ht hW => ⟨⟨(0 : Int32), zI_4, rfl, ⟨h_zI_4, (show 0 ≤ (0 : Int32).toInt ∧ (0 : Int32).toInt ≤ 1 from by omega)⟩, ⟨by rw [ht]; exact hP, va_K.moved hW.alike hK, hD⟩⟩, hS.F ht⟩) hS.2.2 dX6_reads_9
set_option maxHeartbeats 8000000 in
set_option maxRecDepth 100000 in
theorem t_X6_fails (l : Launch) (dC : Nat → ClassId) (dI : Nat → Nat → Nat) (cy : Nat → ClassId) (sz : Nat) (zL : List Nat) (zT : Nat → Nat) (zR : Nat → Nat → Nat) (zI : Nat → Nat → Int32) (zJ : Nat → Nat → Int64) (zr : Nat) (zia : Int32) (hs : SKP zL zT zR) (hw : WT zT zR zI) (t_zr : zT zr = 7) : Met l yX6_fails wsX6_fails ({ frames := 0, cells := 0, slots := 0, locals := 0 } : Room) (va_Pc [.ref zr, .int zia] (PRE dC dI cy (WL cy zL zT zR zI zJ) sz)) (va_Qi (fun (r : Int32) (u : (Nat → Nat → Int32)) => (WM [703] AL zT zR zI u) ∧ (r = 0)) (fun u t => POST dC dI cy (va_A (WL cy zL zT zR zI zJ) sz) (WL cy zL zT zR u zJ) t) (va_A (WL cy zL zT zR zI zJ) sz)) 0 0 (va_A (WL cy zL zT zR zI zJ) sz) := by
  refine Met.ofW (cc := cX6_fails) (maxL := 2) (ret := (some .boolean)) (by decide) rfl ?_
  intro p e s m args below meth c s₁ B hml hv
  obtain ⟨rfl, hsz, hP, hK, hD0, hN⟩ := hv
  have hx := B.exec
  have hb := B.bytes
  have hr := B.returns
  have hts := atoms_spec (ws := wsX6_fails) B.pre
  have hown : s.vm.findClass RX6 = some m.cls := findClass_of_methodNamed B.named
  have hlocks := B.notSynchronized
  subst hsz
  have hD := hD0.self (sz := s.heap.size)
  generalize hAe : va_A (WL cy zL zT zR zI zJ) s.heap.size = A at hD ⊢
  have hA : ∀ q : Nat, s.heap.size ≤ q → A q := fun q h => by rw [← hAe]; exact Or.inr h
  have hS : va_S A s.heap s.heap [] := va_S.rf
  have hP : va_P (dC, dI) vwCl (WL cy zL zT zR zI zJ) s.heap := hP
  have hl := lv_entry ([.ref zr, .int zia] : List Value) (n := 2) (Nat.le_of_ble_eq_true rfl)
  rw [lg_entry_eq]
  generalize (lg_sl ([.ref zr, .int zia] : List Value) ++ List.replicate (2 - (lg_sl ([.ref zr, .int zia] : List Value)).length) Slot.unset).toArray = ls at hl ⊢
  have hl : lv_has ls 2 [(0, .ref zr), (1, .int zia)] := hl
  refine w_q (fun Q hQ => ?_)
  have h_zI : WM [703] AL zT zR zI zI := WM.rf hw
  refine lv_aload_n hx hb dX6_fails_0 rfl (lv_at hl 0 rfl) ?_
  refine lv_bipush (v := (-20)) hx hb dX6_fails_1 (by decide) ?_
  refine lv_iload_n hx hb dX6_fails_3 rfl (lv_at hl 1 rfl) ?_
  refine lv_isub hx hb dX6_fails_4 ?_
  refine lv_topi (fun zi_1 ezi_1 => ?_)
  refine ht_puti (v := zi_1) (ty := .int) (C := RX6) (T := TX6) (N := 4) hx hb hts (by decide +kernel) tyX6 tyX6_ok nmX6 hown hK hP hD hS hs t_zr (by decide) rfl rfl 3 (by decide) (hts (.fieldLink RX6 23 "DripStone$Reader" "fault" "I") (by decide +kernel)) (fun _ h9 => h9) rfl (by decide +kernel) rfl rfl rfl dX6_fails_5 (fun H locs hP hD hS => ?_)
  have h_zI_2 : WM [703] AL zT zR zI (u2 zI zr 3 zi_1) := h_zI.put hs t_zr rfl (rgF _) (by decide) (fun h => absurd h (by decide)) (by decide) trivial
  generalize uzI_2 : u2 zI zr 3 zi_1 = zI_2 at hP hD h_zI_2
  refine lv_iconst (v := 0) hx hb dX6_fails_8 (by decide) ?_
  subst hQ
  exact W.zret (v := (0 : Int32)) hx hb hr rfl (fun t ht hW => ⟨⟨(0 : Int32), zI_2, rfl, ⟨h_zI_2, rfl⟩, ⟨by rw [ht]; exact hP, va_K.moved hW.alike hK, hD⟩⟩, hS.F ht⟩) hS.2.2 dX6_fails_9
set_option maxHeartbeats 8000000 in
set_option maxRecDepth 100000 in
theorem t_X6_wants (l : Launch) (dC : Nat → ClassId) (dI : Nat → Nat → Nat) (cy : Nat → ClassId) (sz : Nat) (zL : List Nat) (zT : Nat → Nat) (zR : Nat → Nat → Nat) (zI : Nat → Nat → Int32) (zJ : Nat → Nat → Int64) (zr : Nat) (zia : Int32) (hs : SKP zL zT zR) (hw : WT zT zR zI) (t_zr : zT zr = 7) (b_zia : 33 ≤ zia.toInt ∧ zia.toInt ≤ 126) : Met l yX6_wants wsX6_wants ({ frames := 2, cells := 0, slots := 0, locals := 41 } : Room) (va_Pc [.ref zr, .int zia] (PRE dC dI cy (WL cy zL zT zR zI zJ) sz)) (va_Qi (fun (r : Int32) (u : (Nat → Nat → Int32)) => (WM [702, 703] AL zT zR zI u) ∧ (0 ≤ r.toInt ∧ r.toInt ≤ 1)) (fun u t => POST dC dI cy (va_A (WL cy zL zT zR zI zJ) sz) (WL cy zL zT zR u zJ) t) (va_A (WL cy zL zT zR zI zJ) sz)) 0 0 (va_A (WL cy zL zT zR zI zJ) sz) := by
  refine Met.ofW (cc := cX6_wants) (maxL := 2) (ret := (some .boolean)) (by decide) rfl ?_
  intro p e s m args below meth c s₁ B hml hv
  obtain ⟨rfl, hsz, hP, hK, hD0, hN⟩ := hv
  have hx := B.exec
  have hb := B.bytes
  have hr := B.returns
  have hts := atoms_spec (ws := wsX6_wants) B.pre
  have hown : s.vm.findClass RX6 = some m.cls := findClass_of_methodNamed B.named
  have hlocks := B.notSynchronized
  subst hsz
  have hD := hD0.self (sz := s.heap.size)
  generalize hAe : va_A (WL cy zL zT zR zI zJ) s.heap.size = A at hD ⊢
  have hA : ∀ q : Nat, s.heap.size ≤ q → A q := fun q h => by rw [← hAe]; exact Or.inr h
  have hS : va_S A s.heap s.heap [] := va_S.rf
  have hP : va_P (dC, dI) vwCl (WL cy zL zT zR zI zJ) s.heap := hP
  have hl := lv_entry ([.ref zr, .int zia] : List Value) (n := 2) (Nat.le_of_ble_eq_true rfl)
  rw [lg_entry_eq]
  generalize (lg_sl ([.ref zr, .int zia] : List Value) ++ List.replicate (2 - (lg_sl ([.ref zr, .int zia] : List Value)).length) Slot.unset).toArray = ls at hl ⊢
  have hl : lv_has ls 2 [(0, .ref zr), (1, .int zia)] := hl
  refine w_q (fun Q hQ => ?_)
  have h_zI : WM [702, 703] AL zT zR zI zI := WM.rf hw
  refine lv_aload_n hx hb dX6_wants_0 rfl (lv_at hl 0 rfl) ?_
  refine lv_iload_n hx hb dX6_wants_1 rfl (lv_at hl 1 rfl) ?_
  refine hj_i (ws := (WL cy zL zT zR zI zJ)) (w1 := fun (u : (Nat → Nat → Int32)) => (WL cy zL zT zR u zJ)) (va_runV (As := [.int zia]) (rest := []) ⟨hx, hb, hml, hown, hts⟩ (t_X6_reads l dC dI cy s.heap.size zL zT zR zI zJ zr zia hs h_zI.1 t_zr (by omega)) (cwV 1 hts gX6_wants_X6_reads rfl rfl rfl (by decide +kernel) ⟨(Nat.le_of_ble_eq_true rfl), (Nat.le_of_ble_eq_true rfl)⟩) (PRE.v hP hK hD hN (ht_recv hK hP hs t_zr (by decide) rfl rfl)) rfl rfl hl.1 rfl (lv_room (Nat.le_of_ble_eq_true rfl)) dX6_wants_2 ⟨(Nat.le_of_ble_eq_true rfl), (Nat.le_of_ble_eq_true rfl)⟩) hP hD hS hA (fun zi_1 zI_4 H locs hw_2 hP hD hS => ?_)
  obtain ⟨k_zI_4, b_zi_1⟩ : (WM [702] AL zT zR zI zI_4) ∧ (0 ≤ zi_1.toInt ∧ zi_1.toInt ≤ 1) := hw_2
  have h_zI_4 : WM [702, 703] AL zT zR zI zI_4 := h_zI.tr k_zI_4 (by decide) (fun _ _ => trivial)
  refine lv_if_ne (tgt := 19) hx hb dX6_wants_5 (by decide) (fun c_5 => ?_) (fun c_5 => ?_)
  · have f_6 : zi_1.toInt ≠ 0 := ic_ne (rfl) (by decide) c_5
    refine lv_iconst (v := 1) hx hb dX6_wants_19 (by decide) ?_
    refine lv_goto (tgt := 24) hx hb dX6_wants_20 (by decide) ?_
    subst hQ
    have qc_1 : (1 : Int32).toInt = 1 := by decide
    exact W.zret (v := (1 : Int32)) hx hb hr rfl (fun t ht hW => ⟨⟨(1 : Int32), zI_4, rfl, ⟨h_zI_4, (show 0 ≤ (1 : Int32).toInt ∧ (1 : Int32).toInt ≤ 1 from by omega)⟩, ⟨by rw [ht]; exact hP, va_K.moved hW.alike hK, hD⟩⟩, hS.F ht⟩) hS.2.2 dX6_wants_24
  · have f_6 : ¬ (zi_1.toInt ≠ 0) := ic_nne (rfl) (by decide) c_5
    refine lv_aload_n hx hb dX6_wants_8 rfl (lv_at hl 0 rfl) ?_
    refine lv_aload_n hx hb dX6_wants_9 rfl (lv_at hl 0 rfl) ?_
    refine ht_geti (C := RX6) (T := TX6) (N := 4) hx hb hts (by decide +kernel) hown hK hP hs t_zr (by decide) rfl rfl 2 (by decide) (hts (.fieldLink RX6 15 "DripStone$Reader" "at" "I") (by decide +kernel)) (fun _ h9 => h9) rfl dX6_wants_10 ?_
    refine lv_topi (fun zi_7 ezi_7 => ?_)
    have tzi_7 : 0 ≤ zi_7.toInt ∧ zi_7.toInt ≤ 80 := by rw [ezi_7]; exact h_zI_4.at t_zr _ rfl
    have lzi_7 : (zI_4 zr 2).toInt = zi_7.toInt := by rw [ezi_7]
    refine hj_i (ws := (WL cy zL zT zR zI_4 zJ)) (w1 := fun (u : (Nat → Nat → Int32)) => (WL cy zL zT zR u zJ)) (va_runV (As := [.int zi_7]) (rest := []) ⟨hx, hb, hml, hown, hts⟩ (t_X6_fails l dC dI cy H.size zL zT zR zI_4 zJ zr zi_7 hs h_zI_4.1 t_zr) (cwV 1 hts gX6_wants_X6_fails rfl rfl rfl (by decide +kernel) ⟨(Nat.le_of_ble_eq_true rfl), (Nat.le_of_ble_eq_true rfl)⟩) (PRE.v hP hK hD hN (ht_recv hK hP hs t_zr (by decide) rfl rfl)) rfl rfl hl.1 rfl (lv_room (Nat.le_of_ble_eq_true rfl)) dX6_wants_13 ⟨(Nat.le_of_ble_eq_true rfl), (Nat.le_of_ble_eq_true rfl)⟩) hP hD hS hA (fun zi_8 zI_11 H locs hw_9 hP hD hS => ?_)
    obtain ⟨k_zI_11, ps_12⟩ : (WM [703] AL zT zR zI_4 zI_11) ∧ (zi_8 = 0) := hw_9
    have h_zI_11 : WM [702, 703] AL zT zR zI zI_11 := h_zI_4.tr k_zI_11 (by decide) (fun _ _ => trivial)
    obtain rfl : zi_8 = 0 := ps_12
    refine lv_if_eq (tgt := 23) hx hb dX6_wants_16 (by decide) (fun c_13 => ?_) (fun c_13 => absurd (by decide) c_13)
    refine lv_iconst (v := 0) hx hb dX6_wants_23 (by decide) ?_
    subst hQ
    have qc_0 : (0 : Int32).toInt = 0 := by decide
    exact W.zret (v := (0 : Int32)) hx hb hr rfl (fun t ht hW => ⟨⟨(0 : Int32), zI_11, rfl, ⟨h_zI_11, (show 0 ≤ (0 : Int32).toInt ∧ (0 : Int32).toInt ≤ 1 from by omega)⟩, ⟨by rw [ht]; exact hP, va_K.moved hW.alike hK, hD⟩⟩, hS.F ht⟩) hS.2.2 dX6_wants_24
set_option maxHeartbeats 8000000 in
set_option maxRecDepth 100000 in
theorem t_X6_readNumberOf (l : Launch) (dC : Nat → ClassId) (dI : Nat → Nat → Nat) (cy : Nat → ClassId) (sz : Nat) (zL : List Nat) (zT : Nat → Nat) (zR : Nat → Nat → Nat) (zI : Nat → Nat → Int32) (zJ : Nat → Nat → Int64) (zr : Nat) (zia : Int32) (zib : Int32) (zic : Int32) (hs : SKP zL zT zR) (hw : WT zT zR zI) (t_zr : zT zr = 7) (b_zib : 0 ≤ zib.toInt ∧ zib.toInt ≤ 1000) (b_zic : 0 ≤ zic.toInt ∧ zic.toInt ≤ 1000) : Met l yX6_readNumberOf wsX6_readNumberOf ({ frames := 1, cells := 0, slots := 0, locals := 30 } : Room) (va_Pc [.ref zr, .int zia, .int zib, .int zic] (PRE dC dI cy (WL cy zL zT zR zI zJ) sz)) (va_Qi (fun (r : Int32) (u : (Nat → Nat → Int32)) => (WM [702, 703] AL zT zR zI u) ∧ ((-1) ≤ r.toInt ∧ r.toInt ≤ 1000) ∧ (r.toInt = -1 ∨ (zib.toInt ≤ r.toInt ∧ r.toInt ≤ zic.toInt))) (fun u t => POST dC dI cy (va_A (WL cy zL zT zR zI zJ) sz) (WL cy zL zT zR u zJ) t) (va_A (WL cy zL zT zR zI zJ) sz)) 0 0 (va_A (WL cy zL zT zR zI zJ) sz) := by
  refine Met.ofW (cc := cX6_readNumberOf) (maxL := 6) (ret := (some .int)) (by decide) rfl ?_
  intro p e s m args below meth c s₁ B hml hv
  obtain ⟨rfl, hsz, hP, hK, hD0, hN⟩ := hv
  have hx := B.exec
  have hb := B.bytes
  have hr := B.returns
  have hts := atoms_spec (ws := wsX6_readNumberOf) B.pre
  have hown : s.vm.findClass RX6 = some m.cls := findClass_of_methodNamed B.named
  have hlocks := B.notSynchronized
  subst hsz
  have hD := hD0.self (sz := s.heap.size)
  generalize hAe : va_A (WL cy zL zT zR zI zJ) s.heap.size = A at hD ⊢
  have hA : ∀ q : Nat, s.heap.size ≤ q → A q := fun q h => by rw [← hAe]; exact Or.inr h
  have hS : va_S A s.heap s.heap [] := va_S.rf
  have hP : va_P (dC, dI) vwCl (WL cy zL zT zR zI zJ) s.heap := hP
  have hl := lv_entry ([.ref zr, .int zia, .int zib, .int zic] : List Value) (n := 6) (Nat.le_of_ble_eq_true rfl)
  rw [lg_entry_eq]
  generalize (lg_sl ([.ref zr, .int zia, .int zib, .int zic] : List Value) ++ List.replicate (6 - (lg_sl ([.ref zr, .int zia, .int zib, .int zic] : List Value)).length) Slot.unset).toArray = ls at hl ⊢
  have hl : lv_has ls 6 [(0, .ref zr), (1, .int zia), (2, .int zib), (3, .int zic)] := hl
  refine w_q (fun Q hQ => ?_)
  have h_zI : WM [702, 703] AL zT zR zI zI := WM.rf hw
  refine lv_aload_n hx hb dX6_readNumberOf_0 rfl (lv_at hl 0 rfl) ?_
  refine hj_i (ws := (WL cy zL zT zR zI zJ)) (w1 := fun (u : (Nat → Nat → Int32)) => (WL cy zL zT zR u zJ)) (va_runV (As := []) (rest := []) ⟨hx, hb, hml, hown, hts⟩ (t_X6_look l dC dI cy s.heap.size zL zT zR zI zJ zr hs h_zI.1 t_zr) (cwV 0 hts gX6_readNumberOf_X6_look rfl rfl rfl (by decide +kernel) ⟨(Nat.le_of_ble_eq_true rfl), (Nat.le_of_ble_eq_true rfl)⟩) (PRE.v hP hK hD hN (ht_recv hK hP hs t_zr (by decide) rfl rfl)) rfl rfl hl.1 rfl (lv_room (Nat.le_of_ble_eq_true rfl)) dX6_readNumberOf_1 ⟨(Nat.le_of_ble_eq_true rfl), (Nat.le_of_ble_eq_true rfl)⟩) hP hD hS hA (fun zi_1 zI_4 H locs hw_2 hP hD hS => ?_)
  obtain ⟨k_zI_4, b_zi_1, ps_5⟩ : (WM [702] AL zT zR zI zI_4) ∧ ((-1) ≤ zi_1.toInt ∧ zi_1.toInt ≤ 255) ∧ (zi_1.toInt = -1 ∨ (zI_4 zr 2).toInt ≤ 79) := hw_2
  have h_zI_4 : WM [702, 703] AL zT zR zI zI_4 := h_zI.tr k_zI_4 (by decide) (fun _ _ => trivial)
  obtain ⟨zi_6, ezi_6⟩ : ∃ y : Int32, y = zI_4 zr 2 := ⟨_, rfl⟩
  have tzi_6 : 0 ≤ zi_6.toInt ∧ zi_6.toInt ≤ 80 := by rw [ezi_6]; exact h_zI_4.at t_zr _ rfl
  have lzi_6 : (zI_4 zr 2).toInt = zi_6.toInt := by rw [ezi_6]
  have lk_7 : (zI_4 zr 2).toInt = zi_6.toInt := congrArg Int32.toInt ezi_6.symm
  refine lv_pop hx hb dX6_readNumberOf_4 rfl ?_
  refine lv_aload_n hx hb dX6_readNumberOf_5 rfl (lv_at hl 0 rfl) ?_
  refine ht_geti (C := RX6) (T := TX6) (N := 4) hx hb hts (by decide +kernel) hown hK hP hs t_zr (by decide) rfl rfl 2 (by decide) (hts (.fieldLink RX6 15 "DripStone$Reader" "at" "I") (by decide +kernel)) (fun _ h9 => h9) rfl dX6_readNumberOf_6 ?_
  refine lv_topi (fun zi_8 ezi_8 => ?_)
  obtain rfl : zi_6 = zi_8 := (ezi_8.trans ezi_6.symm).symm
  refine lv_istore (lv' := [(4, .int zi_6), (0, .ref zr), (1, .int zia), (2, .int zib), (3, .int zic)]) hx hb dX6_readNumberOf_9 hl (by decide) rfl (fun ls hl => ?_)
  refine lv_iconst (v := 0) hx hb dX6_readNumberOf_11 (by decide) ?_
  refine lv_istore (lv' := [(5, .int 0), (4, .int zi_6), (0, .ref zr), (1, .int zia), (2, .int zib), (3, .int zic)]) hx hb dX6_readNumberOf_12 hl (by decide) rfl (fun ls hl => ?_)
  obtain ⟨zi_9, ezi_9⟩ : ∃ y : Int32, y = zI_4 zr 1 := ⟨_, rfl⟩
  have tzi_9 : 0 ≤ zi_9.toInt ∧ zi_9.toInt ≤ 80 := by rw [ezi_9]; exact h_zI_4.at t_zr _ rfl
  have lzi_9 : (zI_4 zr 1).toInt = zi_9.toInt := by rw [ezi_9]
  have lp_262 : ∀ (n : Nat) (zi_219 : Int32) (zI_220 : Nat → Nat → Int32) (zi_221 : Int32) (H : Heap) (locs : List Loc) (ls : Array Slot), (zi_9.toInt - zi_221.toInt).toNat = n → (0 ≤ zi_219.toInt ∧ zi_219.toInt ≤ 1000) → (WM [702, 703] AL zT zR zI zI_220) → (0 ≤ zi_221.toInt ∧ zi_221.toInt ≤ 80) → (zI_220 zr 2 = zi_221) → (zI_220 zr 1 = zi_9) → va_P (dC, dI) vwCl (WL cy zL zT zR zI_220 zJ) H → va_D A (WL cy zL zT zR zI_220 zJ) → va_S A s.heap H locs → lv_has ls 6 [(0, .ref zr), (1, .int zia), (2, .int zib), (3, .int zic), (4, .int zi_6), (5, .int zi_219)] → W p l e ({ frames := 1, cells := 0, slots := 0, locals := 30 } : Room) s m ([.ref zr, .int zia, .int zib, .int zic] : List Value).toArray below meth c H locs 0 0 Q (F0 m 14 ls []) := by
    intro n
    induction n using Nat.strongRecOn with
    | _ n ih_262 =>
      intro zi_219 zI_220 zi_221 H locs ls hn b_zi_219 h_zI_220 b_zi_221 e_lp_262_0 e_lp_262_1 hP hD hS hl
      refine lv_aload_n hx hb dX6_readNumberOf_14 rfl (lv_at hl 0 rfl) ?_
      refine ht_geti (C := RX6) (T := TX6) (N := 4) hx hb hts (by decide +kernel) hown hK hP hs t_zr (by decide) rfl rfl 2 (by decide) (hts (.fieldLink RX6 15 "DripStone$Reader" "at" "I") (by decide +kernel)) (fun _ h9 => h9) rfl dX6_readNumberOf_15 ?_
      refine lv_topi (fun zi_263 ezi_263 => ?_)
      obtain rfl : zi_221 = zi_263 := (ezi_263.trans e_lp_262_0).symm
      refine lv_aload_n hx hb dX6_readNumberOf_18 rfl (lv_at hl 0 rfl) ?_
      refine ht_geti (C := RX6) (T := TX6) (N := 4) hx hb hts (by decide +kernel) hown hK hP hs t_zr (by decide) rfl rfl 1 (by decide) (hts (.fieldLink RX6 110 "DripStone$Reader" "typed" "I") (by decide +kernel)) (fun _ h9 => h9) rfl dX6_readNumberOf_19 ?_
      refine lv_topi (fun zi_264 ezi_264 => ?_)
      obtain rfl : zi_9 = zi_264 := (ezi_264.trans e_lp_262_1).symm
      have jn_284 : ∀  (H : Heap) (locs : List Loc) (ls : Array Slot), va_P (dC, dI) vwCl (WL cy zL zT zR zI_220 zJ) H → va_D A (WL cy zL zT zR zI_220 zJ) → va_S A s.heap H locs → lv_has ls 6 [(0, .ref zr), (1, .int zia), (2, .int zib), (3, .int zic), (4, .int zi_6), (5, .int zi_219)] → W p l e ({ frames := 1, cells := 0, slots := 0, locals := 30 } : Room) s m ([.ref zr, .int zia, .int zib, .int zic] : List Value).toArray below meth c H locs 0 0 Q (F0 m 83 ls []) := by
        intro  H locs ls  hP hD hS hl
        refine lv_aload_n hx hb dX6_readNumberOf_83 rfl (lv_at hl 0 rfl) ?_
        refine ht_geti (C := RX6) (T := TX6) (N := 4) hx hb hts (by decide +kernel) hown hK hP hs t_zr (by decide) rfl rfl 2 (by decide) (hts (.fieldLink RX6 15 "DripStone$Reader" "at" "I") (by decide +kernel)) (fun _ h9 => h9) rfl dX6_readNumberOf_84 ?_
        refine lv_topi (fun zi_285 ezi_285 => ?_)
        obtain rfl : zi_221 = zi_285 := (ezi_285.trans e_lp_262_0).symm
        refine lv_iload hx hb dX6_readNumberOf_87 (lv_at hl 4 rfl) ?_
        refine lv_icmp_ne (tgt := 103) hx hb dX6_readNumberOf_89 (by decide) (fun c_286 => ?_) (fun c_286 => ?_)
        · have f_287 : zi_221.toInt ≠ zi_6.toInt := ic_ne (rfl) (rfl) c_286
          refine lv_iload hx hb dX6_readNumberOf_103 (lv_at hl 5 rfl) ?_
          refine lv_iload_n hx hb dX6_readNumberOf_105 rfl (lv_at hl 2 rfl) ?_
          refine lv_iload_n hx hb dX6_readNumberOf_106 rfl (lv_at hl 3 rfl) ?_
          refine hj0_i (ws := (WL cy zL zT zR zI_220 zJ)) (va_runSN (As := [.int zi_219, .int zib, .int zic]) (rest := []) ⟨hx, hb, hml, hown, hts⟩ (c_X10_isWithin l dC dI cy H.size zi_219 zib zic zib.toInt zic.toInt (by first | rfl | decide | omega | exact Int32.toInt_toInt64 _) (by first | rfl | decide | omega | exact Int32.toInt_toInt64 _)) ⟨va_cnB 3 hts ggX6_readNumberOf_X10_isWithin rfl rfl rfl (n0_16 hN) (hts (.initialized RX10) (by decide +kernel)) (by decide +kernel) ⟨(Nat.le_of_ble_eq_true rfl), (Nat.le_of_ble_eq_true rfl)⟩, hts (.static yX10_isWithin) (by decide +kernel), trivial⟩ (PRE.s (hP.sub [] rfl) hK (hD.sub [] (by decide) rfl) hN) rfl rfl hl.1 rfl (lv_room (Nat.le_of_ble_eq_true rfl)) dX6_readNumberOf_107 ⟨(Nat.le_of_ble_eq_true rfl), (Nat.le_of_ble_eq_true rfl)⟩) hP hD hS hA (fun zi_288 u_290 H locs hw_289 hP hD hS => ?_)
          have hw_289 : zi_288 = if zib.toInt ≤ zi_219.toInt ∧ zi_219.toInt ≤ zic.toInt then 1 else 0 := hw_289
          have b_zi_288 : 0 ≤ zi_288.toInt ∧ zi_288.toInt ≤ 1 := bz_b hw_289
          refine lv_if_ne (tgt := 121) hx hb dX6_readNumberOf_110 (by decide) (fun c_291 => ?_) (fun c_291 => ?_)
          · have f_292 : zib.toInt ≤ zi_219.toInt ∧ zi_219.toInt ≤ zic.toInt := bz_1 hw_289 c_291
            refine lv_iload hx hb dX6_readNumberOf_121 (lv_at hl 5 rfl) ?_
            subst hQ
            exact W.iret (v := zi_219) hx hb hr (fun t ht hW => ⟨⟨zi_219, zI_220, rfl, ⟨h_zI_220, (show (-1) ≤ zi_219.toInt ∧ zi_219.toInt ≤ 1000 from by omega), (show zi_219.toInt = -1 ∨ (zib.toInt ≤ zi_219.toInt ∧ zi_219.toInt ≤ zic.toInt) from by omega)⟩, ⟨by rw [ht]; exact hP, va_K.moved hW.alike hK, hD⟩⟩, hS.F ht⟩) hS.2.2 dX6_readNumberOf_123
          · have f_292 : ¬ (zib.toInt ≤ zi_219.toInt ∧ zi_219.toInt ≤ zic.toInt) := bz_0 hw_289 c_291
            refine lv_aload_n hx hb dX6_readNumberOf_113 rfl (lv_at hl 0 rfl) ?_
            refine lv_iload_n hx hb dX6_readNumberOf_114 rfl (lv_at hl 1 rfl) ?_
            refine hj_i (ws := (WL cy zL zT zR zI_220 zJ)) (w1 := fun (u : (Nat → Nat → Int32)) => (WL cy zL zT zR u zJ)) (va_runV (As := [.int zia]) (rest := []) ⟨hx, hb, hml, hown, hts⟩ (t_X6_fails l dC dI cy H.size zL zT zR zI_220 zJ zr zia hs h_zI_220.1 t_zr) (cwV 1 hts gX6_readNumberOf_X6_fails rfl rfl rfl (by decide +kernel) ⟨(Nat.le_of_ble_eq_true rfl), (Nat.le_of_ble_eq_true rfl)⟩) (PRE.v hP hK hD hN (ht_recv hK hP hs t_zr (by decide) rfl rfl)) rfl rfl hl.1 rfl (lv_room (Nat.le_of_ble_eq_true rfl)) dX6_readNumberOf_115 ⟨(Nat.le_of_ble_eq_true rfl), (Nat.le_of_ble_eq_true rfl)⟩) hP hD hS hA (fun zi_293 zI_296 H locs hw_294 hP hD hS => ?_)
            obtain ⟨k_zI_296, ps_297⟩ : (WM [703] AL zT zR zI_220 zI_296) ∧ (zi_293 = 0) := hw_294
            have h_zI_296 : WM [702, 703] AL zT zR zI zI_296 := h_zI_220.tr k_zI_296 (by decide) (fun _ _ => trivial)
            obtain rfl : zi_293 = 0 := ps_297
            refine lv_pop hx hb dX6_readNumberOf_118 rfl ?_
            refine lv_iconst (v := (-1)) hx hb dX6_readNumberOf_119 (by decide) ?_
            subst hQ
            have qc_m1 : (-1 : Int32).toInt = -1 := by decide
            exact W.iret (v := (-1 : Int32)) hx hb hr (fun t ht hW => ⟨⟨(-1 : Int32), zI_296, rfl, ⟨h_zI_296, (show (-1) ≤ (-1 : Int32).toInt ∧ (-1 : Int32).toInt ≤ 1000 from by omega), (show (-1 : Int32).toInt = -1 ∨ (zib.toInt ≤ (-1 : Int32).toInt ∧ (-1 : Int32).toInt ≤ zic.toInt) from by omega)⟩, ⟨by rw [ht]; exact hP, va_K.moved hW.alike hK, hD⟩⟩, hS.F ht⟩) hS.2.2 dX6_readNumberOf_120
        · have f_287 : ¬ (zi_221.toInt ≠ zi_6.toInt) := ic_nne (rfl) (rfl) c_286
          refine lv_aload_n hx hb dX6_readNumberOf_92 rfl (lv_at hl 0 rfl) ?_
          refine lv_aload_n hx hb dX6_readNumberOf_93 rfl (lv_at hl 0 rfl) ?_
          refine ht_geti (C := RX6) (T := TX6) (N := 4) hx hb hts (by decide +kernel) hown hK hP hs t_zr (by decide) rfl rfl 2 (by decide) (hts (.fieldLink RX6 15 "DripStone$Reader" "at" "I") (by decide +kernel)) (fun _ h9 => h9) rfl dX6_readNumberOf_94 ?_
          refine lv_topi (fun zi_298 ezi_298 => ?_)
          obtain rfl : zi_221 = zi_298 := (ezi_298.trans e_lp_262_0).symm
          refine hj_i (ws := (WL cy zL zT zR zI_220 zJ)) (w1 := fun (u : (Nat → Nat → Int32)) => (WL cy zL zT zR u zJ)) (va_runV (As := [.int zi_221]) (rest := []) ⟨hx, hb, hml, hown, hts⟩ (t_X6_fails l dC dI cy H.size zL zT zR zI_220 zJ zr zi_221 hs h_zI_220.1 t_zr) (cwV 1 hts gX6_readNumberOf_X6_fails rfl rfl rfl (by decide +kernel) ⟨(Nat.le_of_ble_eq_true rfl), (Nat.le_of_ble_eq_true rfl)⟩) (PRE.v hP hK hD hN (ht_recv hK hP hs t_zr (by decide) rfl rfl)) rfl rfl hl.1 rfl (lv_room (Nat.le_of_ble_eq_true rfl)) dX6_readNumberOf_97 ⟨(Nat.le_of_ble_eq_true rfl), (Nat.le_of_ble_eq_true rfl)⟩) hP hD hS hA (fun zi_299 zI_302 H locs hw_300 hP hD hS => ?_)
          obtain ⟨k_zI_302, ps_303⟩ : (WM [703] AL zT zR zI_220 zI_302) ∧ (zi_299 = 0) := hw_300
          have h_zI_302 : WM [702, 703] AL zT zR zI zI_302 := h_zI_220.tr k_zI_302 (by decide) (fun _ _ => trivial)
          obtain rfl : zi_299 = 0 := ps_303
          refine lv_pop hx hb dX6_readNumberOf_100 rfl ?_
          refine lv_iconst (v := (-1)) hx hb dX6_readNumberOf_101 (by decide) ?_
          subst hQ
          have qc_m1 : (-1 : Int32).toInt = -1 := by decide
          exact W.iret (v := (-1 : Int32)) hx hb hr (fun t ht hW => ⟨⟨(-1 : Int32), zI_302, rfl, ⟨h_zI_302, (show (-1) ≤ (-1 : Int32).toInt ∧ (-1 : Int32).toInt ≤ 1000 from by omega), (show (-1 : Int32).toInt = -1 ∨ (zib.toInt ≤ (-1 : Int32).toInt ∧ (-1 : Int32).toInt ≤ zic.toInt) from by omega)⟩, ⟨by rw [ht]; exact hP, va_K.moved hW.alike hK, hD⟩⟩, hS.F ht⟩) hS.2.2 dX6_readNumberOf_102
      refine lv_icmp_ge (tgt := 83) hx hb dX6_readNumberOf_22 (by decide) (fun c_304 => ?_) (fun c_304 => ?_)
      · have f_305 : zi_221.toInt ≥ zi_9.toInt := ic_ge (rfl) (rfl) c_304
        exact jn_284  _ _ _  hP hD hS (lv_sub hl [0, 1, 2, 3, 4, 5] rfl)
      · have f_305 : ¬ (zi_221.toInt ≥ zi_9.toInt) := ic_nge (rfl) (rfl) c_304
        refine lv_aload_n hx hb dX6_readNumberOf_25 rfl (lv_at hl 0 rfl) ?_
        refine ht_getr (C := RX6) (T := TX6) (N := 4) hx hb hts (by decide +kernel) hown hK hP hs t_zr (by decide) rfl rfl 0 (by decide) (hts (.fieldLink RX6 9 "DripStone$Reader" "tape" "[I") (by decide +kernel)) (fun _ h9 => h9) rfl dX6_readNumberOf_26 ?_
        have t_306 : zT (zR zr 0) = 35 := sk_f hs t_zr (by decide) rfl (by decide)
        refine lv_aload_n hx hb dX6_readNumberOf_29 rfl (lv_at hl 0 rfl) ?_
        refine ht_geti (C := RX6) (T := TX6) (N := 4) hx hb hts (by decide +kernel) hown hK hP hs t_zr (by decide) rfl rfl 2 (by decide) (hts (.fieldLink RX6 15 "DripStone$Reader" "at" "I") (by decide +kernel)) (fun _ h9 => h9) rfl dX6_readNumberOf_30 ?_
        refine lv_topi (fun zi_307 ezi_307 => ?_)
        obtain rfl : zi_221 = zi_307 := (ezi_307.trans e_lp_262_0).symm
        refine ht_iald (n := 80) (q := 0) hx hb hK hP hs t_306 (by decide) rfl rfl ⟨by omega, by omega⟩ dX6_readNumberOf_33 ?_
        refine lv_topi (fun zi_308 ezi_308 => ?_)
        have tzi_308 : 0 ≤ zi_308.toInt ∧ zi_308.toInt ≤ 255 := by rw [ezi_308]; exact h_zI_220.at t_306 _ rfl
        refine lv_bipush (v := 48) hx hb dX6_readNumberOf_34 (by decide) ?_
        refine lv_bipush (v := 57) hx hb dX6_readNumberOf_36 (by decide) ?_
        refine hj0_i (ws := (WL cy zL zT zR zI_220 zJ)) (va_runSN (As := [.int zi_308, .int 48, .int 57]) (rest := []) ⟨hx, hb, hml, hown, hts⟩ (c_X10_isWithin l dC dI cy H.size zi_308 48 57 48 57 (by first | rfl | decide | omega | exact Int32.toInt_toInt64 _) (by first | rfl | decide | omega | exact Int32.toInt_toInt64 _)) ⟨va_cnB 3 hts ggX6_readNumberOf_X10_isWithin rfl rfl rfl (n0_16 hN) (hts (.initialized RX10) (by decide +kernel)) (by decide +kernel) ⟨(Nat.le_of_ble_eq_true rfl), (Nat.le_of_ble_eq_true rfl)⟩, hts (.static yX10_isWithin) (by decide +kernel), trivial⟩ (PRE.s (hP.sub [] rfl) hK (hD.sub [] (by decide) rfl) hN) rfl rfl hl.1 rfl (lv_room (Nat.le_of_ble_eq_true rfl)) dX6_readNumberOf_38 ⟨(Nat.le_of_ble_eq_true rfl), (Nat.le_of_ble_eq_true rfl)⟩) hP hD hS hA (fun zi_309 u_311 H locs hw_310 hP hD hS => ?_)
        have hw_310 : zi_309 = if 48 ≤ zi_308.toInt ∧ zi_308.toInt ≤ 57 then 1 else 0 := hw_310
        have b_zi_309 : 0 ≤ zi_309.toInt ∧ zi_309.toInt ≤ 1 := bz_b hw_310
        refine lv_if_eq (tgt := 83) hx hb dX6_readNumberOf_41 (by decide) (fun c_312 => ?_) (fun c_312 => ?_)
        · have f_313 : ¬ (48 ≤ zi_308.toInt ∧ zi_308.toInt ≤ 57) := bz_0 hw_310 c_312
          exact jn_284  _ _ _  hP hD hS (lv_sub hl [0, 1, 2, 3, 4, 5] rfl)
        · have f_313 : 48 ≤ zi_308.toInt ∧ zi_308.toInt ≤ 57 := bz_1 hw_310 c_312
          refine lv_sipush (v := 1000) hx hb dX6_readNumberOf_44 (by decide) ?_
          refine lv_iload hx hb dX6_readNumberOf_47 (lv_at hl 5 rfl) ?_
          refine lv_bipush (v := 10) hx hb dX6_readNumberOf_49 (by decide) ?_
          refine lv_imul hx hb dX6_readNumberOf_51 ?_
          refine lv_topi (fun zi_314 ezi_314 => ?_)
          have tzi_314 : zi_314.toInt = zi_219.toInt * (10 : Int) := by rw [ezi_314]; exact timul (rfl) (show (10 : Int32).toInt = 10 by decide) (by omega) (by omega)
          refine lv_aload_n hx hb dX6_readNumberOf_52 rfl (lv_at hl 0 rfl) ?_
          refine ht_getr (C := RX6) (T := TX6) (N := 4) hx hb hts (by decide +kernel) hown hK hP hs t_zr (by decide) rfl rfl 0 (by decide) (hts (.fieldLink RX6 9 "DripStone$Reader" "tape" "[I") (by decide +kernel)) (fun _ h9 => h9) rfl dX6_readNumberOf_53 ?_
          refine lv_aload_n hx hb dX6_readNumberOf_56 rfl (lv_at hl 0 rfl) ?_
          refine ht_geti (C := RX6) (T := TX6) (N := 4) hx hb hts (by decide +kernel) hown hK hP hs t_zr (by decide) rfl rfl 2 (by decide) (hts (.fieldLink RX6 15 "DripStone$Reader" "at" "I") (by decide +kernel)) (fun _ h9 => h9) rfl dX6_readNumberOf_57 ?_
          refine lv_topi (fun zi_315 ezi_315 => ?_)
          obtain rfl : zi_221 = zi_315 := (ezi_315.trans e_lp_262_0).symm
          refine ht_iald (n := 80) (q := 0) hx hb hK hP hs t_306 (by decide) rfl rfl ⟨by omega, by omega⟩ dX6_readNumberOf_60 ?_
          refine lv_topi (fun zi_316 ezi_316 => ?_)
          obtain rfl : zi_308 = zi_316 := (ezi_316.trans ezi_308.symm).symm
          refine lv_iadd hx hb dX6_readNumberOf_61 ?_
          refine lv_topi (fun zi_317 ezi_317 => ?_)
          have tzi_317 : zi_317.toInt = zi_314.toInt + zi_308.toInt := by rw [ezi_317]; exact tiadd (rfl) (rfl) (by omega) (by omega)
          refine lv_bipush (v := 48) hx hb dX6_readNumberOf_62 (by decide) ?_
          refine lv_isub hx hb dX6_readNumberOf_64 ?_
          refine lv_topi (fun zi_318 ezi_318 => ?_)
          have tzi_318 : zi_318.toInt = zi_317.toInt - (48 : Int) := by rw [ezi_318]; exact tisub (rfl) (show (48 : Int32).toInt = 48 by decide) (by omega) (by omega)
          refine va_mmin hx hb (by rw [hml]; exact hl.1.symm) hown (hts (.methodLink RX6 113 Lib.Math.min.name) (by decide +kernel)) (hts (.static Lib.Math.min.name) (by decide +kernel)) (hts (.initialized "java/lang/Math") (by decide +kernel)) (hts (.code Lib.Math.min.name Lib.Math.min.code 2 (some .int)) (by decide +kernel)) (Nat.le_of_ble_eq_true rfl) (Nat.le_of_ble_eq_true rfl) (Nat.le_of_ble_eq_true rfl) (Nat.le_of_ble_eq_true rfl) dX6_readNumberOf_65 ?_
          refine lv_topi (fun zi_319 ezi_319 => ?_)
          have tzi_319 : (zi_318.toInt < (1000 : Int) → zi_319.toInt = zi_318.toInt) ∧ (¬ zi_318.toInt < (1000 : Int) → zi_319.toInt = (1000 : Int)) := mn_s ezi_319 (show (1000 : Int32).toInt = 1000 by decide) (rfl)
          refine lv_istore (lv' := [(5, .int zi_319), (0, .ref zr), (1, .int zia), (2, .int zib), (3, .int zic), (4, .int zi_6)]) hx hb dX6_readNumberOf_68 hl (by decide) rfl (fun ls hl => ?_)
          refine lv_aload_n hx hb dX6_readNumberOf_70 rfl (lv_at hl 1 rfl) ?_
          refine lv_dup hx hb dX6_readNumberOf_71 rfl ?_
          refine ht_geti (C := RX6) (T := TX6) (N := 4) hx hb hts (by decide +kernel) hown hK hP hs t_zr (by decide) rfl rfl 2 (by decide) (hts (.fieldLink RX6 15 "DripStone$Reader" "at" "I") (by decide +kernel)) (fun _ h9 => h9) rfl dX6_readNumberOf_72 ?_
          refine lv_topi (fun zi_320 ezi_320 => ?_)
          obtain rfl : zi_221 = zi_320 := (ezi_320.trans e_lp_262_0).symm
          refine lv_iconst (v := 1) hx hb dX6_readNumberOf_75 (by decide) ?_
          refine lv_iadd hx hb dX6_readNumberOf_76 ?_
          refine lv_topi (fun zi_321 ezi_321 => ?_)
          have tzi_321 : zi_321.toInt = zi_221.toInt + (1 : Int) := by rw [ezi_321]; exact tiadd (rfl) (show (1 : Int32).toInt = 1 by decide) (by omega) (by omega)
          refine ht_puti (v := zi_321) (ty := .int) (C := RX6) (T := TX6) (N := 4) hx hb hts (by decide +kernel) tyX6 tyX6_ok nmX6 hown hK hP hD hS hs t_zr (by decide) rfl rfl 2 (by decide) (hts (.fieldLink RX6 15 "DripStone$Reader" "at" "I") (by decide +kernel)) (fun _ h9 => h9) rfl (by decide +kernel) rfl rfl rfl dX6_readNumberOf_77 (fun H locs hP hD hS => ?_)
          have h_zI_322 : WM [702, 703] AL zT zR zI (u2 zI_220 zr 2 zi_321) := h_zI_220.put hs t_zr rfl (by omega) (by decide) (fun h => absurd h (by decide)) (by decide) trivial
          generalize uzI_322 : u2 zI_220 zr 2 zi_321 = zI_322 at hP hD h_zI_322
          refine lv_goto (tgt := 14) hx hb dX6_readNumberOf_80 (by decide) ?_
          exact ih_262 (zi_9.toInt - zi_321.toInt).toNat (by omega) zi_319 zI_322 zi_321 _ _ _ rfl (by omega) h_zI_322 (by omega) (by rw [← uzI_322]; exact u2_s) ((show zI_322 zr 1 = zI_220 zr 1 from by rw [← uzI_322]; exact u2_k (by decide)).trans e_lp_262_1) hP hD hS (lv_sub hl [1, 2, 3, 4, 5, 0] rfl)
  have qc_0 : (0 : Int32).toInt = 0 := by decide
  exact lp_262 _ (0 : Int32) zI_4 zi_6 _ _ _ rfl (by decide) h_zI_4 (by omega) ezi_6.symm ezi_9.symm hP hD hS (lv_sub hl [2, 3, 4, 5, 1, 0] rfl)
set_option maxHeartbeats 8000000 in
set_option maxRecDepth 100000 in
theorem t_X6_readNumber (l : Launch) (dC : Nat → ClassId) (dI : Nat → Nat → Nat) (cy : Nat → ClassId) (sz : Nat) (zL : List Nat) (zT : Nat → Nat) (zR : Nat → Nat → Nat) (zI : Nat → Nat → Int32) (zJ : Nat → Nat → Int64) (zr : Nat) (zib : Int32) (zic : Int32) (hs : SKP zL zT zR) (hw : WT zT zR zI) (t_zr : zT zr = 7) (b_zib : 0 ≤ zib.toInt ∧ zib.toInt ≤ 1000) (b_zic : 0 ≤ zic.toInt ∧ zic.toInt ≤ 1000) : Met l yX6_readNumber wsX6_readNumber ({ frames := 2, cells := 0, slots := 0, locals := 55 } : Room) (va_Pc [.ref zr, .int zib, .int zic] (PRE dC dI cy (WL cy zL zT zR zI zJ) sz)) (va_Qi (fun (r : Int32) (u : (Nat → Nat → Int32)) => (WM [702, 703] AL zT zR zI u) ∧ ((-1) ≤ r.toInt ∧ r.toInt ≤ 1000) ∧ (r.toInt = -1 ∨ (zib.toInt ≤ r.toInt ∧ r.toInt ≤ zic.toInt))) (fun u t => POST dC dI cy (va_A (WL cy zL zT zR zI zJ) sz) (WL cy zL zT zR u zJ) t) (va_A (WL cy zL zT zR zI zJ) sz)) 0 0 (va_A (WL cy zL zT zR zI zJ) sz) := by
  refine Met.ofW (cc := cX6_readNumber) (maxL := 3) (ret := (some .int)) (by decide) rfl ?_
  intro p e s m args below meth c s₁ B hml hv
  obtain ⟨rfl, hsz, hP, hK, hD0, hN⟩ := hv
  have hx := B.exec
  have hb := B.bytes
  have hr := B.returns
  have hts := atoms_spec (ws := wsX6_readNumber) B.pre
  have hown : s.vm.findClass RX6 = some m.cls := findClass_of_methodNamed B.named
  have hlocks := B.notSynchronized
  subst hsz
  have hD := hD0.self (sz := s.heap.size)
  generalize hAe : va_A (WL cy zL zT zR zI zJ) s.heap.size = A at hD ⊢
  have hA : ∀ q : Nat, s.heap.size ≤ q → A q := fun q h => by rw [← hAe]; exact Or.inr h
  have hS : va_S A s.heap s.heap [] := va_S.rf
  have hP : va_P (dC, dI) vwCl (WL cy zL zT zR zI zJ) s.heap := hP
  have hl := lv_entry ([.ref zr, .int zib, .int zic] : List Value) (n := 3) (Nat.le_of_ble_eq_true rfl)
  rw [lg_entry_eq]
  generalize (lg_sl ([.ref zr, .int zib, .int zic] : List Value) ++ List.replicate (3 - (lg_sl ([.ref zr, .int zib, .int zic] : List Value)).length) Slot.unset).toArray = ls at hl ⊢
  have hl : lv_has ls 3 [(0, .ref zr), (1, .int zib), (2, .int zic)] := hl
  refine w_q (fun Q hQ => ?_)
  have h_zI : WM [702, 703] AL zT zR zI zI := WM.rf hw
  refine lv_aload_n hx hb dX6_readNumber_0 rfl (lv_at hl 0 rfl) ?_
  refine hj_i (ws := (WL cy zL zT zR zI zJ)) (w1 := fun (u : (Nat → Nat → Int32)) => (WL cy zL zT zR u zJ)) (va_runV (As := []) (rest := []) ⟨hx, hb, hml, hown, hts⟩ (t_X6_look l dC dI cy s.heap.size zL zT zR zI zJ zr hs h_zI.1 t_zr) (cwV 0 hts gX6_readNumber_X6_look rfl rfl rfl (by decide +kernel) ⟨(Nat.le_of_ble_eq_true rfl), (Nat.le_of_ble_eq_true rfl)⟩) (PRE.v hP hK hD hN (ht_recv hK hP hs t_zr (by decide) rfl rfl)) rfl rfl hl.1 rfl (lv_room (Nat.le_of_ble_eq_true rfl)) dX6_readNumber_1 ⟨(Nat.le_of_ble_eq_true rfl), (Nat.le_of_ble_eq_true rfl)⟩) hP hD hS hA (fun zi_1 zI_4 H locs hw_2 hP hD hS => ?_)
  obtain ⟨k_zI_4, b_zi_1, ps_5⟩ : (WM [702] AL zT zR zI zI_4) ∧ ((-1) ≤ zi_1.toInt ∧ zi_1.toInt ≤ 255) ∧ (zi_1.toInt = -1 ∨ (zI_4 zr 2).toInt ≤ 79) := hw_2
  have h_zI_4 : WM [702, 703] AL zT zR zI zI_4 := h_zI.tr k_zI_4 (by decide) (fun _ _ => trivial)
  obtain ⟨zi_6, ezi_6⟩ : ∃ y : Int32, y = zI_4 zr 2 := ⟨_, rfl⟩
  have tzi_6 : 0 ≤ zi_6.toInt ∧ zi_6.toInt ≤ 80 := by rw [ezi_6]; exact h_zI_4.at t_zr _ rfl
  have lk_7 : (zI_4 zr 2).toInt = zi_6.toInt := congrArg Int32.toInt ezi_6.symm
  refine lv_pop hx hb dX6_readNumber_4 rfl ?_
  refine lv_aload_n hx hb dX6_readNumber_5 rfl (lv_at hl 0 rfl) ?_
  refine lv_aload_n hx hb dX6_readNumber_6 rfl (lv_at hl 0 rfl) ?_
  refine ht_geti (C := RX6) (T := TX6) (N := 4) hx hb hts (by decide +kernel) hown hK hP hs t_zr (by decide) rfl rfl 2 (by decide) (hts (.fieldLink RX6 15 "DripStone$Reader" "at" "I") (by decide +kernel)) (fun _ h9 => h9) rfl dX6_readNumber_7 ?_
  refine lv_topi (fun zi_8 ezi_8 => ?_)
  obtain rfl : zi_6 = zi_8 := (ezi_8.trans ezi_6.symm).symm
  refine lv_iload_n hx hb dX6_readNumber_10 rfl (lv_at hl 1 rfl) ?_
  refine lv_iload_n hx hb dX6_readNumber_11 rfl (lv_at hl 2 rfl) ?_
  refine hj_i (ws := (WL cy zL zT zR zI_4 zJ)) (w1 := fun (u : (Nat → Nat → Int32)) => (WL cy zL zT zR u zJ)) (va_runV (As := [.int zi_6, .int zib, .int zic]) (rest := []) ⟨hx, hb, hml, hown, hts⟩ (t_X6_readNumberOf l dC dI cy H.size zL zT zR zI_4 zJ zr zi_6 zib zic hs h_zI_4.1 t_zr (by omega) (by omega)) (cwV 3 hts gX6_readNumber_X6_readNumberOf rfl rfl rfl (by decide +kernel) ⟨(Nat.le_of_ble_eq_true rfl), (Nat.le_of_ble_eq_true rfl)⟩) (PRE.v hP hK hD hN (ht_recv hK hP hs t_zr (by decide) rfl rfl)) rfl rfl hl.1 rfl (lv_room (Nat.le_of_ble_eq_true rfl)) dX6_readNumber_12 ⟨(Nat.le_of_ble_eq_true rfl), (Nat.le_of_ble_eq_true rfl)⟩) hP hD hS hA (fun zi_9 zI_12 H locs hw_10 hP hD hS => ?_)
  obtain ⟨k_zI_12, b_zi_9, ps_13⟩ : (WM [702, 703] AL zT zR zI_4 zI_12) ∧ ((-1) ≤ zi_9.toInt ∧ zi_9.toInt ≤ 1000) ∧ (zi_9.toInt = -1 ∨ (zib.toInt ≤ zi_9.toInt ∧ zi_9.toInt ≤ zic.toInt)) := hw_10
  have h_zI_12 : WM [702, 703] AL zT zR zI zI_12 := h_zI_4.tr k_zI_12 (by decide) (fun _ _ => trivial)
  have b8_zi_9 : (-1) ≤ zi_9.toInt ∧ zi_9.toInt ≤ 1000 := by omega
  subst hQ
  exact W.iret (v := zi_9) hx hb hr (fun t ht hW => ⟨⟨zi_9, zI_12, rfl, ⟨h_zI_12, (show (-1) ≤ zi_9.toInt ∧ zi_9.toInt ≤ 1000 from by omega), (show zi_9.toInt = -1 ∨ (zib.toInt ≤ zi_9.toInt ∧ zi_9.toInt ≤ zic.toInt) from by omega)⟩, ⟨by rw [ht]; exact hP, va_K.moved hW.alike hK, hD⟩⟩, hS.F ht⟩) hS.2.2 dX6_readNumber_15
set_option maxHeartbeats 8000000 in
set_option maxRecDepth 100000 in
theorem t_X6_readConditions (l : Launch) (dC : Nat → ClassId) (dI : Nat → Nat → Nat) (cy : Nat → ClassId) (sz : Nat) (zL : List Nat) (zT : Nat → Nat) (zR : Nat → Nat → Nat) (zI : Nat → Nat → Int32) (zJ : Nat → Nat → Int64) (zr : Nat) (zl : Nat) (zia : Int32) (hs : SKP zL zT zR) (hw : WT zT zR zI) (t_zr : zT zr = 7) (t_zl : zT zl = 5) (b_zia : 0 ≤ zia.toInt ∧ zia.toInt ≤ 5) : Met l yX6_readConditions wsX6_readConditions ({ frames := 3, cells := 0, slots := 0, locals := 77 } : Room) (va_Pc [.ref zr, .ref zl, .int zia] (PRE dC dI cy (WL cy zL zT zR zI zJ) sz)) (va_Qi (fun (r : Int32) (u : (Nat → Nat → Int32)) => (WM [702, 703, 2900, 3000] AL zT zR zI u) ∧ (0 ≤ r.toInt ∧ r.toInt ≤ 1)) (fun u t => POST dC dI cy (va_A (WL cy zL zT zR zI zJ) sz) (WL cy zL zT zR u zJ) t) (va_A (WL cy zL zT zR zI zJ) sz)) 0 0 (va_A (WL cy zL zT zR zI zJ) sz) := by
  refine Met.ofW (cc := cX6_readConditions) (maxL := 6) (ret := (some .boolean)) (by decide) rfl ?_
  intro p e s m args below meth c s₁ B hml hv
  obtain ⟨rfl, hsz, hP, hK, hD0, hN⟩ := hv
  have hx := B.exec
  have hb := B.bytes
  have hr := B.returns
  have hts := atoms_spec (ws := wsX6_readConditions) B.pre
  have hown : s.vm.findClass RX6 = some m.cls := findClass_of_methodNamed B.named
  have hlocks := B.notSynchronized
  subst hsz
  have hD := hD0.self (sz := s.heap.size)
  generalize hAe : va_A (WL cy zL zT zR zI zJ) s.heap.size = A at hD ⊢
  have hA : ∀ q : Nat, s.heap.size ≤ q → A q := fun q h => by rw [← hAe]; exact Or.inr h
  have hS : va_S A s.heap s.heap [] := va_S.rf
  have hP : va_P (dC, dI) vwCl (WL cy zL zT zR zI zJ) s.heap := hP
  have hl := lv_entry ([.ref zr, .ref zl, .int zia] : List Value) (n := 6) (Nat.le_of_ble_eq_true rfl)
  rw [lg_entry_eq]
  generalize (lg_sl ([.ref zr, .ref zl, .int zia] : List Value) ++ List.replicate (6 - (lg_sl ([.ref zr, .ref zl, .int zia] : List Value)).length) Slot.unset).toArray = ls at hl ⊢
  have hl : lv_has ls 6 [(0, .ref zr), (1, .ref zl), (2, .int zia)] := hl
  refine w_q (fun Q hQ => ?_)
  have h_zI : WM [702, 703, 2900, 3000] AL zT zR zI zI := WM.rf hw
  refine lv_iconst (v := 1) hx hb dX6_readConditions_0 (by decide) ?_
  refine lv_istore_n (lv' := [(3, .int 1), (0, .ref zr), (1, .ref zl), (2, .int zia)]) hx hb dX6_readConditions_1 rfl hl (by decide) rfl (fun ls hl => ?_)
  refine lv_iconst (v := 0) hx hb dX6_readConditions_2 (by decide) ?_
  refine lv_istore (lv' := [(4, .int 0), (3, .int 1), (0, .ref zr), (1, .ref zl), (2, .int zia)]) hx hb dX6_readConditions_3 hl (by decide) rfl (fun ls hl => ?_)
  have lp_633 : ∀ (n : Nat) (zi_502 : Int32) (zi_503 : Int32) (zI_504 : Nat → Nat → Int32) (H : Heap) (locs : List Loc) (ls : Array Slot), (3 - zi_503.toInt).toNat = n → (0 ≤ zi_502.toInt ∧ zi_502.toInt ≤ 1) → (0 ≤ zi_503.toInt ∧ zi_503.toInt ≤ 3) → (WM [702, 703, 2900, 3000] AL zT zR zI zI_504) → va_P (dC, dI) vwCl (WL cy zL zT zR zI_504 zJ) H → va_D A (WL cy zL zT zR zI_504 zJ) → va_S A s.heap H locs → lv_has ls 6 [(0, .ref zr), (1, .ref zl), (2, .int zia), (3, .int zi_502), (4, .int zi_503)] → W p l e ({ frames := 3, cells := 0, slots := 0, locals := 77 } : Room) s m ([.ref zr, .ref zl, .int zia] : List Value).toArray below meth c H locs 0 0 Q (F0 m 5 ls []) := by
    intro n
    induction n using Nat.strongRecOn with
    | _ n ih_633 =>
      intro zi_502 zi_503 zI_504 H locs ls hn b_zi_502 b_zi_503 h_zI_504 hP hD hS hl
      refine lv_iload hx hb dX6_readConditions_5 (lv_at hl 4 rfl) ?_
      refine lv_iconst (v := 3) hx hb dX6_readConditions_7 (by decide) ?_
      refine lv_icmp_ge (tgt := 182) hx hb dX6_readConditions_8 (by decide) (fun c_634 => ?_) (fun c_634 => ?_)
      · have f_635 : zi_503.toInt ≥ (3 : Int) := ic_ge (rfl) (show (3 : Int32).toInt = 3 by decide) c_634
        refine lv_iconst (v := 1) hx hb dX6_readConditions_182 (by decide) ?_
        subst hQ
        have qc_1 : (1 : Int32).toInt = 1 := by decide
        exact W.zret (v := (1 : Int32)) hx hb hr rfl (fun t ht hW => ⟨⟨(1 : Int32), zI_504, rfl, ⟨h_zI_504, (show 0 ≤ (1 : Int32).toInt ∧ (1 : Int32).toInt ≤ 1 from by omega)⟩, ⟨by rw [ht]; exact hP, va_K.moved hW.alike hK, hD⟩⟩, hS.F ht⟩) hS.2.2 dX6_readConditions_183
      · have f_635 : ¬ (zi_503.toInt ≥ (3 : Int)) := ic_nge (rfl) (show (3 : Int32).toInt = 3 by decide) c_634
        refine lv_iload_n hx hb dX6_readConditions_11 rfl (lv_at hl 3 rfl) ?_
        refine lv_if_eq (tgt := 182) hx hb dX6_readConditions_12 (by decide) (fun c_636 => ?_) (fun c_636 => ?_)
        · have f_637 : zi_502.toInt = 0 := ic_eq (rfl) (by decide) c_636
          refine lv_iconst (v := 1) hx hb dX6_readConditions_182 (by decide) ?_
          subst hQ
          have qc_1 : (1 : Int32).toInt = 1 := by decide
          exact W.zret (v := (1 : Int32)) hx hb hr rfl (fun t ht hW => ⟨⟨(1 : Int32), zI_504, rfl, ⟨h_zI_504, (show 0 ≤ (1 : Int32).toInt ∧ (1 : Int32).toInt ≤ 1 from by omega)⟩, ⟨by rw [ht]; exact hP, va_K.moved hW.alike hK, hD⟩⟩, hS.F ht⟩) hS.2.2 dX6_readConditions_183
        · have f_637 : ¬ (zi_502.toInt = 0) := ic_neq (rfl) (by decide) c_636
          refine lv_iload_n hx hb dX6_readConditions_15 rfl (lv_at hl 2 rfl) ?_
          refine lv_iconst (v := 3) hx hb dX6_readConditions_16 (by decide) ?_
          refine lv_imul hx hb dX6_readConditions_17 ?_
          refine lv_topi (fun zi_638 ezi_638 => ?_)
          have tzi_638 : zi_638.toInt = zia.toInt * (3 : Int) := by rw [ezi_638]; exact timul (rfl) (show (3 : Int32).toInt = 3 by decide) (by omega) (by omega)
          refine lv_iload hx hb dX6_readConditions_18 (lv_at hl 4 rfl) ?_
          refine lv_iadd hx hb dX6_readConditions_20 ?_
          refine lv_topi (fun zi_639 ezi_639 => ?_)
          have tzi_639 : zi_639.toInt = zi_638.toInt + zi_503.toInt := by rw [ezi_639]; exact tiadd (rfl) (rfl) (by omega) (by omega)
          refine lv_istore (lv' := [(5, .int zi_639), (0, .ref zr), (1, .ref zl), (2, .int zia), (3, .int zi_502), (4, .int zi_503)]) hx hb dX6_readConditions_21 hl (by decide) rfl (fun ls hl => ?_)
          refine lv_aload_n hx hb dX6_readConditions_23 rfl (lv_at hl 2 rfl) ?_
          refine ht_getr (C := RX4) (T := TX4) (N := 6) hx hb hts (by decide +kernel) hown hK hP hs t_zl (by decide) rfl rfl 2 (by decide) (hts (.fieldLink RX6 58 "DripStone$Law" "subjects" "[I") (by decide +kernel)) (fun _ h9 => h9) rfl dX6_readConditions_24 ?_
          have t_640 : zT (zR zl 2) = 30 := sk_f hs t_zl (by decide) rfl (by decide)
          refine lv_iload hx hb dX6_readConditions_27 (lv_at hl 0 rfl) ?_
          refine lv_aload_n hx hb dX6_readConditions_29 rfl (lv_at hl 1 rfl) ?_
          refine hj_i (ws := (WL cy zL zT zR zI_504 zJ)) (w1 := fun (u : (Nat → Nat → Int32)) => (WL cy zL zT zR u zJ)) (va_runV (As := []) (rest := [.int zi_639, .ref (zR zl 2)]) ⟨hx, hb, hml, hown, hts⟩ (t_X6_look l dC dI cy H.size zL zT zR zI_504 zJ zr hs h_zI_504.1 t_zr) (cwV 0 hts gX6_readConditions_X6_look rfl rfl rfl (by decide +kernel) ⟨(Nat.le_of_ble_eq_true rfl), (Nat.le_of_ble_eq_true rfl)⟩) (PRE.v hP hK hD hN (ht_recv hK hP hs t_zr (by decide) rfl rfl)) rfl rfl hl.1 rfl (lv_room (Nat.le_of_ble_eq_true rfl)) dX6_readConditions_30 ⟨(Nat.le_of_ble_eq_true rfl), (Nat.le_of_ble_eq_true rfl)⟩) hP hD hS hA (fun zi_641 zI_644 H locs hw_642 hP hD hS => ?_)
          obtain ⟨k_zI_644, b_zi_641, ps_645⟩ : (WM [702] AL zT zR zI_504 zI_644) ∧ ((-1) ≤ zi_641.toInt ∧ zi_641.toInt ≤ 255) ∧ (zi_641.toInt = -1 ∨ (zI_644 zr 2).toInt ≤ 79) := hw_642
          have h_zI_644 : WM [702, 703, 2900, 3000] AL zT zR zI zI_644 := h_zI_504.tr k_zI_644 (by decide) (fun _ _ => trivial)
          obtain ⟨zi_646, ezi_646⟩ : ∃ y : Int32, y = zI_644 zr 2 := ⟨_, rfl⟩
          have tzi_646 : 0 ≤ zi_646.toInt ∧ zi_646.toInt ≤ 80 := by rw [ezi_646]; exact h_zI_644.at t_zr _ rfl
          have lzi_646 : (zI_644 zr 2).toInt = zi_646.toInt := by rw [ezi_646]
          have lk_647 : (zI_644 zr 2).toInt = zi_646.toInt := congrArg Int32.toInt ezi_646.symm
          refine ht_iast (v := zi_641) (n := 18) (q := 0) hx hb hK hP hD hS hs t_640 (by decide) rfl rfl ⟨by omega, by omega⟩ dX6_readConditions_33 (fun H locs hP hD hS => ?_)
          have h_zI_648 : WM [702, 703, 2900, 3000] AL zT zR zI (u2 zI_644 (zR zl 2) zi_639.toNatClampNeg zi_641) := h_zI_644.putA hs t_640 rfl (rgF _) (by decide) (fun h => absurd h (by decide)) (by decide) trivial
          generalize uzI_648 : u2 zI_644 (zR zl 2) zi_639.toNatClampNeg zi_641 = zI_648 at hP hD h_zI_648
          refine lv_aload_n hx hb dX6_readConditions_34 rfl (lv_at hl 1 rfl) ?_
          refine lv_bipush (v := 97) hx hb dX6_readConditions_35 (by decide) ?_
          have qc_97 : (97 : Int32).toInt = 97 := by decide
          refine hj_i (ws := (WL cy zL zT zR zI_648 zJ)) (w1 := fun (u : (Nat → Nat → Int32)) => (WL cy zL zT zR u zJ)) (va_runV (As := [.int 97]) (rest := []) ⟨hx, hb, hml, hown, hts⟩ (t_X6_reads l dC dI cy H.size zL zT zR zI_648 zJ zr (97 : Int32) hs h_zI_648.1 t_zr (by decide)) (cwV 1 hts gX6_readConditions_X6_reads rfl rfl rfl (by decide +kernel) ⟨(Nat.le_of_ble_eq_true rfl), (Nat.le_of_ble_eq_true rfl)⟩) (PRE.v hP hK hD hN (ht_recv hK hP hs t_zr (by decide) rfl rfl)) rfl rfl hl.1 rfl (lv_room (Nat.le_of_ble_eq_true rfl)) dX6_readConditions_37 ⟨(Nat.le_of_ble_eq_true rfl), (Nat.le_of_ble_eq_true rfl)⟩) hP hD hS hA (fun zi_649 zI_652 H locs hw_650 hP hD hS => ?_)
          obtain ⟨k_zI_652, b_zi_649⟩ : (WM [702] AL zT zR zI_648 zI_652) ∧ (0 ≤ zi_649.toInt ∧ zi_649.toInt ≤ 1) := hw_650
          have h_zI_652 : WM [702, 703, 2900, 3000] AL zT zR zI zI_652 := h_zI_648.tr k_zI_652 (by decide) (fun _ _ => trivial)
          have jn_674 : ∀ (zI_673 : Nat → Nat → Int32) (H : Heap) (locs : List Loc) (ls : Array Slot), (WM [702, 703, 2900, 3000] AL zT zR zI zI_673) → va_P (dC, dI) vwCl (WL cy zL zT zR zI_673 zJ) H → va_D A (WL cy zL zT zR zI_673 zJ) → va_S A s.heap H locs → lv_has ls 6 [(0, .ref zr), (1, .ref zl), (2, .int zia), (3, .int zi_502), (4, .int zi_503), (5, .int zi_639)] → W p l e ({ frames := 3, cells := 0, slots := 0, locals := 77 } : Room) s m ([.ref zr, .ref zl, .int zia] : List Value).toArray below meth c H locs 0 0 Q (F0 m 70 ls []) := by
            intro zI_673 H locs ls h_zI_673 hP hD hS hl
            refine lv_aload_n hx hb dX6_readConditions_70 rfl (lv_at hl 1 rfl) ?_
            refine ht_getr (C := RX4) (T := TX4) (N := 6) hx hb hts (by decide +kernel) hown hK hP hs t_zl (by decide) rfl rfl 3 (by decide) (hts (.fieldLink RX6 61 "DripStone$Law" "signs" "[I") (by decide +kernel)) (fun _ h9 => h9) rfl dX6_readConditions_71 ?_
            have t_675 : zT (zR zl 3) = 30 := sk_f hs t_zl (by decide) rfl (by decide)
            refine lv_iload hx hb dX6_readConditions_74 (lv_at hl 5 rfl) ?_
            refine lv_aload_n hx hb dX6_readConditions_76 rfl (lv_at hl 0 rfl) ?_
            refine hj_i (ws := (WL cy zL zT zR zI_673 zJ)) (w1 := fun (u : (Nat → Nat → Int32)) => (WL cy zL zT zR u zJ)) (va_runV (As := []) (rest := [.int zi_639, .ref (zR zl 3)]) ⟨hx, hb, hml, hown, hts⟩ (t_X6_look l dC dI cy H.size zL zT zR zI_673 zJ zr hs h_zI_673.1 t_zr) (cwV 0 hts gX6_readConditions_X6_look rfl rfl rfl (by decide +kernel) ⟨(Nat.le_of_ble_eq_true rfl), (Nat.le_of_ble_eq_true rfl)⟩) (PRE.v hP hK hD hN (ht_recv hK hP hs t_zr (by decide) rfl rfl)) rfl rfl hl.1 rfl (lv_room (Nat.le_of_ble_eq_true rfl)) dX6_readConditions_77 ⟨(Nat.le_of_ble_eq_true rfl), (Nat.le_of_ble_eq_true rfl)⟩) hP hD hS hA (fun zi_676 zI_679 H locs hw_677 hP hD hS => ?_)
            obtain ⟨k_zI_679, b_zi_676, ps_680⟩ : (WM [702] AL zT zR zI_673 zI_679) ∧ ((-1) ≤ zi_676.toInt ∧ zi_676.toInt ≤ 255) ∧ (zi_676.toInt = -1 ∨ (zI_679 zr 2).toInt ≤ 79) := hw_677
            have h_zI_679 : WM [702, 703, 2900, 3000] AL zT zR zI zI_679 := h_zI_673.tr k_zI_679 (by decide) (fun _ _ => trivial)
            obtain ⟨zi_681, ezi_681⟩ : ∃ y : Int32, y = zI_679 zr 2 := ⟨_, rfl⟩
            have tzi_681 : 0 ≤ zi_681.toInt ∧ zi_681.toInt ≤ 80 := by rw [ezi_681]; exact h_zI_679.at t_zr _ rfl
            have lzi_681 : (zI_679 zr 2).toInt = zi_681.toInt := by rw [ezi_681]
            have lk_682 : (zI_679 zr 2).toInt = zi_681.toInt := congrArg Int32.toInt ezi_681.symm
            refine ht_iast (v := zi_676) (n := 18) (q := 0) hx hb hK hP hD hS hs t_675 (by decide) rfl rfl ⟨by omega, by omega⟩ dX6_readConditions_80 (fun H locs hP hD hS => ?_)
            have h_zI_683 : WM [702, 703, 2900, 3000] AL zT zR zI (u2 zI_679 (zR zl 3) zi_639.toNatClampNeg zi_676) := h_zI_679.putA hs t_675 rfl (rgF _) (by decide) (fun h => absurd h (by decide)) (by decide) trivial
            generalize uzI_683 : u2 zI_679 (zR zl 3) zi_639.toNatClampNeg zi_676 = zI_683 at hP hD h_zI_683
            refine lv_aload_n hx hb dX6_readConditions_81 rfl (lv_at hl 0 rfl) ?_
            refine lv_bipush (v := 60) hx hb dX6_readConditions_82 (by decide) ?_
            have qc_60 : (60 : Int32).toInt = 60 := by decide
            refine hj_i (ws := (WL cy zL zT zR zI_683 zJ)) (w1 := fun (u : (Nat → Nat → Int32)) => (WL cy zL zT zR u zJ)) (va_runV (As := [.int 60]) (rest := []) ⟨hx, hb, hml, hown, hts⟩ (t_X6_reads l dC dI cy H.size zL zT zR zI_683 zJ zr (60 : Int32) hs h_zI_683.1 t_zr (by decide)) (cwV 1 hts gX6_readConditions_X6_reads rfl rfl rfl (by decide +kernel) ⟨(Nat.le_of_ble_eq_true rfl), (Nat.le_of_ble_eq_true rfl)⟩) (PRE.v hP hK hD hN (ht_recv hK hP hs t_zr (by decide) rfl rfl)) rfl rfl hl.1 rfl (lv_room (Nat.le_of_ble_eq_true rfl)) dX6_readConditions_84 ⟨(Nat.le_of_ble_eq_true rfl), (Nat.le_of_ble_eq_true rfl)⟩) hP hD hS hA (fun zi_684 zI_687 H locs hw_685 hP hD hS => ?_)
            obtain ⟨k_zI_687, b_zi_684⟩ : (WM [702] AL zT zR zI_683 zI_687) ∧ (0 ≤ zi_684.toInt ∧ zi_684.toInt ≤ 1) := hw_685
            have h_zI_687 : WM [702, 703, 2900, 3000] AL zT zR zI zI_687 := h_zI_683.tr k_zI_687 (by decide) (fun _ _ => trivial)
            have jn_709 : ∀ (zI_708 : Nat → Nat → Int32) (H : Heap) (locs : List Loc) (ls : Array Slot), (WM [702, 703, 2900, 3000] AL zT zR zI zI_708) → va_P (dC, dI) vwCl (WL cy zL zT zR zI_708 zJ) H → va_D A (WL cy zL zT zR zI_708 zJ) → va_S A s.heap H locs → lv_has ls 6 [(0, .ref zr), (1, .ref zl), (2, .int zia), (3, .int zi_502), (4, .int zi_503), (5, .int zi_639)] → W p l e ({ frames := 3, cells := 0, slots := 0, locals := 77 } : Room) s m ([.ref zr, .ref zl, .int zia] : List Value).toArray below meth c H locs 0 0 Q (F0 m 117 ls []) := by
              intro zI_708 H locs ls h_zI_708 hP hD hS hl
              refine lv_aload_n hx hb dX6_readConditions_117 rfl (lv_at hl 1 rfl) ?_
              refine ht_getr (C := RX4) (T := TX4) (N := 6) hx hb hts (by decide +kernel) hown hK hP hs t_zl (by decide) rfl rfl 4 (by decide) (hts (.fieldLink RX6 64 "DripStone$Law" "numbers" "[I") (by decide +kernel)) (fun _ h9 => h9) rfl dX6_readConditions_118 ?_
              have t_710 : zT (zR zl 4) = 30 := sk_f hs t_zl (by decide) rfl (by decide)
              refine lv_iload hx hb dX6_readConditions_121 (lv_at hl 5 rfl) ?_
              refine lv_aload_n hx hb dX6_readConditions_123 rfl (lv_at hl 0 rfl) ?_
              refine lv_iconst (v := 0) hx hb dX6_readConditions_124 (by decide) ?_
              refine lv_bipush (v := 99) hx hb dX6_readConditions_125 (by decide) ?_
              have qc_0 : (0 : Int32).toInt = 0 := by decide
              have qc_99 : (99 : Int32).toInt = 99 := by decide
              refine hj_i (ws := (WL cy zL zT zR zI_708 zJ)) (w1 := fun (u : (Nat → Nat → Int32)) => (WL cy zL zT zR u zJ)) (va_runV (As := [.int 0, .int 99]) (rest := [.int zi_639, .ref (zR zl 4)]) ⟨hx, hb, hml, hown, hts⟩ (t_X6_readNumber l dC dI cy H.size zL zT zR zI_708 zJ zr (0 : Int32) (99 : Int32) hs h_zI_708.1 t_zr (by decide) (by decide)) (cwV 2 hts gX6_readConditions_X6_readNumber rfl rfl rfl (by decide +kernel) ⟨(Nat.le_of_ble_eq_true rfl), (Nat.le_of_ble_eq_true rfl)⟩) (PRE.v hP hK hD hN (ht_recv hK hP hs t_zr (by decide) rfl rfl)) rfl rfl hl.1 rfl (lv_room (Nat.le_of_ble_eq_true rfl)) dX6_readConditions_127 ⟨(Nat.le_of_ble_eq_true rfl), (Nat.le_of_ble_eq_true rfl)⟩) hP hD hS hA (fun zi_711 zI_714 H locs hw_712 hP hD hS => ?_)
              obtain ⟨k_zI_714, b_zi_711, ps_715⟩ : (WM [702, 703] AL zT zR zI_708 zI_714) ∧ ((-1) ≤ zi_711.toInt ∧ zi_711.toInt ≤ 1000) ∧ (zi_711.toInt = -1 ∨ ((0 : Int32).toInt ≤ zi_711.toInt ∧ zi_711.toInt ≤ (99 : Int32).toInt)) := hw_712
              have h_zI_714 : WM [702, 703, 2900, 3000] AL zT zR zI zI_714 := h_zI_708.tr k_zI_714 (by decide) (fun _ _ => trivial)
              have b8_zi_711 : (-1) ≤ zi_711.toInt ∧ zi_711.toInt ≤ 99 := by omega
              refine ht_iast (v := zi_711) (n := 18) (q := 0) hx hb hK hP hD hS hs t_710 (by decide) rfl rfl ⟨by omega, by omega⟩ dX6_readConditions_130 (fun H locs hP hD hS => ?_)
              have h_zI_716 : WM [702, 703, 2900, 3000] AL zT zR zI (u2 zI_714 (zR zl 4) zi_639.toNatClampNeg zi_711) := h_zI_714.putA hs t_710 rfl (rgF _) (by decide) (fun h => absurd h (by decide)) (by decide) trivial
              generalize uzI_716 : u2 zI_714 (zR zl 4) zi_639.toNatClampNeg zi_711 = zI_716 at hP hD h_zI_716
              refine lv_aload_n hx hb dX6_readConditions_131 rfl (lv_at hl 1 rfl) ?_
              refine ht_getr (C := RX4) (T := TX4) (N := 6) hx hb hts (by decide +kernel) hown hK hP hs t_zl (by decide) rfl rfl 4 (by decide) (hts (.fieldLink RX6 64 "DripStone$Law" "numbers" "[I") (by decide +kernel)) (fun _ h9 => h9) rfl dX6_readConditions_132 ?_
              refine lv_iload hx hb dX6_readConditions_135 (lv_at hl 5 rfl) ?_
              refine ht_iald (n := 18) (q := 0) hx hb hK hP hs t_710 (by decide) rfl rfl ⟨by omega, by omega⟩ dX6_readConditions_137 ?_
              refine lv_topi (fun zi_717 ezi_717 => ?_)
              obtain rfl : zi_711 = zi_717 := (ezi_717.trans (by rw [← uzI_716]; exact u2_s)).symm
              refine lv_if_ge (tgt := 143) hx hb dX6_readConditions_138 (by decide) (fun c_718 => ?_) (fun c_718 => ?_)
              · have f_719 : zi_711.toInt ≥ 0 := ic_ge (rfl) (by decide) c_718
                refine lv_aload_n hx hb dX6_readConditions_143 rfl (lv_at hl 1 rfl) ?_
                refine ht_getr (C := RX4) (T := TX4) (N := 6) hx hb hts (by decide +kernel) hown hK hP hs t_zl (by decide) rfl rfl 1 (by decide) (hts (.fieldLink RX6 42 "DripStone$Law" "conditions" "[I") (by decide +kernel)) (fun _ h9 => h9) rfl dX6_readConditions_144 ?_
                have t_720 : zT (zR zl 1) = 29 := sk_f hs t_zl (by decide) rfl (by decide)
                refine lv_iload_n hx hb dX6_readConditions_147 rfl (lv_at hl 2 rfl) ?_
                refine lv_iload hx hb dX6_readConditions_148 (lv_at hl 4 rfl) ?_
                refine lv_iconst (v := 1) hx hb dX6_readConditions_150 (by decide) ?_
                refine lv_iadd hx hb dX6_readConditions_151 ?_
                refine lv_topi (fun zi_721 ezi_721 => ?_)
                have tzi_721 : zi_721.toInt = zi_503.toInt + (1 : Int) := by rw [ezi_721]; exact tiadd (rfl) (show (1 : Int32).toInt = 1 by decide) (by omega) (by omega)
                refine ht_iast (v := zi_721) (n := 6) (q := 0) hx hb hK hP hD hS hs t_720 (by decide) rfl rfl ⟨by omega, by omega⟩ dX6_readConditions_152 (fun H locs hP hD hS => ?_)
                have h_zI_722 : WM [702, 703, 2900, 3000] AL zT zR zI (u2 zI_716 (zR zl 1) zia.toNatClampNeg zi_721) := h_zI_716.putA hs t_720 rfl (by omega) (by decide) (fun h => absurd h (by decide)) (by decide) trivial
                generalize uzI_722 : u2 zI_716 (zR zl 1) zia.toNatClampNeg zi_721 = zI_722 at hP hD h_zI_722
                refine lv_iload hx hb dX6_readConditions_153 (lv_at hl 4 rfl) ?_
                refine lv_iconst (v := 1) hx hb dX6_readConditions_155 (by decide) ?_
                refine lv_iadd hx hb dX6_readConditions_156 ?_
                refine lv_topi (fun zi_723 ezi_723 => ?_)
                have tzi_723 : zi_723.toInt = zi_503.toInt + (1 : Int) := by rw [ezi_723]; exact tiadd (rfl) (show (1 : Int32).toInt = 1 by decide) (by omega) (by omega)
                refine lv_iconst (v := 3) hx hb dX6_readConditions_157 (by decide) ?_
                have jn_736 : ∀ (zI_735 : Nat → Nat → Int32) (H : Heap) (locs : List Loc) (ls : Array Slot), (WM [702, 703, 2900, 3000] AL zT zR zI zI_735) → va_P (dC, dI) vwCl (WL cy zL zT zR zI_735 zJ) H → va_D A (WL cy zL zT zR zI_735 zJ) → va_S A s.heap H locs → lv_has ls 6 [(0, .ref zr), (1, .ref zl), (2, .int zia), (3, .int zi_502), (4, .int zi_503), (5, .int zi_639)] → W p l e ({ frames := 3, cells := 0, slots := 0, locals := 77 } : Room) s m ([.ref zr, .ref zl, .int zia] : List Value).toArray below meth c H locs 0 0 Q (F0 m 174 ls []) := by
                  intro zI_735 H locs ls h_zI_735 hP hD hS hl
                  refine lv_iconst (v := 0) hx hb dX6_readConditions_174 (by decide) ?_
                  refine lv_istore_n (lv' := [(3, .int 0), (0, .ref zr), (1, .ref zl), (2, .int zia), (4, .int zi_503), (5, .int zi_639)]) hx hb dX6_readConditions_175 rfl hl (by decide) rfl (fun ls hl => ?_)
                  obtain ⟨zi_737, ezi_737⟩ : ∃ y : Int32, y = zi_503 + 1 := ⟨_, rfl⟩
                  have tzi_737 : zi_737.toInt = zi_503.toInt + 1 := by rw [ezi_737]; exact tadd rfl (show (1 : Int32).toInt = 1 by decide) (by omega) (by omega)
                  refine lv_iinc (v := zi_737) (lv' := [(4, .int zi_737), (3, .int 0), (0, .ref zr), (1, .ref zl), (2, .int zia), (5, .int zi_639)]) hx hb dX6_readConditions_176 hl (k := 4) rfl (by rw [ezi_737]; rfl) (by decide) rfl (fun ls hl => ?_)
                  refine lv_goto (tgt := 5) hx hb dX6_readConditions_179 (by decide) ?_
                  exact ih_633 (3 - zi_737.toInt).toNat (by omega) (0 : Int32) zi_737 zI_735 _ _ _ rfl (by decide) (by omega) h_zI_735 hP hD hS (lv_sub hl [2, 3, 4, 1, 0] rfl)
                refine lv_icmp_ge (tgt := 174) hx hb dX6_readConditions_158 (by decide) (fun c_738 => ?_) (fun c_738 => ?_)
                · have f_739 : zi_723.toInt ≥ (3 : Int) := ic_ge (rfl) (show (3 : Int32).toInt = 3 by decide) c_738
                  exact jn_736 zI_722 _ _ _ h_zI_722 hP hD hS (lv_sub hl [0, 1, 2, 3, 4, 5] rfl)
                · have f_739 : ¬ (zi_723.toInt ≥ (3 : Int)) := ic_nge (rfl) (show (3 : Int32).toInt = 3 by decide) c_738
                  refine lv_aload_n hx hb dX6_readConditions_161 rfl (lv_at hl 0 rfl) ?_
                  refine lv_bipush (v := 38) hx hb dX6_readConditions_162 (by decide) ?_
                  have qc_38 : (38 : Int32).toInt = 38 := by decide
                  refine hj_i (ws := (WL cy zL zT zR zI_722 zJ)) (w1 := fun (u : (Nat → Nat → Int32)) => (WL cy zL zT zR u zJ)) (va_runV (As := [.int 38]) (rest := []) ⟨hx, hb, hml, hown, hts⟩ (t_X6_reads l dC dI cy H.size zL zT zR zI_722 zJ zr (38 : Int32) hs h_zI_722.1 t_zr (by decide)) (cwV 1 hts gX6_readConditions_X6_reads rfl rfl rfl (by decide +kernel) ⟨(Nat.le_of_ble_eq_true rfl), (Nat.le_of_ble_eq_true rfl)⟩) (PRE.v hP hK hD hN (ht_recv hK hP hs t_zr (by decide) rfl rfl)) rfl rfl hl.1 rfl (lv_room (Nat.le_of_ble_eq_true rfl)) dX6_readConditions_164 ⟨(Nat.le_of_ble_eq_true rfl), (Nat.le_of_ble_eq_true rfl)⟩) hP hD hS hA (fun zi_740 zI_743 H locs hw_741 hP hD hS => ?_)
                  obtain ⟨k_zI_743, b_zi_740⟩ : (WM [702] AL zT zR zI_722 zI_743) ∧ (0 ≤ zi_740.toInt ∧ zi_740.toInt ≤ 1) := hw_741
                  have h_zI_743 : WM [702, 703, 2900, 3000] AL zT zR zI zI_743 := h_zI_722.tr k_zI_743 (by decide) (fun _ _ => trivial)
                  refine lv_if_eq (tgt := 174) hx hb dX6_readConditions_167 (by decide) (fun c_746 => ?_) (fun c_746 => ?_)
                  · have f_747 : zi_740.toInt = 0 := ic_eq (rfl) (by decide) c_746
                    exact jn_736 zI_743 _ _ _ h_zI_743 hP hD hS (lv_sub hl [0, 1, 2, 3, 4, 5] rfl)
                  · have f_747 : ¬ (zi_740.toInt = 0) := ic_neq (rfl) (by decide) c_746
                    refine lv_iconst (v := 1) hx hb dX6_readConditions_170 (by decide) ?_
                    refine lv_goto (tgt := 175) hx hb dX6_readConditions_171 (by decide) ?_
                    refine lv_istore_n (lv' := [(3, .int 1), (0, .ref zr), (1, .ref zl), (2, .int zia), (4, .int zi_503), (5, .int zi_639)]) hx hb dX6_readConditions_175 rfl hl (by decide) rfl (fun ls hl => ?_)
                    obtain ⟨zi_748, ezi_748⟩ : ∃ y : Int32, y = zi_503 + 1 := ⟨_, rfl⟩
                    have tzi_748 : zi_748.toInt = zi_503.toInt + 1 := by rw [ezi_748]; exact tadd rfl (show (1 : Int32).toInt = 1 by decide) (by omega) (by omega)
                    refine lv_iinc (v := zi_748) (lv' := [(4, .int zi_748), (3, .int 1), (0, .ref zr), (1, .ref zl), (2, .int zia), (5, .int zi_639)]) hx hb dX6_readConditions_176 hl (k := 4) rfl (by rw [ezi_748]; rfl) (by decide) rfl (fun ls hl => ?_)
                    refine lv_goto (tgt := 5) hx hb dX6_readConditions_179 (by decide) ?_
                    exact ih_633 (3 - zi_748.toInt).toNat (by omega) (1 : Int32) zi_748 zI_743 _ _ _ rfl (by decide) (by omega) h_zI_743 hP hD hS (lv_sub hl [2, 3, 4, 1, 0] rfl)
              · have f_719 : ¬ (zi_711.toInt ≥ 0) := ic_nge (rfl) (by decide) c_718
                refine lv_iconst (v := 0) hx hb dX6_readConditions_141 (by decide) ?_
                subst hQ
                exact W.zret (v := (0 : Int32)) hx hb hr rfl (fun t ht hW => ⟨⟨(0 : Int32), zI_716, rfl, ⟨h_zI_716, (show 0 ≤ (0 : Int32).toInt ∧ (0 : Int32).toInt ≤ 1 from by omega)⟩, ⟨by rw [ht]; exact hP, va_K.moved hW.alike hK, hD⟩⟩, hS.F ht⟩) hS.2.2 dX6_readConditions_142
            refine lv_if_ne (tgt := 117) hx hb dX6_readConditions_87 (by decide) (fun c_749 => ?_) (fun c_749 => ?_)
            · have f_750 : zi_684.toInt ≠ 0 := ic_ne (rfl) (by decide) c_749
              exact jn_709 zI_687 _ _ _ h_zI_687 hP hD hS (lv_sub hl [0, 1, 2, 3, 4, 5] rfl)
            · have f_750 : ¬ (zi_684.toInt ≠ 0) := ic_nne (rfl) (by decide) c_749
              refine lv_aload_n hx hb dX6_readConditions_90 rfl (lv_at hl 0 rfl) ?_
              refine lv_bipush (v := 62) hx hb dX6_readConditions_91 (by decide) ?_
              have qc_62 : (62 : Int32).toInt = 62 := by decide
              refine hj_i (ws := (WL cy zL zT zR zI_687 zJ)) (w1 := fun (u : (Nat → Nat → Int32)) => (WL cy zL zT zR u zJ)) (va_runV (As := [.int 62]) (rest := []) ⟨hx, hb, hml, hown, hts⟩ (t_X6_reads l dC dI cy H.size zL zT zR zI_687 zJ zr (62 : Int32) hs h_zI_687.1 t_zr (by decide)) (cwV 1 hts gX6_readConditions_X6_reads rfl rfl rfl (by decide +kernel) ⟨(Nat.le_of_ble_eq_true rfl), (Nat.le_of_ble_eq_true rfl)⟩) (PRE.v hP hK hD hN (ht_recv hK hP hs t_zr (by decide) rfl rfl)) rfl rfl hl.1 rfl (lv_room (Nat.le_of_ble_eq_true rfl)) dX6_readConditions_93 ⟨(Nat.le_of_ble_eq_true rfl), (Nat.le_of_ble_eq_true rfl)⟩) hP hD hS hA (fun zi_751 zI_754 H locs hw_752 hP hD hS => ?_)
              obtain ⟨k_zI_754, b_zi_751⟩ : (WM [702] AL zT zR zI_687 zI_754) ∧ (0 ≤ zi_751.toInt ∧ zi_751.toInt ≤ 1) := hw_752
              have h_zI_754 : WM [702, 703, 2900, 3000] AL zT zR zI zI_754 := h_zI_687.tr k_zI_754 (by decide) (fun _ _ => trivial)
              refine lv_if_ne (tgt := 117) hx hb dX6_readConditions_96 (by decide) (fun c_755 => ?_) (fun c_755 => ?_)
              · have f_756 : zi_751.toInt ≠ 0 := ic_ne (rfl) (by decide) c_755
                exact jn_709 zI_754 _ _ _ h_zI_754 hP hD hS (lv_sub hl [0, 1, 2, 3, 4, 5] rfl)
              · have f_756 : ¬ (zi_751.toInt ≠ 0) := ic_nne (rfl) (by decide) c_755
                refine lv_aload_n hx hb dX6_readConditions_99 rfl (lv_at hl 0 rfl) ?_
                refine lv_bipush (v := 61) hx hb dX6_readConditions_100 (by decide) ?_
                have qc_61 : (61 : Int32).toInt = 61 := by decide
                refine hj_i (ws := (WL cy zL zT zR zI_754 zJ)) (w1 := fun (u : (Nat → Nat → Int32)) => (WL cy zL zT zR u zJ)) (va_runV (As := [.int 61]) (rest := []) ⟨hx, hb, hml, hown, hts⟩ (t_X6_reads l dC dI cy H.size zL zT zR zI_754 zJ zr (61 : Int32) hs h_zI_754.1 t_zr (by decide)) (cwV 1 hts gX6_readConditions_X6_reads rfl rfl rfl (by decide +kernel) ⟨(Nat.le_of_ble_eq_true rfl), (Nat.le_of_ble_eq_true rfl)⟩) (PRE.v hP hK hD hN (ht_recv hK hP hs t_zr (by decide) rfl rfl)) rfl rfl hl.1 rfl (lv_room (Nat.le_of_ble_eq_true rfl)) dX6_readConditions_102 ⟨(Nat.le_of_ble_eq_true rfl), (Nat.le_of_ble_eq_true rfl)⟩) hP hD hS hA (fun zi_757 zI_760 H locs hw_758 hP hD hS => ?_)
                obtain ⟨k_zI_760, b_zi_757⟩ : (WM [702] AL zT zR zI_754 zI_760) ∧ (0 ≤ zi_757.toInt ∧ zi_757.toInt ≤ 1) := hw_758
                have h_zI_760 : WM [702, 703, 2900, 3000] AL zT zR zI zI_760 := h_zI_754.tr k_zI_760 (by decide) (fun _ _ => trivial)
                refine lv_if_ne (tgt := 117) hx hb dX6_readConditions_105 (by decide) (fun c_761 => ?_) (fun c_761 => ?_)
                · have f_762 : zi_757.toInt ≠ 0 := ic_ne (rfl) (by decide) c_761
                  exact jn_709 zI_760 _ _ _ h_zI_760 hP hD hS (lv_sub hl [0, 1, 2, 3, 4, 5] rfl)
                · have f_762 : ¬ (zi_757.toInt ≠ 0) := ic_nne (rfl) (by decide) c_761
                  refine lv_aload_n hx hb dX6_readConditions_108 rfl (lv_at hl 0 rfl) ?_
                  refine lv_aload_n hx hb dX6_readConditions_109 rfl (lv_at hl 0 rfl) ?_
                  refine ht_geti (C := RX6) (T := TX6) (N := 4) hx hb hts (by decide +kernel) hown hK hP hs t_zr (by decide) rfl rfl 2 (by decide) (hts (.fieldLink RX6 15 "DripStone$Reader" "at" "I") (by decide +kernel)) (fun _ h9 => h9) rfl dX6_readConditions_110 ?_
                  refine lv_topi (fun zi_763 ezi_763 => ?_)
                  have tzi_763 : 0 ≤ zi_763.toInt ∧ zi_763.toInt ≤ 80 := by rw [ezi_763]; exact h_zI_760.at t_zr _ rfl
                  have lzi_763 : (zI_760 zr 2).toInt = zi_763.toInt := by rw [ezi_763]
                  refine hj_i (ws := (WL cy zL zT zR zI_760 zJ)) (w1 := fun (u : (Nat → Nat → Int32)) => (WL cy zL zT zR u zJ)) (va_runV (As := [.int zi_763]) (rest := []) ⟨hx, hb, hml, hown, hts⟩ (t_X6_fails l dC dI cy H.size zL zT zR zI_760 zJ zr zi_763 hs h_zI_760.1 t_zr) (cwV 1 hts gX6_readConditions_X6_fails rfl rfl rfl (by decide +kernel) ⟨(Nat.le_of_ble_eq_true rfl), (Nat.le_of_ble_eq_true rfl)⟩) (PRE.v hP hK hD hN (ht_recv hK hP hs t_zr (by decide) rfl rfl)) rfl rfl hl.1 rfl (lv_room (Nat.le_of_ble_eq_true rfl)) dX6_readConditions_113 ⟨(Nat.le_of_ble_eq_true rfl), (Nat.le_of_ble_eq_true rfl)⟩) hP hD hS hA (fun zi_764 zI_767 H locs hw_765 hP hD hS => ?_)
                  obtain ⟨k_zI_767, ps_768⟩ : (WM [703] AL zT zR zI_760 zI_767) ∧ (zi_764 = 0) := hw_765
                  have h_zI_767 : WM [702, 703, 2900, 3000] AL zT zR zI zI_767 := h_zI_760.tr k_zI_767 (by decide) (fun _ _ => trivial)
                  obtain rfl : zi_764 = 0 := ps_768
                  subst hQ
                  have qc_0 : (0 : Int32).toInt = 0 := by decide
                  exact W.zret (v := (0 : Int32)) hx hb hr rfl (fun t ht hW => ⟨⟨(0 : Int32), zI_767, rfl, ⟨h_zI_767, (show 0 ≤ (0 : Int32).toInt ∧ (0 : Int32).toInt ≤ 1 from by omega)⟩, ⟨by rw [ht]; exact hP, va_K.moved hW.alike hK, hD⟩⟩, hS.F ht⟩) hS.2.2 dX6_readConditions_116
          refine lv_if_ne (tgt := 70) hx hb dX6_readConditions_40 (by decide) (fun c_769 => ?_) (fun c_769 => ?_)
          · have f_770 : zi_649.toInt ≠ 0 := ic_ne (rfl) (by decide) c_769
            exact jn_674 zI_652 _ _ _ h_zI_652 hP hD hS (lv_sub hl [1, 2, 3, 4, 5, 0] rfl)
          · have f_770 : ¬ (zi_649.toInt ≠ 0) := ic_nne (rfl) (by decide) c_769
            refine lv_aload_n hx hb dX6_readConditions_43 rfl (lv_at hl 1 rfl) ?_
            refine lv_bipush (v := 104) hx hb dX6_readConditions_44 (by decide) ?_
            have qc_104 : (104 : Int32).toInt = 104 := by decide
            refine hj_i (ws := (WL cy zL zT zR zI_652 zJ)) (w1 := fun (u : (Nat → Nat → Int32)) => (WL cy zL zT zR u zJ)) (va_runV (As := [.int 104]) (rest := []) ⟨hx, hb, hml, hown, hts⟩ (t_X6_reads l dC dI cy H.size zL zT zR zI_652 zJ zr (104 : Int32) hs h_zI_652.1 t_zr (by decide)) (cwV 1 hts gX6_readConditions_X6_reads rfl rfl rfl (by decide +kernel) ⟨(Nat.le_of_ble_eq_true rfl), (Nat.le_of_ble_eq_true rfl)⟩) (PRE.v hP hK hD hN (ht_recv hK hP hs t_zr (by decide) rfl rfl)) rfl rfl hl.1 rfl (lv_room (Nat.le_of_ble_eq_true rfl)) dX6_readConditions_46 ⟨(Nat.le_of_ble_eq_true rfl), (Nat.le_of_ble_eq_true rfl)⟩) hP hD hS hA (fun zi_771 zI_774 H locs hw_772 hP hD hS => ?_)
            obtain ⟨k_zI_774, b_zi_771⟩ : (WM [702] AL zT zR zI_652 zI_774) ∧ (0 ≤ zi_771.toInt ∧ zi_771.toInt ≤ 1) := hw_772
            have h_zI_774 : WM [702, 703, 2900, 3000] AL zT zR zI zI_774 := h_zI_652.tr k_zI_774 (by decide) (fun _ _ => trivial)
            refine lv_if_ne (tgt := 70) hx hb dX6_readConditions_49 (by decide) (fun c_775 => ?_) (fun c_775 => ?_)
            · have f_776 : zi_771.toInt ≠ 0 := ic_ne (rfl) (by decide) c_775
              exact jn_674 zI_774 _ _ _ h_zI_774 hP hD hS (lv_sub hl [1, 2, 3, 4, 5, 0] rfl)
            · have f_776 : ¬ (zi_771.toInt ≠ 0) := ic_nne (rfl) (by decide) c_775
              refine lv_aload_n hx hb dX6_readConditions_52 rfl (lv_at hl 1 rfl) ?_
              refine lv_bipush (v := 119) hx hb dX6_readConditions_53 (by decide) ?_
              have qc_119 : (119 : Int32).toInt = 119 := by decide
              refine hj_i (ws := (WL cy zL zT zR zI_774 zJ)) (w1 := fun (u : (Nat → Nat → Int32)) => (WL cy zL zT zR u zJ)) (va_runV (As := [.int 119]) (rest := []) ⟨hx, hb, hml, hown, hts⟩ (t_X6_reads l dC dI cy H.size zL zT zR zI_774 zJ zr (119 : Int32) hs h_zI_774.1 t_zr (by decide)) (cwV 1 hts gX6_readConditions_X6_reads rfl rfl rfl (by decide +kernel) ⟨(Nat.le_of_ble_eq_true rfl), (Nat.le_of_ble_eq_true rfl)⟩) (PRE.v hP hK hD hN (ht_recv hK hP hs t_zr (by decide) rfl rfl)) rfl rfl hl.1 rfl (lv_room (Nat.le_of_ble_eq_true rfl)) dX6_readConditions_55 ⟨(Nat.le_of_ble_eq_true rfl), (Nat.le_of_ble_eq_true rfl)⟩) hP hD hS hA (fun zi_777 zI_780 H locs hw_778 hP hD hS => ?_)
              obtain ⟨k_zI_780, b_zi_777⟩ : (WM [702] AL zT zR zI_774 zI_780) ∧ (0 ≤ zi_777.toInt ∧ zi_777.toInt ≤ 1) := hw_778
              have h_zI_780 : WM [702, 703, 2900, 3000] AL zT zR zI zI_780 := h_zI_774.tr k_zI_780 (by decide) (fun _ _ => trivial)
              refine lv_if_ne (tgt := 70) hx hb dX6_readConditions_58 (by decide) (fun c_781 => ?_) (fun c_781 => ?_)
              · have f_782 : zi_777.toInt ≠ 0 := ic_ne (rfl) (by decide) c_781
                exact jn_674 zI_780 _ _ _ h_zI_780 hP hD hS (lv_sub hl [1, 2, 3, 4, 5, 0] rfl)
              · have f_782 : ¬ (zi_777.toInt ≠ 0) := ic_nne (rfl) (by decide) c_781
                refine lv_aload_n hx hb dX6_readConditions_61 rfl (lv_at hl 1 rfl) ?_
                refine lv_aload_n hx hb dX6_readConditions_62 rfl (lv_at hl 1 rfl) ?_
                refine ht_geti (C := RX6) (T := TX6) (N := 4) hx hb hts (by decide +kernel) hown hK hP hs t_zr (by decide) rfl rfl 2 (by decide) (hts (.fieldLink RX6 15 "DripStone$Reader" "at" "I") (by decide +kernel)) (fun _ h9 => h9) rfl dX6_readConditions_63 ?_
                refine lv_topi (fun zi_783 ezi_783 => ?_)
                have tzi_783 : 0 ≤ zi_783.toInt ∧ zi_783.toInt ≤ 80 := by rw [ezi_783]; exact h_zI_780.at t_zr _ rfl
                have lzi_783 : (zI_780 zr 2).toInt = zi_783.toInt := by rw [ezi_783]
                refine hj_i (ws := (WL cy zL zT zR zI_780 zJ)) (w1 := fun (u : (Nat → Nat → Int32)) => (WL cy zL zT zR u zJ)) (va_runV (As := [.int zi_783]) (rest := []) ⟨hx, hb, hml, hown, hts⟩ (t_X6_fails l dC dI cy H.size zL zT zR zI_780 zJ zr zi_783 hs h_zI_780.1 t_zr) (cwV 1 hts gX6_readConditions_X6_fails rfl rfl rfl (by decide +kernel) ⟨(Nat.le_of_ble_eq_true rfl), (Nat.le_of_ble_eq_true rfl)⟩) (PRE.v hP hK hD hN (ht_recv hK hP hs t_zr (by decide) rfl rfl)) rfl rfl hl.1 rfl (lv_room (Nat.le_of_ble_eq_true rfl)) dX6_readConditions_66 ⟨(Nat.le_of_ble_eq_true rfl), (Nat.le_of_ble_eq_true rfl)⟩) hP hD hS hA (fun zi_784 zI_787 H locs hw_785 hP hD hS => ?_)
                obtain ⟨k_zI_787, ps_788⟩ : (WM [703] AL zT zR zI_780 zI_787) ∧ (zi_784 = 0) := hw_785
                have h_zI_787 : WM [702, 703, 2900, 3000] AL zT zR zI zI_787 := h_zI_780.tr k_zI_787 (by decide) (fun _ _ => trivial)
                obtain rfl : zi_784 = 0 := ps_788
                subst hQ
                have qc_0 : (0 : Int32).toInt = 0 := by decide
                exact W.zret (v := (0 : Int32)) hx hb hr rfl (fun t ht hW => ⟨⟨(0 : Int32), zI_787, rfl, ⟨h_zI_787, (show 0 ≤ (0 : Int32).toInt ∧ (0 : Int32).toInt ≤ 1 from by omega)⟩, ⟨by rw [ht]; exact hP, va_K.moved hW.alike hK, hD⟩⟩, hS.F ht⟩) hS.2.2 dX6_readConditions_69
  exact lp_633 _ (1 : Int32) (0 : Int32) zI _ _ _ rfl (by decide) (by decide) h_zI hP hD hS (lv_sub hl [2, 3, 4, 1, 0] rfl)
set_option maxHeartbeats 8000000 in
set_option maxRecDepth 100000 in
theorem t_X6_readClause (l : Launch) (dC : Nat → ClassId) (dI : Nat → Nat → Nat) (cy : Nat → ClassId) (sz : Nat) (zL : List Nat) (zT : Nat → Nat) (zR : Nat → Nat → Nat) (zI : Nat → Nat → Int32) (zJ : Nat → Nat → Int64) (zr : Nat) (zl : Nat) (zia : Int32) (hs : SKP zL zT zR) (hw : WT zT zR zI) (t_zr : zT zr = 7) (t_zl : zT zl = 5) (b_zia : 0 ≤ zia.toInt ∧ zia.toInt ≤ 5) : Met l yX6_readClause wsX6_readClause ({ frames := 4, cells := 0, slots := 0, locals := 102 } : Room) (va_Pc [.ref zr, .ref zl, .int zia] (PRE dC dI cy (WL cy zL zT zR zI zJ) sz)) (va_Qi (fun (r : Int32) (u : (Nat → Nat → Int32)) => (WM [702, 703, 2200, 2900, 3000] AL zT zR zI u) ∧ (0 ≤ r.toInt ∧ r.toInt ≤ 1)) (fun u t => POST dC dI cy (va_A (WL cy zL zT zR zI zJ) sz) (WL cy zL zT zR u zJ) t) (va_A (WL cy zL zT zR zI zJ) sz)) 0 0 (va_A (WL cy zL zT zR zI zJ) sz) := by
  refine Met.ofW (cc := cX6_readClause) (maxL := 4) (ret := (some .boolean)) (by decide) rfl ?_
  intro p e s m args below meth c s₁ B hml hv
  obtain ⟨rfl, hsz, hP, hK, hD0, hN⟩ := hv
  have hx := B.exec
  have hb := B.bytes
  have hr := B.returns
  have hts := atoms_spec (ws := wsX6_readClause) B.pre
  have hown : s.vm.findClass RX6 = some m.cls := findClass_of_methodNamed B.named
  have hlocks := B.notSynchronized
  subst hsz
  have hD := hD0.self (sz := s.heap.size)
  generalize hAe : va_A (WL cy zL zT zR zI zJ) s.heap.size = A at hD ⊢
  have hA : ∀ q : Nat, s.heap.size ≤ q → A q := fun q h => by rw [← hAe]; exact Or.inr h
  have hS : va_S A s.heap s.heap [] := va_S.rf
  have hP : va_P (dC, dI) vwCl (WL cy zL zT zR zI zJ) s.heap := hP
  have hl := lv_entry ([.ref zr, .ref zl, .int zia] : List Value) (n := 4) (Nat.le_of_ble_eq_true rfl)
  rw [lg_entry_eq]
  generalize (lg_sl ([.ref zr, .ref zl, .int zia] : List Value) ++ List.replicate (4 - (lg_sl ([.ref zr, .ref zl, .int zia] : List Value)).length) Slot.unset).toArray = ls at hl ⊢
  have hl : lv_has ls 4 [(0, .ref zr), (1, .ref zl), (2, .int zia)] := hl
  refine w_q (fun Q hQ => ?_)
  have h_zI : WM [702, 703, 2200, 2900, 3000] AL zT zR zI zI := WM.rf hw
  refine lv_aload_n hx hb dX6_readClause_0 rfl (lv_at hl 1 rfl) ?_
  refine ht_getr (C := RX4) (T := TX4) (N := 6) hx hb hts (by decide +kernel) hown hK hP hs t_zl (by decide) rfl rfl 1 (by decide) (hts (.fieldLink RX6 42 "DripStone$Law" "conditions" "[I") (by decide +kernel)) (fun _ h9 => h9) rfl dX6_readClause_1 ?_
  have t_1 : zT (zR zl 1) = 29 := sk_f hs t_zl (by decide) rfl (by decide)
  refine lv_iload_n hx hb dX6_readClause_4 rfl (lv_at hl 2 rfl) ?_
  refine lv_iconst (v := 0) hx hb dX6_readClause_5 (by decide) ?_
  refine ht_iast (v := (0 : Int32)) (n := 6) (q := 0) hx hb hK hP hD hS hs t_1 (by decide) rfl rfl ⟨by omega, by omega⟩ dX6_readClause_6 (fun H locs hP hD hS => ?_)
  have h_zI_2 : WM [702, 703, 2200, 2900, 3000] AL zT zR zI (u2 zI (zR zl 1) zia.toNatClampNeg (0 : Int32)) := h_zI.putA hs t_1 rfl (by decide) (by decide) (fun h => absurd h (by decide)) (by decide) trivial
  generalize uzI_2 : u2 zI (zR zl 1) zia.toNatClampNeg (0 : Int32) = zI_2 at hP hD h_zI_2
  refine lv_aload_n hx hb dX6_readClause_7 rfl (lv_at hl 0 rfl) ?_
  refine lv_bipush (v := 42) hx hb dX6_readClause_8 (by decide) ?_
  have qc_42 : (42 : Int32).toInt = 42 := by decide
  refine hj_i (ws := (WL cy zL zT zR zI_2 zJ)) (w1 := fun (u : (Nat → Nat → Int32)) => (WL cy zL zT zR u zJ)) (va_runV (As := [.int 42]) (rest := []) ⟨hx, hb, hml, hown, hts⟩ (t_X6_reads l dC dI cy H.size zL zT zR zI_2 zJ zr (42 : Int32) hs h_zI_2.1 t_zr (by decide)) (cwV 1 hts gX6_readClause_X6_reads rfl rfl rfl (by decide +kernel) ⟨(Nat.le_of_ble_eq_true rfl), (Nat.le_of_ble_eq_true rfl)⟩) (PRE.v hP hK hD hN (ht_recv hK hP hs t_zr (by decide) rfl rfl)) rfl rfl hl.1 rfl (lv_room (Nat.le_of_ble_eq_true rfl)) dX6_readClause_10 ⟨(Nat.le_of_ble_eq_true rfl), (Nat.le_of_ble_eq_true rfl)⟩) hP hD hS hA (fun zi_3 zI_6 H locs hw_4 hP hD hS => ?_)
  obtain ⟨k_zI_6, b_zi_3⟩ : (WM [702] AL zT zR zI_2 zI_6) ∧ (0 ≤ zi_3.toInt ∧ zi_3.toInt ≤ 1) := hw_4
  have h_zI_6 : WM [702, 703, 2200, 2900, 3000] AL zT zR zI zI_6 := h_zI_2.tr k_zI_6 (by decide) (fun _ _ => trivial)
  have jn_16 : ∀ (zI_15 : Nat → Nat → Int32) (H : Heap) (locs : List Loc) (ls : Array Slot), (WM [702, 703, 2200, 2900, 3000] AL zT zR zI zI_15) → va_P (dC, dI) vwCl (WL cy zL zT zR zI_15 zJ) H → va_D A (WL cy zL zT zR zI_15 zJ) → va_S A s.heap H locs → lv_has ls 4 [(0, .ref zr), (1, .ref zl), (2, .int zia)] → W p l e ({ frames := 4, cells := 0, slots := 0, locals := 102 } : Room) s m ([.ref zr, .ref zl, .int zia] : List Value).toArray below meth c H locs 0 0 Q (F0 m 27 ls []) := by
    intro zI_15 H locs ls h_zI_15 hP hD hS hl
    refine lv_aload_n hx hb dX6_readClause_27 rfl (lv_at hl 0 rfl) ?_
    refine lv_bipush (v := 58) hx hb dX6_readClause_28 (by decide) ?_
    have qc_58 : (58 : Int32).toInt = 58 := by decide
    refine hj_i (ws := (WL cy zL zT zR zI_15 zJ)) (w1 := fun (u : (Nat → Nat → Int32)) => (WL cy zL zT zR u zJ)) (va_runV (As := [.int 58]) (rest := []) ⟨hx, hb, hml, hown, hts⟩ (t_X6_wants l dC dI cy H.size zL zT zR zI_15 zJ zr (58 : Int32) hs h_zI_15.1 t_zr (by decide)) (cwV 1 hts gX6_readClause_X6_wants rfl rfl rfl (by decide +kernel) ⟨(Nat.le_of_ble_eq_true rfl), (Nat.le_of_ble_eq_true rfl)⟩) (PRE.v hP hK hD hN (ht_recv hK hP hs t_zr (by decide) rfl rfl)) rfl rfl hl.1 rfl (lv_room (Nat.le_of_ble_eq_true rfl)) dX6_readClause_30 ⟨(Nat.le_of_ble_eq_true rfl), (Nat.le_of_ble_eq_true rfl)⟩) hP hD hS hA (fun zi_17 zI_20 H locs hw_18 hP hD hS => ?_)
    obtain ⟨k_zI_20, b_zi_17⟩ : (WM [702, 703] AL zT zR zI_15 zI_20) ∧ (0 ≤ zi_17.toInt ∧ zi_17.toInt ≤ 1) := hw_18
    have h_zI_20 : WM [702, 703, 2200, 2900, 3000] AL zT zR zI zI_20 := h_zI_15.tr k_zI_20 (by decide) (fun _ _ => trivial)
    refine lv_if_ne (tgt := 38) hx hb dX6_readClause_33 (by decide) (fun c_21 => ?_) (fun c_21 => ?_)
    · have f_22 : zi_17.toInt ≠ 0 := ic_ne (rfl) (by decide) c_21
      refine lv_aload_n hx hb dX6_readClause_38 rfl (lv_at hl 0 rfl) ?_
      refine hj_i (ws := (WL cy zL zT zR zI_20 zJ)) (w1 := fun (u : (Nat → Nat → Int32)) => (WL cy zL zT zR u zJ)) (va_runV (As := []) (rest := []) ⟨hx, hb, hml, hown, hts⟩ (t_X6_look l dC dI cy H.size zL zT zR zI_20 zJ zr hs h_zI_20.1 t_zr) (cwV 0 hts gX6_readClause_X6_look rfl rfl rfl (by decide +kernel) ⟨(Nat.le_of_ble_eq_true rfl), (Nat.le_of_ble_eq_true rfl)⟩) (PRE.v hP hK hD hN (ht_recv hK hP hs t_zr (by decide) rfl rfl)) rfl rfl hl.1 rfl (lv_room (Nat.le_of_ble_eq_true rfl)) dX6_readClause_39 ⟨(Nat.le_of_ble_eq_true rfl), (Nat.le_of_ble_eq_true rfl)⟩) hP hD hS hA (fun zi_23 zI_26 H locs hw_24 hP hD hS => ?_)
      obtain ⟨k_zI_26, b_zi_23, ps_27⟩ : (WM [702] AL zT zR zI_20 zI_26) ∧ ((-1) ≤ zi_23.toInt ∧ zi_23.toInt ≤ 255) ∧ (zi_23.toInt = -1 ∨ (zI_26 zr 2).toInt ≤ 79) := hw_24
      have h_zI_26 : WM [702, 703, 2200, 2900, 3000] AL zT zR zI zI_26 := h_zI_20.tr k_zI_26 (by decide) (fun _ _ => trivial)
      obtain ⟨zi_28, ezi_28⟩ : ∃ y : Int32, y = zI_26 zr 2 := ⟨_, rfl⟩
      have tzi_28 : 0 ≤ zi_28.toInt ∧ zi_28.toInt ≤ 80 := by rw [ezi_28]; exact h_zI_26.at t_zr _ rfl
      have lzi_28 : (zI_26 zr 2).toInt = zi_28.toInt := by rw [ezi_28]
      have lk_29 : (zI_26 zr 2).toInt = zi_28.toInt := congrArg Int32.toInt ezi_28.symm
      refine lv_istore_n (lv' := [(3, .int zi_23), (0, .ref zr), (1, .ref zl), (2, .int zia)]) hx hb dX6_readClause_42 rfl hl (by decide) rfl (fun ls hl => ?_)
      refine lv_iload_n hx hb dX6_readClause_43 rfl (lv_at hl 0 rfl) ?_
      refine lv_bipush (v := 48) hx hb dX6_readClause_44 (by decide) ?_
      refine lv_bipush (v := 52) hx hb dX6_readClause_46 (by decide) ?_
      refine hj0_i (ws := (WL cy zL zT zR zI_26 zJ)) (va_runSN (As := [.int zi_23, .int 48, .int 52]) (rest := []) ⟨hx, hb, hml, hown, hts⟩ (c_X10_isWithin l dC dI cy H.size zi_23 48 52 48 52 (by first | rfl | decide | omega | exact Int32.toInt_toInt64 _) (by first | rfl | decide | omega | exact Int32.toInt_toInt64 _)) ⟨va_cnB 3 hts ggX6_readClause_X10_isWithin rfl rfl rfl (n0_16 hN) (hts (.initialized RX10) (by decide +kernel)) (by decide +kernel) ⟨(Nat.le_of_ble_eq_true rfl), (Nat.le_of_ble_eq_true rfl)⟩, hts (.static yX10_isWithin) (by decide +kernel), trivial⟩ (PRE.s (hP.sub [] rfl) hK (hD.sub [] (by decide) rfl) hN) rfl rfl hl.1 rfl (lv_room (Nat.le_of_ble_eq_true rfl)) dX6_readClause_48 ⟨(Nat.le_of_ble_eq_true rfl), (Nat.le_of_ble_eq_true rfl)⟩) hP hD hS hA (fun zi_30 u_32 H locs hw_31 hP hD hS => ?_)
      have hw_31 : zi_30 = if 48 ≤ zi_23.toInt ∧ zi_23.toInt ≤ 52 then 1 else 0 := hw_31
      have b_zi_30 : 0 ≤ zi_30.toInt ∧ zi_30.toInt ≤ 1 := bz_b hw_31
      refine lv_if_ne (tgt := 63) hx hb dX6_readClause_51 (by decide) (fun c_33 => ?_) (fun c_33 => ?_)
      · have f_34 : 48 ≤ zi_23.toInt ∧ zi_23.toInt ≤ 52 := bz_1 hw_31 c_33
        refine lv_aload_n hx hb dX6_readClause_63 rfl (lv_at hl 2 rfl) ?_
        refine ht_getr (C := RX4) (T := TX4) (N := 6) hx hb hts (by decide +kernel) hown hK hP hs t_zl (by decide) rfl rfl 0 (by decide) (hts (.fieldLink RX6 55 "DripStone$Law" "digits" "[I") (by decide +kernel)) (fun _ h9 => h9) rfl dX6_readClause_64 ?_
        have t_35 : zT (zR zl 0) = 22 := sk_f hs t_zl (by decide) rfl (by decide)
        refine lv_iload_n hx hb dX6_readClause_67 rfl (lv_at hl 3 rfl) ?_
        refine lv_iload_n hx hb dX6_readClause_68 rfl (lv_at hl 0 rfl) ?_
        refine lv_bipush (v := 48) hx hb dX6_readClause_69 (by decide) ?_
        refine lv_isub hx hb dX6_readClause_71 ?_
        refine lv_topi (fun zi_36 ezi_36 => ?_)
        have tzi_36 : zi_36.toInt = zi_23.toInt - (48 : Int) := by rw [ezi_36]; exact tisub (rfl) (show (48 : Int32).toInt = 48 by decide) (by omega) (by omega)
        refine ht_iast (v := zi_36) (n := 6) (q := 0) hx hb hK hP hD hS hs t_35 (by decide) rfl rfl ⟨by omega, by omega⟩ dX6_readClause_72 (fun H locs hP hD hS => ?_)
        have h_zI_37 : WM [702, 703, 2200, 2900, 3000] AL zT zR zI (u2 zI_26 (zR zl 0) zia.toNatClampNeg zi_36) := h_zI_26.putA hs t_35 rfl (rgF _) (by decide) (fun h => absurd h (by decide)) (by decide) trivial
        generalize uzI_37 : u2 zI_26 (zR zl 0) zia.toNatClampNeg zi_36 = zI_37 at hP hD h_zI_37
        refine lv_aload_n hx hb dX6_readClause_73 rfl (lv_at hl 1 rfl) ?_
        refine lv_dup hx hb dX6_readClause_74 rfl ?_
        refine ht_geti (C := RX6) (T := TX6) (N := 4) hx hb hts (by decide +kernel) hown hK hP hs t_zr (by decide) rfl rfl 2 (by decide) (hts (.fieldLink RX6 15 "DripStone$Reader" "at" "I") (by decide +kernel)) (fun _ h9 => h9) rfl dX6_readClause_75 ?_
        refine lv_topi (fun zi_38 ezi_38 => ?_)
        obtain rfl : zi_28 = zi_38 := (ezi_38.trans ((show zI_37 zr 2 = zI_26 zr 2 from by rw [← uzI_37]; exact u2_n (tne t_zr t_35 (by decide))).trans ezi_28.symm)).symm
        refine lv_iconst (v := 1) hx hb dX6_readClause_78 (by decide) ?_
        refine lv_iadd hx hb dX6_readClause_79 ?_
        refine lv_topi (fun zi_39 ezi_39 => ?_)
        have tzi_39 : zi_39.toInt = zi_28.toInt + (1 : Int) := by rw [ezi_39]; exact tiadd (rfl) (show (1 : Int32).toInt = 1 by decide) (by omega) (by omega)
        refine ht_puti (v := zi_39) (ty := .int) (C := RX6) (T := TX6) (N := 4) hx hb hts (by decide +kernel) tyX6 tyX6_ok nmX6 hown hK hP hD hS hs t_zr (by decide) rfl rfl 2 (by decide) (hts (.fieldLink RX6 15 "DripStone$Reader" "at" "I") (by decide +kernel)) (fun _ h9 => h9) rfl (by decide +kernel) rfl rfl rfl dX6_readClause_80 (fun H locs hP hD hS => ?_)
        have h_zI_40 : WM [702, 703, 2200, 2900, 3000] AL zT zR zI (u2 zI_37 zr 2 zi_39) := h_zI_37.put hs t_zr rfl (by omega) (by decide) (fun h => absurd h (by decide)) (by decide) trivial
        generalize uzI_40 : u2 zI_37 zr 2 zi_39 = zI_40 at hP hD h_zI_40
        refine lv_iconst (v := 1) hx hb dX6_readClause_83 (by decide) ?_
        subst hQ
        have qc_1 : (1 : Int32).toInt = 1 := by decide
        exact W.zret (v := (1 : Int32)) hx hb hr rfl (fun t ht hW => ⟨⟨(1 : Int32), zI_40, rfl, ⟨h_zI_40, (show 0 ≤ (1 : Int32).toInt ∧ (1 : Int32).toInt ≤ 1 from by omega)⟩, ⟨by rw [ht]; exact hP, va_K.moved hW.alike hK, hD⟩⟩, hS.F ht⟩) hS.2.2 dX6_readClause_84
      · have f_34 : ¬ (48 ≤ zi_23.toInt ∧ zi_23.toInt ≤ 52) := bz_0 hw_31 c_33
        refine lv_aload_n hx hb dX6_readClause_54 rfl (lv_at hl 1 rfl) ?_
        refine lv_aload_n hx hb dX6_readClause_55 rfl (lv_at hl 1 rfl) ?_
        refine ht_geti (C := RX6) (T := TX6) (N := 4) hx hb hts (by decide +kernel) hown hK hP hs t_zr (by decide) rfl rfl 2 (by decide) (hts (.fieldLink RX6 15 "DripStone$Reader" "at" "I") (by decide +kernel)) (fun _ h9 => h9) rfl dX6_readClause_56 ?_
        refine lv_topi (fun zi_41 ezi_41 => ?_)
        obtain rfl : zi_28 = zi_41 := (ezi_41.trans ezi_28.symm).symm
        refine hj_i (ws := (WL cy zL zT zR zI_26 zJ)) (w1 := fun (u : (Nat → Nat → Int32)) => (WL cy zL zT zR u zJ)) (va_runV (As := [.int zi_28]) (rest := []) ⟨hx, hb, hml, hown, hts⟩ (t_X6_fails l dC dI cy H.size zL zT zR zI_26 zJ zr zi_28 hs h_zI_26.1 t_zr) (cwV 1 hts gX6_readClause_X6_fails rfl rfl rfl (by decide +kernel) ⟨(Nat.le_of_ble_eq_true rfl), (Nat.le_of_ble_eq_true rfl)⟩) (PRE.v hP hK hD hN (ht_recv hK hP hs t_zr (by decide) rfl rfl)) rfl rfl hl.1 rfl (lv_room (Nat.le_of_ble_eq_true rfl)) dX6_readClause_59 ⟨(Nat.le_of_ble_eq_true rfl), (Nat.le_of_ble_eq_true rfl)⟩) hP hD hS hA (fun zi_42 zI_45 H locs hw_43 hP hD hS => ?_)
        obtain ⟨k_zI_45, ps_46⟩ : (WM [703] AL zT zR zI_26 zI_45) ∧ (zi_42 = 0) := hw_43
        have h_zI_45 : WM [702, 703, 2200, 2900, 3000] AL zT zR zI zI_45 := h_zI_26.tr k_zI_45 (by decide) (fun _ _ => trivial)
        obtain rfl : zi_42 = 0 := ps_46
        subst hQ
        have qc_0 : (0 : Int32).toInt = 0 := by decide
        exact W.zret (v := (0 : Int32)) hx hb hr rfl (fun t ht hW => ⟨⟨(0 : Int32), zI_45, rfl, ⟨h_zI_45, (show 0 ≤ (0 : Int32).toInt ∧ (0 : Int32).toInt ≤ 1 from by omega)⟩, ⟨by rw [ht]; exact hP, va_K.moved hW.alike hK, hD⟩⟩, hS.F ht⟩) hS.2.2 dX6_readClause_62
    · have f_22 : ¬ (zi_17.toInt ≠ 0) := ic_nne (rfl) (by decide) c_21
      refine lv_iconst (v := 0) hx hb dX6_readClause_36 (by decide) ?_
      subst hQ
      have qc_0 : (0 : Int32).toInt = 0 := by decide
      exact W.zret (v := (0 : Int32)) hx hb hr rfl (fun t ht hW => ⟨⟨(0 : Int32), zI_20, rfl, ⟨h_zI_20, (show 0 ≤ (0 : Int32).toInt ∧ (0 : Int32).toInt ≤ 1 from by omega)⟩, ⟨by rw [ht]; exact hP, va_K.moved hW.alike hK, hD⟩⟩, hS.F ht⟩) hS.2.2 dX6_readClause_37
  refine lv_if_ne (tgt := 27) hx hb dX6_readClause_13 (by decide) (fun c_47 => ?_) (fun c_47 => ?_)
  · have f_48 : zi_3.toInt ≠ 0 := ic_ne (rfl) (by decide) c_47
    exact jn_16 zI_6 _ _ _ h_zI_6 hP hD hS (lv_sub hl [0, 1, 2] rfl)
  · have f_48 : ¬ (zi_3.toInt ≠ 0) := ic_nne (rfl) (by decide) c_47
    refine lv_aload_n hx hb dX6_readClause_16 rfl (lv_at hl 0 rfl) ?_
    refine lv_aload_n hx hb dX6_readClause_17 rfl (lv_at hl 1 rfl) ?_
    refine lv_iload_n hx hb dX6_readClause_18 rfl (lv_at hl 2 rfl) ?_
    refine hj_i (ws := (WL cy zL zT zR zI_6 zJ)) (w1 := fun (u : (Nat → Nat → Int32)) => (WL cy zL zT zR u zJ)) (va_runV (As := [.ref zl, .int zia]) (rest := []) ⟨hx, hb, hml, hown, hts⟩ (t_X6_readConditions l dC dI cy H.size zL zT zR zI_6 zJ zr zl zia hs h_zI_6.1 t_zr t_zl (by omega)) (cwV 2 hts gX6_readClause_X6_readConditions rfl rfl rfl (by decide +kernel) ⟨(Nat.le_of_ble_eq_true rfl), (Nat.le_of_ble_eq_true rfl)⟩) (PRE.v hP hK hD hN (ht_recv hK hP hs t_zr (by decide) rfl rfl)) rfl rfl hl.1 rfl (lv_room (Nat.le_of_ble_eq_true rfl)) dX6_readClause_19 ⟨(Nat.le_of_ble_eq_true rfl), (Nat.le_of_ble_eq_true rfl)⟩) hP hD hS hA (fun zi_49 zI_52 H locs hw_50 hP hD hS => ?_)
    obtain ⟨k_zI_52, b_zi_49⟩ : (WM [702, 703, 2900, 3000] AL zT zR zI_6 zI_52) ∧ (0 ≤ zi_49.toInt ∧ zi_49.toInt ≤ 1) := hw_50
    have h_zI_52 : WM [702, 703, 2200, 2900, 3000] AL zT zR zI zI_52 := h_zI_6.tr k_zI_52 (by decide) (fun _ _ => trivial)
    refine lv_if_ne (tgt := 27) hx hb dX6_readClause_22 (by decide) (fun c_53 => ?_) (fun c_53 => ?_)
    · have f_54 : zi_49.toInt ≠ 0 := ic_ne (rfl) (by decide) c_53
      exact jn_16 zI_52 _ _ _ h_zI_52 hP hD hS (lv_sub hl [0, 1, 2] rfl)
    · have f_54 : ¬ (zi_49.toInt ≠ 0) := ic_nne (rfl) (by decide) c_53
      refine lv_iconst (v := 0) hx hb dX6_readClause_25 (by decide) ?_
      subst hQ
      have qc_0 : (0 : Int32).toInt = 0 := by decide
      exact W.zret (v := (0 : Int32)) hx hb hr rfl (fun t ht hW => ⟨⟨(0 : Int32), zI_52, rfl, ⟨h_zI_52, (show 0 ≤ (0 : Int32).toInt ∧ (0 : Int32).toInt ≤ 1 from by omega)⟩, ⟨by rw [ht]; exact hP, va_K.moved hW.alike hK, hD⟩⟩, hS.F ht⟩) hS.2.2 dX6_readClause_26
set_option maxHeartbeats 8000000 in
set_option maxRecDepth 100000 in
theorem t_X6_readLaw (l : Launch) (dC : Nat → ClassId) (dI : Nat → Nat → Nat) (cy : Nat → ClassId) (sz : Nat) (zL : List Nat) (zT : Nat → Nat) (zR : Nat → Nat → Nat) (zI : Nat → Nat → Int32) (zJ : Nat → Nat → Int64) (zr : Nat) (zl : Nat) (hs : SKP zL zT zR) (hw : WT zT zR zI) (t_zr : zT zr = 7) (t_zl : zT zl = 5) : Met l yX6_readLaw wsX6_readLaw ({ frames := 5, cells := 0, slots := 0, locals := 125 } : Room) (va_Pc [.ref zr, .ref zl] (PRE dC dI cy (WL cy zL zT zR zI zJ) sz)) (va_Qi (fun (r : Int32) (u : (Nat → Nat → Int32)) => (WM [505, 702, 703, 2200, 2900, 3000] AL zT zR zI u)) (fun u t => POST dC dI cy (va_A (WL cy zL zT zR zI zJ) sz) (WL cy zL zT zR u zJ) t) (va_A (WL cy zL zT zR zI zJ) sz)) 0 0 (va_A (WL cy zL zT zR zI zJ) sz) := by
  refine Met.ofW (cc := cX6_readLaw) (maxL := 4) (ret := (some .int)) (by decide) rfl ?_
  intro p e s m args below meth c s₁ B hml hv
  obtain ⟨rfl, hsz, hP, hK, hD0, hN⟩ := hv
  have hx := B.exec
  have hb := B.bytes
  have hr := B.returns
  have hts := atoms_spec (ws := wsX6_readLaw) B.pre
  have hown : s.vm.findClass RX6 = some m.cls := findClass_of_methodNamed B.named
  have hlocks := B.notSynchronized
  subst hsz
  have hD := hD0.self (sz := s.heap.size)
  generalize hAe : va_A (WL cy zL zT zR zI zJ) s.heap.size = A at hD ⊢
  have hA : ∀ q : Nat, s.heap.size ≤ q → A q := fun q h => by rw [← hAe]; exact Or.inr h
  have hS : va_S A s.heap s.heap [] := va_S.rf
  have hP : va_P (dC, dI) vwCl (WL cy zL zT zR zI zJ) s.heap := hP
  have hl := lv_entry ([.ref zr, .ref zl] : List Value) (n := 4) (Nat.le_of_ble_eq_true rfl)
  rw [lg_entry_eq]
  generalize (lg_sl ([.ref zr, .ref zl] : List Value) ++ List.replicate (4 - (lg_sl ([.ref zr, .ref zl] : List Value)).length) Slot.unset).toArray = ls at hl ⊢
  have hl : lv_has ls 4 [(0, .ref zr), (1, .ref zl)] := hl
  refine w_q (fun Q hQ => ?_)
  have h_zI : WM [505, 702, 703, 2200, 2900, 3000] AL zT zR zI zI := WM.rf hw
  refine lv_aload_n hx hb dX6_readLaw_0 rfl (lv_at hl 0 rfl) ?_
  refine lv_iconst (v := 0) hx hb dX6_readLaw_1 (by decide) ?_
  refine ht_puti (v := (0 : Int32)) (ty := .int) (C := RX6) (T := TX6) (N := 4) hx hb hts (by decide +kernel) tyX6 tyX6_ok nmX6 hown hK hP hD hS hs t_zr (by decide) rfl rfl 2 (by decide) (hts (.fieldLink RX6 15 "DripStone$Reader" "at" "I") (by decide +kernel)) (fun _ h9 => h9) rfl (by decide +kernel) rfl rfl rfl dX6_readLaw_2 (fun H locs hP hD hS => ?_)
  have h_zI_1 : WM [505, 702, 703, 2200, 2900, 3000] AL zT zR zI (u2 zI zr 2 (0 : Int32)) := h_zI.put hs t_zr rfl (by decide) (by decide) (fun h => absurd h (by decide)) (by decide) trivial
  generalize uzI_1 : u2 zI zr 2 (0 : Int32) = zI_1 at hP hD h_zI_1
  refine lv_iconst (v := 1) hx hb dX6_readLaw_5 (by decide) ?_
  refine lv_istore_n (lv' := [(2, .int 1), (0, .ref zr), (1, .ref zl)]) hx hb dX6_readLaw_6 rfl hl (by decide) rfl (fun ls hl => ?_)
  refine lv_iconst (v := 0) hx hb dX6_readLaw_7 (by decide) ?_
  refine lv_istore_n (lv' := [(3, .int 0), (2, .int 1), (0, .ref zr), (1, .ref zl)]) hx hb dX6_readLaw_8 rfl hl (by decide) rfl (fun ls hl => ?_)
  have lp_326 : ∀ (n : Nat) (zi_249 : Int32) (zi_250 : Int32) (zI_251 : Nat → Nat → Int32) (H : Heap) (locs : List Loc) (ls : Array Slot), (6 - zi_250.toInt).toNat = n → (0 ≤ zi_249.toInt ∧ zi_249.toInt ≤ 1) → (0 ≤ zi_250.toInt ∧ zi_250.toInt ≤ 6) → (WM [505, 702, 703, 2200, 2900, 3000] AL zT zR zI zI_251) → va_P (dC, dI) vwCl (WL cy zL zT zR zI_251 zJ) H → va_D A (WL cy zL zT zR zI_251 zJ) → va_S A s.heap H locs → lv_has ls 4 [(0, .ref zr), (1, .ref zl), (2, .int zi_249), (3, .int zi_250)] → W p l e ({ frames := 5, cells := 0, slots := 0, locals := 125 } : Room) s m ([.ref zr, .ref zl] : List Value).toArray below meth c H locs 0 0 Q (F0 m 9 ls []) := by
    intro n
    induction n using Nat.strongRecOn with
    | _ n ih_326 =>
      intro zi_249 zi_250 zI_251 H locs ls hn b_zi_249 b_zi_250 h_zI_251 hP hD hS hl
      refine lv_iload_n hx hb dX6_readLaw_9 rfl (lv_at hl 3 rfl) ?_
      refine lv_bipush (v := 6) hx hb dX6_readLaw_10 (by decide) ?_
      have jn_365 : ∀  (H : Heap) (locs : List Loc) (ls : Array Slot), va_P (dC, dI) vwCl (WL cy zL zT zR zI_251 zJ) H → va_D A (WL cy zL zT zR zI_251 zJ) → va_S A s.heap H locs → lv_has ls 4 [(0, .ref zr), (1, .ref zl), (2, .int zi_249), (3, .int zi_250)] → W p l e ({ frames := 5, cells := 0, slots := 0, locals := 125 } : Room) s m ([.ref zr, .ref zl] : List Value).toArray below meth c H locs 0 0 Q (F0 m 70 ls []) := by
        intro  H locs ls  hP hD hS hl
        refine lv_aload_n hx hb dX6_readLaw_70 rfl (lv_at hl 0 rfl) ?_
        refine hj_i (ws := (WL cy zL zT zR zI_251 zJ)) (w1 := fun (u : (Nat → Nat → Int32)) => (WL cy zL zT zR u zJ)) (va_runV (As := []) (rest := []) ⟨hx, hb, hml, hown, hts⟩ (t_X6_look l dC dI cy H.size zL zT zR zI_251 zJ zr hs h_zI_251.1 t_zr) (cwV 0 hts gX6_readLaw_X6_look rfl rfl rfl (by decide +kernel) ⟨(Nat.le_of_ble_eq_true rfl), (Nat.le_of_ble_eq_true rfl)⟩) (PRE.v hP hK hD hN (ht_recv hK hP hs t_zr (by decide) rfl rfl)) rfl rfl hl.1 rfl (lv_room (Nat.le_of_ble_eq_true rfl)) dX6_readLaw_71 ⟨(Nat.le_of_ble_eq_true rfl), (Nat.le_of_ble_eq_true rfl)⟩) hP hD hS hA (fun zi_366 zI_369 H locs hw_367 hP hD hS => ?_)
        obtain ⟨k_zI_369, b_zi_366, ps_370⟩ : (WM [702] AL zT zR zI_251 zI_369) ∧ ((-1) ≤ zi_366.toInt ∧ zi_366.toInt ≤ 255) ∧ (zi_366.toInt = -1 ∨ (zI_369 zr 2).toInt ≤ 79) := hw_367
        have h_zI_369 : WM [505, 702, 703, 2200, 2900, 3000] AL zT zR zI zI_369 := h_zI_251.tr k_zI_369 (by decide) (fun _ _ => trivial)
        obtain ⟨zi_371, ezi_371⟩ : ∃ y : Int32, y = zI_369 zr 2 := ⟨_, rfl⟩
        have tzi_371 : 0 ≤ zi_371.toInt ∧ zi_371.toInt ≤ 80 := by rw [ezi_371]; exact h_zI_369.at t_zr _ rfl
        have lzi_371 : (zI_369 zr 2).toInt = zi_371.toInt := by rw [ezi_371]
        have lk_372 : (zI_369 zr 2).toInt = zi_371.toInt := congrArg Int32.toInt ezi_371.symm
        refine lv_iconst (v := (-1)) hx hb dX6_readLaw_74 (by decide) ?_
        refine lv_icmp_eq (tgt := 89) hx hb dX6_readLaw_75 (by decide) (fun c_373 => ?_) (fun c_373 => ?_)
        · have f_374 : zi_366.toInt = (-1 : Int) := ic_eq (rfl) (show ((-1) : Int32).toInt = -1 by decide) c_373
          refine lv_iconst (v := 0) hx hb dX6_readLaw_89 (by decide) ?_
          refine lv_goto (tgt := 97) hx hb dX6_readLaw_90 (by decide) ?_
          subst hQ
          exact W.iret (v := (0 : Int32)) hx hb hr (fun t ht hW => ⟨⟨(0 : Int32), zI_369, rfl, h_zI_369, ⟨by rw [ht]; exact hP, va_K.moved hW.alike hK, hD⟩⟩, hS.F ht⟩) hS.2.2 dX6_readLaw_97
        · have f_374 : ¬ (zi_366.toInt = (-1 : Int)) := ic_neq (rfl) (show ((-1) : Int32).toInt = -1 by decide) c_373
          refine lv_aload_n hx hb dX6_readLaw_78 rfl (lv_at hl 0 rfl) ?_
          refine lv_aload_n hx hb dX6_readLaw_79 rfl (lv_at hl 0 rfl) ?_
          refine ht_geti (C := RX6) (T := TX6) (N := 4) hx hb hts (by decide +kernel) hown hK hP hs t_zr (by decide) rfl rfl 2 (by decide) (hts (.fieldLink RX6 15 "DripStone$Reader" "at" "I") (by decide +kernel)) (fun _ h9 => h9) rfl dX6_readLaw_80 ?_
          refine lv_topi (fun zi_375 ezi_375 => ?_)
          obtain rfl : zi_371 = zi_375 := (ezi_375.trans ezi_371.symm).symm
          refine hj_i (ws := (WL cy zL zT zR zI_369 zJ)) (w1 := fun (u : (Nat → Nat → Int32)) => (WL cy zL zT zR u zJ)) (va_runV (As := [.int zi_371]) (rest := []) ⟨hx, hb, hml, hown, hts⟩ (t_X6_fails l dC dI cy H.size zL zT zR zI_369 zJ zr zi_371 hs h_zI_369.1 t_zr) (cwV 1 hts gX6_readLaw_X6_fails rfl rfl rfl (by decide +kernel) ⟨(Nat.le_of_ble_eq_true rfl), (Nat.le_of_ble_eq_true rfl)⟩) (PRE.v hP hK hD hN (ht_recv hK hP hs t_zr (by decide) rfl rfl)) rfl rfl hl.1 rfl (lv_room (Nat.le_of_ble_eq_true rfl)) dX6_readLaw_83 ⟨(Nat.le_of_ble_eq_true rfl), (Nat.le_of_ble_eq_true rfl)⟩) hP hD hS hA (fun zi_376 zI_379 H locs hw_377 hP hD hS => ?_)
          obtain ⟨k_zI_379, ps_380⟩ : (WM [703] AL zT zR zI_369 zI_379) ∧ (zi_376 = 0) := hw_377
          have h_zI_379 : WM [505, 702, 703, 2200, 2900, 3000] AL zT zR zI zI_379 := h_zI_369.tr k_zI_379 (by decide) (fun _ _ => trivial)
          obtain rfl : zi_376 = 0 := ps_380
          refine lv_if_eq (tgt := 93) hx hb dX6_readLaw_86 (by decide) (fun c_381 => ?_) (fun c_381 => absurd (by decide) c_381)
          refine lv_aload_n hx hb dX6_readLaw_93 rfl (lv_at hl 0 rfl) ?_
          refine ht_geti (C := RX6) (T := TX6) (N := 4) hx hb hts (by decide +kernel) hown hK hP hs t_zr (by decide) rfl rfl 3 (by decide) (hts (.fieldLink RX6 23 "DripStone$Reader" "fault" "I") (by decide +kernel)) (fun _ h9 => h9) rfl dX6_readLaw_94 ?_
          refine lv_topi (fun zi_382 ezi_382 => ?_)
          subst hQ
          exact W.iret (v := zi_382) hx hb hr (fun t ht hW => ⟨⟨zi_382, zI_379, rfl, h_zI_379, ⟨by rw [ht]; exact hP, va_K.moved hW.alike hK, hD⟩⟩, hS.F ht⟩) hS.2.2 dX6_readLaw_97
      refine lv_icmp_ge (tgt := 70) hx hb dX6_readLaw_12 (by decide) (fun c_383 => ?_) (fun c_383 => ?_)
      · have f_384 : zi_250.toInt ≥ (6 : Int) := ic_ge (rfl) (show (6 : Int32).toInt = 6 by decide) c_383
        exact jn_365  _ _ _  hP hD hS (lv_sub hl [0, 1, 2, 3] rfl)
      · have f_384 : ¬ (zi_250.toInt ≥ (6 : Int)) := ic_nge (rfl) (show (6 : Int32).toInt = 6 by decide) c_383
        refine lv_iload_n hx hb dX6_readLaw_15 rfl (lv_at hl 2 rfl) ?_
        refine lv_if_eq (tgt := 70) hx hb dX6_readLaw_16 (by decide) (fun c_385 => ?_) (fun c_385 => ?_)
        · have f_386 : zi_249.toInt = 0 := ic_eq (rfl) (by decide) c_385
          exact jn_365  _ _ _  hP hD hS (lv_sub hl [0, 1, 2, 3] rfl)
        · have f_386 : ¬ (zi_249.toInt = 0) := ic_neq (rfl) (by decide) c_385
          refine lv_aload_n hx hb dX6_readLaw_19 rfl (lv_at hl 0 rfl) ?_
          refine lv_aload_n hx hb dX6_readLaw_20 rfl (lv_at hl 1 rfl) ?_
          refine lv_iload_n hx hb dX6_readLaw_21 rfl (lv_at hl 3 rfl) ?_
          refine hj_i (ws := (WL cy zL zT zR zI_251 zJ)) (w1 := fun (u : (Nat → Nat → Int32)) => (WL cy zL zT zR u zJ)) (va_runV (As := [.ref zl, .int zi_250]) (rest := []) ⟨hx, hb, hml, hown, hts⟩ (t_X6_readClause l dC dI cy H.size zL zT zR zI_251 zJ zr zl zi_250 hs h_zI_251.1 t_zr t_zl (by omega)) (cwV 2 hts gX6_readLaw_X6_readClause rfl rfl rfl (by decide +kernel) ⟨(Nat.le_of_ble_eq_true rfl), (Nat.le_of_ble_eq_true rfl)⟩) (PRE.v hP hK hD hN (ht_recv hK hP hs t_zr (by decide) rfl rfl)) rfl rfl hl.1 rfl (lv_room (Nat.le_of_ble_eq_true rfl)) dX6_readLaw_22 ⟨(Nat.le_of_ble_eq_true rfl), (Nat.le_of_ble_eq_true rfl)⟩) hP hD hS hA (fun zi_387 zI_390 H locs hw_388 hP hD hS => ?_)
          obtain ⟨k_zI_390, b_zi_387⟩ : (WM [702, 703, 2200, 2900, 3000] AL zT zR zI_251 zI_390) ∧ (0 ≤ zi_387.toInt ∧ zi_387.toInt ≤ 1) := hw_388
          have h_zI_390 : WM [505, 702, 703, 2200, 2900, 3000] AL zT zR zI zI_390 := h_zI_251.tr k_zI_390 (by decide) (fun _ _ => trivial)
          refine lv_if_ne (tgt := 33) hx hb dX6_readLaw_25 (by decide) (fun c_391 => ?_) (fun c_391 => ?_)
          · have f_392 : zi_387.toInt ≠ 0 := ic_ne (rfl) (by decide) c_391
            refine lv_aload_n hx hb dX6_readLaw_33 rfl (lv_at hl 1 rfl) ?_
            refine lv_iload_n hx hb dX6_readLaw_34 rfl (lv_at hl 3 rfl) ?_
            refine lv_iconst (v := 1) hx hb dX6_readLaw_35 (by decide) ?_
            refine lv_iadd hx hb dX6_readLaw_36 ?_
            refine lv_topi (fun zi_393 ezi_393 => ?_)
            have tzi_393 : zi_393.toInt = zi_250.toInt + (1 : Int) := by rw [ezi_393]; exact tiadd (rfl) (show (1 : Int32).toInt = 1 by decide) (by omega) (by omega)
            refine ht_puti (v := zi_393) (ty := .int) (C := RX4) (T := TX4) (N := 6) hx hb hts (by decide +kernel) tyX4 tyX4_ok nmX4 hown hK hP hD hS hs t_zl (by decide) rfl rfl 5 (by decide) (hts (.fieldLink RX6 26 "DripStone$Law" "clauses" "I") (by decide +kernel)) (fun _ h9 => h9) rfl (by decide +kernel) rfl rfl rfl dX6_readLaw_37 (fun H locs hP hD hS => ?_)
            have h_zI_394 : WM [505, 702, 703, 2200, 2900, 3000] AL zT zR zI (u2 zI_390 zl 5 zi_393) := h_zI_390.put hs t_zl rfl (by omega) (by decide) (fun h => absurd h (by decide)) (by decide) trivial
            generalize uzI_394 : u2 zI_390 zl 5 zi_393 = zI_394 at hP hD h_zI_394
            refine lv_aload_n hx hb dX6_readLaw_40 rfl (lv_at hl 1 rfl) ?_
            refine ht_geti (C := RX4) (T := TX4) (N := 6) hx hb hts (by decide +kernel) hown hK hP hs t_zl (by decide) rfl rfl 5 (by decide) (hts (.fieldLink RX6 26 "DripStone$Law" "clauses" "I") (by decide +kernel)) (fun _ h9 => h9) rfl dX6_readLaw_41 ?_
            refine lv_topi (fun zi_395 ezi_395 => ?_)
            obtain rfl : zi_393 = zi_395 := (ezi_395.trans (by rw [← uzI_394]; exact u2_s)).symm
            refine lv_bipush (v := 6) hx hb dX6_readLaw_44 (by decide) ?_
            have jn_408 : ∀ (zI_407 : Nat → Nat → Int32) (H : Heap) (locs : List Loc) (ls : Array Slot), (WM [505, 702, 703, 2200, 2900, 3000] AL zT zR zI zI_407) → va_P (dC, dI) vwCl (WL cy zL zT zR zI_407 zJ) H → va_D A (WL cy zL zT zR zI_407 zJ) → va_S A s.heap H locs → lv_has ls 4 [(0, .ref zr), (1, .ref zl), (2, .int zi_249), (3, .int zi_250)] → W p l e ({ frames := 5, cells := 0, slots := 0, locals := 125 } : Room) s m ([.ref zr, .ref zl] : List Value).toArray below meth c H locs 0 0 Q (F0 m 62 ls []) := by
              intro zI_407 H locs ls h_zI_407 hP hD hS hl
              refine lv_iconst (v := 0) hx hb dX6_readLaw_62 (by decide) ?_
              refine lv_istore_n (lv' := [(2, .int 0), (0, .ref zr), (1, .ref zl), (3, .int zi_250)]) hx hb dX6_readLaw_63 rfl hl (by decide) rfl (fun ls hl => ?_)
              obtain ⟨zi_409, ezi_409⟩ : ∃ y : Int32, y = zi_250 + 1 := ⟨_, rfl⟩
              have tzi_409 : zi_409.toInt = zi_250.toInt + 1 := by rw [ezi_409]; exact tadd rfl (show (1 : Int32).toInt = 1 by decide) (by omega) (by omega)
              refine lv_iinc (v := zi_409) (lv' := [(3, .int zi_409), (2, .int 0), (0, .ref zr), (1, .ref zl)]) hx hb dX6_readLaw_64 hl (k := 3) rfl (by rw [ezi_409]; rfl) (by decide) rfl (fun ls hl => ?_)
              refine lv_goto (tgt := 9) hx hb dX6_readLaw_67 (by decide) ?_
              exact ih_326 (6 - zi_409.toInt).toNat (by omega) (0 : Int32) zi_409 zI_407 _ _ _ rfl (by decide) (by omega) h_zI_407 hP hD hS (lv_sub hl [2, 3, 1, 0] rfl)
            refine lv_icmp_ge (tgt := 62) hx hb dX6_readLaw_46 (by decide) (fun c_410 => ?_) (fun c_410 => ?_)
            · have f_411 : zi_393.toInt ≥ (6 : Int) := ic_ge (rfl) (show (6 : Int32).toInt = 6 by decide) c_410
              exact jn_408 zI_394 _ _ _ h_zI_394 hP hD hS (lv_sub hl [0, 1, 2, 3] rfl)
            · have f_411 : ¬ (zi_393.toInt ≥ (6 : Int)) := ic_nge (rfl) (show (6 : Int32).toInt = 6 by decide) c_410
              refine lv_aload_n hx hb dX6_readLaw_49 rfl (lv_at hl 0 rfl) ?_
              refine lv_bipush (v := 59) hx hb dX6_readLaw_50 (by decide) ?_
              have qc_59 : (59 : Int32).toInt = 59 := by decide
              refine hj_i (ws := (WL cy zL zT zR zI_394 zJ)) (w1 := fun (u : (Nat → Nat → Int32)) => (WL cy zL zT zR u zJ)) (va_runV (As := [.int 59]) (rest := []) ⟨hx, hb, hml, hown, hts⟩ (t_X6_reads l dC dI cy H.size zL zT zR zI_394 zJ zr (59 : Int32) hs h_zI_394.1 t_zr (by decide)) (cwV 1 hts gX6_readLaw_X6_reads rfl rfl rfl (by decide +kernel) ⟨(Nat.le_of_ble_eq_true rfl), (Nat.le_of_ble_eq_true rfl)⟩) (PRE.v hP hK hD hN (ht_recv hK hP hs t_zr (by decide) rfl rfl)) rfl rfl hl.1 rfl (lv_room (Nat.le_of_ble_eq_true rfl)) dX6_readLaw_52 ⟨(Nat.le_of_ble_eq_true rfl), (Nat.le_of_ble_eq_true rfl)⟩) hP hD hS hA (fun zi_412 zI_415 H locs hw_413 hP hD hS => ?_)
              obtain ⟨k_zI_415, b_zi_412⟩ : (WM [702] AL zT zR zI_394 zI_415) ∧ (0 ≤ zi_412.toInt ∧ zi_412.toInt ≤ 1) := hw_413
              have h_zI_415 : WM [505, 702, 703, 2200, 2900, 3000] AL zT zR zI zI_415 := h_zI_394.tr k_zI_415 (by decide) (fun _ _ => trivial)
              refine lv_if_eq (tgt := 62) hx hb dX6_readLaw_55 (by decide) (fun c_418 => ?_) (fun c_418 => ?_)
              · have f_419 : zi_412.toInt = 0 := ic_eq (rfl) (by decide) c_418
                exact jn_408 zI_415 _ _ _ h_zI_415 hP hD hS (lv_sub hl [0, 1, 2, 3] rfl)
              · have f_419 : ¬ (zi_412.toInt = 0) := ic_neq (rfl) (by decide) c_418
                refine lv_iconst (v := 1) hx hb dX6_readLaw_58 (by decide) ?_
                refine lv_goto (tgt := 63) hx hb dX6_readLaw_59 (by decide) ?_
                refine lv_istore_n (lv' := [(2, .int 1), (0, .ref zr), (1, .ref zl), (3, .int zi_250)]) hx hb dX6_readLaw_63 rfl hl (by decide) rfl (fun ls hl => ?_)
                obtain ⟨zi_420, ezi_420⟩ : ∃ y : Int32, y = zi_250 + 1 := ⟨_, rfl⟩
                have tzi_420 : zi_420.toInt = zi_250.toInt + 1 := by rw [ezi_420]; exact tadd rfl (show (1 : Int32).toInt = 1 by decide) (by omega) (by omega)
                refine lv_iinc (v := zi_420) (lv' := [(3, .int zi_420), (2, .int 1), (0, .ref zr), (1, .ref zl)]) hx hb dX6_readLaw_64 hl (k := 3) rfl (by rw [ezi_420]; rfl) (by decide) rfl (fun ls hl => ?_)
                refine lv_goto (tgt := 9) hx hb dX6_readLaw_67 (by decide) ?_
                exact ih_326 (6 - zi_420.toInt).toNat (by omega) (1 : Int32) zi_420 zI_415 _ _ _ rfl (by decide) (by omega) h_zI_415 hP hD hS (lv_sub hl [2, 3, 1, 0] rfl)
          · have f_392 : ¬ (zi_387.toInt ≠ 0) := ic_nne (rfl) (by decide) c_391
            refine lv_aload_n hx hb dX6_readLaw_28 rfl (lv_at hl 0 rfl) ?_
            refine ht_geti (C := RX6) (T := TX6) (N := 4) hx hb hts (by decide +kernel) hown hK hP hs t_zr (by decide) rfl rfl 3 (by decide) (hts (.fieldLink RX6 23 "DripStone$Reader" "fault" "I") (by decide +kernel)) (fun _ h9 => h9) rfl dX6_readLaw_29 ?_
            refine lv_topi (fun zi_421 ezi_421 => ?_)
            subst hQ
            exact W.iret (v := zi_421) hx hb hr (fun t ht hW => ⟨⟨zi_421, zI_390, rfl, h_zI_390, ⟨by rw [ht]; exact hP, va_K.moved hW.alike hK, hD⟩⟩, hS.F ht⟩) hS.2.2 dX6_readLaw_32
  exact lp_326 _ (1 : Int32) (0 : Int32) zI_1 _ _ _ rfl (by decide) (by decide) h_zI_1 hP hD hS (lv_sub hl [2, 3, 1, 0] rfl)
set_option maxHeartbeats 8000000 in
set_option maxRecDepth 100000 in
theorem t_X6_readWeight (l : Launch) (dC : Nat → ClassId) (dI : Nat → Nat → Nat) (cy : Nat → ClassId) (sz : Nat) (zL : List Nat) (zT : Nat → Nat) (zR : Nat → Nat → Nat) (zI : Nat → Nat → Int32) (zJ : Nat → Nat → Int64) (zr : Nat) (zm : Nat) (zia : Int32) (hs : SKP zL zT zR) (hw : WT zT zR zI) (t_zr : zT zr = 7) (t_zm : zT zm = 2) (b_zia : 0 ≤ zia.toInt ∧ zia.toInt ≤ 1) : Met l yX6_readWeight wsX6_readWeight ({ frames := 3, cells := 0, slots := 0, locals := 62 } : Room) (va_Pc [.ref zr, .ref zm, .int zia] (PRE dC dI cy (WL cy zL zT zR zI zJ) sz)) (va_Qi (fun (r : Int32) (u : (Nat → Nat → Int32)) => (WM [702, 703, 3100] AL zT zR zI u) ∧ (0 ≤ r.toInt ∧ r.toInt ≤ 1)) (fun u t => POST dC dI cy (va_A (WL cy zL zT zR zI zJ) sz) (WL cy zL zT zR u zJ) t) (va_A (WL cy zL zT zR zI zJ) sz)) 0 0 (va_A (WL cy zL zT zR zI zJ) sz) := by
  refine Met.ofW (cc := cX6_readWeight) (maxL := 6) (ret := (some .boolean)) (by decide) rfl ?_
  intro p e s m args below meth c s₁ B hml hv
  obtain ⟨rfl, hsz, hP, hK, hD0, hN⟩ := hv
  have hx := B.exec
  have hb := B.bytes
  have hr := B.returns
  have hts := atoms_spec (ws := wsX6_readWeight) B.pre
  have hown : s.vm.findClass RX6 = some m.cls := findClass_of_methodNamed B.named
  have hlocks := B.notSynchronized
  subst hsz
  have hD := hD0.self (sz := s.heap.size)
  generalize hAe : va_A (WL cy zL zT zR zI zJ) s.heap.size = A at hD ⊢
  have hA : ∀ q : Nat, s.heap.size ≤ q → A q := fun q h => by rw [← hAe]; exact Or.inr h
  have hS : va_S A s.heap s.heap [] := va_S.rf
  have hP : va_P (dC, dI) vwCl (WL cy zL zT zR zI zJ) s.heap := hP
  have hl := lv_entry ([.ref zr, .ref zm, .int zia] : List Value) (n := 6) (Nat.le_of_ble_eq_true rfl)
  rw [lg_entry_eq]
  generalize (lg_sl ([.ref zr, .ref zm, .int zia] : List Value) ++ List.replicate (6 - (lg_sl ([.ref zr, .ref zm, .int zia] : List Value)).length) Slot.unset).toArray = ls at hl ⊢
  have hl : lv_has ls 6 [(0, .ref zr), (1, .ref zm), (2, .int zia)] := hl
  refine w_q (fun Q hQ => ?_)
  have h_zI : WM [702, 703, 3100] AL zT zR zI zI := WM.rf hw
  refine lv_aload_n hx hb dX6_readWeight_0 rfl (lv_at hl 0 rfl) ?_
  refine lv_bipush (v := 119) hx hb dX6_readWeight_1 (by decide) ?_
  have qc_119 : (119 : Int32).toInt = 119 := by decide
  refine hj_i (ws := (WL cy zL zT zR zI zJ)) (w1 := fun (u : (Nat → Nat → Int32)) => (WL cy zL zT zR u zJ)) (va_runV (As := [.int 119]) (rest := []) ⟨hx, hb, hml, hown, hts⟩ (t_X6_wants l dC dI cy s.heap.size zL zT zR zI zJ zr (119 : Int32) hs h_zI.1 t_zr (by decide)) (cwV 1 hts gX6_readWeight_X6_wants rfl rfl rfl (by decide +kernel) ⟨(Nat.le_of_ble_eq_true rfl), (Nat.le_of_ble_eq_true rfl)⟩) (PRE.v hP hK hD hN (ht_recv hK hP hs t_zr (by decide) rfl rfl)) rfl rfl hl.1 rfl (lv_room (Nat.le_of_ble_eq_true rfl)) dX6_readWeight_3 ⟨(Nat.le_of_ble_eq_true rfl), (Nat.le_of_ble_eq_true rfl)⟩) hP hD hS hA (fun zi_1 zI_4 H locs hw_2 hP hD hS => ?_)
  obtain ⟨k_zI_4, b_zi_1⟩ : (WM [702, 703] AL zT zR zI zI_4) ∧ (0 ≤ zi_1.toInt ∧ zi_1.toInt ≤ 1) := hw_2
  have h_zI_4 : WM [702, 703, 3100] AL zT zR zI zI_4 := h_zI.tr k_zI_4 (by decide) (fun _ _ => trivial)
  refine lv_if_ne (tgt := 11) hx hb dX6_readWeight_6 (by decide) (fun c_5 => ?_) (fun c_5 => ?_)
  · have f_6 : zi_1.toInt ≠ 0 := ic_ne (rfl) (by decide) c_5
    refine lv_aload_n hx hb dX6_readWeight_11 rfl (lv_at hl 1 rfl) ?_
    refine ht_getr (C := RX1) (T := TX1) (N := 8) hx hb hts (by decide +kernel) hown hK hP hs t_zm (by decide) rfl rfl 0 (by decide) (hts (.fieldLink RX6 88 "DripStone$Claim" "tests" "[I") (by decide +kernel)) (fun _ h9 => h9) rfl dX6_readWeight_12 ?_
    have t_7 : zT (zR zm 0) = 31 := sk_f hs t_zm (by decide) rfl (by decide)
    refine lv_iload_n hx hb dX6_readWeight_15 rfl (lv_at hl 2 rfl) ?_
    refine lv_aload_n hx hb dX6_readWeight_16 rfl (lv_at hl 0 rfl) ?_
    refine hj_i (ws := (WL cy zL zT zR zI_4 zJ)) (w1 := fun (u : (Nat → Nat → Int32)) => (WL cy zL zT zR u zJ)) (va_runV (As := []) (rest := [.int zia, .ref (zR zm 0)]) ⟨hx, hb, hml, hown, hts⟩ (t_X6_look l dC dI cy H.size zL zT zR zI_4 zJ zr hs h_zI_4.1 t_zr) (cwV 0 hts gX6_readWeight_X6_look rfl rfl rfl (by decide +kernel) ⟨(Nat.le_of_ble_eq_true rfl), (Nat.le_of_ble_eq_true rfl)⟩) (PRE.v hP hK hD hN (ht_recv hK hP hs t_zr (by decide) rfl rfl)) rfl rfl hl.1 rfl (lv_room (Nat.le_of_ble_eq_true rfl)) dX6_readWeight_17 ⟨(Nat.le_of_ble_eq_true rfl), (Nat.le_of_ble_eq_true rfl)⟩) hP hD hS hA (fun zi_8 zI_11 H locs hw_9 hP hD hS => ?_)
    obtain ⟨k_zI_11, b_zi_8, ps_12⟩ : (WM [702] AL zT zR zI_4 zI_11) ∧ ((-1) ≤ zi_8.toInt ∧ zi_8.toInt ≤ 255) ∧ (zi_8.toInt = -1 ∨ (zI_11 zr 2).toInt ≤ 79) := hw_9
    have h_zI_11 : WM [702, 703, 3100] AL zT zR zI zI_11 := h_zI_4.tr k_zI_11 (by decide) (fun _ _ => trivial)
    obtain ⟨zi_13, ezi_13⟩ : ∃ y : Int32, y = zI_11 zr 2 := ⟨_, rfl⟩
    have tzi_13 : 0 ≤ zi_13.toInt ∧ zi_13.toInt ≤ 80 := by rw [ezi_13]; exact h_zI_11.at t_zr _ rfl
    have lzi_13 : (zI_11 zr 2).toInt = zi_13.toInt := by rw [ezi_13]
    have lk_14 : (zI_11 zr 2).toInt = zi_13.toInt := congrArg Int32.toInt ezi_13.symm
    refine ht_iast (v := zi_8) (n := 2) (q := 0) hx hb hK hP hD hS hs t_7 (by decide) rfl rfl ⟨by omega, by omega⟩ dX6_readWeight_20 (fun H locs hP hD hS => ?_)
    have h_zI_15 : WM [702, 703, 3100] AL zT zR zI (u2 zI_11 (zR zm 0) zia.toNatClampNeg zi_8) := h_zI_11.putA hs t_7 rfl (rgF _) (by decide) (fun h => absurd h (by decide)) (by decide) trivial
    generalize uzI_15 : u2 zI_11 (zR zm 0) zia.toNatClampNeg zi_8 = zI_15 at hP hD h_zI_15
    refine lv_aload_n hx hb dX6_readWeight_21 rfl (lv_at hl 0 rfl) ?_
    refine lv_bipush (v := 60) hx hb dX6_readWeight_22 (by decide) ?_
    have qc_60 : (60 : Int32).toInt = 60 := by decide
    refine hj_i (ws := (WL cy zL zT zR zI_15 zJ)) (w1 := fun (u : (Nat → Nat → Int32)) => (WL cy zL zT zR u zJ)) (va_runV (As := [.int 60]) (rest := []) ⟨hx, hb, hml, hown, hts⟩ (t_X6_reads l dC dI cy H.size zL zT zR zI_15 zJ zr (60 : Int32) hs h_zI_15.1 t_zr (by decide)) (cwV 1 hts gX6_readWeight_X6_reads rfl rfl rfl (by decide +kernel) ⟨(Nat.le_of_ble_eq_true rfl), (Nat.le_of_ble_eq_true rfl)⟩) (PRE.v hP hK hD hN (ht_recv hK hP hs t_zr (by decide) rfl rfl)) rfl rfl hl.1 rfl (lv_room (Nat.le_of_ble_eq_true rfl)) dX6_readWeight_24 ⟨(Nat.le_of_ble_eq_true rfl), (Nat.le_of_ble_eq_true rfl)⟩) hP hD hS hA (fun zi_16 zI_19 H locs hw_17 hP hD hS => ?_)
    obtain ⟨k_zI_19, b_zi_16⟩ : (WM [702] AL zT zR zI_15 zI_19) ∧ (0 ≤ zi_16.toInt ∧ zi_16.toInt ≤ 1) := hw_17
    have h_zI_19 : WM [702, 703, 3100] AL zT zR zI zI_19 := h_zI_15.tr k_zI_19 (by decide) (fun _ _ => trivial)
    have jn_35 : ∀ (zI_34 : Nat → Nat → Int32) (H : Heap) (locs : List Loc) (ls : Array Slot), (WM [702, 703, 3100] AL zT zR zI zI_34) → va_P (dC, dI) vwCl (WL cy zL zT zR zI_34 zJ) H → va_D A (WL cy zL zT zR zI_34 zJ) → va_S A s.heap H locs → lv_has ls 6 [(0, .ref zr), (1, .ref zm), (2, .int zia)] → W p l e ({ frames := 3, cells := 0, slots := 0, locals := 62 } : Room) s m ([.ref zr, .ref zm, .int zia] : List Value).toArray below meth c H locs 0 0 Q (F0 m 48 ls []) := by
      intro zI_34 H locs ls h_zI_34 hP hD hS hl
      refine lv_aload_n hx hb dX6_readWeight_48 rfl (lv_at hl 0 rfl) ?_
      refine hj_i (ws := (WL cy zL zT zR zI_34 zJ)) (w1 := fun (u : (Nat → Nat → Int32)) => (WL cy zL zT zR u zJ)) (va_runV (As := []) (rest := []) ⟨hx, hb, hml, hown, hts⟩ (t_X6_look l dC dI cy H.size zL zT zR zI_34 zJ zr hs h_zI_34.1 t_zr) (cwV 0 hts gX6_readWeight_X6_look rfl rfl rfl (by decide +kernel) ⟨(Nat.le_of_ble_eq_true rfl), (Nat.le_of_ble_eq_true rfl)⟩) (PRE.v hP hK hD hN (ht_recv hK hP hs t_zr (by decide) rfl rfl)) rfl rfl hl.1 rfl (lv_room (Nat.le_of_ble_eq_true rfl)) dX6_readWeight_49 ⟨(Nat.le_of_ble_eq_true rfl), (Nat.le_of_ble_eq_true rfl)⟩) hP hD hS hA (fun zi_36 zI_39 H locs hw_37 hP hD hS => ?_)
      obtain ⟨k_zI_39, b_zi_36, ps_40⟩ : (WM [702] AL zT zR zI_34 zI_39) ∧ ((-1) ≤ zi_36.toInt ∧ zi_36.toInt ≤ 255) ∧ (zi_36.toInt = -1 ∨ (zI_39 zr 2).toInt ≤ 79) := hw_37
      have h_zI_39 : WM [702, 703, 3100] AL zT zR zI zI_39 := h_zI_34.tr k_zI_39 (by decide) (fun _ _ => trivial)
      obtain ⟨zi_41, ezi_41⟩ : ∃ y : Int32, y = zI_39 zr 2 := ⟨_, rfl⟩
      have tzi_41 : 0 ≤ zi_41.toInt ∧ zi_41.toInt ≤ 80 := by rw [ezi_41]; exact h_zI_39.at t_zr _ rfl
      have lzi_41 : (zI_39 zr 2).toInt = zi_41.toInt := by rw [ezi_41]
      have lk_42 : (zI_39 zr 2).toInt = zi_41.toInt := congrArg Int32.toInt ezi_41.symm
      refine lv_pop hx hb dX6_readWeight_52 rfl ?_
      refine lv_aload_n hx hb dX6_readWeight_53 rfl (lv_at hl 0 rfl) ?_
      refine ht_geti (C := RX6) (T := TX6) (N := 4) hx hb hts (by decide +kernel) hown hK hP hs t_zr (by decide) rfl rfl 2 (by decide) (hts (.fieldLink RX6 15 "DripStone$Reader" "at" "I") (by decide +kernel)) (fun _ h9 => h9) rfl dX6_readWeight_54 ?_
      refine lv_topi (fun zi_43 ezi_43 => ?_)
      obtain rfl : zi_41 = zi_43 := (ezi_43.trans ezi_41.symm).symm
      refine lv_istore_n (lv' := [(3, .int zi_41), (0, .ref zr), (1, .ref zm), (2, .int zia)]) hx hb dX6_readWeight_57 rfl hl (by decide) rfl (fun ls hl => ?_)
      refine lv_aload_n hx hb dX6_readWeight_58 rfl (lv_at hl 1 rfl) ?_
      refine lv_bipush (v := 45) hx hb dX6_readWeight_59 (by decide) ?_
      have qc_45 : (45 : Int32).toInt = 45 := by decide
      refine hj_i (ws := (WL cy zL zT zR zI_39 zJ)) (w1 := fun (u : (Nat → Nat → Int32)) => (WL cy zL zT zR u zJ)) (va_runV (As := [.int 45]) (rest := []) ⟨hx, hb, hml, hown, hts⟩ (t_X6_reads l dC dI cy H.size zL zT zR zI_39 zJ zr (45 : Int32) hs h_zI_39.1 t_zr (by decide)) (cwV 1 hts gX6_readWeight_X6_reads rfl rfl rfl (by decide +kernel) ⟨(Nat.le_of_ble_eq_true rfl), (Nat.le_of_ble_eq_true rfl)⟩) (PRE.v hP hK hD hN (ht_recv hK hP hs t_zr (by decide) rfl rfl)) rfl rfl hl.1 rfl (lv_room (Nat.le_of_ble_eq_true rfl)) dX6_readWeight_61 ⟨(Nat.le_of_ble_eq_true rfl), (Nat.le_of_ble_eq_true rfl)⟩) hP hD hS hA (fun zi_44 zI_47 H locs hw_45 hP hD hS => ?_)
      obtain ⟨k_zI_47, b_zi_44⟩ : (WM [702] AL zT zR zI_39 zI_47) ∧ (0 ≤ zi_44.toInt ∧ zi_44.toInt ≤ 1) := hw_45
      have h_zI_47 : WM [702, 703, 3100] AL zT zR zI zI_47 := h_zI_39.tr k_zI_47 (by decide) (fun _ _ => trivial)
      refine lv_istore (lv' := [(4, .int zi_44), (3, .int zi_41), (0, .ref zr), (1, .ref zm), (2, .int zia)]) hx hb dX6_readWeight_64 hl (by decide) rfl (fun ls hl => ?_)
      refine lv_aload_n hx hb dX6_readWeight_66 rfl (lv_at hl 2 rfl) ?_
      refine lv_iload_n hx hb dX6_readWeight_67 rfl (lv_at hl 1 rfl) ?_
      refine lv_iconst (v := 0) hx hb dX6_readWeight_68 (by decide) ?_
      refine lv_bipush (v := 50) hx hb dX6_readWeight_69 (by decide) ?_
      have qc_0 : (0 : Int32).toInt = 0 := by decide
      have qc_50 : (50 : Int32).toInt = 50 := by decide
      refine hj_i (ws := (WL cy zL zT zR zI_47 zJ)) (w1 := fun (u : (Nat → Nat → Int32)) => (WL cy zL zT zR u zJ)) (va_runV (As := [.int zi_41, .int 0, .int 50]) (rest := []) ⟨hx, hb, hml, hown, hts⟩ (t_X6_readNumberOf l dC dI cy H.size zL zT zR zI_47 zJ zr zi_41 (0 : Int32) (50 : Int32) hs h_zI_47.1 t_zr (by decide) (by decide)) (cwV 3 hts gX6_readWeight_X6_readNumberOf rfl rfl rfl (by decide +kernel) ⟨(Nat.le_of_ble_eq_true rfl), (Nat.le_of_ble_eq_true rfl)⟩) (PRE.v hP hK hD hN (ht_recv hK hP hs t_zr (by decide) rfl rfl)) rfl rfl hl.1 rfl (lv_room (Nat.le_of_ble_eq_true rfl)) dX6_readWeight_71 ⟨(Nat.le_of_ble_eq_true rfl), (Nat.le_of_ble_eq_true rfl)⟩) hP hD hS hA (fun zi_48 zI_51 H locs hw_49 hP hD hS => ?_)
      obtain ⟨k_zI_51, b_zi_48, ps_52⟩ : (WM [702, 703] AL zT zR zI_47 zI_51) ∧ ((-1) ≤ zi_48.toInt ∧ zi_48.toInt ≤ 1000) ∧ (zi_48.toInt = -1 ∨ ((0 : Int32).toInt ≤ zi_48.toInt ∧ zi_48.toInt ≤ (50 : Int32).toInt)) := hw_49
      have h_zI_51 : WM [702, 703, 3100] AL zT zR zI zI_51 := h_zI_47.tr k_zI_51 (by decide) (fun _ _ => trivial)
      have b8_zi_48 : (-1) ≤ zi_48.toInt ∧ zi_48.toInt ≤ 50 := by omega
      refine lv_istore (lv' := [(5, .int zi_48), (4, .int zi_44), (3, .int zi_41), (0, .ref zr), (1, .ref zm), (2, .int zia)]) hx hb dX6_readWeight_74 hl (by decide) rfl (fun ls hl => ?_)
      refine lv_aload_n hx hb dX6_readWeight_76 rfl (lv_at hl 4 rfl) ?_
      refine ht_getr (C := RX1) (T := TX1) (N := 8) hx hb hts (by decide +kernel) hown hK hP hs t_zm (by decide) rfl rfl 1 (by decide) (hts (.fieldLink RX6 107 "DripStone$Claim" "weights" "[I") (by decide +kernel)) (fun _ h9 => h9) rfl dX6_readWeight_77 ?_
      have t_53 : zT (zR zm 1) = 31 := sk_f hs t_zm (by decide) rfl (by decide)
      refine lv_iload_n hx hb dX6_readWeight_80 rfl (lv_at hl 5 rfl) ?_
      refine lv_iload hx hb dX6_readWeight_81 (lv_at hl 1 rfl) ?_
      have jn_58 : ∀ (zi_57 : Int32) (H : Heap) (locs : List Loc) (ls : Array Slot), ((-50) ≤ zi_57.toInt ∧ zi_57.toInt ≤ 50) → va_P (dC, dI) vwCl (WL cy zL zT zR zI_51 zJ) H → va_D A (WL cy zL zT zR zI_51 zJ) → va_S A s.heap H locs → lv_has ls 6 [(0, .ref zr), (1, .ref zm), (2, .int zia), (3, .int zi_41), (4, .int zi_44), (5, .int zi_48)] → W p l e ({ frames := 3, cells := 0, slots := 0, locals := 62 } : Room) s m ([.ref zr, .ref zm, .int zia] : List Value).toArray below meth c H locs 0 0 Q (F0 m 94 ls [.int zi_57, .int zia, .ref (zR zm 1)]) := by
        intro zi_57 H locs ls b_zi_57 hP hD hS hl
        refine ht_iast (v := zi_57) (n := 2) (q := 0) hx hb hK hP hD hS hs t_53 (by decide) rfl rfl ⟨by omega, by omega⟩ dX6_readWeight_94 (fun H locs hP hD hS => ?_)
        have h_zI_59 : WM [702, 703, 3100] AL zT zR zI (u2 zI_51 (zR zm 1) zia.toNatClampNeg zi_57) := h_zI_51.putA hs t_53 rfl (rgF _) (by decide) (fun h => absurd h (by decide)) (by decide) trivial
        generalize uzI_59 : u2 zI_51 (zR zm 1) zia.toNatClampNeg zi_57 = zI_59 at hP hD h_zI_59
        refine lv_iload hx hb dX6_readWeight_95 (lv_at hl 5 rfl) ?_
        refine lv_if_lt (tgt := 104) hx hb dX6_readWeight_97 (by decide) (fun c_60 => ?_) (fun c_60 => ?_)
        · have f_61 : zi_48.toInt < 0 := ic_lt (rfl) (by decide) c_60
          refine lv_iconst (v := 0) hx hb dX6_readWeight_104 (by decide) ?_
          subst hQ
          exact W.zret (v := (0 : Int32)) hx hb hr rfl (fun t ht hW => ⟨⟨(0 : Int32), zI_59, rfl, ⟨h_zI_59, (show 0 ≤ (0 : Int32).toInt ∧ (0 : Int32).toInt ≤ 1 from by omega)⟩, ⟨by rw [ht]; exact hP, va_K.moved hW.alike hK, hD⟩⟩, hS.F ht⟩) hS.2.2 dX6_readWeight_105
        · have f_61 : ¬ (zi_48.toInt < 0) := ic_nlt (rfl) (by decide) c_60
          refine lv_iconst (v := 1) hx hb dX6_readWeight_100 (by decide) ?_
          refine lv_goto (tgt := 105) hx hb dX6_readWeight_101 (by decide) ?_
          subst hQ
          have qc_1 : (1 : Int32).toInt = 1 := by decide
          exact W.zret (v := (1 : Int32)) hx hb hr rfl (fun t ht hW => ⟨⟨(1 : Int32), zI_59, rfl, ⟨h_zI_59, (show 0 ≤ (1 : Int32).toInt ∧ (1 : Int32).toInt ≤ 1 from by omega)⟩, ⟨by rw [ht]; exact hP, va_K.moved hW.alike hK, hD⟩⟩, hS.F ht⟩) hS.2.2 dX6_readWeight_105
      refine lv_if_eq (tgt := 92) hx hb dX6_readWeight_83 (by decide) (fun c_62 => ?_) (fun c_62 => ?_)
      · have f_63 : zi_44.toInt = 0 := ic_eq (rfl) (by decide) c_62
        refine lv_iload hx hb dX6_readWeight_92 (lv_at hl 0 rfl) ?_
        exact jn_58 zi_48 _ _ _ (by omega) hP hD hS (lv_sub hl [3, 4, 5, 2, 1, 0] rfl)
      · have f_63 : ¬ (zi_44.toInt = 0) := ic_neq (rfl) (by decide) c_62
        refine lv_iload hx hb dX6_readWeight_86 (lv_at hl 0 rfl) ?_
        refine lv_ineg hx hb dX6_readWeight_88 ?_
        refine lv_topi (fun zi_64 ezi_64 => ?_)
        have tzi_64 : zi_64.toInt = - zi_48.toInt := by rw [ezi_64]; exact tineg rfl (by omega)
        refine lv_goto (tgt := 94) hx hb dX6_readWeight_89 (by decide) ?_
        exact jn_58 zi_64 _ _ _ (by omega) hP hD hS (lv_sub hl [3, 4, 5, 2, 1, 0] rfl)
    refine lv_if_ne (tgt := 48) hx hb dX6_readWeight_27 (by decide) (fun c_65 => ?_) (fun c_65 => ?_)
    · have f_66 : zi_16.toInt ≠ 0 := ic_ne (rfl) (by decide) c_65
      exact jn_35 zI_19 _ _ _ h_zI_19 hP hD hS (lv_sub hl [0, 1, 2] rfl)
    · have f_66 : ¬ (zi_16.toInt ≠ 0) := ic_nne (rfl) (by decide) c_65
      refine lv_aload_n hx hb dX6_readWeight_30 rfl (lv_at hl 0 rfl) ?_
      refine lv_bipush (v := 62) hx hb dX6_readWeight_31 (by decide) ?_
      have qc_62 : (62 : Int32).toInt = 62 := by decide
      refine hj_i (ws := (WL cy zL zT zR zI_19 zJ)) (w1 := fun (u : (Nat → Nat → Int32)) => (WL cy zL zT zR u zJ)) (va_runV (As := [.int 62]) (rest := []) ⟨hx, hb, hml, hown, hts⟩ (t_X6_reads l dC dI cy H.size zL zT zR zI_19 zJ zr (62 : Int32) hs h_zI_19.1 t_zr (by decide)) (cwV 1 hts gX6_readWeight_X6_reads rfl rfl rfl (by decide +kernel) ⟨(Nat.le_of_ble_eq_true rfl), (Nat.le_of_ble_eq_true rfl)⟩) (PRE.v hP hK hD hN (ht_recv hK hP hs t_zr (by decide) rfl rfl)) rfl rfl hl.1 rfl (lv_room (Nat.le_of_ble_eq_true rfl)) dX6_readWeight_33 ⟨(Nat.le_of_ble_eq_true rfl), (Nat.le_of_ble_eq_true rfl)⟩) hP hD hS hA (fun zi_67 zI_70 H locs hw_68 hP hD hS => ?_)
      obtain ⟨k_zI_70, b_zi_67⟩ : (WM [702] AL zT zR zI_19 zI_70) ∧ (0 ≤ zi_67.toInt ∧ zi_67.toInt ≤ 1) := hw_68
      have h_zI_70 : WM [702, 703, 3100] AL zT zR zI zI_70 := h_zI_19.tr k_zI_70 (by decide) (fun _ _ => trivial)
      refine lv_if_ne (tgt := 48) hx hb dX6_readWeight_36 (by decide) (fun c_71 => ?_) (fun c_71 => ?_)
      · have f_72 : zi_67.toInt ≠ 0 := ic_ne (rfl) (by decide) c_71
        exact jn_35 zI_70 _ _ _ h_zI_70 hP hD hS (lv_sub hl [0, 1, 2] rfl)
      · have f_72 : ¬ (zi_67.toInt ≠ 0) := ic_nne (rfl) (by decide) c_71
        refine lv_aload_n hx hb dX6_readWeight_39 rfl (lv_at hl 0 rfl) ?_
        refine lv_aload_n hx hb dX6_readWeight_40 rfl (lv_at hl 0 rfl) ?_
        refine ht_geti (C := RX6) (T := TX6) (N := 4) hx hb hts (by decide +kernel) hown hK hP hs t_zr (by decide) rfl rfl 2 (by decide) (hts (.fieldLink RX6 15 "DripStone$Reader" "at" "I") (by decide +kernel)) (fun _ h9 => h9) rfl dX6_readWeight_41 ?_
        refine lv_topi (fun zi_73 ezi_73 => ?_)
        have tzi_73 : 0 ≤ zi_73.toInt ∧ zi_73.toInt ≤ 80 := by rw [ezi_73]; exact h_zI_70.at t_zr _ rfl
        have lzi_73 : (zI_70 zr 2).toInt = zi_73.toInt := by rw [ezi_73]
        refine hj_i (ws := (WL cy zL zT zR zI_70 zJ)) (w1 := fun (u : (Nat → Nat → Int32)) => (WL cy zL zT zR u zJ)) (va_runV (As := [.int zi_73]) (rest := []) ⟨hx, hb, hml, hown, hts⟩ (t_X6_fails l dC dI cy H.size zL zT zR zI_70 zJ zr zi_73 hs h_zI_70.1 t_zr) (cwV 1 hts gX6_readWeight_X6_fails rfl rfl rfl (by decide +kernel) ⟨(Nat.le_of_ble_eq_true rfl), (Nat.le_of_ble_eq_true rfl)⟩) (PRE.v hP hK hD hN (ht_recv hK hP hs t_zr (by decide) rfl rfl)) rfl rfl hl.1 rfl (lv_room (Nat.le_of_ble_eq_true rfl)) dX6_readWeight_44 ⟨(Nat.le_of_ble_eq_true rfl), (Nat.le_of_ble_eq_true rfl)⟩) hP hD hS hA (fun zi_74 zI_77 H locs hw_75 hP hD hS => ?_)
        obtain ⟨k_zI_77, ps_78⟩ : (WM [703] AL zT zR zI_70 zI_77) ∧ (zi_74 = 0) := hw_75
        have h_zI_77 : WM [702, 703, 3100] AL zT zR zI zI_77 := h_zI_70.tr k_zI_77 (by decide) (fun _ _ => trivial)
        obtain rfl : zi_74 = 0 := ps_78
        subst hQ
        have qc_0 : (0 : Int32).toInt = 0 := by decide
        exact W.zret (v := (0 : Int32)) hx hb hr rfl (fun t ht hW => ⟨⟨(0 : Int32), zI_77, rfl, ⟨h_zI_77, (show 0 ≤ (0 : Int32).toInt ∧ (0 : Int32).toInt ≤ 1 from by omega)⟩, ⟨by rw [ht]; exact hP, va_K.moved hW.alike hK, hD⟩⟩, hS.F ht⟩) hS.2.2 dX6_readWeight_47
  · have f_6 : ¬ (zi_1.toInt ≠ 0) := ic_nne (rfl) (by decide) c_5
    refine lv_iconst (v := 0) hx hb dX6_readWeight_9 (by decide) ?_
    subst hQ
    have qc_0 : (0 : Int32).toInt = 0 := by decide
    exact W.zret (v := (0 : Int32)) hx hb hr rfl (fun t ht hW => ⟨⟨(0 : Int32), zI_4, rfl, ⟨h_zI_4, (show 0 ≤ (0 : Int32).toInt ∧ (0 : Int32).toInt ≤ 1 from by omega)⟩, ⟨by rw [ht]; exact hP, va_K.moved hW.alike hK, hD⟩⟩, hS.F ht⟩) hS.2.2 dX6_readWeight_10
set_option maxHeartbeats 8000000 in
set_option maxRecDepth 100000 in
theorem t_X6_readAtom (l : Launch) (dC : Nat → ClassId) (dI : Nat → Nat → Nat) (cy : Nat → ClassId) (sz : Nat) (zL : List Nat) (zT : Nat → Nat) (zR : Nat → Nat → Nat) (zI : Nat → Nat → Int32) (zJ : Nat → Nat → Int64) (zr : Nat) (zm : Nat) (zia : Int32) (hs : SKP zL zT zR) (hw : WT zT zR zI) (t_zr : zT zr = 7) (t_zm : zT zm = 2) (b_zia : 0 ≤ zia.toInt ∧ zia.toInt ≤ 1) : Met l yX6_readAtom wsX6_readAtom ({ frames := 4, cells := 0, slots := 0, locals := 87 } : Room) (va_Pc [.ref zr, .ref zm, .int zia] (PRE dC dI cy (WL cy zL zT zR zI zJ) sz)) (va_Qi (fun (r : Int32) (u : (Nat → Nat → Int32)) => (WM [702, 703, 3100, 3200, 3300] AL zT zR zI u) ∧ (0 ≤ r.toInt ∧ r.toInt ≤ 1)) (fun u t => POST dC dI cy (va_A (WL cy zL zT zR zI zJ) sz) (WL cy zL zT zR u zJ) t) (va_A (WL cy zL zT zR zI zJ) sz)) 0 0 (va_A (WL cy zL zT zR zI zJ) sz) := by
  refine Met.ofW (cc := cX6_readAtom) (maxL := 3) (ret := (some .boolean)) (by decide) rfl ?_
  intro p e s m args below meth c s₁ B hml hv
  obtain ⟨rfl, hsz, hP, hK, hD0, hN⟩ := hv
  have hx := B.exec
  have hb := B.bytes
  have hr := B.returns
  have hts := atoms_spec (ws := wsX6_readAtom) B.pre
  have hown : s.vm.findClass RX6 = some m.cls := findClass_of_methodNamed B.named
  have hlocks := B.notSynchronized
  subst hsz
  have hD := hD0.self (sz := s.heap.size)
  generalize hAe : va_A (WL cy zL zT zR zI zJ) s.heap.size = A at hD ⊢
  have hA : ∀ q : Nat, s.heap.size ≤ q → A q := fun q h => by rw [← hAe]; exact Or.inr h
  have hS : va_S A s.heap s.heap [] := va_S.rf
  have hP : va_P (dC, dI) vwCl (WL cy zL zT zR zI zJ) s.heap := hP
  have hl := lv_entry ([.ref zr, .ref zm, .int zia] : List Value) (n := 3) (Nat.le_of_ble_eq_true rfl)
  rw [lg_entry_eq]
  generalize (lg_sl ([.ref zr, .ref zm, .int zia] : List Value) ++ List.replicate (3 - (lg_sl ([.ref zr, .ref zm, .int zia] : List Value)).length) Slot.unset).toArray = ls at hl ⊢
  have hl : lv_has ls 3 [(0, .ref zr), (1, .ref zm), (2, .int zia)] := hl
  refine w_q (fun Q hQ => ?_)
  have h_zI : WM [702, 703, 3100, 3200, 3300] AL zT zR zI zI := WM.rf hw
  refine lv_aload_n hx hb dX6_readAtom_0 rfl (lv_at hl 1 rfl) ?_
  refine ht_getr (C := RX1) (T := TX1) (N := 8) hx hb hts (by decide +kernel) hown hK hP hs t_zm (by decide) rfl rfl 5 (by decide) (hts (.fieldLink RX6 84 "DripStone$Claim" "negated" "[Z") (by decide +kernel)) (fun _ h9 => h9) rfl dX6_readAtom_1 ?_
  have t_1 : zT (zR zm 5) = 33 := sk_f hs t_zm (by decide) rfl (by decide)
  refine lv_iload_n hx hb dX6_readAtom_4 rfl (lv_at hl 2 rfl) ?_
  refine lv_aload_n hx hb dX6_readAtom_5 rfl (lv_at hl 0 rfl) ?_
  refine lv_bipush (v := 33) hx hb dX6_readAtom_6 (by decide) ?_
  have qc_33 : (33 : Int32).toInt = 33 := by decide
  refine hj_i (ws := (WL cy zL zT zR zI zJ)) (w1 := fun (u : (Nat → Nat → Int32)) => (WL cy zL zT zR u zJ)) (va_runV (As := [.int 33]) (rest := [.int zia, .ref (zR zm 5)]) ⟨hx, hb, hml, hown, hts⟩ (t_X6_reads l dC dI cy s.heap.size zL zT zR zI zJ zr (33 : Int32) hs h_zI.1 t_zr (by decide)) (cwV 1 hts gX6_readAtom_X6_reads rfl rfl rfl (by decide +kernel) ⟨(Nat.le_of_ble_eq_true rfl), (Nat.le_of_ble_eq_true rfl)⟩) (PRE.v hP hK hD hN (ht_recv hK hP hs t_zr (by decide) rfl rfl)) rfl rfl hl.1 rfl (lv_room (Nat.le_of_ble_eq_true rfl)) dX6_readAtom_8 ⟨(Nat.le_of_ble_eq_true rfl), (Nat.le_of_ble_eq_true rfl)⟩) hP hD hS hA (fun zi_2 zI_5 H locs hw_3 hP hD hS => ?_)
  obtain ⟨k_zI_5, b_zi_2⟩ : (WM [702] AL zT zR zI zI_5) ∧ (0 ≤ zi_2.toInt ∧ zi_2.toInt ≤ 1) := hw_3
  have h_zI_5 : WM [702, 703, 3100, 3200, 3300] AL zT zR zI zI_5 := h_zI.tr k_zI_5 (by decide) (fun _ _ => trivial)
  refine ht_zast (v := zi_2) (n := 2) (q := 2) hx hb hK hP hD hS hs t_1 (by decide) rfl rfl ⟨by omega, by omega⟩ dX6_readAtom_11 (fun H locs hP hD hS => ?_)
  have h_zI_6 : WM [702, 703, 3100, 3200, 3300] AL zT zR zI (u2 zI_5 (zR zm 5) zia.toNatClampNeg (vp_nar .boolean zi_2)) := h_zI_5.putA hs t_1 rfl (rgF _) (by decide) (fun h => absurd h (by decide)) (by decide) trivial
  generalize uzI_6 : u2 zI_5 (zR zm 5) zia.toNatClampNeg (vp_nar .boolean zi_2) = zI_6 at hP hD h_zI_6
  refine lv_aload_n hx hb dX6_readAtom_12 rfl (lv_at hl 1 rfl) ?_
  refine ht_getr (C := RX1) (T := TX1) (N := 8) hx hb hts (by decide +kernel) hown hK hP hs t_zm (by decide) rfl rfl 0 (by decide) (hts (.fieldLink RX6 88 "DripStone$Claim" "tests" "[I") (by decide +kernel)) (fun _ h9 => h9) rfl dX6_readAtom_13 ?_
  have t_7 : zT (zR zm 0) = 31 := sk_f hs t_zm (by decide) rfl (by decide)
  refine lv_iload_n hx hb dX6_readAtom_16 rfl (lv_at hl 2 rfl) ?_
  refine lv_bipush (v := 42) hx hb dX6_readAtom_17 (by decide) ?_
  refine ht_iast (v := (42 : Int32)) (n := 2) (q := 0) hx hb hK hP hD hS hs t_7 (by decide) rfl rfl ⟨by omega, by omega⟩ dX6_readAtom_19 (fun H locs hP hD hS => ?_)
  have h_zI_8 : WM [702, 703, 3100, 3200, 3300] AL zT zR zI (u2 zI_6 (zR zm 0) zia.toNatClampNeg (42 : Int32)) := h_zI_6.putA hs t_7 rfl (rgF _) (by decide) (fun h => absurd h (by decide)) (by decide) trivial
  generalize uzI_8 : u2 zI_6 (zR zm 0) zia.toNatClampNeg (42 : Int32) = zI_8 at hP hD h_zI_8
  refine lv_aload_n hx hb dX6_readAtom_20 rfl (lv_at hl 0 rfl) ?_
  refine lv_bipush (v := 42) hx hb dX6_readAtom_21 (by decide) ?_
  have qc_42 : (42 : Int32).toInt = 42 := by decide
  refine hj_i (ws := (WL cy zL zT zR zI_8 zJ)) (w1 := fun (u : (Nat → Nat → Int32)) => (WL cy zL zT zR u zJ)) (va_runV (As := [.int 42]) (rest := []) ⟨hx, hb, hml, hown, hts⟩ (t_X6_reads l dC dI cy H.size zL zT zR zI_8 zJ zr (42 : Int32) hs h_zI_8.1 t_zr (by decide)) (cwV 1 hts gX6_readAtom_X6_reads rfl rfl rfl (by decide +kernel) ⟨(Nat.le_of_ble_eq_true rfl), (Nat.le_of_ble_eq_true rfl)⟩) (PRE.v hP hK hD hN (ht_recv hK hP hs t_zr (by decide) rfl rfl)) rfl rfl hl.1 rfl (lv_room (Nat.le_of_ble_eq_true rfl)) dX6_readAtom_23 ⟨(Nat.le_of_ble_eq_true rfl), (Nat.le_of_ble_eq_true rfl)⟩) hP hD hS hA (fun zi_9 zI_12 H locs hw_10 hP hD hS => ?_)
  obtain ⟨k_zI_12, b_zi_9⟩ : (WM [702] AL zT zR zI_8 zI_12) ∧ (0 ≤ zi_9.toInt ∧ zi_9.toInt ≤ 1) := hw_10
  have h_zI_12 : WM [702, 703, 3100, 3200, 3300] AL zT zR zI zI_12 := h_zI_8.tr k_zI_12 (by decide) (fun _ _ => trivial)
  have jn_22 : ∀ (zI_21 : Nat → Nat → Int32) (H : Heap) (locs : List Loc) (ls : Array Slot), (WM [702, 703, 3100, 3200, 3300] AL zT zR zI zI_21) → va_P (dC, dI) vwCl (WL cy zL zT zR zI_21 zJ) H → va_D A (WL cy zL zT zR zI_21 zJ) → va_S A s.heap H locs → lv_has ls 3 [(0, .ref zr), (1, .ref zm), (2, .int zia)] → W p l e ({ frames := 4, cells := 0, slots := 0, locals := 87 } : Room) s m ([.ref zr, .ref zm, .int zia] : List Value).toArray below meth c H locs 0 0 Q (F0 m 40 ls []) := by
    intro zI_21 H locs ls h_zI_21 hP hD hS hl
    refine lv_aload_n hx hb dX6_readAtom_40 rfl (lv_at hl 0 rfl) ?_
    refine lv_bipush (v := 64) hx hb dX6_readAtom_41 (by decide) ?_
    have qc_64 : (64 : Int32).toInt = 64 := by decide
    refine hj_i (ws := (WL cy zL zT zR zI_21 zJ)) (w1 := fun (u : (Nat → Nat → Int32)) => (WL cy zL zT zR u zJ)) (va_runV (As := [.int 64]) (rest := []) ⟨hx, hb, hml, hown, hts⟩ (t_X6_wants l dC dI cy H.size zL zT zR zI_21 zJ zr (64 : Int32) hs h_zI_21.1 t_zr (by decide)) (cwV 1 hts gX6_readAtom_X6_wants rfl rfl rfl (by decide +kernel) ⟨(Nat.le_of_ble_eq_true rfl), (Nat.le_of_ble_eq_true rfl)⟩) (PRE.v hP hK hD hN (ht_recv hK hP hs t_zr (by decide) rfl rfl)) rfl rfl hl.1 rfl (lv_room (Nat.le_of_ble_eq_true rfl)) dX6_readAtom_43 ⟨(Nat.le_of_ble_eq_true rfl), (Nat.le_of_ble_eq_true rfl)⟩) hP hD hS hA (fun zi_23 zI_26 H locs hw_24 hP hD hS => ?_)
    obtain ⟨k_zI_26, b_zi_23⟩ : (WM [702, 703] AL zT zR zI_21 zI_26) ∧ (0 ≤ zi_23.toInt ∧ zi_23.toInt ≤ 1) := hw_24
    have h_zI_26 : WM [702, 703, 3100, 3200, 3300] AL zT zR zI zI_26 := h_zI_21.tr k_zI_26 (by decide) (fun _ _ => trivial)
    refine lv_if_ne (tgt := 51) hx hb dX6_readAtom_46 (by decide) (fun c_27 => ?_) (fun c_27 => ?_)
    · have f_28 : zi_23.toInt ≠ 0 := ic_ne (rfl) (by decide) c_27
      refine lv_aload_n hx hb dX6_readAtom_51 rfl (lv_at hl 1 rfl) ?_
      refine ht_getr (C := RX1) (T := TX1) (N := 8) hx hb hts (by decide +kernel) hown hK hP hs t_zm (by decide) rfl rfl 2 (by decide) (hts (.fieldLink RX6 94 "DripStone$Claim" "firsts" "[I") (by decide +kernel)) (fun _ h9 => h9) rfl dX6_readAtom_52 ?_
      have t_29 : zT (zR zm 2) = 31 := sk_f hs t_zm (by decide) rfl (by decide)
      refine lv_iload_n hx hb dX6_readAtom_55 rfl (lv_at hl 2 rfl) ?_
      refine lv_aload_n hx hb dX6_readAtom_56 rfl (lv_at hl 0 rfl) ?_
      refine lv_iconst (v := 0) hx hb dX6_readAtom_57 (by decide) ?_
      refine lv_bipush (v := 23) hx hb dX6_readAtom_58 (by decide) ?_
      have qc_0 : (0 : Int32).toInt = 0 := by decide
      have qc_23 : (23 : Int32).toInt = 23 := by decide
      refine hj_i (ws := (WL cy zL zT zR zI_26 zJ)) (w1 := fun (u : (Nat → Nat → Int32)) => (WL cy zL zT zR u zJ)) (va_runV (As := [.int 0, .int 23]) (rest := [.int zia, .ref (zR zm 2)]) ⟨hx, hb, hml, hown, hts⟩ (t_X6_readNumber l dC dI cy H.size zL zT zR zI_26 zJ zr (0 : Int32) (23 : Int32) hs h_zI_26.1 t_zr (by decide) (by decide)) (cwV 2 hts gX6_readAtom_X6_readNumber rfl rfl rfl (by decide +kernel) ⟨(Nat.le_of_ble_eq_true rfl), (Nat.le_of_ble_eq_true rfl)⟩) (PRE.v hP hK hD hN (ht_recv hK hP hs t_zr (by decide) rfl rfl)) rfl rfl hl.1 rfl (lv_room (Nat.le_of_ble_eq_true rfl)) dX6_readAtom_60 ⟨(Nat.le_of_ble_eq_true rfl), (Nat.le_of_ble_eq_true rfl)⟩) hP hD hS hA (fun zi_30 zI_33 H locs hw_31 hP hD hS => ?_)
      obtain ⟨k_zI_33, b_zi_30, ps_34⟩ : (WM [702, 703] AL zT zR zI_26 zI_33) ∧ ((-1) ≤ zi_30.toInt ∧ zi_30.toInt ≤ 1000) ∧ (zi_30.toInt = -1 ∨ ((0 : Int32).toInt ≤ zi_30.toInt ∧ zi_30.toInt ≤ (23 : Int32).toInt)) := hw_31
      have h_zI_33 : WM [702, 703, 3100, 3200, 3300] AL zT zR zI zI_33 := h_zI_26.tr k_zI_33 (by decide) (fun _ _ => trivial)
      have b8_zi_30 : (-1) ≤ zi_30.toInt ∧ zi_30.toInt ≤ 23 := by omega
      refine ht_iast (v := zi_30) (n := 2) (q := 0) hx hb hK hP hD hS hs t_29 (by decide) rfl rfl ⟨by omega, by omega⟩ dX6_readAtom_63 (fun H locs hP hD hS => ?_)
      have h_zI_35 : WM [702, 703, 3100, 3200, 3300] AL zT zR zI (u2 zI_33 (zR zm 2) zia.toNatClampNeg zi_30) := h_zI_33.putA hs t_29 rfl (rgF _) (by decide) (fun h => absurd h (by decide)) (by decide) trivial
      generalize uzI_35 : u2 zI_33 (zR zm 2) zia.toNatClampNeg zi_30 = zI_35 at hP hD h_zI_35
      refine lv_aload_n hx hb dX6_readAtom_64 rfl (lv_at hl 1 rfl) ?_
      refine ht_getr (C := RX1) (T := TX1) (N := 8) hx hb hts (by decide +kernel) hown hK hP hs t_zm (by decide) rfl rfl 2 (by decide) (hts (.fieldLink RX6 94 "DripStone$Claim" "firsts" "[I") (by decide +kernel)) (fun _ h9 => h9) rfl dX6_readAtom_65 ?_
      refine lv_iload_n hx hb dX6_readAtom_68 rfl (lv_at hl 2 rfl) ?_
      refine ht_iald (n := 2) (q := 0) hx hb hK hP hs t_29 (by decide) rfl rfl ⟨by omega, by omega⟩ dX6_readAtom_69 ?_
      refine lv_topi (fun zi_36 ezi_36 => ?_)
      obtain rfl : zi_30 = zi_36 := (ezi_36.trans (by rw [← uzI_35]; exact u2_s)).symm
      refine lv_if_lt (tgt := 82) hx hb dX6_readAtom_70 (by decide) (fun c_37 => ?_) (fun c_37 => ?_)
      · have f_38 : zi_30.toInt < 0 := ic_lt (rfl) (by decide) c_37
        refine lv_iconst (v := 0) hx hb dX6_readAtom_82 (by decide) ?_
        subst hQ
        exact W.zret (v := (0 : Int32)) hx hb hr rfl (fun t ht hW => ⟨⟨(0 : Int32), zI_35, rfl, ⟨h_zI_35, (show 0 ≤ (0 : Int32).toInt ∧ (0 : Int32).toInt ≤ 1 from by omega)⟩, ⟨by rw [ht]; exact hP, va_K.moved hW.alike hK, hD⟩⟩, hS.F ht⟩) hS.2.2 dX6_readAtom_83
      · have f_38 : ¬ (zi_30.toInt < 0) := ic_nlt (rfl) (by decide) c_37
        refine lv_aload_n hx hb dX6_readAtom_73 rfl (lv_at hl 0 rfl) ?_
        refine lv_bipush (v := 45) hx hb dX6_readAtom_74 (by decide) ?_
        have qc_45 : (45 : Int32).toInt = 45 := by decide
        refine hj_i (ws := (WL cy zL zT zR zI_35 zJ)) (w1 := fun (u : (Nat → Nat → Int32)) => (WL cy zL zT zR u zJ)) (va_runV (As := [.int 45]) (rest := []) ⟨hx, hb, hml, hown, hts⟩ (t_X6_wants l dC dI cy H.size zL zT zR zI_35 zJ zr (45 : Int32) hs h_zI_35.1 t_zr (by decide)) (cwV 1 hts gX6_readAtom_X6_wants rfl rfl rfl (by decide +kernel) ⟨(Nat.le_of_ble_eq_true rfl), (Nat.le_of_ble_eq_true rfl)⟩) (PRE.v hP hK hD hN (ht_recv hK hP hs t_zr (by decide) rfl rfl)) rfl rfl hl.1 rfl (lv_room (Nat.le_of_ble_eq_true rfl)) dX6_readAtom_76 ⟨(Nat.le_of_ble_eq_true rfl), (Nat.le_of_ble_eq_true rfl)⟩) hP hD hS hA (fun zi_39 zI_42 H locs hw_40 hP hD hS => ?_)
        obtain ⟨k_zI_42, b_zi_39⟩ : (WM [702, 703] AL zT zR zI_35 zI_42) ∧ (0 ≤ zi_39.toInt ∧ zi_39.toInt ≤ 1) := hw_40
        have h_zI_42 : WM [702, 703, 3100, 3200, 3300] AL zT zR zI zI_42 := h_zI_35.tr k_zI_42 (by decide) (fun _ _ => trivial)
        refine lv_if_ne (tgt := 84) hx hb dX6_readAtom_79 (by decide) (fun c_43 => ?_) (fun c_43 => ?_)
        · have f_44 : zi_39.toInt ≠ 0 := ic_ne (rfl) (by decide) c_43
          refine lv_aload_n hx hb dX6_readAtom_84 rfl (lv_at hl 1 rfl) ?_
          refine ht_getr (C := RX1) (T := TX1) (N := 8) hx hb hts (by decide +kernel) hown hK hP hs t_zm (by decide) rfl rfl 3 (by decide) (hts (.fieldLink RX6 97 "DripStone$Claim" "lasts" "[I") (by decide +kernel)) (fun _ h9 => h9) rfl dX6_readAtom_85 ?_
          have t_45 : zT (zR zm 3) = 31 := sk_f hs t_zm (by decide) rfl (by decide)
          refine lv_iload_n hx hb dX6_readAtom_88 rfl (lv_at hl 2 rfl) ?_
          refine lv_aload_n hx hb dX6_readAtom_89 rfl (lv_at hl 0 rfl) ?_
          refine lv_aload_n hx hb dX6_readAtom_90 rfl (lv_at hl 1 rfl) ?_
          refine ht_getr (C := RX1) (T := TX1) (N := 8) hx hb hts (by decide +kernel) hown hK hP hs t_zm (by decide) rfl rfl 2 (by decide) (hts (.fieldLink RX6 94 "DripStone$Claim" "firsts" "[I") (by decide +kernel)) (fun _ h9 => h9) rfl dX6_readAtom_91 ?_
          refine lv_iload_n hx hb dX6_readAtom_94 rfl (lv_at hl 2 rfl) ?_
          refine ht_iald (n := 2) (q := 0) hx hb hK hP hs t_29 (by decide) rfl rfl ⟨by omega, by omega⟩ dX6_readAtom_95 ?_
          refine lv_topi (fun zi_46 ezi_46 => ?_)
          obtain rfl : zi_30 = zi_46 := (ezi_46.trans ((k_zI_42.2 (zR zm 2) zia.toNatClampNeg (Or.inl (by rw [t_29]; exact (by decide : ¬ 3100 ∈ ([702, 703] : List Nat))))).trans (by rw [← uzI_35]; exact u2_s))).symm
          refine lv_bipush (v := 23) hx hb dX6_readAtom_96 (by decide) ?_
          refine hj_i (ws := (WL cy zL zT zR zI_42 zJ)) (w1 := fun (u : (Nat → Nat → Int32)) => (WL cy zL zT zR u zJ)) (va_runV (As := [.int zi_30, .int 23]) (rest := [.int zia, .ref (zR zm 3)]) ⟨hx, hb, hml, hown, hts⟩ (t_X6_readNumber l dC dI cy H.size zL zT zR zI_42 zJ zr zi_30 (23 : Int32) hs h_zI_42.1 t_zr (by omega) (by decide)) (cwV 2 hts gX6_readAtom_X6_readNumber rfl rfl rfl (by decide +kernel) ⟨(Nat.le_of_ble_eq_true rfl), (Nat.le_of_ble_eq_true rfl)⟩) (PRE.v hP hK hD hN (ht_recv hK hP hs t_zr (by decide) rfl rfl)) rfl rfl hl.1 rfl (lv_room (Nat.le_of_ble_eq_true rfl)) dX6_readAtom_98 ⟨(Nat.le_of_ble_eq_true rfl), (Nat.le_of_ble_eq_true rfl)⟩) hP hD hS hA (fun zi_47 zI_50 H locs hw_48 hP hD hS => ?_)
          obtain ⟨k_zI_50, b_zi_47, ps_51⟩ : (WM [702, 703] AL zT zR zI_42 zI_50) ∧ ((-1) ≤ zi_47.toInt ∧ zi_47.toInt ≤ 1000) ∧ (zi_47.toInt = -1 ∨ (zi_30.toInt ≤ zi_47.toInt ∧ zi_47.toInt ≤ (23 : Int32).toInt)) := hw_48
          have h_zI_50 : WM [702, 703, 3100, 3200, 3300] AL zT zR zI zI_50 := h_zI_42.tr k_zI_50 (by decide) (fun _ _ => trivial)
          have b8_zi_47 : (-1) ≤ zi_47.toInt ∧ zi_47.toInt ≤ 23 := by omega
          refine ht_iast (v := zi_47) (n := 2) (q := 0) hx hb hK hP hD hS hs t_45 (by decide) rfl rfl ⟨by omega, by omega⟩ dX6_readAtom_101 (fun H locs hP hD hS => ?_)
          have h_zI_52 : WM [702, 703, 3100, 3200, 3300] AL zT zR zI (u2 zI_50 (zR zm 3) zia.toNatClampNeg zi_47) := h_zI_50.putA hs t_45 rfl (rgF _) (by decide) (fun h => absurd h (by decide)) (by decide) trivial
          generalize uzI_52 : u2 zI_50 (zR zm 3) zia.toNatClampNeg zi_47 = zI_52 at hP hD h_zI_52
          refine lv_aload_n hx hb dX6_readAtom_102 rfl (lv_at hl 1 rfl) ?_
          refine ht_getr (C := RX1) (T := TX1) (N := 8) hx hb hts (by decide +kernel) hown hK hP hs t_zm (by decide) rfl rfl 3 (by decide) (hts (.fieldLink RX6 97 "DripStone$Claim" "lasts" "[I") (by decide +kernel)) (fun _ h9 => h9) rfl dX6_readAtom_103 ?_
          refine lv_iload_n hx hb dX6_readAtom_106 rfl (lv_at hl 2 rfl) ?_
          refine ht_iald (n := 2) (q := 0) hx hb hK hP hs t_45 (by decide) rfl rfl ⟨by omega, by omega⟩ dX6_readAtom_107 ?_
          refine lv_topi (fun zi_53 ezi_53 => ?_)
          obtain rfl : zi_47 = zi_53 := (ezi_53.trans (by rw [← uzI_52]; exact u2_s)).symm
          refine lv_if_lt (tgt := 120) hx hb dX6_readAtom_108 (by decide) (fun c_54 => ?_) (fun c_54 => ?_)
          · have f_55 : zi_47.toInt < 0 := ic_lt (rfl) (by decide) c_54
            refine lv_iconst (v := 0) hx hb dX6_readAtom_120 (by decide) ?_
            subst hQ
            exact W.zret (v := (0 : Int32)) hx hb hr rfl (fun t ht hW => ⟨⟨(0 : Int32), zI_52, rfl, ⟨h_zI_52, (show 0 ≤ (0 : Int32).toInt ∧ (0 : Int32).toInt ≤ 1 from by omega)⟩, ⟨by rw [ht]; exact hP, va_K.moved hW.alike hK, hD⟩⟩, hS.F ht⟩) hS.2.2 dX6_readAtom_121
          · have f_55 : ¬ (zi_47.toInt < 0) := ic_nlt (rfl) (by decide) c_54
            refine lv_aload_n hx hb dX6_readAtom_111 rfl (lv_at hl 0 rfl) ?_
            refine lv_bipush (v := 35) hx hb dX6_readAtom_112 (by decide) ?_
            have qc_35 : (35 : Int32).toInt = 35 := by decide
            refine hj_i (ws := (WL cy zL zT zR zI_52 zJ)) (w1 := fun (u : (Nat → Nat → Int32)) => (WL cy zL zT zR u zJ)) (va_runV (As := [.int 35]) (rest := []) ⟨hx, hb, hml, hown, hts⟩ (t_X6_wants l dC dI cy H.size zL zT zR zI_52 zJ zr (35 : Int32) hs h_zI_52.1 t_zr (by decide)) (cwV 1 hts gX6_readAtom_X6_wants rfl rfl rfl (by decide +kernel) ⟨(Nat.le_of_ble_eq_true rfl), (Nat.le_of_ble_eq_true rfl)⟩) (PRE.v hP hK hD hN (ht_recv hK hP hs t_zr (by decide) rfl rfl)) rfl rfl hl.1 rfl (lv_room (Nat.le_of_ble_eq_true rfl)) dX6_readAtom_114 ⟨(Nat.le_of_ble_eq_true rfl), (Nat.le_of_ble_eq_true rfl)⟩) hP hD hS hA (fun zi_56 zI_59 H locs hw_57 hP hD hS => ?_)
            obtain ⟨k_zI_59, b_zi_56⟩ : (WM [702, 703] AL zT zR zI_52 zI_59) ∧ (0 ≤ zi_56.toInt ∧ zi_56.toInt ≤ 1) := hw_57
            have h_zI_59 : WM [702, 703, 3100, 3200, 3300] AL zT zR zI zI_59 := h_zI_52.tr k_zI_59 (by decide) (fun _ _ => trivial)
            refine lv_if_ne (tgt := 122) hx hb dX6_readAtom_117 (by decide) (fun c_60 => ?_) (fun c_60 => ?_)
            · have f_61 : zi_56.toInt ≠ 0 := ic_ne (rfl) (by decide) c_60
              refine lv_aload_n hx hb dX6_readAtom_122 rfl (lv_at hl 1 rfl) ?_
              refine ht_getr (C := RX1) (T := TX1) (N := 8) hx hb hts (by decide +kernel) hown hK hP hs t_zm (by decide) rfl rfl 4 (by decide) (hts (.fieldLink RX6 100 "DripStone$Claim" "goals" "[I") (by decide +kernel)) (fun _ h9 => h9) rfl dX6_readAtom_123 ?_
              have t_62 : zT (zR zm 4) = 32 := sk_f hs t_zm (by decide) rfl (by decide)
              refine lv_iload_n hx hb dX6_readAtom_126 rfl (lv_at hl 2 rfl) ?_
              refine lv_aload_n hx hb dX6_readAtom_127 rfl (lv_at hl 0 rfl) ?_
              refine lv_iconst (v := 1) hx hb dX6_readAtom_128 (by decide) ?_
              refine lv_bipush (v := 12) hx hb dX6_readAtom_129 (by decide) ?_
              have qc_1 : (1 : Int32).toInt = 1 := by decide
              have qc_12 : (12 : Int32).toInt = 12 := by decide
              refine hj_i (ws := (WL cy zL zT zR zI_59 zJ)) (w1 := fun (u : (Nat → Nat → Int32)) => (WL cy zL zT zR u zJ)) (va_runV (As := [.int 1, .int 12]) (rest := [.int zia, .ref (zR zm 4)]) ⟨hx, hb, hml, hown, hts⟩ (t_X6_readNumber l dC dI cy H.size zL zT zR zI_59 zJ zr (1 : Int32) (12 : Int32) hs h_zI_59.1 t_zr (by decide) (by decide)) (cwV 2 hts gX6_readAtom_X6_readNumber rfl rfl rfl (by decide +kernel) ⟨(Nat.le_of_ble_eq_true rfl), (Nat.le_of_ble_eq_true rfl)⟩) (PRE.v hP hK hD hN (ht_recv hK hP hs t_zr (by decide) rfl rfl)) rfl rfl hl.1 rfl (lv_room (Nat.le_of_ble_eq_true rfl)) dX6_readAtom_131 ⟨(Nat.le_of_ble_eq_true rfl), (Nat.le_of_ble_eq_true rfl)⟩) hP hD hS hA (fun zi_63 zI_66 H locs hw_64 hP hD hS => ?_)
              obtain ⟨k_zI_66, b_zi_63, ps_67⟩ : (WM [702, 703] AL zT zR zI_59 zI_66) ∧ ((-1) ≤ zi_63.toInt ∧ zi_63.toInt ≤ 1000) ∧ (zi_63.toInt = -1 ∨ ((1 : Int32).toInt ≤ zi_63.toInt ∧ zi_63.toInt ≤ (12 : Int32).toInt)) := hw_64
              have h_zI_66 : WM [702, 703, 3100, 3200, 3300] AL zT zR zI zI_66 := h_zI_59.tr k_zI_66 (by decide) (fun _ _ => trivial)
              have b8_zi_63 : (-1) ≤ zi_63.toInt ∧ zi_63.toInt ≤ 12 := by omega
              refine ht_iast (v := zi_63) (n := 2) (q := 0) hx hb hK hP hD hS hs t_62 (by decide) rfl rfl ⟨by omega, by omega⟩ dX6_readAtom_134 (fun H locs hP hD hS => ?_)
              have h_zI_68 : WM [702, 703, 3100, 3200, 3300] AL zT zR zI (u2 zI_66 (zR zm 4) zia.toNatClampNeg zi_63) := h_zI_66.putA hs t_62 rfl (by omega) (by decide) (fun h => absurd h (by decide)) (by decide) trivial
              generalize uzI_68 : u2 zI_66 (zR zm 4) zia.toNatClampNeg zi_63 = zI_68 at hP hD h_zI_68
              refine lv_aload_n hx hb dX6_readAtom_135 rfl (lv_at hl 1 rfl) ?_
              refine ht_getr (C := RX1) (T := TX1) (N := 8) hx hb hts (by decide +kernel) hown hK hP hs t_zm (by decide) rfl rfl 4 (by decide) (hts (.fieldLink RX6 100 "DripStone$Claim" "goals" "[I") (by decide +kernel)) (fun _ h9 => h9) rfl dX6_readAtom_136 ?_
              refine lv_iload_n hx hb dX6_readAtom_139 rfl (lv_at hl 2 rfl) ?_
              refine ht_iald (n := 2) (q := 0) hx hb hK hP hs t_62 (by decide) rfl rfl ⟨by omega, by omega⟩ dX6_readAtom_140 ?_
              refine lv_topi (fun zi_69 ezi_69 => ?_)
              obtain rfl : zi_63 = zi_69 := (ezi_69.trans (by rw [← uzI_68]; exact u2_s)).symm
              refine lv_if_lt (tgt := 148) hx hb dX6_readAtom_141 (by decide) (fun c_70 => ?_) (fun c_70 => ?_)
              · have f_71 : zi_63.toInt < 0 := ic_lt (rfl) (by decide) c_70
                refine lv_iconst (v := 0) hx hb dX6_readAtom_148 (by decide) ?_
                subst hQ
                exact W.zret (v := (0 : Int32)) hx hb hr rfl (fun t ht hW => ⟨⟨(0 : Int32), zI_68, rfl, ⟨h_zI_68, (show 0 ≤ (0 : Int32).toInt ∧ (0 : Int32).toInt ≤ 1 from by omega)⟩, ⟨by rw [ht]; exact hP, va_K.moved hW.alike hK, hD⟩⟩, hS.F ht⟩) hS.2.2 dX6_readAtom_149
              · have f_71 : ¬ (zi_63.toInt < 0) := ic_nlt (rfl) (by decide) c_70
                refine lv_iconst (v := 1) hx hb dX6_readAtom_144 (by decide) ?_
                refine lv_goto (tgt := 149) hx hb dX6_readAtom_145 (by decide) ?_
                subst hQ
                exact W.zret (v := (1 : Int32)) hx hb hr rfl (fun t ht hW => ⟨⟨(1 : Int32), zI_68, rfl, ⟨h_zI_68, (show 0 ≤ (1 : Int32).toInt ∧ (1 : Int32).toInt ≤ 1 from by omega)⟩, ⟨by rw [ht]; exact hP, va_K.moved hW.alike hK, hD⟩⟩, hS.F ht⟩) hS.2.2 dX6_readAtom_149
            · have f_61 : ¬ (zi_56.toInt ≠ 0) := ic_nne (rfl) (by decide) c_60
              refine lv_iconst (v := 0) hx hb dX6_readAtom_120 (by decide) ?_
              subst hQ
              exact W.zret (v := (0 : Int32)) hx hb hr rfl (fun t ht hW => ⟨⟨(0 : Int32), zI_59, rfl, ⟨h_zI_59, (show 0 ≤ (0 : Int32).toInt ∧ (0 : Int32).toInt ≤ 1 from by omega)⟩, ⟨by rw [ht]; exact hP, va_K.moved hW.alike hK, hD⟩⟩, hS.F ht⟩) hS.2.2 dX6_readAtom_121
        · have f_44 : ¬ (zi_39.toInt ≠ 0) := ic_nne (rfl) (by decide) c_43
          refine lv_iconst (v := 0) hx hb dX6_readAtom_82 (by decide) ?_
          subst hQ
          exact W.zret (v := (0 : Int32)) hx hb hr rfl (fun t ht hW => ⟨⟨(0 : Int32), zI_42, rfl, ⟨h_zI_42, (show 0 ≤ (0 : Int32).toInt ∧ (0 : Int32).toInt ≤ 1 from by omega)⟩, ⟨by rw [ht]; exact hP, va_K.moved hW.alike hK, hD⟩⟩, hS.F ht⟩) hS.2.2 dX6_readAtom_83
    · have f_28 : ¬ (zi_23.toInt ≠ 0) := ic_nne (rfl) (by decide) c_27
      refine lv_iconst (v := 0) hx hb dX6_readAtom_49 (by decide) ?_
      subst hQ
      have qc_0 : (0 : Int32).toInt = 0 := by decide
      exact W.zret (v := (0 : Int32)) hx hb hr rfl (fun t ht hW => ⟨⟨(0 : Int32), zI_26, rfl, ⟨h_zI_26, (show 0 ≤ (0 : Int32).toInt ∧ (0 : Int32).toInt ≤ 1 from by omega)⟩, ⟨by rw [ht]; exact hP, va_K.moved hW.alike hK, hD⟩⟩, hS.F ht⟩) hS.2.2 dX6_readAtom_50
  refine lv_if_ne (tgt := 40) hx hb dX6_readAtom_26 (by decide) (fun c_72 => ?_) (fun c_72 => ?_)
  · have f_73 : zi_9.toInt ≠ 0 := ic_ne (rfl) (by decide) c_72
    exact jn_22 zI_12 _ _ _ h_zI_12 hP hD hS (lv_sub hl [0, 1, 2] rfl)
  · have f_73 : ¬ (zi_9.toInt ≠ 0) := ic_nne (rfl) (by decide) c_72
    refine lv_aload_n hx hb dX6_readAtom_29 rfl (lv_at hl 0 rfl) ?_
    refine lv_aload_n hx hb dX6_readAtom_30 rfl (lv_at hl 1 rfl) ?_
    refine lv_iload_n hx hb dX6_readAtom_31 rfl (lv_at hl 2 rfl) ?_
    refine hj_i (ws := (WL cy zL zT zR zI_12 zJ)) (w1 := fun (u : (Nat → Nat → Int32)) => (WL cy zL zT zR u zJ)) (va_runV (As := [.ref zm, .int zia]) (rest := []) ⟨hx, hb, hml, hown, hts⟩ (t_X6_readWeight l dC dI cy H.size zL zT zR zI_12 zJ zr zm zia hs h_zI_12.1 t_zr t_zm (by omega)) (cwV 2 hts gX6_readAtom_X6_readWeight rfl rfl rfl (by decide +kernel) ⟨(Nat.le_of_ble_eq_true rfl), (Nat.le_of_ble_eq_true rfl)⟩) (PRE.v hP hK hD hN (ht_recv hK hP hs t_zr (by decide) rfl rfl)) rfl rfl hl.1 rfl (lv_room (Nat.le_of_ble_eq_true rfl)) dX6_readAtom_32 ⟨(Nat.le_of_ble_eq_true rfl), (Nat.le_of_ble_eq_true rfl)⟩) hP hD hS hA (fun zi_74 zI_77 H locs hw_75 hP hD hS => ?_)
    obtain ⟨k_zI_77, b_zi_74⟩ : (WM [702, 703, 3100] AL zT zR zI_12 zI_77) ∧ (0 ≤ zi_74.toInt ∧ zi_74.toInt ≤ 1) := hw_75
    have h_zI_77 : WM [702, 703, 3100, 3200, 3300] AL zT zR zI zI_77 := h_zI_12.tr k_zI_77 (by decide) (fun _ _ => trivial)
    refine lv_if_ne (tgt := 40) hx hb dX6_readAtom_35 (by decide) (fun c_78 => ?_) (fun c_78 => ?_)
    · have f_79 : zi_74.toInt ≠ 0 := ic_ne (rfl) (by decide) c_78
      exact jn_22 zI_77 _ _ _ h_zI_77 hP hD hS (lv_sub hl [0, 1, 2] rfl)
    · have f_79 : ¬ (zi_74.toInt ≠ 0) := ic_nne (rfl) (by decide) c_78
      refine lv_iconst (v := 0) hx hb dX6_readAtom_38 (by decide) ?_
      subst hQ
      have qc_0 : (0 : Int32).toInt = 0 := by decide
      exact W.zret (v := (0 : Int32)) hx hb hr rfl (fun t ht hW => ⟨⟨(0 : Int32), zI_77, rfl, ⟨h_zI_77, (show 0 ≤ (0 : Int32).toInt ∧ (0 : Int32).toInt ≤ 1 from by omega)⟩, ⟨by rw [ht]; exact hP, va_K.moved hW.alike hK, hD⟩⟩, hS.F ht⟩) hS.2.2 dX6_readAtom_39
set_option maxHeartbeats 8000000 in
set_option maxRecDepth 100000 in
theorem t_X6_readClaim (l : Launch) (dC : Nat → ClassId) (dI : Nat → Nat → Nat) (cy : Nat → ClassId) (sz : Nat) (zL : List Nat) (zT : Nat → Nat) (zR : Nat → Nat → Nat) (zI : Nat → Nat → Int32) (zJ : Nat → Nat → Int64) (zr : Nat) (zm : Nat) (hs : SKP zL zT zR) (hw : WT zT zR zI) (t_zr : zT zr = 7) (t_zm : zT zm = 2) : Met l yX6_readClaim wsX6_readClaim ({ frames := 5, cells := 0, slots := 0, locals := 109 } : Room) (va_Pc [.ref zr, .ref zm] (PRE dC dI cy (WL cy zL zT zR zI zJ) sz)) (va_Qi (fun (r : Int32) (u : (Nat → Nat → Int32)) => (WM [206, 207, 702, 703, 3100, 3200, 3300] AL zT zR zI u)) (fun u t => POST dC dI cy (va_A (WL cy zL zT zR zI zJ) sz) (WL cy zL zT zR u zJ) t) (va_A (WL cy zL zT zR zI zJ) sz)) 0 0 (va_A (WL cy zL zT zR zI zJ) sz) := by
  refine Met.ofW (cc := cX6_readClaim) (maxL := 4) (ret := (some .int)) (by decide) rfl ?_
  intro p e s m args below meth c s₁ B hml hv
  obtain ⟨rfl, hsz, hP, hK, hD0, hN⟩ := hv
  have hx := B.exec
  have hb := B.bytes
  have hr := B.returns
  have hts := atoms_spec (ws := wsX6_readClaim) B.pre
  have hown : s.vm.findClass RX6 = some m.cls := findClass_of_methodNamed B.named
  have hlocks := B.notSynchronized
  subst hsz
  have hD := hD0.self (sz := s.heap.size)
  generalize hAe : va_A (WL cy zL zT zR zI zJ) s.heap.size = A at hD ⊢
  have hA : ∀ q : Nat, s.heap.size ≤ q → A q := fun q h => by rw [← hAe]; exact Or.inr h
  have hS : va_S A s.heap s.heap [] := va_S.rf
  have hP : va_P (dC, dI) vwCl (WL cy zL zT zR zI zJ) s.heap := hP
  have hl := lv_entry ([.ref zr, .ref zm] : List Value) (n := 4) (Nat.le_of_ble_eq_true rfl)
  rw [lg_entry_eq]
  generalize (lg_sl ([.ref zr, .ref zm] : List Value) ++ List.replicate (4 - (lg_sl ([.ref zr, .ref zm] : List Value)).length) Slot.unset).toArray = ls at hl ⊢
  have hl : lv_has ls 4 [(0, .ref zr), (1, .ref zm)] := hl
  refine w_q (fun Q hQ => ?_)
  have h_zI : WM [206, 207, 702, 703, 3100, 3200, 3300] AL zT zR zI zI := WM.rf hw
  refine lv_aload_n hx hb dX6_readClaim_0 rfl (lv_at hl 0 rfl) ?_
  refine lv_iconst (v := 0) hx hb dX6_readClaim_1 (by decide) ?_
  refine ht_puti (v := (0 : Int32)) (ty := .int) (C := RX6) (T := TX6) (N := 4) hx hb hts (by decide +kernel) tyX6 tyX6_ok nmX6 hown hK hP hD hS hs t_zr (by decide) rfl rfl 2 (by decide) (hts (.fieldLink RX6 15 "DripStone$Reader" "at" "I") (by decide +kernel)) (fun _ h9 => h9) rfl (by decide +kernel) rfl rfl rfl dX6_readClaim_2 (fun H locs hP hD hS => ?_)
  have h_zI_1 : WM [206, 207, 702, 703, 3100, 3200, 3300] AL zT zR zI (u2 zI zr 2 (0 : Int32)) := h_zI.put hs t_zr rfl (by decide) (by decide) (fun h => absurd h (by decide)) (by decide) trivial
  generalize uzI_1 : u2 zI zr 2 (0 : Int32) = zI_1 at hP hD h_zI_1
  refine lv_aload_n hx hb dX6_readClaim_5 rfl (lv_at hl 1 rfl) ?_
  refine lv_iconst (v := 0) hx hb dX6_readClaim_6 (by decide) ?_
  refine ht_puti (v := (0 : Int32)) (ty := .boolean) (C := RX1) (T := TX1) (N := 8) hx hb hts (by decide +kernel) tyX1 tyX1_ok nmX1 hown hK hP hD hS hs t_zm (by decide) rfl rfl 7 (by decide) (hts (.fieldLink RX6 71 "DripStone$Claim" "either" "Z") (by decide +kernel)) (fun _ h9 => h9) rfl (by decide +kernel) rfl rfl rfl dX6_readClaim_7 (fun H locs hP hD hS => ?_)
  have h_zI_2 : WM [206, 207, 702, 703, 3100, 3200, 3300] AL zT zR zI (u2 zI_1 zm 7 (0 : Int32)) := h_zI_1.put hs t_zm rfl (by decide) (by decide) (fun h => absurd h (by decide)) (by decide) trivial
  generalize uzI_2 : u2 zI_1 zm 7 (0 : Int32) = zI_2 at hP hD h_zI_2
  refine lv_iconst (v := 1) hx hb dX6_readClaim_10 (by decide) ?_
  refine lv_istore_n (lv' := [(2, .int 1), (0, .ref zr), (1, .ref zm)]) hx hb dX6_readClaim_11 rfl hl (by decide) rfl (fun ls hl => ?_)
  refine lv_iconst (v := 0) hx hb dX6_readClaim_12 (by decide) ?_
  refine lv_istore_n (lv' := [(3, .int 0), (2, .int 1), (0, .ref zr), (1, .ref zm)]) hx hb dX6_readClaim_13 rfl hl (by decide) rfl (fun ls hl => ?_)
  have lp_1824 : ∀ (n : Nat) (zi_1381 : Int32) (zi_1382 : Int32) (zI_1383 : Nat → Nat → Int32) (H : Heap) (locs : List Loc) (ls : Array Slot), (2 - zi_1382.toInt).toNat = n → (0 ≤ zi_1381.toInt ∧ zi_1381.toInt ≤ 1) → (0 ≤ zi_1382.toInt ∧ zi_1382.toInt ≤ 2) → (WM [206, 207, 702, 703, 3100, 3200, 3300] AL zT zR zI zI_1383) → va_P (dC, dI) vwCl (WL cy zL zT zR zI_1383 zJ) H → va_D A (WL cy zL zT zR zI_1383 zJ) → va_S A s.heap H locs → lv_has ls 4 [(0, .ref zr), (1, .ref zm), (2, .int zi_1381), (3, .int zi_1382)] → W p l e ({ frames := 5, cells := 0, slots := 0, locals := 109 } : Room) s m ([.ref zr, .ref zm] : List Value).toArray below meth c H locs 0 0 Q (F0 m 14 ls []) := by
    intro n
    induction n using Nat.strongRecOn with
    | _ n ih_1824 =>
      intro zi_1381 zi_1382 zI_1383 H locs ls hn b_zi_1381 b_zi_1382 h_zI_1383 hP hD hS hl
      refine lv_iload_n hx hb dX6_readClaim_14 rfl (lv_at hl 3 rfl) ?_
      refine lv_iconst (v := 2) hx hb dX6_readClaim_15 (by decide) ?_
      have jn_2046 : ∀  (H : Heap) (locs : List Loc) (ls : Array Slot), va_P (dC, dI) vwCl (WL cy zL zT zR zI_1383 zJ) H → va_D A (WL cy zL zT zR zI_1383 zJ) → va_S A s.heap H locs → lv_has ls 4 [(0, .ref zr), (1, .ref zm), (2, .int zi_1381), (3, .int zi_1382)] → W p l e ({ frames := 5, cells := 0, slots := 0, locals := 109 } : Room) s m ([.ref zr, .ref zm] : List Value).toArray below meth c H locs 0 0 Q (F0 m 107 ls []) := by
        intro  H locs ls  hP hD hS hl
        refine lv_aload_n hx hb dX6_readClaim_107 rfl (lv_at hl 0 rfl) ?_
        refine hj_i (ws := (WL cy zL zT zR zI_1383 zJ)) (w1 := fun (u : (Nat → Nat → Int32)) => (WL cy zL zT zR u zJ)) (va_runV (As := []) (rest := []) ⟨hx, hb, hml, hown, hts⟩ (t_X6_look l dC dI cy H.size zL zT zR zI_1383 zJ zr hs h_zI_1383.1 t_zr) (cwV 0 hts gX6_readClaim_X6_look rfl rfl rfl (by decide +kernel) ⟨(Nat.le_of_ble_eq_true rfl), (Nat.le_of_ble_eq_true rfl)⟩) (PRE.v hP hK hD hN (ht_recv hK hP hs t_zr (by decide) rfl rfl)) rfl rfl hl.1 rfl (lv_room (Nat.le_of_ble_eq_true rfl)) dX6_readClaim_108 ⟨(Nat.le_of_ble_eq_true rfl), (Nat.le_of_ble_eq_true rfl)⟩) hP hD hS hA (fun zi_2047 zI_2050 H locs hw_2048 hP hD hS => ?_)
        obtain ⟨k_zI_2050, b_zi_2047, ps_2051⟩ : (WM [702] AL zT zR zI_1383 zI_2050) ∧ ((-1) ≤ zi_2047.toInt ∧ zi_2047.toInt ≤ 255) ∧ (zi_2047.toInt = -1 ∨ (zI_2050 zr 2).toInt ≤ 79) := hw_2048
        have h_zI_2050 : WM [206, 207, 702, 703, 3100, 3200, 3300] AL zT zR zI zI_2050 := h_zI_1383.tr k_zI_2050 (by decide) (fun _ _ => trivial)
        obtain ⟨zi_2052, ezi_2052⟩ : ∃ y : Int32, y = zI_2050 zr 2 := ⟨_, rfl⟩
        have tzi_2052 : 0 ≤ zi_2052.toInt ∧ zi_2052.toInt ≤ 80 := by rw [ezi_2052]; exact h_zI_2050.at t_zr _ rfl
        have lzi_2052 : (zI_2050 zr 2).toInt = zi_2052.toInt := by rw [ezi_2052]
        have lk_2053 : (zI_2050 zr 2).toInt = zi_2052.toInt := congrArg Int32.toInt ezi_2052.symm
        refine lv_iconst (v := (-1)) hx hb dX6_readClaim_111 (by decide) ?_
        refine lv_icmp_eq (tgt := 126) hx hb dX6_readClaim_112 (by decide) (fun c_2054 => ?_) (fun c_2054 => ?_)
        · have f_2055 : zi_2047.toInt = (-1 : Int) := ic_eq (rfl) (show ((-1) : Int32).toInt = -1 by decide) c_2054
          refine lv_iconst (v := 0) hx hb dX6_readClaim_126 (by decide) ?_
          refine lv_goto (tgt := 134) hx hb dX6_readClaim_127 (by decide) ?_
          subst hQ
          exact W.iret (v := (0 : Int32)) hx hb hr (fun t ht hW => ⟨⟨(0 : Int32), zI_2050, rfl, h_zI_2050, ⟨by rw [ht]; exact hP, va_K.moved hW.alike hK, hD⟩⟩, hS.F ht⟩) hS.2.2 dX6_readClaim_134
        · have f_2055 : ¬ (zi_2047.toInt = (-1 : Int)) := ic_neq (rfl) (show ((-1) : Int32).toInt = -1 by decide) c_2054
          refine lv_aload_n hx hb dX6_readClaim_115 rfl (lv_at hl 0 rfl) ?_
          refine lv_aload_n hx hb dX6_readClaim_116 rfl (lv_at hl 0 rfl) ?_
          refine ht_geti (C := RX6) (T := TX6) (N := 4) hx hb hts (by decide +kernel) hown hK hP hs t_zr (by decide) rfl rfl 2 (by decide) (hts (.fieldLink RX6 15 "DripStone$Reader" "at" "I") (by decide +kernel)) (fun _ h9 => h9) rfl dX6_readClaim_117 ?_
          refine lv_topi (fun zi_2056 ezi_2056 => ?_)
          obtain rfl : zi_2052 = zi_2056 := (ezi_2056.trans ezi_2052.symm).symm
          refine hj_i (ws := (WL cy zL zT zR zI_2050 zJ)) (w1 := fun (u : (Nat → Nat → Int32)) => (WL cy zL zT zR u zJ)) (va_runV (As := [.int zi_2052]) (rest := []) ⟨hx, hb, hml, hown, hts⟩ (t_X6_fails l dC dI cy H.size zL zT zR zI_2050 zJ zr zi_2052 hs h_zI_2050.1 t_zr) (cwV 1 hts gX6_readClaim_X6_fails rfl rfl rfl (by decide +kernel) ⟨(Nat.le_of_ble_eq_true rfl), (Nat.le_of_ble_eq_true rfl)⟩) (PRE.v hP hK hD hN (ht_recv hK hP hs t_zr (by decide) rfl rfl)) rfl rfl hl.1 rfl (lv_room (Nat.le_of_ble_eq_true rfl)) dX6_readClaim_120 ⟨(Nat.le_of_ble_eq_true rfl), (Nat.le_of_ble_eq_true rfl)⟩) hP hD hS hA (fun zi_2057 zI_2060 H locs hw_2058 hP hD hS => ?_)
          obtain ⟨k_zI_2060, ps_2061⟩ : (WM [703] AL zT zR zI_2050 zI_2060) ∧ (zi_2057 = 0) := hw_2058
          have h_zI_2060 : WM [206, 207, 702, 703, 3100, 3200, 3300] AL zT zR zI zI_2060 := h_zI_2050.tr k_zI_2060 (by decide) (fun _ _ => trivial)
          obtain rfl : zi_2057 = 0 := ps_2061
          refine lv_if_eq (tgt := 130) hx hb dX6_readClaim_123 (by decide) (fun c_2062 => ?_) (fun c_2062 => absurd (by decide) c_2062)
          refine lv_aload_n hx hb dX6_readClaim_130 rfl (lv_at hl 0 rfl) ?_
          refine ht_geti (C := RX6) (T := TX6) (N := 4) hx hb hts (by decide +kernel) hown hK hP hs t_zr (by decide) rfl rfl 3 (by decide) (hts (.fieldLink RX6 23 "DripStone$Reader" "fault" "I") (by decide +kernel)) (fun _ h9 => h9) rfl dX6_readClaim_131 ?_
          refine lv_topi (fun zi_2063 ezi_2063 => ?_)
          subst hQ
          exact W.iret (v := zi_2063) hx hb hr (fun t ht hW => ⟨⟨zi_2063, zI_2060, rfl, h_zI_2060, ⟨by rw [ht]; exact hP, va_K.moved hW.alike hK, hD⟩⟩, hS.F ht⟩) hS.2.2 dX6_readClaim_134
      refine lv_icmp_ge (tgt := 107) hx hb dX6_readClaim_16 (by decide) (fun c_2064 => ?_) (fun c_2064 => ?_)
      · have f_2065 : zi_1382.toInt ≥ (2 : Int) := ic_ge (rfl) (show (2 : Int32).toInt = 2 by decide) c_2064
        exact jn_2046  _ _ _  hP hD hS (lv_sub hl [0, 1, 2, 3] rfl)
      · have f_2065 : ¬ (zi_1382.toInt ≥ (2 : Int)) := ic_nge (rfl) (show (2 : Int32).toInt = 2 by decide) c_2064
        refine lv_iload_n hx hb dX6_readClaim_19 rfl (lv_at hl 2 rfl) ?_
        refine lv_if_eq (tgt := 107) hx hb dX6_readClaim_20 (by decide) (fun c_2066 => ?_) (fun c_2066 => ?_)
        · have f_2067 : zi_1381.toInt = 0 := ic_eq (rfl) (by decide) c_2066
          exact jn_2046  _ _ _  hP hD hS (lv_sub hl [0, 1, 2, 3] rfl)
        · have f_2067 : ¬ (zi_1381.toInt = 0) := ic_neq (rfl) (by decide) c_2066
          refine lv_aload_n hx hb dX6_readClaim_23 rfl (lv_at hl 0 rfl) ?_
          refine lv_aload_n hx hb dX6_readClaim_24 rfl (lv_at hl 1 rfl) ?_
          refine lv_iload_n hx hb dX6_readClaim_25 rfl (lv_at hl 3 rfl) ?_
          refine hj_i (ws := (WL cy zL zT zR zI_1383 zJ)) (w1 := fun (u : (Nat → Nat → Int32)) => (WL cy zL zT zR u zJ)) (va_runV (As := [.ref zm, .int zi_1382]) (rest := []) ⟨hx, hb, hml, hown, hts⟩ (t_X6_readAtom l dC dI cy H.size zL zT zR zI_1383 zJ zr zm zi_1382 hs h_zI_1383.1 t_zr t_zm (by omega)) (cwV 2 hts gX6_readClaim_X6_readAtom rfl rfl rfl (by decide +kernel) ⟨(Nat.le_of_ble_eq_true rfl), (Nat.le_of_ble_eq_true rfl)⟩) (PRE.v hP hK hD hN (ht_recv hK hP hs t_zr (by decide) rfl rfl)) rfl rfl hl.1 rfl (lv_room (Nat.le_of_ble_eq_true rfl)) dX6_readClaim_26 ⟨(Nat.le_of_ble_eq_true rfl), (Nat.le_of_ble_eq_true rfl)⟩) hP hD hS hA (fun zi_2068 zI_2071 H locs hw_2069 hP hD hS => ?_)
          obtain ⟨k_zI_2071, b_zi_2068⟩ : (WM [702, 703, 3100, 3200, 3300] AL zT zR zI_1383 zI_2071) ∧ (0 ≤ zi_2068.toInt ∧ zi_2068.toInt ≤ 1) := hw_2069
          have h_zI_2071 : WM [206, 207, 702, 703, 3100, 3200, 3300] AL zT zR zI zI_2071 := h_zI_1383.tr k_zI_2071 (by decide) (fun _ _ => trivial)
          refine lv_if_ne (tgt := 37) hx hb dX6_readClaim_29 (by decide) (fun c_2072 => ?_) (fun c_2072 => ?_)
          · have f_2073 : zi_2068.toInt ≠ 0 := ic_ne (rfl) (by decide) c_2072
            refine lv_aload_n hx hb dX6_readClaim_37 rfl (lv_at hl 1 rfl) ?_
            refine lv_iload_n hx hb dX6_readClaim_38 rfl (lv_at hl 3 rfl) ?_
            refine lv_iconst (v := 1) hx hb dX6_readClaim_39 (by decide) ?_
            refine lv_iadd hx hb dX6_readClaim_40 ?_
            refine lv_topi (fun zi_2074 ezi_2074 => ?_)
            have tzi_2074 : zi_2074.toInt = zi_1382.toInt + (1 : Int) := by rw [ezi_2074]; exact tiadd (rfl) (show (1 : Int32).toInt = 1 by decide) (by omega) (by omega)
            refine ht_puti (v := zi_2074) (ty := .int) (C := RX1) (T := TX1) (N := 8) hx hb hts (by decide +kernel) tyX1 tyX1_ok nmX1 hown hK hP hD hS hs t_zm (by decide) rfl rfl 6 (by decide) (hts (.fieldLink RX6 81 "DripStone$Claim" "atoms" "I") (by decide +kernel)) (fun _ h9 => h9) rfl (by decide +kernel) rfl rfl rfl dX6_readClaim_41 (fun H locs hP hD hS => ?_)
            have h_zI_2075 : WM [206, 207, 702, 703, 3100, 3200, 3300] AL zT zR zI (u2 zI_2071 zm 6 zi_2074) := h_zI_2071.put hs t_zm rfl (by omega) (by decide) (fun h => absurd h (by decide)) (by decide) trivial
            generalize uzI_2075 : u2 zI_2071 zm 6 zi_2074 = zI_2075 at hP hD h_zI_2075
            refine lv_aload_n hx hb dX6_readClaim_44 rfl (lv_at hl 1 rfl) ?_
            refine lv_aload_n hx hb dX6_readClaim_45 rfl (lv_at hl 1 rfl) ?_
            refine ht_geti (C := RX1) (T := TX1) (N := 8) hx hb hts (by decide +kernel) hown hK hP hs t_zm (by decide) rfl rfl 7 (by decide) (hts (.fieldLink RX6 71 "DripStone$Claim" "either" "Z") (by decide +kernel)) (fun _ h9 => h9) rfl dX6_readClaim_46 ?_
            refine lv_topi (fun zi_2076 ezi_2076 => ?_)
            have tzi_2076 : 0 ≤ zi_2076.toInt ∧ zi_2076.toInt ≤ 1 := by rw [ezi_2076]; exact h_zI_2075.at t_zm _ rfl
            have jn_2151 : ∀ (zI_2150 : Nat → Nat → Int32) (H : Heap) (locs : List Loc) (ls : Array Slot), (WM [206, 207, 702, 703, 3100, 3200, 3300] AL zT zR zI zI_2150) → va_P (dC, dI) vwCl (WL cy zL zT zR zI_2150 zJ) H → va_D A (WL cy zL zT zR zI_2150 zJ) → va_S A s.heap H locs → lv_has ls 4 [(0, .ref zr), (1, .ref zm), (2, .int zi_1381), (3, .int zi_1382)] → W p l e ({ frames := 5, cells := 0, slots := 0, locals := 109 } : Room) s m ([.ref zr, .ref zm] : List Value).toArray below meth c H locs 0 0 Q (F0 m 61 ls [.ref zm]) := by
              intro zI_2150 H locs ls h_zI_2150 hP hD hS hl
              refine lv_iconst (v := 1) hx hb dX6_readClaim_61 (by decide) ?_
              refine lv_goto (tgt := 66) hx hb dX6_readClaim_62 (by decide) ?_
              refine ht_puti (v := (1 : Int32)) (ty := .boolean) (C := RX1) (T := TX1) (N := 8) hx hb hts (by decide +kernel) tyX1 tyX1_ok nmX1 hown hK hP hD hS hs t_zm (by decide) rfl rfl 7 (by decide) (hts (.fieldLink RX6 71 "DripStone$Claim" "either" "Z") (by decide +kernel)) (fun _ h9 => h9) rfl (by decide +kernel) rfl rfl rfl dX6_readClaim_66 (fun H locs hP hD hS => ?_)
              have h_zI_2152 : WM [206, 207, 702, 703, 3100, 3200, 3300] AL zT zR zI (u2 zI_2150 zm 7 (1 : Int32)) := h_zI_2150.put hs t_zm rfl (by decide) (by decide) (fun h => absurd h (by decide)) (by decide) trivial
              generalize uzI_2152 : u2 zI_2150 zm 7 (1 : Int32) = zI_2152 at hP hD h_zI_2152
              refine lv_aload_n hx hb dX6_readClaim_69 rfl (lv_at hl 1 rfl) ?_
              refine ht_geti (C := RX1) (T := TX1) (N := 8) hx hb hts (by decide +kernel) hown hK hP hs t_zm (by decide) rfl rfl 6 (by decide) (hts (.fieldLink RX6 81 "DripStone$Claim" "atoms" "I") (by decide +kernel)) (fun _ h9 => h9) rfl dX6_readClaim_70 ?_
              refine lv_topi (fun zi_2153 ezi_2153 => ?_)
              have tzi_2153 : 0 ≤ zi_2153.toInt ∧ zi_2153.toInt ≤ 2 := by rw [ezi_2153]; exact h_zI_2152.at t_zm _ rfl
              refine lv_iconst (v := 2) hx hb dX6_readClaim_73 (by decide) ?_
              have jn_2183 : ∀ (zI_2182 : Nat → Nat → Int32) (H : Heap) (locs : List Loc) (ls : Array Slot), (WM [206, 207, 702, 703, 3100, 3200, 3300] AL zT zR zI zI_2182) → va_P (dC, dI) vwCl (WL cy zL zT zR zI_2182 zJ) H → va_D A (WL cy zL zT zR zI_2182 zJ) → va_S A s.heap H locs → lv_has ls 4 [(0, .ref zr), (1, .ref zm), (2, .int zi_1381), (3, .int zi_1382)] → W p l e ({ frames := 5, cells := 0, slots := 0, locals := 109 } : Room) s m ([.ref zr, .ref zm] : List Value).toArray below meth c H locs 0 0 Q (F0 m 99 ls []) := by
                intro zI_2182 H locs ls h_zI_2182 hP hD hS hl
                refine lv_iconst (v := 0) hx hb dX6_readClaim_99 (by decide) ?_
                refine lv_istore_n (lv' := [(2, .int 0), (0, .ref zr), (1, .ref zm), (3, .int zi_1382)]) hx hb dX6_readClaim_100 rfl hl (by decide) rfl (fun ls hl => ?_)
                obtain ⟨zi_2184, ezi_2184⟩ : ∃ y : Int32, y = zi_1382 + 1 := ⟨_, rfl⟩
                have tzi_2184 : zi_2184.toInt = zi_1382.toInt + 1 := by rw [ezi_2184]; exact tadd rfl (show (1 : Int32).toInt = 1 by decide) (by omega) (by omega)
                refine lv_iinc (v := zi_2184) (lv' := [(3, .int zi_2184), (2, .int 0), (0, .ref zr), (1, .ref zm)]) hx hb dX6_readClaim_101 hl (k := 3) rfl (by rw [ezi_2184]; rfl) (by decide) rfl (fun ls hl => ?_)
                refine lv_goto (tgt := 14) hx hb dX6_readClaim_104 (by decide) ?_
                exact ih_1824 (2 - zi_2184.toInt).toNat (by omega) (0 : Int32) zi_2184 zI_2182 _ _ _ rfl (by decide) (by omega) h_zI_2182 hP hD hS (lv_sub hl [2, 3, 1, 0] rfl)
              refine lv_icmp_ge (tgt := 99) hx hb dX6_readClaim_74 (by decide) (fun c_2185 => ?_) (fun c_2185 => ?_)
              · have f_2186 : zi_2153.toInt ≥ (2 : Int) := ic_ge (rfl) (show (2 : Int32).toInt = 2 by decide) c_2185
                exact jn_2183 zI_2152 _ _ _ h_zI_2152 hP hD hS (lv_sub hl [0, 1, 2, 3] rfl)
              · have f_2186 : ¬ (zi_2153.toInt ≥ (2 : Int)) := ic_nge (rfl) (show (2 : Int32).toInt = 2 by decide) c_2185
                refine lv_aload_n hx hb dX6_readClaim_77 rfl (lv_at hl 0 rfl) ?_
                refine lv_bipush (v := 124) hx hb dX6_readClaim_78 (by decide) ?_
                have qc_124 : (124 : Int32).toInt = 124 := by decide
                refine hj_i (ws := (WL cy zL zT zR zI_2152 zJ)) (w1 := fun (u : (Nat → Nat → Int32)) => (WL cy zL zT zR u zJ)) (va_runV (As := [.int 124]) (rest := []) ⟨hx, hb, hml, hown, hts⟩ (t_X6_reads l dC dI cy H.size zL zT zR zI_2152 zJ zr (124 : Int32) hs h_zI_2152.1 t_zr (by decide)) (cwV 1 hts gX6_readClaim_X6_reads rfl rfl rfl (by decide +kernel) ⟨(Nat.le_of_ble_eq_true rfl), (Nat.le_of_ble_eq_true rfl)⟩) (PRE.v hP hK hD hN (ht_recv hK hP hs t_zr (by decide) rfl rfl)) rfl rfl hl.1 rfl (lv_room (Nat.le_of_ble_eq_true rfl)) dX6_readClaim_80 ⟨(Nat.le_of_ble_eq_true rfl), (Nat.le_of_ble_eq_true rfl)⟩) hP hD hS hA (fun zi_2187 zI_2190 H locs hw_2188 hP hD hS => ?_)
                obtain ⟨k_zI_2190, b_zi_2187⟩ : (WM [702] AL zT zR zI_2152 zI_2190) ∧ (0 ≤ zi_2187.toInt ∧ zi_2187.toInt ≤ 1) := hw_2188
                have h_zI_2190 : WM [206, 207, 702, 703, 3100, 3200, 3300] AL zT zR zI zI_2190 := h_zI_2152.tr k_zI_2190 (by decide) (fun _ _ => trivial)
                have jn_2202 : ∀ (zI_2201 : Nat → Nat → Int32) (H : Heap) (locs : List Loc) (ls : Array Slot), (WM [206, 207, 702, 703, 3100, 3200, 3300] AL zT zR zI zI_2201) → va_P (dC, dI) vwCl (WL cy zL zT zR zI_2201 zJ) H → va_D A (WL cy zL zT zR zI_2201 zJ) → va_S A s.heap H locs → lv_has ls 4 [(0, .ref zr), (1, .ref zm), (2, .int zi_1381), (3, .int zi_1382)] → W p l e ({ frames := 5, cells := 0, slots := 0, locals := 109 } : Room) s m ([.ref zr, .ref zm] : List Value).toArray below meth c H locs 0 0 Q (F0 m 95 ls []) := by
                  intro zI_2201 H locs ls h_zI_2201 hP hD hS hl
                  refine lv_iconst (v := 1) hx hb dX6_readClaim_95 (by decide) ?_
                  refine lv_goto (tgt := 100) hx hb dX6_readClaim_96 (by decide) ?_
                  refine lv_istore_n (lv' := [(2, .int 1), (0, .ref zr), (1, .ref zm), (3, .int zi_1382)]) hx hb dX6_readClaim_100 rfl hl (by decide) rfl (fun ls hl => ?_)
                  obtain ⟨zi_2203, ezi_2203⟩ : ∃ y : Int32, y = zi_1382 + 1 := ⟨_, rfl⟩
                  have tzi_2203 : zi_2203.toInt = zi_1382.toInt + 1 := by rw [ezi_2203]; exact tadd rfl (show (1 : Int32).toInt = 1 by decide) (by omega) (by omega)
                  refine lv_iinc (v := zi_2203) (lv' := [(3, .int zi_2203), (2, .int 1), (0, .ref zr), (1, .ref zm)]) hx hb dX6_readClaim_101 hl (k := 3) rfl (by rw [ezi_2203]; rfl) (by decide) rfl (fun ls hl => ?_)
                  refine lv_goto (tgt := 14) hx hb dX6_readClaim_104 (by decide) ?_
                  exact ih_1824 (2 - zi_2203.toInt).toNat (by omega) (1 : Int32) zi_2203 zI_2201 _ _ _ rfl (by decide) (by omega) h_zI_2201 hP hD hS (lv_sub hl [2, 3, 1, 0] rfl)
                refine lv_if_ne (tgt := 95) hx hb dX6_readClaim_83 (by decide) (fun c_2204 => ?_) (fun c_2204 => ?_)
                · have f_2205 : zi_2187.toInt ≠ 0 := ic_ne (rfl) (by decide) c_2204
                  exact jn_2202 zI_2190 _ _ _ h_zI_2190 hP hD hS (lv_sub hl [0, 1, 2, 3] rfl)
                · have f_2205 : ¬ (zi_2187.toInt ≠ 0) := ic_nne (rfl) (by decide) c_2204
                  refine lv_aload_n hx hb dX6_readClaim_86 rfl (lv_at hl 0 rfl) ?_
                  refine lv_bipush (v := 38) hx hb dX6_readClaim_87 (by decide) ?_
                  have qc_38 : (38 : Int32).toInt = 38 := by decide
                  refine hj_i (ws := (WL cy zL zT zR zI_2190 zJ)) (w1 := fun (u : (Nat → Nat → Int32)) => (WL cy zL zT zR u zJ)) (va_runV (As := [.int 38]) (rest := []) ⟨hx, hb, hml, hown, hts⟩ (t_X6_reads l dC dI cy H.size zL zT zR zI_2190 zJ zr (38 : Int32) hs h_zI_2190.1 t_zr (by decide)) (cwV 1 hts gX6_readClaim_X6_reads rfl rfl rfl (by decide +kernel) ⟨(Nat.le_of_ble_eq_true rfl), (Nat.le_of_ble_eq_true rfl)⟩) (PRE.v hP hK hD hN (ht_recv hK hP hs t_zr (by decide) rfl rfl)) rfl rfl hl.1 rfl (lv_room (Nat.le_of_ble_eq_true rfl)) dX6_readClaim_89 ⟨(Nat.le_of_ble_eq_true rfl), (Nat.le_of_ble_eq_true rfl)⟩) hP hD hS hA (fun zi_2206 zI_2209 H locs hw_2207 hP hD hS => ?_)
                  obtain ⟨k_zI_2209, b_zi_2206⟩ : (WM [702] AL zT zR zI_2190 zI_2209) ∧ (0 ≤ zi_2206.toInt ∧ zi_2206.toInt ≤ 1) := hw_2207
                  have h_zI_2209 : WM [206, 207, 702, 703, 3100, 3200, 3300] AL zT zR zI zI_2209 := h_zI_2190.tr k_zI_2209 (by decide) (fun _ _ => trivial)
                  refine lv_if_eq (tgt := 99) hx hb dX6_readClaim_92 (by decide) (fun c_2212 => ?_) (fun c_2212 => ?_)
                  · have f_2213 : zi_2206.toInt = 0 := ic_eq (rfl) (by decide) c_2212
                    exact jn_2183 zI_2209 _ _ _ h_zI_2209 hP hD hS (lv_sub hl [0, 1, 2, 3] rfl)
                  · have f_2213 : ¬ (zi_2206.toInt = 0) := ic_neq (rfl) (by decide) c_2212
                    exact jn_2202 zI_2209 _ _ _ h_zI_2209 hP hD hS (lv_sub hl [0, 1, 2, 3] rfl)
            refine lv_if_ne (tgt := 61) hx hb dX6_readClaim_49 (by decide) (fun c_2214 => ?_) (fun c_2214 => ?_)
            · have f_2215 : zi_2076.toInt ≠ 0 := ic_ne (rfl) (by decide) c_2214
              exact jn_2151 zI_2075 _ _ _ h_zI_2075 hP hD hS (lv_sub hl [0, 1, 2, 3] rfl)
            · have f_2215 : ¬ (zi_2076.toInt ≠ 0) := ic_nne (rfl) (by decide) c_2214
              refine lv_aload_n hx hb dX6_readClaim_52 rfl (lv_at hl 0 rfl) ?_
              refine hj_i (ws := (WL cy zL zT zR zI_2075 zJ)) (w1 := fun (u : (Nat → Nat → Int32)) => (WL cy zL zT zR u zJ)) (va_runV (As := []) (rest := [.ref zm]) ⟨hx, hb, hml, hown, hts⟩ (t_X6_look l dC dI cy H.size zL zT zR zI_2075 zJ zr hs h_zI_2075.1 t_zr) (cwV 0 hts gX6_readClaim_X6_look rfl rfl rfl (by decide +kernel) ⟨(Nat.le_of_ble_eq_true rfl), (Nat.le_of_ble_eq_true rfl)⟩) (PRE.v hP hK hD hN (ht_recv hK hP hs t_zr (by decide) rfl rfl)) rfl rfl hl.1 rfl (lv_room (Nat.le_of_ble_eq_true rfl)) dX6_readClaim_53 ⟨(Nat.le_of_ble_eq_true rfl), (Nat.le_of_ble_eq_true rfl)⟩) hP hD hS hA (fun zi_2216 zI_2219 H locs hw_2217 hP hD hS => ?_)
              obtain ⟨k_zI_2219, b_zi_2216, ps_2220⟩ : (WM [702] AL zT zR zI_2075 zI_2219) ∧ ((-1) ≤ zi_2216.toInt ∧ zi_2216.toInt ≤ 255) ∧ (zi_2216.toInt = -1 ∨ (zI_2219 zr 2).toInt ≤ 79) := hw_2217
              have h_zI_2219 : WM [206, 207, 702, 703, 3100, 3200, 3300] AL zT zR zI zI_2219 := h_zI_2075.tr k_zI_2219 (by decide) (fun _ _ => trivial)
              obtain ⟨zi_2221, ezi_2221⟩ : ∃ y : Int32, y = zI_2219 zr 2 := ⟨_, rfl⟩
              have tzi_2221 : 0 ≤ zi_2221.toInt ∧ zi_2221.toInt ≤ 80 := by rw [ezi_2221]; exact h_zI_2219.at t_zr _ rfl
              have lzi_2221 : (zI_2219 zr 2).toInt = zi_2221.toInt := by rw [ezi_2221]
              have lk_2222 : (zI_2219 zr 2).toInt = zi_2221.toInt := congrArg Int32.toInt ezi_2221.symm
              refine lv_bipush (v := 124) hx hb dX6_readClaim_56 (by decide) ?_
              refine lv_icmp_ne (tgt := 65) hx hb dX6_readClaim_58 (by decide) (fun c_2225 => ?_) (fun c_2225 => ?_)
              · have f_2226 : zi_2216.toInt ≠ (124 : Int) := ic_ne (rfl) (show (124 : Int32).toInt = 124 by decide) c_2225
                refine lv_iconst (v := 0) hx hb dX6_readClaim_65 (by decide) ?_
                refine ht_puti (v := (0 : Int32)) (ty := .boolean) (C := RX1) (T := TX1) (N := 8) hx hb hts (by decide +kernel) tyX1 tyX1_ok nmX1 hown hK hP hD hS hs t_zm (by decide) rfl rfl 7 (by decide) (hts (.fieldLink RX6 71 "DripStone$Claim" "either" "Z") (by decide +kernel)) (fun _ h9 => h9) rfl (by decide +kernel) rfl rfl rfl dX6_readClaim_66 (fun H locs hP hD hS => ?_)
                have h_zI_2227 : WM [206, 207, 702, 703, 3100, 3200, 3300] AL zT zR zI (u2 zI_2219 zm 7 (0 : Int32)) := h_zI_2219.put hs t_zm rfl (by decide) (by decide) (fun h => absurd h (by decide)) (by decide) trivial
                generalize uzI_2227 : u2 zI_2219 zm 7 (0 : Int32) = zI_2227 at hP hD h_zI_2227
                refine lv_aload_n hx hb dX6_readClaim_69 rfl (lv_at hl 1 rfl) ?_
                refine ht_geti (C := RX1) (T := TX1) (N := 8) hx hb hts (by decide +kernel) hown hK hP hs t_zm (by decide) rfl rfl 6 (by decide) (hts (.fieldLink RX6 81 "DripStone$Claim" "atoms" "I") (by decide +kernel)) (fun _ h9 => h9) rfl dX6_readClaim_70 ?_
                refine lv_topi (fun zi_2228 ezi_2228 => ?_)
                obtain rfl : zi_2074 = zi_2228 := (ezi_2228.trans ((show zI_2227 zm 6 = zI_2219 zm 6 from by rw [← uzI_2227]; exact u2_k (by decide)).trans ((k_zI_2219.2 zm 6 (Or.inl (by rw [t_zm]; decide))).trans (by rw [← uzI_2075]; exact u2_s)))).symm
                refine lv_iconst (v := 2) hx hb dX6_readClaim_73 (by decide) ?_
                have jn_2258 : ∀ (zI_2257 : Nat → Nat → Int32) (H : Heap) (locs : List Loc) (ls : Array Slot), (WM [206, 207, 702, 703, 3100, 3200, 3300] AL zT zR zI zI_2257) → va_P (dC, dI) vwCl (WL cy zL zT zR zI_2257 zJ) H → va_D A (WL cy zL zT zR zI_2257 zJ) → va_S A s.heap H locs → lv_has ls 4 [(0, .ref zr), (1, .ref zm), (2, .int zi_1381), (3, .int zi_1382)] → W p l e ({ frames := 5, cells := 0, slots := 0, locals := 109 } : Room) s m ([.ref zr, .ref zm] : List Value).toArray below meth c H locs 0 0 Q (F0 m 99 ls []) := by
                  intro zI_2257 H locs ls h_zI_2257 hP hD hS hl
                  refine lv_iconst (v := 0) hx hb dX6_readClaim_99 (by decide) ?_
                  refine lv_istore_n (lv' := [(2, .int 0), (0, .ref zr), (1, .ref zm), (3, .int zi_1382)]) hx hb dX6_readClaim_100 rfl hl (by decide) rfl (fun ls hl => ?_)
                  obtain ⟨zi_2259, ezi_2259⟩ : ∃ y : Int32, y = zi_1382 + 1 := ⟨_, rfl⟩
                  have tzi_2259 : zi_2259.toInt = zi_1382.toInt + 1 := by rw [ezi_2259]; exact tadd rfl (show (1 : Int32).toInt = 1 by decide) (by omega) (by omega)
                  refine lv_iinc (v := zi_2259) (lv' := [(3, .int zi_2259), (2, .int 0), (0, .ref zr), (1, .ref zm)]) hx hb dX6_readClaim_101 hl (k := 3) rfl (by rw [ezi_2259]; rfl) (by decide) rfl (fun ls hl => ?_)
                  refine lv_goto (tgt := 14) hx hb dX6_readClaim_104 (by decide) ?_
                  exact ih_1824 (2 - zi_2259.toInt).toNat (by omega) (0 : Int32) zi_2259 zI_2257 _ _ _ rfl (by decide) (by omega) h_zI_2257 hP hD hS (lv_sub hl [2, 3, 1, 0] rfl)
                refine lv_icmp_ge (tgt := 99) hx hb dX6_readClaim_74 (by decide) (fun c_2260 => ?_) (fun c_2260 => ?_)
                · have f_2261 : zi_2074.toInt ≥ (2 : Int) := ic_ge (rfl) (show (2 : Int32).toInt = 2 by decide) c_2260
                  exact jn_2258 zI_2227 _ _ _ h_zI_2227 hP hD hS (lv_sub hl [0, 1, 2, 3] rfl)
                · have f_2261 : ¬ (zi_2074.toInt ≥ (2 : Int)) := ic_nge (rfl) (show (2 : Int32).toInt = 2 by decide) c_2260
                  refine lv_aload_n hx hb dX6_readClaim_77 rfl (lv_at hl 0 rfl) ?_
                  refine lv_bipush (v := 124) hx hb dX6_readClaim_78 (by decide) ?_
                  have qc_124 : (124 : Int32).toInt = 124 := by decide
                  refine hj_i (ws := (WL cy zL zT zR zI_2227 zJ)) (w1 := fun (u : (Nat → Nat → Int32)) => (WL cy zL zT zR u zJ)) (va_runV (As := [.int 124]) (rest := []) ⟨hx, hb, hml, hown, hts⟩ (t_X6_reads l dC dI cy H.size zL zT zR zI_2227 zJ zr (124 : Int32) hs h_zI_2227.1 t_zr (by decide)) (cwV 1 hts gX6_readClaim_X6_reads rfl rfl rfl (by decide +kernel) ⟨(Nat.le_of_ble_eq_true rfl), (Nat.le_of_ble_eq_true rfl)⟩) (PRE.v hP hK hD hN (ht_recv hK hP hs t_zr (by decide) rfl rfl)) rfl rfl hl.1 rfl (lv_room (Nat.le_of_ble_eq_true rfl)) dX6_readClaim_80 ⟨(Nat.le_of_ble_eq_true rfl), (Nat.le_of_ble_eq_true rfl)⟩) hP hD hS hA (fun zi_2262 zI_2265 H locs hw_2263 hP hD hS => ?_)
                  obtain ⟨k_zI_2265, b_zi_2262⟩ : (WM [702] AL zT zR zI_2227 zI_2265) ∧ (0 ≤ zi_2262.toInt ∧ zi_2262.toInt ≤ 1) := hw_2263
                  have h_zI_2265 : WM [206, 207, 702, 703, 3100, 3200, 3300] AL zT zR zI zI_2265 := h_zI_2227.tr k_zI_2265 (by decide) (fun _ _ => trivial)
                  have jn_2277 : ∀ (zI_2276 : Nat → Nat → Int32) (H : Heap) (locs : List Loc) (ls : Array Slot), (WM [206, 207, 702, 703, 3100, 3200, 3300] AL zT zR zI zI_2276) → va_P (dC, dI) vwCl (WL cy zL zT zR zI_2276 zJ) H → va_D A (WL cy zL zT zR zI_2276 zJ) → va_S A s.heap H locs → lv_has ls 4 [(0, .ref zr), (1, .ref zm), (2, .int zi_1381), (3, .int zi_1382)] → W p l e ({ frames := 5, cells := 0, slots := 0, locals := 109 } : Room) s m ([.ref zr, .ref zm] : List Value).toArray below meth c H locs 0 0 Q (F0 m 95 ls []) := by
                    intro zI_2276 H locs ls h_zI_2276 hP hD hS hl
                    refine lv_iconst (v := 1) hx hb dX6_readClaim_95 (by decide) ?_
                    refine lv_goto (tgt := 100) hx hb dX6_readClaim_96 (by decide) ?_
                    refine lv_istore_n (lv' := [(2, .int 1), (0, .ref zr), (1, .ref zm), (3, .int zi_1382)]) hx hb dX6_readClaim_100 rfl hl (by decide) rfl (fun ls hl => ?_)
                    obtain ⟨zi_2278, ezi_2278⟩ : ∃ y : Int32, y = zi_1382 + 1 := ⟨_, rfl⟩
                    have tzi_2278 : zi_2278.toInt = zi_1382.toInt + 1 := by rw [ezi_2278]; exact tadd rfl (show (1 : Int32).toInt = 1 by decide) (by omega) (by omega)
                    refine lv_iinc (v := zi_2278) (lv' := [(3, .int zi_2278), (2, .int 1), (0, .ref zr), (1, .ref zm)]) hx hb dX6_readClaim_101 hl (k := 3) rfl (by rw [ezi_2278]; rfl) (by decide) rfl (fun ls hl => ?_)
                    refine lv_goto (tgt := 14) hx hb dX6_readClaim_104 (by decide) ?_
                    exact ih_1824 (2 - zi_2278.toInt).toNat (by omega) (1 : Int32) zi_2278 zI_2276 _ _ _ rfl (by decide) (by omega) h_zI_2276 hP hD hS (lv_sub hl [2, 3, 1, 0] rfl)
                  refine lv_if_ne (tgt := 95) hx hb dX6_readClaim_83 (by decide) (fun c_2279 => ?_) (fun c_2279 => ?_)
                  · have f_2280 : zi_2262.toInt ≠ 0 := ic_ne (rfl) (by decide) c_2279
                    exact jn_2277 zI_2265 _ _ _ h_zI_2265 hP hD hS (lv_sub hl [0, 1, 2, 3] rfl)
                  · have f_2280 : ¬ (zi_2262.toInt ≠ 0) := ic_nne (rfl) (by decide) c_2279
                    refine lv_aload_n hx hb dX6_readClaim_86 rfl (lv_at hl 0 rfl) ?_
                    refine lv_bipush (v := 38) hx hb dX6_readClaim_87 (by decide) ?_
                    have qc_38 : (38 : Int32).toInt = 38 := by decide
                    refine hj_i (ws := (WL cy zL zT zR zI_2265 zJ)) (w1 := fun (u : (Nat → Nat → Int32)) => (WL cy zL zT zR u zJ)) (va_runV (As := [.int 38]) (rest := []) ⟨hx, hb, hml, hown, hts⟩ (t_X6_reads l dC dI cy H.size zL zT zR zI_2265 zJ zr (38 : Int32) hs h_zI_2265.1 t_zr (by decide)) (cwV 1 hts gX6_readClaim_X6_reads rfl rfl rfl (by decide +kernel) ⟨(Nat.le_of_ble_eq_true rfl), (Nat.le_of_ble_eq_true rfl)⟩) (PRE.v hP hK hD hN (ht_recv hK hP hs t_zr (by decide) rfl rfl)) rfl rfl hl.1 rfl (lv_room (Nat.le_of_ble_eq_true rfl)) dX6_readClaim_89 ⟨(Nat.le_of_ble_eq_true rfl), (Nat.le_of_ble_eq_true rfl)⟩) hP hD hS hA (fun zi_2281 zI_2284 H locs hw_2282 hP hD hS => ?_)
                    obtain ⟨k_zI_2284, b_zi_2281⟩ : (WM [702] AL zT zR zI_2265 zI_2284) ∧ (0 ≤ zi_2281.toInt ∧ zi_2281.toInt ≤ 1) := hw_2282
                    have h_zI_2284 : WM [206, 207, 702, 703, 3100, 3200, 3300] AL zT zR zI zI_2284 := h_zI_2265.tr k_zI_2284 (by decide) (fun _ _ => trivial)
                    refine lv_if_eq (tgt := 99) hx hb dX6_readClaim_92 (by decide) (fun c_2287 => ?_) (fun c_2287 => ?_)
                    · have f_2288 : zi_2281.toInt = 0 := ic_eq (rfl) (by decide) c_2287
                      exact jn_2258 zI_2284 _ _ _ h_zI_2284 hP hD hS (lv_sub hl [0, 1, 2, 3] rfl)
                    · have f_2288 : ¬ (zi_2281.toInt = 0) := ic_neq (rfl) (by decide) c_2287
                      exact jn_2277 zI_2284 _ _ _ h_zI_2284 hP hD hS (lv_sub hl [0, 1, 2, 3] rfl)
              · have f_2226 : ¬ (zi_2216.toInt ≠ (124 : Int)) := ic_nne (rfl) (show (124 : Int32).toInt = 124 by decide) c_2225
                exact jn_2151 zI_2219 _ _ _ h_zI_2219 hP hD hS (lv_sub hl [0, 1, 2, 3] rfl)
          · have f_2073 : ¬ (zi_2068.toInt ≠ 0) := ic_nne (rfl) (by decide) c_2072
            refine lv_aload_n hx hb dX6_readClaim_32 rfl (lv_at hl 0 rfl) ?_
            refine ht_geti (C := RX6) (T := TX6) (N := 4) hx hb hts (by decide +kernel) hown hK hP hs t_zr (by decide) rfl rfl 3 (by decide) (hts (.fieldLink RX6 23 "DripStone$Reader" "fault" "I") (by decide +kernel)) (fun _ h9 => h9) rfl dX6_readClaim_33 ?_
            refine lv_topi (fun zi_2289 ezi_2289 => ?_)
            subst hQ
            exact W.iret (v := zi_2289) hx hb hr (fun t ht hW => ⟨⟨zi_2289, zI_2071, rfl, h_zI_2071, ⟨by rw [ht]; exact hP, va_K.moved hW.alike hK, hD⟩⟩, hS.F ht⟩) hS.2.2 dX6_readClaim_36
  exact lp_1824 _ (1 : Int32) (0 : Int32) zI_2 _ _ _ rfl (by decide) (by decide) h_zI_2 hP hD hS (lv_sub hl [2, 3, 1, 0] rfl)
