set_option maxHeartbeats 8000000 in
set_option maxRecDepth 100000 in
theorem t_X9_layPlaces (l : Launch) (dC : Nat → ClassId) (dI : Nat → Nat → Nat) (cy : Nat → ClassId) (sz : Nat) (zL : List Nat) (zT : Nat → Nat) (zR : Nat → Nat → Nat) (zI : Nat → Nat → Int32) (zJ : Nat → Nat → Int64) (zw : Nat) (zc : Nat) (hs : SKP zL zT zR) (hw : WT zT zR zI) (t_zw : zT zw = 10) (t_zc : zT zc = 1) : Met l yX9_layPlaces wsX9_layPlaces ({ frames := 1, cells := 0, slots := 0, locals := 21 } : Room) (va_Pc [.ref zw, .ref zc] (PRE dC dI cy (WL cy zL zT zR zI zJ) sz)) (va_Qv (fun (u : (Nat → Nat → Int32)) => (WM [1014, 3700, 3800, 3900, 4000, 4200] (OW zT zR zw) zT zR zI u) ∧ (LW zR u zw zc)) (fun u t => POST dC dI cy (va_A (WL cy zL zT zR zI zJ) sz) (WL cy zL zT zR u zJ) t) (va_A (WL cy zL zT zR zI zJ) sz)) 0 0 (va_A (WL cy zL zT zR zI zJ) sz) := by
  refine Met.ofW (cc := cX9_layPlaces) (maxL := 4) (ret := none) (by decide) rfl ?_
  intro p e s m args below meth c s₁ B hml hv
  obtain ⟨rfl, hsz, hP, hK, hD0, hN⟩ := hv
  have hx := B.exec
  have hb := B.bytes
  have hr := B.returns
  have hts := atoms_spec (ws := wsX9_layPlaces) B.pre
  have hown : s.vm.findClass RX9 = some m.cls := findClass_of_methodNamed B.named
  have hlocks := B.notSynchronized
  subst hsz
  have hD := hD0.self (sz := s.heap.size)
  generalize hAe : va_A (WL cy zL zT zR zI zJ) s.heap.size = A at hD ⊢
  have hA : ∀ q : Nat, s.heap.size ≤ q → A q := fun q h => by rw [← hAe]; exact Or.inr h
  have hS : va_S A s.heap s.heap [] := va_S.rf
  have hP : va_P (dC, dI) vwCl (WL cy zL zT zR zI zJ) s.heap := hP
  have hl := lv_entry ([.ref zw, .ref zc] : List Value) (n := 4) (Nat.le_of_ble_eq_true rfl)
  rw [lg_entry_eq]
  generalize (lg_sl ([.ref zw, .ref zc] : List Value) ++ List.replicate (4 - (lg_sl ([.ref zw, .ref zc] : List Value)).length) Slot.unset).toArray = ls at hl ⊢
  have hl : lv_has ls 4 [(0, .ref zw), (1, .ref zc)] := hl
  refine w_q (fun Q hQ => ?_)
  have h_zI : WM [1014, 3700, 3800, 3900, 4000, 4200] (OW zT zR zw) zT zR zI zI := WM.rf hw
  refine lv_aload_n hx hb dX9_layPlaces_0 rfl (lv_at hl 0 rfl) ?_
  refine lv_iconst (v := 0) hx hb dX9_layPlaces_1 (by decide) ?_
  refine ht_puti (v := (0 : Int32)) (ty := .int) (C := RX9) (T := TX9) (N := 16) hx hb hts (by decide +kernel) tyX9 tyX9_ok nmX9 hown hK hP hD hS hs t_zw (by decide) rfl rfl 14 (by decide) (hts (.fieldLink RX9 81 "DripStone$Ways" "places" "I") (by decide +kernel)) (fun _ h9 => h9) rfl (by decide +kernel) rfl rfl rfl dX9_layPlaces_2 (fun H locs hP hD hS => ?_)
  have h_zI_1 : WM [1014, 3700, 3800, 3900, 4000, 4200] (OW zT zR zw) zT zR zI (u2 zI zw 14 (0 : Int32)) := h_zI.pl0 hs t_zw (by decide) (fun q h => absurd h nq0) (by decide) (Or.inl rfl)
  generalize uzI_1 : u2 zI zw 14 (0 : Int32) = zI_1 at hP hD h_zI_1
  refine lv_iconst (v := 0) hx hb dX9_layPlaces_5 (by decide) ?_
  refine lv_istore_n (lv' := [(2, .int 0), (0, .ref zw), (1, .ref zc)]) hx hb dX9_layPlaces_6 rfl hl (by decide) rfl (fun ls hl => ?_)
  refine lv_iconst (v := 0) hx hb dX9_layPlaces_7 (by decide) ?_
  refine lv_istore_n (lv' := [(3, .int 0), (2, .int 0), (0, .ref zw), (1, .ref zc)]) hx hb dX9_layPlaces_8 rfl hl (by decide) rfl (fun ls hl => ?_)
  obtain ⟨zi_2, ezi_2⟩ : ∃ y : Int32, y = zI_1 zc 7 := ⟨_, rfl⟩
  have tzi_2 : 0 ≤ zi_2.toInt ∧ zi_2.toInt ≤ 12 := by rw [ezi_2]; exact h_zI_1.at t_zc _ rfl
  have lzi_2 : (zI_1 zc 7).toInt = zi_2.toInt := by rw [ezi_2]
  have lp_726 : ∀ (n : Nat) (zi_651 : Int32) (zi_652 : Int32) (zI_653 : Nat → Nat → Int32) (zi_654 : Int32) (H : Heap) (locs : List Loc) (ls : Array Slot), (12 - zi_652.toInt).toNat = n → (0 ≤ zi_651.toInt ∧ zi_651.toInt ≤ 1) → (0 ≤ zi_652.toInt ∧ zi_652.toInt ≤ 12) → (WM [1014, 3700, 3800, 3900, 4000, 4200] (OW zT zR zw) zT zR zI zI_653) → (0 ≤ zi_654.toInt ∧ zi_654.toInt ≤ 12) → (zi_654.toInt = PL (zI (zR zc 0)) (zi_652.toInt).toNat) → (zi_654.toInt ≤ zi_652.toInt ∧ zi_652.toInt ≤ zi_2.toInt) → (∀ q : Nat, (q : Int) < zi_652.toInt → ¬ (zI (zR zc 0) q).toInt = 2 → (zI_653 (zR zw 1) q).toInt < zi_654.toInt) → (zI_653 zw 14 = zi_654) → (zI_653 zc 7 = zi_2) → va_P (dC, dI) vwCl (WL cy zL zT zR zI_653 zJ) H → va_D A (WL cy zL zT zR zI_653 zJ) → va_S A s.heap H locs → lv_has ls 4 [(0, .ref zw), (1, .ref zc), (2, .int zi_651), (3, .int zi_652)] → W p l e ({ frames := 1, cells := 0, slots := 0, locals := 21 } : Room) s m ([.ref zw, .ref zc] : List Value).toArray below meth c H locs 0 0 Q (F0 m 9 ls []) := by
    intro n
    induction n using Nat.strongRecOn with
    | _ n ih_726 =>
      intro zi_651 zi_652 zI_653 zi_654 H locs ls hn b_zi_651 b_zi_652 h_zI_653 b_zi_654 e_lp_726_0 e_lp_726_1 e_lp_726_2 e_lp_726_3 e_lp_726_4 hP hD hS hl
      refine lv_iload_n hx hb dX9_layPlaces_9 rfl (lv_at hl 3 rfl) ?_
      refine lv_aload_n hx hb dX9_layPlaces_10 rfl (lv_at hl 1 rfl) ?_
      refine ht_geti (C := RX0) (T := TX0) (N := 11) hx hb hts (by decide +kernel) hown hK hP hs t_zc (by decide) rfl rfl 7 (by decide) (hts (.fieldLink RX9 84 "DripStone$Candle" "things" "I") (by decide +kernel)) (fun _ h9 => h9) rfl dX9_layPlaces_11 ?_
      refine lv_topi (fun zi_727 ezi_727 => ?_)
      obtain rfl : zi_2 = zi_727 := (ezi_727.trans e_lp_726_4).symm
      refine lv_icmp_ge (tgt := 135) hx hb dX9_layPlaces_14 (by decide) (fun c_728 => ?_) (fun c_728 => ?_)
      · have f_729 : zi_652.toInt ≥ zi_2.toInt := ic_ge (rfl) (rfl) c_728
        subst hQ
        have t_730 : zT (zR zc 0) = 20 := sk_f hs t_zc (by decide) rfl (by decide)
        exact W.vret hx hb hr (fun t ht hW => ⟨⟨zI_653, rfl, ⟨h_zI_653, (show LW zR zI_653 zw zc from (LW.mk9 e_lp_726_0 e_lp_726_2 (by omega) e_lp_726_3 e_lp_726_4 (h_zI_653.2.row t_730 (by decide) (by decide))))⟩, ⟨by rw [ht]; exact hP, va_K.moved hW.alike hK, hD⟩⟩, hS.F ht⟩) hS.2.2 dX9_layPlaces_135
      · have f_729 : ¬ (zi_652.toInt ≥ zi_2.toInt) := ic_nge (rfl) (rfl) c_728
        refine lv_aload_n hx hb dX9_layPlaces_17 rfl (lv_at hl 0 rfl) ?_
        refine ht_getr (C := RX9) (T := TX9) (N := 16) hx hb hts (by decide +kernel) hown hK hP hs t_zw (by decide) rfl rfl 1 (by decide) (hts (.fieldLink RX9 15 "DripStone$Ways" "placeOf" "[I") (by decide +kernel)) (fun _ h9 => h9) rfl dX9_layPlaces_18 ?_
        have t_731 : zT (zR zw 1) = 38 := sk_f hs t_zw (by decide) rfl (by decide)
        refine lv_iload_n hx hb dX9_layPlaces_21 rfl (lv_at hl 3 rfl) ?_
        refine lv_aload_n hx hb dX9_layPlaces_22 rfl (lv_at hl 0 rfl) ?_
        refine ht_geti (C := RX9) (T := TX9) (N := 16) hx hb hts (by decide +kernel) hown hK hP hs t_zw (by decide) rfl rfl 14 (by decide) (hts (.fieldLink RX9 81 "DripStone$Ways" "places" "I") (by decide +kernel)) (fun _ h9 => h9) rfl dX9_layPlaces_23 ?_
        refine lv_topi (fun zi_732 ezi_732 => ?_)
        obtain rfl : zi_654 = zi_732 := (ezi_732.trans e_lp_726_3).symm
        refine ht_iast (v := zi_654) (n := 12) (q := 0) hx hb hK hP hD hS hs t_731 (by decide) rfl rfl ⟨by omega, by omega⟩ dX9_layPlaces_26 (fun H locs hP hD hS => ?_)
        have h_zI_733 : WM [1014, 3700, 3800, 3900, 4000, 4200] (OW zT zR zw) zT zR zI (u2 zI_653 (zR zw 1) zi_652.toNatClampNeg zi_654) := h_zI_653.putA hs t_731 rfl (by omega) (by decide) (fun h => absurd h (by decide)) (by decide) (Or.inr ⟨1, by rw [t_zw]; decide, rfl⟩)
        generalize uzI_733 : u2 zI_653 (zR zw 1) zi_652.toNatClampNeg zi_654 = zI_733 at hP hD h_zI_733
        refine lv_aload_n hx hb dX9_layPlaces_27 rfl (lv_at hl 1 rfl) ?_
        refine lv_iload_n hx hb dX9_layPlaces_28 rfl (lv_at hl 3 rfl) ?_
        refine hj_i (ws := (WL cy zL zT zR zI_733 zJ)) (w1 := fun (u : Unit) => (WL cy zL zT zR zI_733 zJ)) (va_runV (As := [.int zi_652]) (rest := []) ⟨hx, hb, hml, hown, hts⟩ (t_X0_isPlace l dC dI cy H.size zL zT zR zI_733 zJ zc zi_652 hs h_zI_733.1 t_zc (by omega)) (cwV 1 hts gX9_layPlaces_X0_isPlace rfl rfl rfl (by decide +kernel) ⟨(Nat.le_of_ble_eq_true rfl), (Nat.le_of_ble_eq_true rfl)⟩) (PRE.v hP hK hD hN (ht_recv hK hP hs t_zc (by decide) rfl rfl)) rfl rfl hl.1 rfl (lv_room (Nat.le_of_ble_eq_true rfl)) dX9_layPlaces_29 ⟨(Nat.le_of_ble_eq_true rfl), (Nat.le_of_ble_eq_true rfl)⟩) hP hD hS hA (fun zi_734 u_736 H locs hw_735 hP hD hS => ?_)
        obtain ⟨b_zi_734, ps_737⟩ : (0 ≤ zi_734.toInt ∧ zi_734.toInt ≤ 1) ∧ ((zi_734.toInt = 0 ∧ (zI_733 (zR zc 0) zi_652.toNatClampNeg).toInt = 2) ∨ (zi_734.toInt = 1 ∧ ¬ (zI_733 (zR zc 0) zi_652.toNatClampNeg).toInt = 2)) := hw_735
        have t_738 : zT (zR zc 0) = 20 := sk_f hs t_zc (by decide) rfl (by decide)
        have kk_739 : (zI_733 (zR zc 0) zi_652.toNatClampNeg).toInt = (zI (zR zc 0) zi_652.toNatClampNeg).toInt := congrArg Int32.toInt (h_zI_733.2 (zR zc 0) _ (Or.inl (by rw [t_738]; exact (by decide : ¬ 2000 ∈ ([1014, 3700, 3800, 3900, 4000, 4200] : List Nat)))))
        refine lv_if_eq (tgt := 115) hx hb dX9_layPlaces_32 (by decide) (fun c_740 => ?_) (fun c_740 => ?_)
        · have f_741 : zi_734.toInt = 0 := ic_eq (rfl) (by decide) c_740
          refine lv_aload_n hx hb dX9_layPlaces_115 rfl (lv_at hl 1 rfl) ?_
          refine lv_iload_n hx hb dX9_layPlaces_116 rfl (lv_at hl 3 rfl) ?_
          refine hj_i (ws := (WL cy zL zT zR zI_733 zJ)) (w1 := fun (u : Unit) => (WL cy zL zT zR zI_733 zJ)) (va_runV (As := [.int zi_652]) (rest := []) ⟨hx, hb, hml, hown, hts⟩ (t_X0_isPlace l dC dI cy H.size zL zT zR zI_733 zJ zc zi_652 hs h_zI_733.1 t_zc (by omega)) (cwV 1 hts gX9_layPlaces_X0_isPlace rfl rfl rfl (by decide +kernel) ⟨(Nat.le_of_ble_eq_true rfl), (Nat.le_of_ble_eq_true rfl)⟩) (PRE.v hP hK hD hN (ht_recv hK hP hs t_zc (by decide) rfl rfl)) rfl rfl hl.1 rfl (lv_room (Nat.le_of_ble_eq_true rfl)) dX9_layPlaces_117 ⟨(Nat.le_of_ble_eq_true rfl), (Nat.le_of_ble_eq_true rfl)⟩) hP hD hS hA (fun zi_742 u_744 H locs hw_743 hP hD hS => ?_)
          obtain ⟨b_zi_742, ps_745⟩ : (0 ≤ zi_742.toInt ∧ zi_742.toInt ≤ 1) ∧ ((zi_742.toInt = 0 ∧ (zI_733 (zR zc 0) zi_652.toNatClampNeg).toInt = 2) ∨ (zi_742.toInt = 1 ∧ ¬ (zI_733 (zR zc 0) zi_652.toNatClampNeg).toInt = 2)) := hw_743
          refine lv_if_ne (tgt := 127) hx hb dX9_layPlaces_120 (by decide) (fun c_746 => ?_) (fun c_746 => ?_)
          · have f_747 : zi_742.toInt ≠ 0 := ic_ne (rfl) (by decide) c_746
            refine lv_iconst (v := 0) hx hb dX9_layPlaces_127 (by decide) ?_
            refine lv_istore_n (lv' := [(2, .int 0), (0, .ref zw), (1, .ref zc), (3, .int zi_652)]) hx hb dX9_layPlaces_128 rfl hl (by decide) rfl (fun ls hl => ?_)
            obtain ⟨zi_748, ezi_748⟩ : ∃ y : Int32, y = zi_652 + 1 := ⟨_, rfl⟩
            have tzi_748 : zi_748.toInt = zi_652.toInt + 1 := by rw [ezi_748]; exact tadd rfl (show (1 : Int32).toInt = 1 by decide) (by omega) (by omega)
            refine lv_iinc (v := zi_748) (lv' := [(3, .int zi_748), (2, .int 0), (0, .ref zw), (1, .ref zc)]) hx hb dX9_layPlaces_129 hl (k := 3) rfl (by rw [ezi_748]; rfl) (by decide) rfl (fun ls hl => ?_)
            refine lv_goto (tgt := 9) hx hb dX9_layPlaces_132 (by decide) ?_
            have qc_0 : (0 : Int32).toInt = 0 := by decide
            exact ih_726 (12 - zi_748.toInt).toNat (by omega) (0 : Int32) zi_748 zI_733 zi_654 _ _ _ rfl (by decide) (by omega) h_zI_733 (by omega) (by have q9 := PL_s (f := zI (zR zc 0)) (t := zi_652) (t' := zi_748) (by omega) (by omega); omega) (by omega) (lpc_s (K := zI (zR zc 0)) (t := zi_652) (w := zi_654) e_lp_726_2 (by omega) (by omega) (fun q hq => (show zI_733 (zR zw 1) q = zI_653 (zR zw 1) q from by rw [← uzI_733]; exact u2_k hq)) (by omega) (by first | exact Or.inl (by omega) | exact Or.inr (by rw [show zI_733 (zR zw 1) zi_652.toNatClampNeg = zi_654 from (by rw [← uzI_733]; exact u2_s)]; omega))) ((show zI_733 zw 14 = zI_653 zw 14 from by rw [← uzI_733]; exact u2_n (tne t_zw t_731 (by decide))).trans e_lp_726_3) ((show zI_733 zc 7 = zI_653 zc 7 from by rw [← uzI_733]; exact u2_n (tne t_zc t_731 (by decide))).trans e_lp_726_4) hP hD hS (lv_sub hl [2, 3, 1, 0] rfl)
          · have f_747 : ¬ (zi_742.toInt ≠ 0) := ic_nne (rfl) (by decide) c_746
            refine lv_iconst (v := 1) hx hb dX9_layPlaces_123 (by decide) ?_
            refine lv_goto (tgt := 128) hx hb dX9_layPlaces_124 (by decide) ?_
            refine lv_istore_n (lv' := [(2, .int 1), (0, .ref zw), (1, .ref zc), (3, .int zi_652)]) hx hb dX9_layPlaces_128 rfl hl (by decide) rfl (fun ls hl => ?_)
            obtain ⟨zi_749, ezi_749⟩ : ∃ y : Int32, y = zi_652 + 1 := ⟨_, rfl⟩
            have tzi_749 : zi_749.toInt = zi_652.toInt + 1 := by rw [ezi_749]; exact tadd rfl (show (1 : Int32).toInt = 1 by decide) (by omega) (by omega)
            refine lv_iinc (v := zi_749) (lv' := [(3, .int zi_749), (2, .int 1), (0, .ref zw), (1, .ref zc)]) hx hb dX9_layPlaces_129 hl (k := 3) rfl (by rw [ezi_749]; rfl) (by decide) rfl (fun ls hl => ?_)
            refine lv_goto (tgt := 9) hx hb dX9_layPlaces_132 (by decide) ?_
            have qc_1 : (1 : Int32).toInt = 1 := by decide
            exact ih_726 (12 - zi_749.toInt).toNat (by omega) (1 : Int32) zi_749 zI_733 zi_654 _ _ _ rfl (by decide) (by omega) h_zI_733 (by omega) (by have q9 := PL_s (f := zI (zR zc 0)) (t := zi_652) (t' := zi_749) (by omega) (by omega); omega) (by omega) (lpc_s (K := zI (zR zc 0)) (t := zi_652) (w := zi_654) e_lp_726_2 (by omega) (by omega) (fun q hq => (show zI_733 (zR zw 1) q = zI_653 (zR zw 1) q from by rw [← uzI_733]; exact u2_k hq)) (by omega) (by first | exact Or.inl (by omega) | exact Or.inr (by rw [show zI_733 (zR zw 1) zi_652.toNatClampNeg = zi_654 from (by rw [← uzI_733]; exact u2_s)]; omega))) ((show zI_733 zw 14 = zI_653 zw 14 from by rw [← uzI_733]; exact u2_n (tne t_zw t_731 (by decide))).trans e_lp_726_3) ((show zI_733 zc 7 = zI_653 zc 7 from by rw [← uzI_733]; exact u2_n (tne t_zc t_731 (by decide))).trans e_lp_726_4) hP hD hS (lv_sub hl [2, 3, 1, 0] rfl)
        · have f_741 : ¬ (zi_734.toInt = 0) := ic_neq (rfl) (by decide) c_740
          refine lv_aload_n hx hb dX9_layPlaces_35 rfl (lv_at hl 0 rfl) ?_
          refine ht_getr (C := RX9) (T := TX9) (N := 16) hx hb hts (by decide +kernel) hown hK hP hs t_zw (by decide) rfl rfl 0 (by decide) (hts (.fieldLink RX9 9 "DripStone$Ways" "things" "[I") (by decide +kernel)) (fun _ h9 => h9) rfl dX9_layPlaces_36 ?_
          have t_750 : zT (zR zw 0) = 37 := sk_f hs t_zw (by decide) rfl (by decide)
          refine lv_aload_n hx hb dX9_layPlaces_39 rfl (lv_at hl 0 rfl) ?_
          refine ht_geti (C := RX9) (T := TX9) (N := 16) hx hb hts (by decide +kernel) hown hK hP hs t_zw (by decide) rfl rfl 14 (by decide) (hts (.fieldLink RX9 81 "DripStone$Ways" "places" "I") (by decide +kernel)) (fun _ h9 => h9) rfl dX9_layPlaces_40 ?_
          refine lv_topi (fun zi_751 ezi_751 => ?_)
          obtain rfl : zi_654 = zi_751 := (ezi_751.trans ((show zI_733 zw 14 = zI_653 zw 14 from by rw [← uzI_733]; exact u2_n (tne t_zw t_731 (by decide))).trans e_lp_726_3)).symm
          refine lv_iload_n hx hb dX9_layPlaces_43 rfl (lv_at hl 3 rfl) ?_
          refine ht_iast (v := zi_652) (n := 12) (q := 0) hx hb hK hP hD hS hs t_750 (by decide) rfl rfl ⟨by omega, by omega⟩ dX9_layPlaces_44 (fun H locs hP hD hS => ?_)
          have h_zI_752 : WM [1014, 3700, 3800, 3900, 4000, 4200] (OW zT zR zw) zT zR zI (u2 zI_733 (zR zw 0) zi_654.toNatClampNeg zi_652) := h_zI_733.putA hs t_750 rfl (by omega) (by decide) (fun h => absurd h (by decide)) (by decide) (Or.inr ⟨0, by rw [t_zw]; decide, rfl⟩)
          generalize uzI_752 : u2 zI_733 (zR zw 0) zi_654.toNatClampNeg zi_652 = zI_752 at hP hD h_zI_752
          refine lv_aload_n hx hb dX9_layPlaces_45 rfl (lv_at hl 0 rfl) ?_
          refine ht_getr (C := RX9) (T := TX9) (N := 16) hx hb hts (by decide +kernel) hown hK hP hs t_zw (by decide) rfl rfl 2 (by decide) (hts (.fieldLink RX9 18 "DripStone$Ways" "earliest" "[I") (by decide +kernel)) (fun _ h9 => h9) rfl dX9_layPlaces_46 ?_
          have t_753 : zT (zR zw 2) = 39 := sk_f hs t_zw (by decide) rfl (by decide)
          refine lv_aload_n hx hb dX9_layPlaces_49 rfl (lv_at hl 0 rfl) ?_
          refine ht_geti (C := RX9) (T := TX9) (N := 16) hx hb hts (by decide +kernel) hown hK hP hs t_zw (by decide) rfl rfl 14 (by decide) (hts (.fieldLink RX9 81 "DripStone$Ways" "places" "I") (by decide +kernel)) (fun _ h9 => h9) rfl dX9_layPlaces_50 ?_
          refine lv_topi (fun zi_754 ezi_754 => ?_)
          obtain rfl : zi_654 = zi_754 := (ezi_754.trans ((show zI_752 zw 14 = zI_733 zw 14 from by rw [← uzI_752]; exact u2_n (tne t_zw t_750 (by decide))).trans ((show zI_733 zw 14 = zI_653 zw 14 from by rw [← uzI_733]; exact u2_n (tne t_zw t_731 (by decide))).trans e_lp_726_3))).symm
          refine lv_iconst (v := 0) hx hb dX9_layPlaces_53 (by decide) ?_
          refine ht_iast (v := (0 : Int32)) (n := 12) (q := 0) hx hb hK hP hD hS hs t_753 (by decide) rfl rfl ⟨by omega, by omega⟩ dX9_layPlaces_54 (fun H locs hP hD hS => ?_)
          have h_zI_755 : WM [1014, 3700, 3800, 3900, 4000, 4200] (OW zT zR zw) zT zR zI (u2 zI_752 (zR zw 2) zi_654.toNatClampNeg (0 : Int32)) := h_zI_752.putA hs t_753 rfl (by decide) (by decide) (fun h => absurd h (by decide)) (by decide) (Or.inr ⟨2, by rw [t_zw]; decide, rfl⟩)
          generalize uzI_755 : u2 zI_752 (zR zw 2) zi_654.toNatClampNeg (0 : Int32) = zI_755 at hP hD h_zI_755
          refine lv_aload_n hx hb dX9_layPlaces_55 rfl (lv_at hl 0 rfl) ?_
          refine ht_getr (C := RX9) (T := TX9) (N := 16) hx hb hts (by decide +kernel) hown hK hP hs t_zw (by decide) rfl rfl 3 (by decide) (hts (.fieldLink RX9 21 "DripStone$Ways" "latest" "[I") (by decide +kernel)) (fun _ h9 => h9) rfl dX9_layPlaces_56 ?_
          have t_756 : zT (zR zw 3) = 39 := sk_f hs t_zw (by decide) rfl (by decide)
          refine lv_aload_n hx hb dX9_layPlaces_59 rfl (lv_at hl 0 rfl) ?_
          refine ht_geti (C := RX9) (T := TX9) (N := 16) hx hb hts (by decide +kernel) hown hK hP hs t_zw (by decide) rfl rfl 14 (by decide) (hts (.fieldLink RX9 81 "DripStone$Ways" "places" "I") (by decide +kernel)) (fun _ h9 => h9) rfl dX9_layPlaces_60 ?_
          refine lv_topi (fun zi_757 ezi_757 => ?_)
          obtain rfl : zi_654 = zi_757 := (ezi_757.trans ((show zI_755 zw 14 = zI_752 zw 14 from by rw [← uzI_755]; exact u2_n (tne t_zw t_753 (by decide))).trans ((show zI_752 zw 14 = zI_733 zw 14 from by rw [← uzI_752]; exact u2_n (tne t_zw t_750 (by decide))).trans ((show zI_733 zw 14 = zI_653 zw 14 from by rw [← uzI_733]; exact u2_n (tne t_zw t_731 (by decide))).trans e_lp_726_3)))).symm
          refine lv_bipush (v := 23) hx hb dX9_layPlaces_63 (by decide) ?_
          refine ht_iast (v := (23 : Int32)) (n := 12) (q := 0) hx hb hK hP hD hS hs t_756 (by decide) rfl rfl ⟨by omega, by omega⟩ dX9_layPlaces_65 (fun H locs hP hD hS => ?_)
          have h_zI_758 : WM [1014, 3700, 3800, 3900, 4000, 4200] (OW zT zR zw) zT zR zI (u2 zI_755 (zR zw 3) zi_654.toNatClampNeg (23 : Int32)) := h_zI_755.putA hs t_756 rfl (by decide) (by decide) (fun h => absurd h (by decide)) (by decide) (Or.inr ⟨3, by rw [t_zw]; decide, rfl⟩)
          generalize uzI_758 : u2 zI_755 (zR zw 3) zi_654.toNatClampNeg (23 : Int32) = zI_758 at hP hD h_zI_758
          refine lv_aload_n hx hb dX9_layPlaces_66 rfl (lv_at hl 0 rfl) ?_
          refine ht_getr (C := RX9) (T := TX9) (N := 16) hx hb hts (by decide +kernel) hown hK hP hs t_zw (by decide) rfl rfl 4 (by decide) (hts (.fieldLink RX9 24 "DripStone$Ways" "least" "[I") (by decide +kernel)) (fun _ h9 => h9) rfl dX9_layPlaces_67 ?_
          have t_759 : zT (zR zw 4) = 40 := sk_f hs t_zw (by decide) rfl (by decide)
          refine lv_aload_n hx hb dX9_layPlaces_70 rfl (lv_at hl 0 rfl) ?_
          refine ht_geti (C := RX9) (T := TX9) (N := 16) hx hb hts (by decide +kernel) hown hK hP hs t_zw (by decide) rfl rfl 14 (by decide) (hts (.fieldLink RX9 81 "DripStone$Ways" "places" "I") (by decide +kernel)) (fun _ h9 => h9) rfl dX9_layPlaces_71 ?_
          refine lv_topi (fun zi_760 ezi_760 => ?_)
          obtain rfl : zi_654 = zi_760 := (ezi_760.trans ((show zI_758 zw 14 = zI_755 zw 14 from by rw [← uzI_758]; exact u2_n (tne t_zw t_756 (by decide))).trans ((show zI_755 zw 14 = zI_752 zw 14 from by rw [← uzI_755]; exact u2_n (tne t_zw t_753 (by decide))).trans ((show zI_752 zw 14 = zI_733 zw 14 from by rw [← uzI_752]; exact u2_n (tne t_zw t_750 (by decide))).trans ((show zI_733 zw 14 = zI_653 zw 14 from by rw [← uzI_733]; exact u2_n (tne t_zw t_731 (by decide))).trans e_lp_726_3))))).symm
          refine lv_iload_n hx hb dX9_layPlaces_74 rfl (lv_at hl 2 rfl) ?_
          refine lv_if_eq (tgt := 82) hx hb dX9_layPlaces_75 (by decide) (fun c_761 => ?_) (fun c_761 => ?_)
          · have f_762 : zi_651.toInt = 0 := ic_eq (rfl) (by decide) c_761
            refine lv_iconst (v := 0) hx hb dX9_layPlaces_82 (by decide) ?_
            refine ht_iast (v := (0 : Int32)) (n := 12) (q := 0) hx hb hK hP hD hS hs t_759 (by decide) rfl rfl ⟨by omega, by omega⟩ dX9_layPlaces_83 (fun H locs hP hD hS => ?_)
            have h_zI_763 : WM [1014, 3700, 3800, 3900, 4000, 4200] (OW zT zR zw) zT zR zI (u2 zI_758 (zR zw 4) zi_654.toNatClampNeg (0 : Int32)) := h_zI_758.putA hs t_759 rfl (by decide) (by decide) (fun h => absurd h (by decide)) (by decide) (Or.inr ⟨4, by rw [t_zw]; decide, rfl⟩)
            generalize uzI_763 : u2 zI_758 (zR zw 4) zi_654.toNatClampNeg (0 : Int32) = zI_763 at hP hD h_zI_763
            refine lv_aload_n hx hb dX9_layPlaces_84 rfl (lv_at hl 0 rfl) ?_
            refine ht_getr (C := RX9) (T := TX9) (N := 16) hx hb hts (by decide +kernel) hown hK hP hs t_zw (by decide) rfl rfl 5 (by decide) (hts (.fieldLink RX9 27 "DripStone$Ways" "furthest" "[I") (by decide +kernel)) (fun _ h9 => h9) rfl dX9_layPlaces_85 ?_
            have t_764 : zT (zR zw 5) = 39 := sk_f hs t_zw (by decide) rfl (by decide)
            refine lv_aload_n hx hb dX9_layPlaces_88 rfl (lv_at hl 0 rfl) ?_
            refine ht_geti (C := RX9) (T := TX9) (N := 16) hx hb hts (by decide +kernel) hown hK hP hs t_zw (by decide) rfl rfl 14 (by decide) (hts (.fieldLink RX9 81 "DripStone$Ways" "places" "I") (by decide +kernel)) (fun _ h9 => h9) rfl dX9_layPlaces_89 ?_
            refine lv_topi (fun zi_765 ezi_765 => ?_)
            obtain rfl : zi_654 = zi_765 := (ezi_765.trans ((show zI_763 zw 14 = zI_758 zw 14 from by rw [← uzI_763]; exact u2_n (tne t_zw t_759 (by decide))).trans ((show zI_758 zw 14 = zI_755 zw 14 from by rw [← uzI_758]; exact u2_n (tne t_zw t_756 (by decide))).trans ((show zI_755 zw 14 = zI_752 zw 14 from by rw [← uzI_755]; exact u2_n (tne t_zw t_753 (by decide))).trans ((show zI_752 zw 14 = zI_733 zw 14 from by rw [← uzI_752]; exact u2_n (tne t_zw t_750 (by decide))).trans ((show zI_733 zw 14 = zI_653 zw 14 from by rw [← uzI_733]; exact u2_n (tne t_zw t_731 (by decide))).trans e_lp_726_3)))))).symm
            refine lv_bipush (v := 23) hx hb dX9_layPlaces_92 (by decide) ?_
            refine ht_iast (v := (23 : Int32)) (n := 12) (q := 0) hx hb hK hP hD hS hs t_764 (by decide) rfl rfl ⟨by omega, by omega⟩ dX9_layPlaces_94 (fun H locs hP hD hS => ?_)
            have h_zI_766 : WM [1014, 3700, 3800, 3900, 4000, 4200] (OW zT zR zw) zT zR zI (u2 zI_763 (zR zw 5) zi_654.toNatClampNeg (23 : Int32)) := h_zI_763.putA hs t_764 rfl (by decide) (by decide) (fun h => absurd h (by decide)) (by decide) (Or.inr ⟨5, by rw [t_zw]; decide, rfl⟩)
            generalize uzI_766 : u2 zI_763 (zR zw 5) zi_654.toNatClampNeg (23 : Int32) = zI_766 at hP hD h_zI_766
            refine lv_aload_n hx hb dX9_layPlaces_95 rfl (lv_at hl 0 rfl) ?_
            refine ht_getr (C := RX9) (T := TX9) (N := 16) hx hb hts (by decide +kernel) hown hK hP hs t_zw (by decide) rfl rfl 6 (by decide) (hts (.fieldLink RX9 30 "DripStone$Ways" "needed" "[I") (by decide +kernel)) (fun _ h9 => h9) rfl dX9_layPlaces_96 ?_
            have t_767 : zT (zR zw 6) = 42 := sk_f hs t_zw (by decide) rfl (by decide)
            refine lv_aload_n hx hb dX9_layPlaces_99 rfl (lv_at hl 0 rfl) ?_
            refine ht_geti (C := RX9) (T := TX9) (N := 16) hx hb hts (by decide +kernel) hown hK hP hs t_zw (by decide) rfl rfl 14 (by decide) (hts (.fieldLink RX9 81 "DripStone$Ways" "places" "I") (by decide +kernel)) (fun _ h9 => h9) rfl dX9_layPlaces_100 ?_
            refine lv_topi (fun zi_768 ezi_768 => ?_)
            obtain rfl : zi_654 = zi_768 := (ezi_768.trans ((show zI_766 zw 14 = zI_763 zw 14 from by rw [← uzI_766]; exact u2_n (tne t_zw t_764 (by decide))).trans ((show zI_763 zw 14 = zI_758 zw 14 from by rw [← uzI_763]; exact u2_n (tne t_zw t_759 (by decide))).trans ((show zI_758 zw 14 = zI_755 zw 14 from by rw [← uzI_758]; exact u2_n (tne t_zw t_756 (by decide))).trans ((show zI_755 zw 14 = zI_752 zw 14 from by rw [← uzI_755]; exact u2_n (tne t_zw t_753 (by decide))).trans ((show zI_752 zw 14 = zI_733 zw 14 from by rw [← uzI_752]; exact u2_n (tne t_zw t_750 (by decide))).trans ((show zI_733 zw 14 = zI_653 zw 14 from by rw [← uzI_733]; exact u2_n (tne t_zw t_731 (by decide))).trans e_lp_726_3))))))).symm
            refine lv_iconst (v := 1) hx hb dX9_layPlaces_103 (by decide) ?_
            refine ht_iast (v := (1 : Int32)) (n := 12) (q := 0) hx hb hK hP hD hS hs t_767 (by decide) rfl rfl ⟨by omega, by omega⟩ dX9_layPlaces_104 (fun H locs hP hD hS => ?_)
            have h_zI_769 : WM [1014, 3700, 3800, 3900, 4000, 4200] (OW zT zR zw) zT zR zI (u2 zI_766 (zR zw 6) zi_654.toNatClampNeg (1 : Int32)) := h_zI_766.putA hs t_767 rfl (by decide) (by decide) (fun _ => by decide) (by decide) (Or.inr ⟨6, by rw [t_zw]; decide, rfl⟩)
            generalize uzI_769 : u2 zI_766 (zR zw 6) zi_654.toNatClampNeg (1 : Int32) = zI_769 at hP hD h_zI_769
            refine lv_aload_n hx hb dX9_layPlaces_105 rfl (lv_at hl 0 rfl) ?_
            refine lv_dup hx hb dX9_layPlaces_106 rfl ?_
            refine ht_geti (C := RX9) (T := TX9) (N := 16) hx hb hts (by decide +kernel) hown hK hP hs t_zw (by decide) rfl rfl 14 (by decide) (hts (.fieldLink RX9 81 "DripStone$Ways" "places" "I") (by decide +kernel)) (fun _ h9 => h9) rfl dX9_layPlaces_107 ?_
            refine lv_topi (fun zi_770 ezi_770 => ?_)
            obtain rfl : zi_654 = zi_770 := (ezi_770.trans ((show zI_769 zw 14 = zI_766 zw 14 from by rw [← uzI_769]; exact u2_n (tne t_zw t_767 (by decide))).trans ((show zI_766 zw 14 = zI_763 zw 14 from by rw [← uzI_766]; exact u2_n (tne t_zw t_764 (by decide))).trans ((show zI_763 zw 14 = zI_758 zw 14 from by rw [← uzI_763]; exact u2_n (tne t_zw t_759 (by decide))).trans ((show zI_758 zw 14 = zI_755 zw 14 from by rw [← uzI_758]; exact u2_n (tne t_zw t_756 (by decide))).trans ((show zI_755 zw 14 = zI_752 zw 14 from by rw [← uzI_755]; exact u2_n (tne t_zw t_753 (by decide))).trans ((show zI_752 zw 14 = zI_733 zw 14 from by rw [← uzI_752]; exact u2_n (tne t_zw t_750 (by decide))).trans ((show zI_733 zw 14 = zI_653 zw 14 from by rw [← uzI_733]; exact u2_n (tne t_zw t_731 (by decide))).trans e_lp_726_3)))))))).symm
            refine lv_iconst (v := 1) hx hb dX9_layPlaces_110 (by decide) ?_
            refine lv_iadd hx hb dX9_layPlaces_111 ?_
            refine lv_topi (fun zi_771 ezi_771 => ?_)
            have tzi_771 : zi_771.toInt = zi_654.toInt + (1 : Int) := by rw [ezi_771]; exact tiadd (rfl) (show (1 : Int32).toInt = 1 by decide) (by omega) (by omega)
            refine ht_puti (v := zi_771) (ty := .int) (C := RX9) (T := TX9) (N := 16) hx hb hts (by decide +kernel) tyX9 tyX9_ok nmX9 hown hK hP hD hS hs t_zw (by decide) rfl rfl 14 (by decide) (hts (.fieldLink RX9 81 "DripStone$Ways" "places" "I") (by decide +kernel)) (fun _ h9 => h9) rfl (by decide +kernel) rfl rfl rfl dX9_layPlaces_112 (fun H locs hP hD hS => ?_)
            have h_zI_772 : WM [1014, 3700, 3800, 3900, 4000, 4200] (OW zT zR zw) zT zR zI (u2 zI_769 zw 14 zi_771) := h_zI_769.pl0 hs t_zw (by omega) (pl1 h_zI_769 t_zw ((show zI_769 zw 14 = zI_766 zw 14 from by rw [← uzI_769]; exact u2_n (tne t_zw t_767 (by decide))).trans ((show zI_766 zw 14 = zI_763 zw 14 from by rw [← uzI_766]; exact u2_n (tne t_zw t_764 (by decide))).trans ((show zI_763 zw 14 = zI_758 zw 14 from by rw [← uzI_763]; exact u2_n (tne t_zw t_759 (by decide))).trans ((show zI_758 zw 14 = zI_755 zw 14 from by rw [← uzI_758]; exact u2_n (tne t_zw t_756 (by decide))).trans ((show zI_755 zw 14 = zI_752 zw 14 from by rw [← uzI_755]; exact u2_n (tne t_zw t_753 (by decide))).trans ((show zI_752 zw 14 = zI_733 zw 14 from by rw [← uzI_752]; exact u2_n (tne t_zw t_750 (by decide))).trans ((show zI_733 zw 14 = zI_653 zw 14 from by rw [← uzI_733]; exact u2_n (tne t_zw t_731 (by decide))).trans e_lp_726_3))))))) (by omega) (by omega) (by rw [← uzI_769]; exact u2_s)) (by decide) (Or.inl rfl)
            generalize uzI_772 : u2 zI_769 zw 14 zi_771 = zI_772 at hP hD h_zI_772
            refine lv_aload_n hx hb dX9_layPlaces_115 rfl (lv_at hl 1 rfl) ?_
            refine lv_iload_n hx hb dX9_layPlaces_116 rfl (lv_at hl 3 rfl) ?_
            refine hj_i (ws := (WL cy zL zT zR zI_772 zJ)) (w1 := fun (u : Unit) => (WL cy zL zT zR zI_772 zJ)) (va_runV (As := [.int zi_652]) (rest := []) ⟨hx, hb, hml, hown, hts⟩ (t_X0_isPlace l dC dI cy H.size zL zT zR zI_772 zJ zc zi_652 hs h_zI_772.1 t_zc (by omega)) (cwV 1 hts gX9_layPlaces_X0_isPlace rfl rfl rfl (by decide +kernel) ⟨(Nat.le_of_ble_eq_true rfl), (Nat.le_of_ble_eq_true rfl)⟩) (PRE.v hP hK hD hN (ht_recv hK hP hs t_zc (by decide) rfl rfl)) rfl rfl hl.1 rfl (lv_room (Nat.le_of_ble_eq_true rfl)) dX9_layPlaces_117 ⟨(Nat.le_of_ble_eq_true rfl), (Nat.le_of_ble_eq_true rfl)⟩) hP hD hS hA (fun zi_773 u_775 H locs hw_774 hP hD hS => ?_)
            obtain ⟨b_zi_773, ps_776⟩ : (0 ≤ zi_773.toInt ∧ zi_773.toInt ≤ 1) ∧ ((zi_773.toInt = 0 ∧ (zI_772 (zR zc 0) zi_652.toNatClampNeg).toInt = 2) ∨ (zi_773.toInt = 1 ∧ ¬ (zI_772 (zR zc 0) zi_652.toNatClampNeg).toInt = 2)) := hw_774
            refine lv_if_ne (tgt := 127) hx hb dX9_layPlaces_120 (by decide) (fun c_777 => ?_) (fun c_777 => ?_)
            · have f_778 : zi_773.toInt ≠ 0 := ic_ne (rfl) (by decide) c_777
              refine lv_iconst (v := 0) hx hb dX9_layPlaces_127 (by decide) ?_
              refine lv_istore_n (lv' := [(2, .int 0), (0, .ref zw), (1, .ref zc), (3, .int zi_652)]) hx hb dX9_layPlaces_128 rfl hl (by decide) rfl (fun ls hl => ?_)
              obtain ⟨zi_779, ezi_779⟩ : ∃ y : Int32, y = zi_652 + 1 := ⟨_, rfl⟩
              have tzi_779 : zi_779.toInt = zi_652.toInt + 1 := by rw [ezi_779]; exact tadd rfl (show (1 : Int32).toInt = 1 by decide) (by omega) (by omega)
              refine lv_iinc (v := zi_779) (lv' := [(3, .int zi_779), (2, .int 0), (0, .ref zw), (1, .ref zc)]) hx hb dX9_layPlaces_129 hl (k := 3) rfl (by rw [ezi_779]; rfl) (by decide) rfl (fun ls hl => ?_)
              refine lv_goto (tgt := 9) hx hb dX9_layPlaces_132 (by decide) ?_
              have qc_0 : (0 : Int32).toInt = 0 := by decide
              exact ih_726 (12 - zi_779.toInt).toNat (by omega) (0 : Int32) zi_779 zI_772 zi_771 _ _ _ rfl (by decide) (by omega) h_zI_772 (by omega) (by have q9 := PL_s (f := zI (zR zc 0)) (t := zi_652) (t' := zi_779) (by omega) (by omega); omega) (by omega) (lpc_s (K := zI (zR zc 0)) (t := zi_652) (w := zi_654) e_lp_726_2 (by omega) (by omega) (fun q hq => ((show zI_772 (zR zw 1) q = zI_769 (zR zw 1) q from by rw [← uzI_772]; exact u2_n (tne t_731 t_zw (by decide))).trans ((show zI_769 (zR zw 1) q = zI_766 (zR zw 1) q from by rw [← uzI_769]; exact u2_n (tne t_731 t_767 (by decide))).trans ((show zI_766 (zR zw 1) q = zI_763 (zR zw 1) q from by rw [← uzI_766]; exact u2_n (tne t_731 t_764 (by decide))).trans ((show zI_763 (zR zw 1) q = zI_758 (zR zw 1) q from by rw [← uzI_763]; exact u2_n (tne t_731 t_759 (by decide))).trans ((show zI_758 (zR zw 1) q = zI_755 (zR zw 1) q from by rw [← uzI_758]; exact u2_n (tne t_731 t_756 (by decide))).trans ((show zI_755 (zR zw 1) q = zI_752 (zR zw 1) q from by rw [← uzI_755]; exact u2_n (tne t_731 t_753 (by decide))).trans ((show zI_752 (zR zw 1) q = zI_733 (zR zw 1) q from by rw [← uzI_752]; exact u2_n (tne t_731 t_750 (by decide))).trans (show zI_733 (zR zw 1) q = zI_653 (zR zw 1) q from by rw [← uzI_733]; exact u2_k hq))))))))) (by omega) (by first | exact Or.inl (by omega) | exact Or.inr (by rw [show zI_772 (zR zw 1) zi_652.toNatClampNeg = zi_654 from ((show zI_772 (zR zw 1) zi_652.toNatClampNeg = zI_769 (zR zw 1) zi_652.toNatClampNeg from by rw [← uzI_772]; exact u2_n (tne t_731 t_zw (by decide))).trans ((show zI_769 (zR zw 1) zi_652.toNatClampNeg = zI_766 (zR zw 1) zi_652.toNatClampNeg from by rw [← uzI_769]; exact u2_n (tne t_731 t_767 (by decide))).trans ((show zI_766 (zR zw 1) zi_652.toNatClampNeg = zI_763 (zR zw 1) zi_652.toNatClampNeg from by rw [← uzI_766]; exact u2_n (tne t_731 t_764 (by decide))).trans ((show zI_763 (zR zw 1) zi_652.toNatClampNeg = zI_758 (zR zw 1) zi_652.toNatClampNeg from by rw [← uzI_763]; exact u2_n (tne t_731 t_759 (by decide))).trans ((show zI_758 (zR zw 1) zi_652.toNatClampNeg = zI_755 (zR zw 1) zi_652.toNatClampNeg from by rw [← uzI_758]; exact u2_n (tne t_731 t_756 (by decide))).trans ((show zI_755 (zR zw 1) zi_652.toNatClampNeg = zI_752 (zR zw 1) zi_652.toNatClampNeg from by rw [← uzI_755]; exact u2_n (tne t_731 t_753 (by decide))).trans ((show zI_752 (zR zw 1) zi_652.toNatClampNeg = zI_733 (zR zw 1) zi_652.toNatClampNeg from by rw [← uzI_752]; exact u2_n (tne t_731 t_750 (by decide))).trans (by rw [← uzI_733]; exact u2_s))))))))]; omega))) (by rw [← uzI_772]; exact u2_s) ((show zI_772 zc 7 = zI_769 zc 7 from by rw [← uzI_772]; exact u2_k (by decide)).trans ((show zI_769 zc 7 = zI_766 zc 7 from by rw [← uzI_769]; exact u2_n (tne t_zc t_767 (by decide))).trans ((show zI_766 zc 7 = zI_763 zc 7 from by rw [← uzI_766]; exact u2_n (tne t_zc t_764 (by decide))).trans ((show zI_763 zc 7 = zI_758 zc 7 from by rw [← uzI_763]; exact u2_n (tne t_zc t_759 (by decide))).trans ((show zI_758 zc 7 = zI_755 zc 7 from by rw [← uzI_758]; exact u2_n (tne t_zc t_756 (by decide))).trans ((show zI_755 zc 7 = zI_752 zc 7 from by rw [← uzI_755]; exact u2_n (tne t_zc t_753 (by decide))).trans ((show zI_752 zc 7 = zI_733 zc 7 from by rw [← uzI_752]; exact u2_n (tne t_zc t_750 (by decide))).trans ((show zI_733 zc 7 = zI_653 zc 7 from by rw [← uzI_733]; exact u2_n (tne t_zc t_731 (by decide))).trans e_lp_726_4)))))))) hP hD hS (lv_sub hl [2, 3, 1, 0] rfl)
            · have f_778 : ¬ (zi_773.toInt ≠ 0) := ic_nne (rfl) (by decide) c_777
              refine lv_iconst (v := 1) hx hb dX9_layPlaces_123 (by decide) ?_
              refine lv_goto (tgt := 128) hx hb dX9_layPlaces_124 (by decide) ?_
              refine lv_istore_n (lv' := [(2, .int 1), (0, .ref zw), (1, .ref zc), (3, .int zi_652)]) hx hb dX9_layPlaces_128 rfl hl (by decide) rfl (fun ls hl => ?_)
              obtain ⟨zi_780, ezi_780⟩ : ∃ y : Int32, y = zi_652 + 1 := ⟨_, rfl⟩
              have tzi_780 : zi_780.toInt = zi_652.toInt + 1 := by rw [ezi_780]; exact tadd rfl (show (1 : Int32).toInt = 1 by decide) (by omega) (by omega)
              refine lv_iinc (v := zi_780) (lv' := [(3, .int zi_780), (2, .int 1), (0, .ref zw), (1, .ref zc)]) hx hb dX9_layPlaces_129 hl (k := 3) rfl (by rw [ezi_780]; rfl) (by decide) rfl (fun ls hl => ?_)
              refine lv_goto (tgt := 9) hx hb dX9_layPlaces_132 (by decide) ?_
              have qc_1 : (1 : Int32).toInt = 1 := by decide
              exact ih_726 (12 - zi_780.toInt).toNat (by omega) (1 : Int32) zi_780 zI_772 zi_771 _ _ _ rfl (by decide) (by omega) h_zI_772 (by omega) (by have q9 := PL_s (f := zI (zR zc 0)) (t := zi_652) (t' := zi_780) (by omega) (by omega); omega) (by omega) (lpc_s (K := zI (zR zc 0)) (t := zi_652) (w := zi_654) e_lp_726_2 (by omega) (by omega) (fun q hq => ((show zI_772 (zR zw 1) q = zI_769 (zR zw 1) q from by rw [← uzI_772]; exact u2_n (tne t_731 t_zw (by decide))).trans ((show zI_769 (zR zw 1) q = zI_766 (zR zw 1) q from by rw [← uzI_769]; exact u2_n (tne t_731 t_767 (by decide))).trans ((show zI_766 (zR zw 1) q = zI_763 (zR zw 1) q from by rw [← uzI_766]; exact u2_n (tne t_731 t_764 (by decide))).trans ((show zI_763 (zR zw 1) q = zI_758 (zR zw 1) q from by rw [← uzI_763]; exact u2_n (tne t_731 t_759 (by decide))).trans ((show zI_758 (zR zw 1) q = zI_755 (zR zw 1) q from by rw [← uzI_758]; exact u2_n (tne t_731 t_756 (by decide))).trans ((show zI_755 (zR zw 1) q = zI_752 (zR zw 1) q from by rw [← uzI_755]; exact u2_n (tne t_731 t_753 (by decide))).trans ((show zI_752 (zR zw 1) q = zI_733 (zR zw 1) q from by rw [← uzI_752]; exact u2_n (tne t_731 t_750 (by decide))).trans (show zI_733 (zR zw 1) q = zI_653 (zR zw 1) q from by rw [← uzI_733]; exact u2_k hq))))))))) (by omega) (by first | exact Or.inl (by omega) | exact Or.inr (by rw [show zI_772 (zR zw 1) zi_652.toNatClampNeg = zi_654 from ((show zI_772 (zR zw 1) zi_652.toNatClampNeg = zI_769 (zR zw 1) zi_652.toNatClampNeg from by rw [← uzI_772]; exact u2_n (tne t_731 t_zw (by decide))).trans ((show zI_769 (zR zw 1) zi_652.toNatClampNeg = zI_766 (zR zw 1) zi_652.toNatClampNeg from by rw [← uzI_769]; exact u2_n (tne t_731 t_767 (by decide))).trans ((show zI_766 (zR zw 1) zi_652.toNatClampNeg = zI_763 (zR zw 1) zi_652.toNatClampNeg from by rw [← uzI_766]; exact u2_n (tne t_731 t_764 (by decide))).trans ((show zI_763 (zR zw 1) zi_652.toNatClampNeg = zI_758 (zR zw 1) zi_652.toNatClampNeg from by rw [← uzI_763]; exact u2_n (tne t_731 t_759 (by decide))).trans ((show zI_758 (zR zw 1) zi_652.toNatClampNeg = zI_755 (zR zw 1) zi_652.toNatClampNeg from by rw [← uzI_758]; exact u2_n (tne t_731 t_756 (by decide))).trans ((show zI_755 (zR zw 1) zi_652.toNatClampNeg = zI_752 (zR zw 1) zi_652.toNatClampNeg from by rw [← uzI_755]; exact u2_n (tne t_731 t_753 (by decide))).trans ((show zI_752 (zR zw 1) zi_652.toNatClampNeg = zI_733 (zR zw 1) zi_652.toNatClampNeg from by rw [← uzI_752]; exact u2_n (tne t_731 t_750 (by decide))).trans (by rw [← uzI_733]; exact u2_s))))))))]; omega))) (by rw [← uzI_772]; exact u2_s) ((show zI_772 zc 7 = zI_769 zc 7 from by rw [← uzI_772]; exact u2_k (by decide)).trans ((show zI_769 zc 7 = zI_766 zc 7 from by rw [← uzI_769]; exact u2_n (tne t_zc t_767 (by decide))).trans ((show zI_766 zc 7 = zI_763 zc 7 from by rw [← uzI_766]; exact u2_n (tne t_zc t_764 (by decide))).trans ((show zI_763 zc 7 = zI_758 zc 7 from by rw [← uzI_763]; exact u2_n (tne t_zc t_759 (by decide))).trans ((show zI_758 zc 7 = zI_755 zc 7 from by rw [← uzI_758]; exact u2_n (tne t_zc t_756 (by decide))).trans ((show zI_755 zc 7 = zI_752 zc 7 from by rw [← uzI_755]; exact u2_n (tne t_zc t_753 (by decide))).trans ((show zI_752 zc 7 = zI_733 zc 7 from by rw [← uzI_752]; exact u2_n (tne t_zc t_750 (by decide))).trans ((show zI_733 zc 7 = zI_653 zc 7 from by rw [← uzI_733]; exact u2_n (tne t_zc t_731 (by decide))).trans e_lp_726_4)))))))) hP hD hS (lv_sub hl [2, 3, 1, 0] rfl)
          · have f_762 : ¬ (zi_651.toInt = 0) := ic_neq (rfl) (by decide) c_761
            refine lv_iconst (v := 2) hx hb dX9_layPlaces_78 (by decide) ?_
            refine lv_goto (tgt := 83) hx hb dX9_layPlaces_79 (by decide) ?_
            refine ht_iast (v := (2 : Int32)) (n := 12) (q := 0) hx hb hK hP hD hS hs t_759 (by decide) rfl rfl ⟨by omega, by omega⟩ dX9_layPlaces_83 (fun H locs hP hD hS => ?_)
            have h_zI_781 : WM [1014, 3700, 3800, 3900, 4000, 4200] (OW zT zR zw) zT zR zI (u2 zI_758 (zR zw 4) zi_654.toNatClampNeg (2 : Int32)) := h_zI_758.putA hs t_759 rfl (by decide) (by decide) (fun h => absurd h (by decide)) (by decide) (Or.inr ⟨4, by rw [t_zw]; decide, rfl⟩)
            generalize uzI_781 : u2 zI_758 (zR zw 4) zi_654.toNatClampNeg (2 : Int32) = zI_781 at hP hD h_zI_781
            refine lv_aload_n hx hb dX9_layPlaces_84 rfl (lv_at hl 0 rfl) ?_
            refine ht_getr (C := RX9) (T := TX9) (N := 16) hx hb hts (by decide +kernel) hown hK hP hs t_zw (by decide) rfl rfl 5 (by decide) (hts (.fieldLink RX9 27 "DripStone$Ways" "furthest" "[I") (by decide +kernel)) (fun _ h9 => h9) rfl dX9_layPlaces_85 ?_
            have t_782 : zT (zR zw 5) = 39 := sk_f hs t_zw (by decide) rfl (by decide)
            refine lv_aload_n hx hb dX9_layPlaces_88 rfl (lv_at hl 0 rfl) ?_
            refine ht_geti (C := RX9) (T := TX9) (N := 16) hx hb hts (by decide +kernel) hown hK hP hs t_zw (by decide) rfl rfl 14 (by decide) (hts (.fieldLink RX9 81 "DripStone$Ways" "places" "I") (by decide +kernel)) (fun _ h9 => h9) rfl dX9_layPlaces_89 ?_
            refine lv_topi (fun zi_783 ezi_783 => ?_)
            obtain rfl : zi_654 = zi_783 := (ezi_783.trans ((show zI_781 zw 14 = zI_758 zw 14 from by rw [← uzI_781]; exact u2_n (tne t_zw t_759 (by decide))).trans ((show zI_758 zw 14 = zI_755 zw 14 from by rw [← uzI_758]; exact u2_n (tne t_zw t_756 (by decide))).trans ((show zI_755 zw 14 = zI_752 zw 14 from by rw [← uzI_755]; exact u2_n (tne t_zw t_753 (by decide))).trans ((show zI_752 zw 14 = zI_733 zw 14 from by rw [← uzI_752]; exact u2_n (tne t_zw t_750 (by decide))).trans ((show zI_733 zw 14 = zI_653 zw 14 from by rw [← uzI_733]; exact u2_n (tne t_zw t_731 (by decide))).trans e_lp_726_3)))))).symm
            refine lv_bipush (v := 23) hx hb dX9_layPlaces_92 (by decide) ?_
            refine ht_iast (v := (23 : Int32)) (n := 12) (q := 0) hx hb hK hP hD hS hs t_782 (by decide) rfl rfl ⟨by omega, by omega⟩ dX9_layPlaces_94 (fun H locs hP hD hS => ?_)
            have h_zI_784 : WM [1014, 3700, 3800, 3900, 4000, 4200] (OW zT zR zw) zT zR zI (u2 zI_781 (zR zw 5) zi_654.toNatClampNeg (23 : Int32)) := h_zI_781.putA hs t_782 rfl (by decide) (by decide) (fun h => absurd h (by decide)) (by decide) (Or.inr ⟨5, by rw [t_zw]; decide, rfl⟩)
            generalize uzI_784 : u2 zI_781 (zR zw 5) zi_654.toNatClampNeg (23 : Int32) = zI_784 at hP hD h_zI_784
            refine lv_aload_n hx hb dX9_layPlaces_95 rfl (lv_at hl 0 rfl) ?_
            refine ht_getr (C := RX9) (T := TX9) (N := 16) hx hb hts (by decide +kernel) hown hK hP hs t_zw (by decide) rfl rfl 6 (by decide) (hts (.fieldLink RX9 30 "DripStone$Ways" "needed" "[I") (by decide +kernel)) (fun _ h9 => h9) rfl dX9_layPlaces_96 ?_
            have t_785 : zT (zR zw 6) = 42 := sk_f hs t_zw (by decide) rfl (by decide)
            refine lv_aload_n hx hb dX9_layPlaces_99 rfl (lv_at hl 0 rfl) ?_
            refine ht_geti (C := RX9) (T := TX9) (N := 16) hx hb hts (by decide +kernel) hown hK hP hs t_zw (by decide) rfl rfl 14 (by decide) (hts (.fieldLink RX9 81 "DripStone$Ways" "places" "I") (by decide +kernel)) (fun _ h9 => h9) rfl dX9_layPlaces_100 ?_
            refine lv_topi (fun zi_786 ezi_786 => ?_)
            obtain rfl : zi_654 = zi_786 := (ezi_786.trans ((show zI_784 zw 14 = zI_781 zw 14 from by rw [← uzI_784]; exact u2_n (tne t_zw t_782 (by decide))).trans ((show zI_781 zw 14 = zI_758 zw 14 from by rw [← uzI_781]; exact u2_n (tne t_zw t_759 (by decide))).trans ((show zI_758 zw 14 = zI_755 zw 14 from by rw [← uzI_758]; exact u2_n (tne t_zw t_756 (by decide))).trans ((show zI_755 zw 14 = zI_752 zw 14 from by rw [← uzI_755]; exact u2_n (tne t_zw t_753 (by decide))).trans ((show zI_752 zw 14 = zI_733 zw 14 from by rw [← uzI_752]; exact u2_n (tne t_zw t_750 (by decide))).trans ((show zI_733 zw 14 = zI_653 zw 14 from by rw [← uzI_733]; exact u2_n (tne t_zw t_731 (by decide))).trans e_lp_726_3))))))).symm
            refine lv_iconst (v := 1) hx hb dX9_layPlaces_103 (by decide) ?_
            refine ht_iast (v := (1 : Int32)) (n := 12) (q := 0) hx hb hK hP hD hS hs t_785 (by decide) rfl rfl ⟨by omega, by omega⟩ dX9_layPlaces_104 (fun H locs hP hD hS => ?_)
            have h_zI_787 : WM [1014, 3700, 3800, 3900, 4000, 4200] (OW zT zR zw) zT zR zI (u2 zI_784 (zR zw 6) zi_654.toNatClampNeg (1 : Int32)) := h_zI_784.putA hs t_785 rfl (by decide) (by decide) (fun _ => by decide) (by decide) (Or.inr ⟨6, by rw [t_zw]; decide, rfl⟩)
            generalize uzI_787 : u2 zI_784 (zR zw 6) zi_654.toNatClampNeg (1 : Int32) = zI_787 at hP hD h_zI_787
            refine lv_aload_n hx hb dX9_layPlaces_105 rfl (lv_at hl 0 rfl) ?_
            refine lv_dup hx hb dX9_layPlaces_106 rfl ?_
            refine ht_geti (C := RX9) (T := TX9) (N := 16) hx hb hts (by decide +kernel) hown hK hP hs t_zw (by decide) rfl rfl 14 (by decide) (hts (.fieldLink RX9 81 "DripStone$Ways" "places" "I") (by decide +kernel)) (fun _ h9 => h9) rfl dX9_layPlaces_107 ?_
            refine lv_topi (fun zi_788 ezi_788 => ?_)
            obtain rfl : zi_654 = zi_788 := (ezi_788.trans ((show zI_787 zw 14 = zI_784 zw 14 from by rw [← uzI_787]; exact u2_n (tne t_zw t_785 (by decide))).trans ((show zI_784 zw 14 = zI_781 zw 14 from by rw [← uzI_784]; exact u2_n (tne t_zw t_782 (by decide))).trans ((show zI_781 zw 14 = zI_758 zw 14 from by rw [← uzI_781]; exact u2_n (tne t_zw t_759 (by decide))).trans ((show zI_758 zw 14 = zI_755 zw 14 from by rw [← uzI_758]; exact u2_n (tne t_zw t_756 (by decide))).trans ((show zI_755 zw 14 = zI_752 zw 14 from by rw [← uzI_755]; exact u2_n (tne t_zw t_753 (by decide))).trans ((show zI_752 zw 14 = zI_733 zw 14 from by rw [← uzI_752]; exact u2_n (tne t_zw t_750 (by decide))).trans ((show zI_733 zw 14 = zI_653 zw 14 from by rw [← uzI_733]; exact u2_n (tne t_zw t_731 (by decide))).trans e_lp_726_3)))))))).symm
            refine lv_iconst (v := 1) hx hb dX9_layPlaces_110 (by decide) ?_
            refine lv_iadd hx hb dX9_layPlaces_111 ?_
            refine lv_topi (fun zi_789 ezi_789 => ?_)
            have tzi_789 : zi_789.toInt = zi_654.toInt + (1 : Int) := by rw [ezi_789]; exact tiadd (rfl) (show (1 : Int32).toInt = 1 by decide) (by omega) (by omega)
            refine ht_puti (v := zi_789) (ty := .int) (C := RX9) (T := TX9) (N := 16) hx hb hts (by decide +kernel) tyX9 tyX9_ok nmX9 hown hK hP hD hS hs t_zw (by decide) rfl rfl 14 (by decide) (hts (.fieldLink RX9 81 "DripStone$Ways" "places" "I") (by decide +kernel)) (fun _ h9 => h9) rfl (by decide +kernel) rfl rfl rfl dX9_layPlaces_112 (fun H locs hP hD hS => ?_)
            have h_zI_790 : WM [1014, 3700, 3800, 3900, 4000, 4200] (OW zT zR zw) zT zR zI (u2 zI_787 zw 14 zi_789) := h_zI_787.pl0 hs t_zw (by omega) (pl1 h_zI_787 t_zw ((show zI_787 zw 14 = zI_784 zw 14 from by rw [← uzI_787]; exact u2_n (tne t_zw t_785 (by decide))).trans ((show zI_784 zw 14 = zI_781 zw 14 from by rw [← uzI_784]; exact u2_n (tne t_zw t_782 (by decide))).trans ((show zI_781 zw 14 = zI_758 zw 14 from by rw [← uzI_781]; exact u2_n (tne t_zw t_759 (by decide))).trans ((show zI_758 zw 14 = zI_755 zw 14 from by rw [← uzI_758]; exact u2_n (tne t_zw t_756 (by decide))).trans ((show zI_755 zw 14 = zI_752 zw 14 from by rw [← uzI_755]; exact u2_n (tne t_zw t_753 (by decide))).trans ((show zI_752 zw 14 = zI_733 zw 14 from by rw [← uzI_752]; exact u2_n (tne t_zw t_750 (by decide))).trans ((show zI_733 zw 14 = zI_653 zw 14 from by rw [← uzI_733]; exact u2_n (tne t_zw t_731 (by decide))).trans e_lp_726_3))))))) (by omega) (by omega) (by rw [← uzI_787]; exact u2_s)) (by decide) (Or.inl rfl)
            generalize uzI_790 : u2 zI_787 zw 14 zi_789 = zI_790 at hP hD h_zI_790
            refine lv_aload_n hx hb dX9_layPlaces_115 rfl (lv_at hl 1 rfl) ?_
            refine lv_iload_n hx hb dX9_layPlaces_116 rfl (lv_at hl 3 rfl) ?_
            refine hj_i (ws := (WL cy zL zT zR zI_790 zJ)) (w1 := fun (u : Unit) => (WL cy zL zT zR zI_790 zJ)) (va_runV (As := [.int zi_652]) (rest := []) ⟨hx, hb, hml, hown, hts⟩ (t_X0_isPlace l dC dI cy H.size zL zT zR zI_790 zJ zc zi_652 hs h_zI_790.1 t_zc (by omega)) (cwV 1 hts gX9_layPlaces_X0_isPlace rfl rfl rfl (by decide +kernel) ⟨(Nat.le_of_ble_eq_true rfl), (Nat.le_of_ble_eq_true rfl)⟩) (PRE.v hP hK hD hN (ht_recv hK hP hs t_zc (by decide) rfl rfl)) rfl rfl hl.1 rfl (lv_room (Nat.le_of_ble_eq_true rfl)) dX9_layPlaces_117 ⟨(Nat.le_of_ble_eq_true rfl), (Nat.le_of_ble_eq_true rfl)⟩) hP hD hS hA (fun zi_791 u_793 H locs hw_792 hP hD hS => ?_)
            obtain ⟨b_zi_791, ps_794⟩ : (0 ≤ zi_791.toInt ∧ zi_791.toInt ≤ 1) ∧ ((zi_791.toInt = 0 ∧ (zI_790 (zR zc 0) zi_652.toNatClampNeg).toInt = 2) ∨ (zi_791.toInt = 1 ∧ ¬ (zI_790 (zR zc 0) zi_652.toNatClampNeg).toInt = 2)) := hw_792
            refine lv_if_ne (tgt := 127) hx hb dX9_layPlaces_120 (by decide) (fun c_795 => ?_) (fun c_795 => ?_)
            · have f_796 : zi_791.toInt ≠ 0 := ic_ne (rfl) (by decide) c_795
              refine lv_iconst (v := 0) hx hb dX9_layPlaces_127 (by decide) ?_
              refine lv_istore_n (lv' := [(2, .int 0), (0, .ref zw), (1, .ref zc), (3, .int zi_652)]) hx hb dX9_layPlaces_128 rfl hl (by decide) rfl (fun ls hl => ?_)
              obtain ⟨zi_797, ezi_797⟩ : ∃ y : Int32, y = zi_652 + 1 := ⟨_, rfl⟩
              have tzi_797 : zi_797.toInt = zi_652.toInt + 1 := by rw [ezi_797]; exact tadd rfl (show (1 : Int32).toInt = 1 by decide) (by omega) (by omega)
              refine lv_iinc (v := zi_797) (lv' := [(3, .int zi_797), (2, .int 0), (0, .ref zw), (1, .ref zc)]) hx hb dX9_layPlaces_129 hl (k := 3) rfl (by rw [ezi_797]; rfl) (by decide) rfl (fun ls hl => ?_)
              refine lv_goto (tgt := 9) hx hb dX9_layPlaces_132 (by decide) ?_
              have qc_0 : (0 : Int32).toInt = 0 := by decide
              exact ih_726 (12 - zi_797.toInt).toNat (by omega) (0 : Int32) zi_797 zI_790 zi_789 _ _ _ rfl (by decide) (by omega) h_zI_790 (by omega) (by have q9 := PL_s (f := zI (zR zc 0)) (t := zi_652) (t' := zi_797) (by omega) (by omega); omega) (by omega) (lpc_s (K := zI (zR zc 0)) (t := zi_652) (w := zi_654) e_lp_726_2 (by omega) (by omega) (fun q hq => ((show zI_790 (zR zw 1) q = zI_787 (zR zw 1) q from by rw [← uzI_790]; exact u2_n (tne t_731 t_zw (by decide))).trans ((show zI_787 (zR zw 1) q = zI_784 (zR zw 1) q from by rw [← uzI_787]; exact u2_n (tne t_731 t_785 (by decide))).trans ((show zI_784 (zR zw 1) q = zI_781 (zR zw 1) q from by rw [← uzI_784]; exact u2_n (tne t_731 t_782 (by decide))).trans ((show zI_781 (zR zw 1) q = zI_758 (zR zw 1) q from by rw [← uzI_781]; exact u2_n (tne t_731 t_759 (by decide))).trans ((show zI_758 (zR zw 1) q = zI_755 (zR zw 1) q from by rw [← uzI_758]; exact u2_n (tne t_731 t_756 (by decide))).trans ((show zI_755 (zR zw 1) q = zI_752 (zR zw 1) q from by rw [← uzI_755]; exact u2_n (tne t_731 t_753 (by decide))).trans ((show zI_752 (zR zw 1) q = zI_733 (zR zw 1) q from by rw [← uzI_752]; exact u2_n (tne t_731 t_750 (by decide))).trans (show zI_733 (zR zw 1) q = zI_653 (zR zw 1) q from by rw [← uzI_733]; exact u2_k hq))))))))) (by omega) (by first | exact Or.inl (by omega) | exact Or.inr (by rw [show zI_790 (zR zw 1) zi_652.toNatClampNeg = zi_654 from ((show zI_790 (zR zw 1) zi_652.toNatClampNeg = zI_787 (zR zw 1) zi_652.toNatClampNeg from by rw [← uzI_790]; exact u2_n (tne t_731 t_zw (by decide))).trans ((show zI_787 (zR zw 1) zi_652.toNatClampNeg = zI_784 (zR zw 1) zi_652.toNatClampNeg from by rw [← uzI_787]; exact u2_n (tne t_731 t_785 (by decide))).trans ((show zI_784 (zR zw 1) zi_652.toNatClampNeg = zI_781 (zR zw 1) zi_652.toNatClampNeg from by rw [← uzI_784]; exact u2_n (tne t_731 t_782 (by decide))).trans ((show zI_781 (zR zw 1) zi_652.toNatClampNeg = zI_758 (zR zw 1) zi_652.toNatClampNeg from by rw [← uzI_781]; exact u2_n (tne t_731 t_759 (by decide))).trans ((show zI_758 (zR zw 1) zi_652.toNatClampNeg = zI_755 (zR zw 1) zi_652.toNatClampNeg from by rw [← uzI_758]; exact u2_n (tne t_731 t_756 (by decide))).trans ((show zI_755 (zR zw 1) zi_652.toNatClampNeg = zI_752 (zR zw 1) zi_652.toNatClampNeg from by rw [← uzI_755]; exact u2_n (tne t_731 t_753 (by decide))).trans ((show zI_752 (zR zw 1) zi_652.toNatClampNeg = zI_733 (zR zw 1) zi_652.toNatClampNeg from by rw [← uzI_752]; exact u2_n (tne t_731 t_750 (by decide))).trans (by rw [← uzI_733]; exact u2_s))))))))]; omega))) (by rw [← uzI_790]; exact u2_s) ((show zI_790 zc 7 = zI_787 zc 7 from by rw [← uzI_790]; exact u2_k (by decide)).trans ((show zI_787 zc 7 = zI_784 zc 7 from by rw [← uzI_787]; exact u2_n (tne t_zc t_785 (by decide))).trans ((show zI_784 zc 7 = zI_781 zc 7 from by rw [← uzI_784]; exact u2_n (tne t_zc t_782 (by decide))).trans ((show zI_781 zc 7 = zI_758 zc 7 from by rw [← uzI_781]; exact u2_n (tne t_zc t_759 (by decide))).trans ((show zI_758 zc 7 = zI_755 zc 7 from by rw [← uzI_758]; exact u2_n (tne t_zc t_756 (by decide))).trans ((show zI_755 zc 7 = zI_752 zc 7 from by rw [← uzI_755]; exact u2_n (tne t_zc t_753 (by decide))).trans ((show zI_752 zc 7 = zI_733 zc 7 from by rw [← uzI_752]; exact u2_n (tne t_zc t_750 (by decide))).trans ((show zI_733 zc 7 = zI_653 zc 7 from by rw [← uzI_733]; exact u2_n (tne t_zc t_731 (by decide))).trans e_lp_726_4)))))))) hP hD hS (lv_sub hl [2, 3, 1, 0] rfl)
            · have f_796 : ¬ (zi_791.toInt ≠ 0) := ic_nne (rfl) (by decide) c_795
              refine lv_iconst (v := 1) hx hb dX9_layPlaces_123 (by decide) ?_
              refine lv_goto (tgt := 128) hx hb dX9_layPlaces_124 (by decide) ?_
              refine lv_istore_n (lv' := [(2, .int 1), (0, .ref zw), (1, .ref zc), (3, .int zi_652)]) hx hb dX9_layPlaces_128 rfl hl (by decide) rfl (fun ls hl => ?_)
              obtain ⟨zi_798, ezi_798⟩ : ∃ y : Int32, y = zi_652 + 1 := ⟨_, rfl⟩
              have tzi_798 : zi_798.toInt = zi_652.toInt + 1 := by rw [ezi_798]; exact tadd rfl (show (1 : Int32).toInt = 1 by decide) (by omega) (by omega)
              refine lv_iinc (v := zi_798) (lv' := [(3, .int zi_798), (2, .int 1), (0, .ref zw), (1, .ref zc)]) hx hb dX9_layPlaces_129 hl (k := 3) rfl (by rw [ezi_798]; rfl) (by decide) rfl (fun ls hl => ?_)
              refine lv_goto (tgt := 9) hx hb dX9_layPlaces_132 (by decide) ?_
              have qc_1 : (1 : Int32).toInt = 1 := by decide
              exact ih_726 (12 - zi_798.toInt).toNat (by omega) (1 : Int32) zi_798 zI_790 zi_789 _ _ _ rfl (by decide) (by omega) h_zI_790 (by omega) (by have q9 := PL_s (f := zI (zR zc 0)) (t := zi_652) (t' := zi_798) (by omega) (by omega); omega) (by omega) (lpc_s (K := zI (zR zc 0)) (t := zi_652) (w := zi_654) e_lp_726_2 (by omega) (by omega) (fun q hq => ((show zI_790 (zR zw 1) q = zI_787 (zR zw 1) q from by rw [← uzI_790]; exact u2_n (tne t_731 t_zw (by decide))).trans ((show zI_787 (zR zw 1) q = zI_784 (zR zw 1) q from by rw [← uzI_787]; exact u2_n (tne t_731 t_785 (by decide))).trans ((show zI_784 (zR zw 1) q = zI_781 (zR zw 1) q from by rw [← uzI_784]; exact u2_n (tne t_731 t_782 (by decide))).trans ((show zI_781 (zR zw 1) q = zI_758 (zR zw 1) q from by rw [← uzI_781]; exact u2_n (tne t_731 t_759 (by decide))).trans ((show zI_758 (zR zw 1) q = zI_755 (zR zw 1) q from by rw [← uzI_758]; exact u2_n (tne t_731 t_756 (by decide))).trans ((show zI_755 (zR zw 1) q = zI_752 (zR zw 1) q from by rw [← uzI_755]; exact u2_n (tne t_731 t_753 (by decide))).trans ((show zI_752 (zR zw 1) q = zI_733 (zR zw 1) q from by rw [← uzI_752]; exact u2_n (tne t_731 t_750 (by decide))).trans (show zI_733 (zR zw 1) q = zI_653 (zR zw 1) q from by rw [← uzI_733]; exact u2_k hq))))))))) (by omega) (by first | exact Or.inl (by omega) | exact Or.inr (by rw [show zI_790 (zR zw 1) zi_652.toNatClampNeg = zi_654 from ((show zI_790 (zR zw 1) zi_652.toNatClampNeg = zI_787 (zR zw 1) zi_652.toNatClampNeg from by rw [← uzI_790]; exact u2_n (tne t_731 t_zw (by decide))).trans ((show zI_787 (zR zw 1) zi_652.toNatClampNeg = zI_784 (zR zw 1) zi_652.toNatClampNeg from by rw [← uzI_787]; exact u2_n (tne t_731 t_785 (by decide))).trans ((show zI_784 (zR zw 1) zi_652.toNatClampNeg = zI_781 (zR zw 1) zi_652.toNatClampNeg from by rw [← uzI_784]; exact u2_n (tne t_731 t_782 (by decide))).trans ((show zI_781 (zR zw 1) zi_652.toNatClampNeg = zI_758 (zR zw 1) zi_652.toNatClampNeg from by rw [← uzI_781]; exact u2_n (tne t_731 t_759 (by decide))).trans ((show zI_758 (zR zw 1) zi_652.toNatClampNeg = zI_755 (zR zw 1) zi_652.toNatClampNeg from by rw [← uzI_758]; exact u2_n (tne t_731 t_756 (by decide))).trans ((show zI_755 (zR zw 1) zi_652.toNatClampNeg = zI_752 (zR zw 1) zi_652.toNatClampNeg from by rw [← uzI_755]; exact u2_n (tne t_731 t_753 (by decide))).trans ((show zI_752 (zR zw 1) zi_652.toNatClampNeg = zI_733 (zR zw 1) zi_652.toNatClampNeg from by rw [← uzI_752]; exact u2_n (tne t_731 t_750 (by decide))).trans (by rw [← uzI_733]; exact u2_s))))))))]; omega))) (by rw [← uzI_790]; exact u2_s) ((show zI_790 zc 7 = zI_787 zc 7 from by rw [← uzI_790]; exact u2_k (by decide)).trans ((show zI_787 zc 7 = zI_784 zc 7 from by rw [← uzI_787]; exact u2_n (tne t_zc t_785 (by decide))).trans ((show zI_784 zc 7 = zI_781 zc 7 from by rw [← uzI_784]; exact u2_n (tne t_zc t_782 (by decide))).trans ((show zI_781 zc 7 = zI_758 zc 7 from by rw [← uzI_781]; exact u2_n (tne t_zc t_759 (by decide))).trans ((show zI_758 zc 7 = zI_755 zc 7 from by rw [← uzI_758]; exact u2_n (tne t_zc t_756 (by decide))).trans ((show zI_755 zc 7 = zI_752 zc 7 from by rw [← uzI_755]; exact u2_n (tne t_zc t_753 (by decide))).trans ((show zI_752 zc 7 = zI_733 zc 7 from by rw [← uzI_752]; exact u2_n (tne t_zc t_750 (by decide))).trans ((show zI_733 zc 7 = zI_653 zc 7 from by rw [← uzI_733]; exact u2_n (tne t_zc t_731 (by decide))).trans e_lp_726_4)))))))) hP hD hS (lv_sub hl [2, 3, 1, 0] rfl)
  have qc_0 : (0 : Int32).toInt = 0 := by decide
  exact lp_726 _ (0 : Int32) (0 : Int32) zI_1 (0 : Int32) _ _ _ rfl (by decide) (by decide) h_zI_1 (by decide) rfl (by omega) (fun q h => absurd h nq0) (by rw [← uzI_1]; exact u2_s) ezi_2.symm hP hD hS (lv_sub hl [2, 3, 1, 0] rfl)
set_option maxHeartbeats 8000000 in
set_option maxRecDepth 100000 in
theorem t_X9_layStretch (l : Launch) (dC : Nat → ClassId) (dI : Nat → Nat → Nat) (cy : Nat → ClassId) (sz : Nat) (zL : List Nat) (zT : Nat → Nat) (zR : Nat → Nat → Nat) (zI : Nat → Nat → Int32) (zJ : Nat → Nat → Int64) (zw : Nat) (zc : Nat) (zis : Int32) (hs : SKP zL zT zR) (hw : WT zT zR zI) (t_zw : zT zw = 10) (t_zc : zT zc = 1) (b_zis : 0 ≤ zis.toInt ∧ zis.toInt ≤ 5) : Met l yX9_layStretch wsX9_layStretch ({ frames := 1, cells := 0, slots := 0, locals := 30 } : Room) (va_Pc [.ref zw, .ref zc, .int zis] (PRE dC dI cy (WL cy zL zT zR zI zJ) sz)) (va_Qv (fun (u : (Nat → Nat → Int32)) => (WM [3900, 4000, 4200] (OW zT zR zw) zT zR zI u)) (fun u t => POST dC dI cy (va_A (WL cy zL zT zR zI zJ) sz) (WL cy zL zT zR u zJ) t) (va_A (WL cy zL zT zR zI zJ) sz)) 0 0 (va_A (WL cy zL zT zR zI zJ) sz) := by
  refine Met.ofW (cc := cX9_layStretch) (maxL := 5) (ret := none) (by decide) rfl ?_
  intro p e s m args below meth c s₁ B hml hv
  obtain ⟨rfl, hsz, hP, hK, hD0, hN⟩ := hv
  have hx := B.exec
  have hb := B.bytes
  have hr := B.returns
  have hts := atoms_spec (ws := wsX9_layStretch) B.pre
  have hown : s.vm.findClass RX9 = some m.cls := findClass_of_methodNamed B.named
  have hlocks := B.notSynchronized
  subst hsz
  have hD := hD0.self (sz := s.heap.size)
  generalize hAe : va_A (WL cy zL zT zR zI zJ) s.heap.size = A at hD ⊢
  have hA : ∀ q : Nat, s.heap.size ≤ q → A q := fun q h => by rw [← hAe]; exact Or.inr h
  have hS : va_S A s.heap s.heap [] := va_S.rf
  have hP : va_P (dC, dI) vwCl (WL cy zL zT zR zI zJ) s.heap := hP
  have hl := lv_entry ([.ref zw, .ref zc, .int zis] : List Value) (n := 5) (Nat.le_of_ble_eq_true rfl)
  rw [lg_entry_eq]
  generalize (lg_sl ([.ref zw, .ref zc, .int zis] : List Value) ++ List.replicate (5 - (lg_sl ([.ref zw, .ref zc, .int zis] : List Value)).length) Slot.unset).toArray = ls at hl ⊢
  have hl : lv_has ls 5 [(0, .ref zw), (1, .ref zc), (2, .int zis)] := hl
  refine w_q (fun Q hQ => ?_)
  have h_zI : WM [3900, 4000, 4200] (OW zT zR zw) zT zR zI zI := WM.rf hw
  refine lv_aload_n hx hb dX9_layStretch_0 rfl (lv_at hl 1 rfl) ?_
  refine ht_getr (C := RX0) (T := TX0) (N := 11) hx hb hts (by decide +kernel) hown hK hP hs t_zc (by decide) rfl rfl 6 (by decide) (hts (.fieldLink RX9 90 "DripStone$Candle" "sizes" "[I") (by decide +kernel)) (fun _ h9 => h9) rfl dX9_layStretch_1 ?_
  have t_1 : zT (zR zc 6) = 23 := sk_f hs t_zc (by decide) rfl (by decide)
  refine lv_iload_n hx hb dX9_layStretch_4 rfl (lv_at hl 2 rfl) ?_
  refine ht_iald (n := 6) (q := 0) hx hb hK hP hs t_1 (by decide) rfl rfl ⟨by omega, by omega⟩ dX9_layStretch_5 ?_
  refine lv_topi (fun zi_2 ezi_2 => ?_)
  have tzi_2 : 0 ≤ zi_2.toInt ∧ zi_2.toInt ≤ 20 := by rw [ezi_2]; exact h_zI.at t_1 _ rfl
  refine lv_istore_n (lv' := [(3, .int zi_2), (0, .ref zw), (1, .ref zc), (2, .int zis)]) hx hb dX9_layStretch_6 rfl hl (by decide) rfl (fun ls hl => ?_)
  refine lv_iconst (v := 1) hx hb dX9_layStretch_7 (by decide) ?_
  refine lv_istore (lv' := [(4, .int 1), (3, .int zi_2), (0, .ref zw), (1, .ref zc), (2, .int zis)]) hx hb dX9_layStretch_8 hl (by decide) rfl (fun ls hl => ?_)
  have lp_288 : ∀ (n : Nat) (zi_230 : Int32) (zI_231 : Nat → Nat → Int32) (H : Heap) (locs : List Loc) (ls : Array Slot), (12 - zi_230.toInt).toNat = n → (1 ≤ zi_230.toInt ∧ zi_230.toInt ≤ 12) → (WM [3900, 4000, 4200] (OW zT zR zw) zT zR zI zI_231) → va_P (dC, dI) vwCl (WL cy zL zT zR zI_231 zJ) H → va_D A (WL cy zL zT zR zI_231 zJ) → va_S A s.heap H locs → lv_has ls 5 [(0, .ref zw), (1, .ref zc), (2, .int zis), (3, .int zi_2), (4, .int zi_230)] → W p l e ({ frames := 1, cells := 0, slots := 0, locals := 30 } : Room) s m ([.ref zw, .ref zc, .int zis] : List Value).toArray below meth c H locs 0 0 Q (F0 m 10 ls []) := by
    intro n
    induction n using Nat.strongRecOn with
    | _ n ih_288 =>
      intro zi_230 zI_231 H locs ls hn b_zi_230 h_zI_231 hP hD hS hl
      refine lv_iload hx hb dX9_layStretch_10 (lv_at hl 4 rfl) ?_
      refine lv_aload_n hx hb dX9_layStretch_12 rfl (lv_at hl 0 rfl) ?_
      refine ht_geti (C := RX9) (T := TX9) (N := 16) hx hb hts (by decide +kernel) hown hK hP hs t_zw (by decide) rfl rfl 14 (by decide) (hts (.fieldLink RX9 81 "DripStone$Ways" "places" "I") (by decide +kernel)) (fun _ h9 => h9) rfl dX9_layStretch_13 ?_
      refine lv_topi (fun zi_289 ezi_289 => ?_)
      have tzi_289 : 0 ≤ zi_289.toInt ∧ zi_289.toInt ≤ 12 := by rw [ezi_289]; exact h_zI_231.at t_zw _ rfl
      have lzi_289 : (zI_231 zw 14).toInt = zi_289.toInt := by rw [ezi_289]
      refine lv_icmp_ge (tgt := 116) hx hb dX9_layStretch_16 (by decide) (fun c_290 => ?_) (fun c_290 => ?_)
      · have f_291 : zi_230.toInt ≥ zi_289.toInt := ic_ge (rfl) (rfl) c_290
        subst hQ
        exact W.vret hx hb hr (fun t ht hW => ⟨⟨zI_231, rfl, h_zI_231, ⟨by rw [ht]; exact hP, va_K.moved hW.alike hK, hD⟩⟩, hS.F ht⟩) hS.2.2 dX9_layStretch_116
      · have f_291 : ¬ (zi_230.toInt ≥ zi_289.toInt) := ic_nge (rfl) (rfl) c_290
        refine lv_aload_n hx hb dX9_layStretch_19 rfl (lv_at hl 0 rfl) ?_
        refine ht_getr (C := RX9) (T := TX9) (N := 16) hx hb hts (by decide +kernel) hown hK hP hs t_zw (by decide) rfl rfl 0 (by decide) (hts (.fieldLink RX9 9 "DripStone$Ways" "things" "[I") (by decide +kernel)) (fun _ h9 => h9) rfl dX9_layStretch_20 ?_
        have t_292 : zT (zR zw 0) = 37 := sk_f hs t_zw (by decide) rfl (by decide)
        refine lv_iload hx hb dX9_layStretch_23 (lv_at hl 4 rfl) ?_
        refine lv_iconst (v := 1) hx hb dX9_layStretch_25 (by decide) ?_
        refine lv_isub hx hb dX9_layStretch_26 ?_
        refine lv_topi (fun zi_293 ezi_293 => ?_)
        have tzi_293 : zi_293.toInt = zi_230.toInt - (1 : Int) := by rw [ezi_293]; exact tisub (rfl) (show (1 : Int32).toInt = 1 by decide) (by omega) (by omega)
        refine ht_iald (n := 12) (q := 0) hx hb hK hP hs t_292 (by decide) rfl rfl ⟨by omega, by omega⟩ dX9_layStretch_27 ?_
        refine lv_topi (fun zi_294 ezi_294 => ?_)
        have tzi_294 : 0 ≤ zi_294.toInt ∧ zi_294.toInt ≤ 11 := by rw [ezi_294]; exact h_zI_231.at t_292 _ rfl
        refine lv_aload_n hx hb dX9_layStretch_28 rfl (lv_at hl 1 rfl) ?_
        refine ht_getr (C := RX0) (T := TX0) (N := 11) hx hb hts (by decide +kernel) hown hK hP hs t_zc (by decide) rfl rfl 4 (by decide) (hts (.fieldLink RX9 93 "DripStone$Candle" "firsts" "[I") (by decide +kernel)) (fun _ h9 => h9) rfl dX9_layStretch_29 ?_
        have t_295 : zT (zR zc 4) = 22 := sk_f hs t_zc (by decide) rfl (by decide)
        refine lv_iload_n hx hb dX9_layStretch_32 rfl (lv_at hl 2 rfl) ?_
        refine ht_iald (n := 6) (q := 0) hx hb hK hP hs t_295 (by decide) rfl rfl ⟨by omega, by omega⟩ dX9_layStretch_33 ?_
        refine lv_topi (fun zi_296 ezi_296 => ?_)
        have jn_321 : ∀ (zI_320 : Nat → Nat → Int32) (H : Heap) (locs : List Loc) (ls : Array Slot), (WM [3900, 4000, 4200] (OW zT zR zw) zT zR zI zI_320) → va_P (dC, dI) vwCl (WL cy zL zT zR zI_320 zJ) H → va_D A (WL cy zL zT zR zI_320 zJ) → va_S A s.heap H locs → lv_has ls 5 [(0, .ref zw), (1, .ref zc), (2, .int zis), (3, .int zi_2), (4, .int zi_230)] → W p l e ({ frames := 1, cells := 0, slots := 0, locals := 30 } : Room) s m ([.ref zw, .ref zc, .int zis] : List Value).toArray below meth c H locs 0 0 Q (F0 m 110 ls []) := by
          intro zI_320 H locs ls h_zI_320 hP hD hS hl
          obtain ⟨zi_322, ezi_322⟩ : ∃ y : Int32, y = zi_230 + 1 := ⟨_, rfl⟩
          have tzi_322 : zi_322.toInt = zi_230.toInt + 1 := by rw [ezi_322]; exact tadd rfl (show (1 : Int32).toInt = 1 by decide) (by omega) (by omega)
          refine lv_iinc (v := zi_322) (lv' := [(4, .int zi_322), (0, .ref zw), (1, .ref zc), (2, .int zis), (3, .int zi_2)]) hx hb dX9_layStretch_110 hl (k := 4) rfl (by rw [ezi_322]; rfl) (by decide) rfl (fun ls hl => ?_)
          refine lv_goto (tgt := 10) hx hb dX9_layStretch_113 (by decide) ?_
          exact ih_288 (12 - zi_322.toInt).toNat (by omega) zi_322 zI_320 _ _ _ rfl (by omega) h_zI_320 hP hD hS (lv_sub hl [1, 2, 3, 4, 0] rfl)
        refine lv_icmp_lt (tgt := 110) hx hb dX9_layStretch_34 (by decide) (fun c_323 => ?_) (fun c_323 => ?_)
        · have f_324 : zi_294.toInt < zi_296.toInt := ic_lt (rfl) (rfl) c_323
          exact jn_321 zI_231 _ _ _ h_zI_231 hP hD hS (lv_sub hl [0, 1, 2, 3, 4] rfl)
        · have f_324 : ¬ (zi_294.toInt < zi_296.toInt) := ic_nlt (rfl) (rfl) c_323
          refine lv_aload_n hx hb dX9_layStretch_37 rfl (lv_at hl 0 rfl) ?_
          refine ht_getr (C := RX9) (T := TX9) (N := 16) hx hb hts (by decide +kernel) hown hK hP hs t_zw (by decide) rfl rfl 0 (by decide) (hts (.fieldLink RX9 9 "DripStone$Ways" "things" "[I") (by decide +kernel)) (fun _ h9 => h9) rfl dX9_layStretch_38 ?_
          refine lv_iload hx hb dX9_layStretch_41 (lv_at hl 4 rfl) ?_
          refine ht_iald (n := 12) (q := 0) hx hb hK hP hs t_292 (by decide) rfl rfl ⟨by omega, by omega⟩ dX9_layStretch_43 ?_
          refine lv_topi (fun zi_325 ezi_325 => ?_)
          have tzi_325 : 0 ≤ zi_325.toInt ∧ zi_325.toInt ≤ 11 := by rw [ezi_325]; exact h_zI_231.at t_292 _ rfl
          refine lv_aload_n hx hb dX9_layStretch_44 rfl (lv_at hl 1 rfl) ?_
          refine ht_getr (C := RX0) (T := TX0) (N := 11) hx hb hts (by decide +kernel) hown hK hP hs t_zc (by decide) rfl rfl 5 (by decide) (hts (.fieldLink RX9 96 "DripStone$Candle" "lasts" "[I") (by decide +kernel)) (fun _ h9 => h9) rfl dX9_layStretch_45 ?_
          have t_326 : zT (zR zc 5) = 22 := sk_f hs t_zc (by decide) rfl (by decide)
          refine lv_iload_n hx hb dX9_layStretch_48 rfl (lv_at hl 2 rfl) ?_
          refine ht_iald (n := 6) (q := 0) hx hb hK hP hs t_326 (by decide) rfl rfl ⟨by omega, by omega⟩ dX9_layStretch_49 ?_
          refine lv_topi (fun zi_327 ezi_327 => ?_)
          refine lv_icmp_gt (tgt := 110) hx hb dX9_layStretch_50 (by decide) (fun c_328 => ?_) (fun c_328 => ?_)
          · have f_329 : zi_325.toInt > zi_327.toInt := ic_gt (rfl) (rfl) c_328
            exact jn_321 zI_231 _ _ _ h_zI_231 hP hD hS (lv_sub hl [0, 1, 2, 3, 4] rfl)
          · have f_329 : ¬ (zi_325.toInt > zi_327.toInt) := ic_ngt (rfl) (rfl) c_328
            refine lv_aload_n hx hb dX9_layStretch_53 rfl (lv_at hl 1 rfl) ?_
            refine ht_getr (C := RX0) (T := TX0) (N := 11) hx hb hts (by decide +kernel) hown hK hP hs t_zc (by decide) rfl rfl 3 (by decide) (hts (.fieldLink RX9 99 "DripStone$Candle" "stretchKinds" "[I") (by decide +kernel)) (fun _ h9 => h9) rfl dX9_layStretch_54 ?_
            have t_330 : zT (zR zc 3) = 22 := sk_f hs t_zc (by decide) rfl (by decide)
            refine lv_iload_n hx hb dX9_layStretch_57 rfl (lv_at hl 2 rfl) ?_
            refine ht_iald (n := 6) (q := 0) hx hb hK hP hs t_330 (by decide) rfl rfl ⟨by omega, by omega⟩ dX9_layStretch_58 ?_
            refine lv_topi (fun zi_331 ezi_331 => ?_)
            refine lv_iconst (v := 2) hx hb dX9_layStretch_59 (by decide) ?_
            refine lv_icmp_ne (tgt := 84) hx hb dX9_layStretch_60 (by decide) (fun c_332 => ?_) (fun c_332 => ?_)
            · have f_333 : zi_331.toInt ≠ (2 : Int) := ic_ne (rfl) (show (2 : Int32).toInt = 2 by decide) c_332
              refine lv_aload_n hx hb dX9_layStretch_84 rfl (lv_at hl 0 rfl) ?_
              refine ht_getr (C := RX9) (T := TX9) (N := 16) hx hb hts (by decide +kernel) hown hK hP hs t_zw (by decide) rfl rfl 5 (by decide) (hts (.fieldLink RX9 27 "DripStone$Ways" "furthest" "[I") (by decide +kernel)) (fun _ h9 => h9) rfl dX9_layStretch_85 ?_
              have t_334 : zT (zR zw 5) = 39 := sk_f hs t_zw (by decide) rfl (by decide)
              refine lv_iload hx hb dX9_layStretch_88 (lv_at hl 4 rfl) ?_
              refine lv_iconst (v := 1) hx hb dX9_layStretch_90 (by decide) ?_
              refine ht_iast (v := (1 : Int32)) (n := 12) (q := 0) hx hb hK hP hD hS hs t_334 (by decide) rfl rfl ⟨by omega, by omega⟩ dX9_layStretch_91 (fun H locs hP hD hS => ?_)
              have h_zI_335 : WM [3900, 4000, 4200] (OW zT zR zw) zT zR zI (u2 zI_231 (zR zw 5) zi_230.toNatClampNeg (1 : Int32)) := h_zI_231.putA hs t_334 rfl (by decide) (by decide) (fun h => absurd h (by decide)) (by decide) (Or.inr ⟨5, by rw [t_zw]; decide, rfl⟩)
              generalize uzI_335 : u2 zI_231 (zR zw 5) zi_230.toNatClampNeg (1 : Int32) = zI_335 at hP hD h_zI_335
              refine lv_aload_n hx hb dX9_layStretch_92 rfl (lv_at hl 0 rfl) ?_
              refine ht_getr (C := RX9) (T := TX9) (N := 16) hx hb hts (by decide +kernel) hown hK hP hs t_zw (by decide) rfl rfl 6 (by decide) (hts (.fieldLink RX9 30 "DripStone$Ways" "needed" "[I") (by decide +kernel)) (fun _ h9 => h9) rfl dX9_layStretch_93 ?_
              have t_336 : zT (zR zw 6) = 42 := sk_f hs t_zw (by decide) rfl (by decide)
              refine lv_iload hx hb dX9_layStretch_96 (lv_at hl 4 rfl) ?_
              refine lv_aload_n hx hb dX9_layStretch_98 rfl (lv_at hl 0 rfl) ?_
              refine ht_getr (C := RX9) (T := TX9) (N := 16) hx hb hts (by decide +kernel) hown hK hP hs t_zw (by decide) rfl rfl 6 (by decide) (hts (.fieldLink RX9 30 "DripStone$Ways" "needed" "[I") (by decide +kernel)) (fun _ h9 => h9) rfl dX9_layStretch_99 ?_
              refine lv_iload hx hb dX9_layStretch_102 (lv_at hl 4 rfl) ?_
              refine ht_iald (n := 12) (q := 0) hx hb hK hP hs t_336 (by decide) rfl rfl ⟨by omega, by omega⟩ dX9_layStretch_104 ?_
              refine lv_topi (fun zi_337 ezi_337 => ?_)
              have tzi_337 : 0 ≤ zi_337.toInt ∧ zi_337.toInt ≤ 20 := by rw [ezi_337]; exact h_zI_335.at t_336 _ rfl
              have lk_338 : (zI_335 zw 14).toInt = zi_289.toInt := congrArg Int32.toInt ((show zI_335 zw 14 = zI_231 zw 14 from by rw [← uzI_335]; exact u2_n (tne t_zw t_334 (by decide))).trans ezi_289.symm)
              have n_339 : 1 ≤ zi_337.toInt := by rw [← ezi_337.symm]; exact h_zI_335.nd t_zw (by omega) (by omega)
              refine lv_iload_n hx hb dX9_layStretch_105 rfl (lv_at hl 3 rfl) ?_
              refine va_mmax hx hb (by rw [hml]; exact hl.1.symm) hown (hts (.methodLink RX9 102 Lib.Math.max.name) (by decide +kernel)) (hts (.static Lib.Math.max.name) (by decide +kernel)) (hts (.initialized "java/lang/Math") (by decide +kernel)) (hts (.code Lib.Math.max.name Lib.Math.max.code 2 (some .int)) (by decide +kernel)) (Nat.le_of_ble_eq_true rfl) (Nat.le_of_ble_eq_true rfl) (Nat.le_of_ble_eq_true rfl) (Nat.le_of_ble_eq_true rfl) dX9_layStretch_106 ?_
              refine lv_topi (fun zi_340 ezi_340 => ?_)
              have tzi_340 : (zi_337.toInt < zi_2.toInt → zi_340.toInt = zi_2.toInt) ∧ (¬ zi_337.toInt < zi_2.toInt → zi_340.toInt = zi_337.toInt) := mx_s ezi_340 (rfl) (rfl)
              refine ht_iast (v := zi_340) (n := 12) (q := 0) hx hb hK hP hD hS hs t_336 (by decide) rfl rfl ⟨by omega, by omega⟩ dX9_layStretch_109 (fun H locs hP hD hS => ?_)
              have h_zI_341 : WM [3900, 4000, 4200] (OW zT zR zw) zT zR zI (u2 zI_335 (zR zw 6) zi_230.toNatClampNeg zi_340) := h_zI_335.putA hs t_336 rfl (by omega) (by decide) (fun _ => by omega) (by decide) (Or.inr ⟨6, by rw [t_zw]; decide, rfl⟩)
              generalize uzI_341 : u2 zI_335 (zR zw 6) zi_230.toNatClampNeg zi_340 = zI_341 at hP hD h_zI_341
              exact jn_321 zI_341 _ _ _ h_zI_341 hP hD hS (lv_sub hl [0, 1, 2, 3, 4] rfl)
            · have f_333 : ¬ (zi_331.toInt ≠ (2 : Int)) := ic_nne (rfl) (show (2 : Int32).toInt = 2 by decide) c_332
              refine lv_aload_n hx hb dX9_layStretch_63 rfl (lv_at hl 0 rfl) ?_
              refine ht_getr (C := RX9) (T := TX9) (N := 16) hx hb hts (by decide +kernel) hown hK hP hs t_zw (by decide) rfl rfl 4 (by decide) (hts (.fieldLink RX9 24 "DripStone$Ways" "least" "[I") (by decide +kernel)) (fun _ h9 => h9) rfl dX9_layStretch_64 ?_
              have t_342 : zT (zR zw 4) = 40 := sk_f hs t_zw (by decide) rfl (by decide)
              refine lv_iload hx hb dX9_layStretch_67 (lv_at hl 4 rfl) ?_
              refine lv_aload_n hx hb dX9_layStretch_69 rfl (lv_at hl 0 rfl) ?_
              refine ht_getr (C := RX9) (T := TX9) (N := 16) hx hb hts (by decide +kernel) hown hK hP hs t_zw (by decide) rfl rfl 4 (by decide) (hts (.fieldLink RX9 24 "DripStone$Ways" "least" "[I") (by decide +kernel)) (fun _ h9 => h9) rfl dX9_layStretch_70 ?_
              refine lv_iload hx hb dX9_layStretch_73 (lv_at hl 4 rfl) ?_
              refine ht_iald (n := 12) (q := 0) hx hb hK hP hs t_342 (by decide) rfl rfl ⟨by omega, by omega⟩ dX9_layStretch_75 ?_
              refine lv_topi (fun zi_343 ezi_343 => ?_)
              have tzi_343 : 0 ≤ zi_343.toInt ∧ zi_343.toInt ≤ 20 := by rw [ezi_343]; exact h_zI_231.at t_342 _ rfl
              refine lv_iload_n hx hb dX9_layStretch_76 rfl (lv_at hl 3 rfl) ?_
              refine va_mmax hx hb (by rw [hml]; exact hl.1.symm) hown (hts (.methodLink RX9 102 Lib.Math.max.name) (by decide +kernel)) (hts (.static Lib.Math.max.name) (by decide +kernel)) (hts (.initialized "java/lang/Math") (by decide +kernel)) (hts (.code Lib.Math.max.name Lib.Math.max.code 2 (some .int)) (by decide +kernel)) (Nat.le_of_ble_eq_true rfl) (Nat.le_of_ble_eq_true rfl) (Nat.le_of_ble_eq_true rfl) (Nat.le_of_ble_eq_true rfl) dX9_layStretch_77 ?_
              refine lv_topi (fun zi_344 ezi_344 => ?_)
              have tzi_344 : (zi_343.toInt < zi_2.toInt → zi_344.toInt = zi_2.toInt) ∧ (¬ zi_343.toInt < zi_2.toInt → zi_344.toInt = zi_343.toInt) := mx_s ezi_344 (rfl) (rfl)
              refine ht_iast (v := zi_344) (n := 12) (q := 0) hx hb hK hP hD hS hs t_342 (by decide) rfl rfl ⟨by omega, by omega⟩ dX9_layStretch_80 (fun H locs hP hD hS => ?_)
              have h_zI_345 : WM [3900, 4000, 4200] (OW zT zR zw) zT zR zI (u2 zI_231 (zR zw 4) zi_230.toNatClampNeg zi_344) := h_zI_231.putA hs t_342 rfl (by omega) (by decide) (fun h => absurd h (by decide)) (by decide) (Or.inr ⟨4, by rw [t_zw]; decide, rfl⟩)
              generalize uzI_345 : u2 zI_231 (zR zw 4) zi_230.toNatClampNeg zi_344 = zI_345 at hP hD h_zI_345
              refine lv_goto (tgt := 110) hx hb dX9_layStretch_81 (by decide) ?_
              exact jn_321 zI_345 _ _ _ h_zI_345 hP hD hS (lv_sub hl [0, 1, 2, 3, 4] rfl)
  exact lp_288 _ (1 : Int32) zI _ _ _ rfl (by decide) h_zI hP hD hS (lv_sub hl [2, 3, 4, 1, 0] rfl)
set_option maxHeartbeats 8000000 in
set_option maxRecDepth 100000 in
theorem t_X9_layDate (l : Launch) (dC : Nat → ClassId) (dI : Nat → Nat → Nat) (cy : Nat → ClassId) (sz : Nat) (zL : List Nat) (zT : Nat → Nat) (zR : Nat → Nat → Nat) (zI : Nat → Nat → Int32) (zJ : Nat → Nat → Int64) (zw : Nat) (zd : Nat) (zix : Int32) (hs : SKP zL zT zR) (hw : WT zT zR zI) (t_zw : zT zw = 10) (t_zd : zT zd = 3) (b_zix : 0 ≤ zix.toInt ∧ zix.toInt ≤ 7) : Met l yX9_layDate wsX9_layDate ({ frames := 1, cells := 0, slots := 0, locals := 30 } : Room) (va_Pc [.ref zw, .ref zd, .int zix] (PRE dC dI cy (WL cy zL zT zR zI zJ) sz)) (va_Qv (fun (u : (Nat → Nat → Int32)) => (WM [3900] (OW zT zR zw) zT zR zI u)) (fun u t => POST dC dI cy (va_A (WL cy zL zT zR zI zJ) sz) (WL cy zL zT zR u zJ) t) (va_A (WL cy zL zT zR zI zJ) sz)) 0 0 (va_A (WL cy zL zT zR zI zJ) sz) := by
  refine Met.ofW (cc := cX9_layDate) (maxL := 4) (ret := none) (by decide) rfl ?_
  intro p e s m args below meth c s₁ B hml hv
  obtain ⟨rfl, hsz, hP, hK, hD0, hN⟩ := hv
  have hx := B.exec
  have hb := B.bytes
  have hr := B.returns
  have hts := atoms_spec (ws := wsX9_layDate) B.pre
  have hown : s.vm.findClass RX9 = some m.cls := findClass_of_methodNamed B.named
  have hlocks := B.notSynchronized
  subst hsz
  have hD := hD0.self (sz := s.heap.size)
  generalize hAe : va_A (WL cy zL zT zR zI zJ) s.heap.size = A at hD ⊢
  have hA : ∀ q : Nat, s.heap.size ≤ q → A q := fun q h => by rw [← hAe]; exact Or.inr h
  have hS : va_S A s.heap s.heap [] := va_S.rf
  have hP : va_P (dC, dI) vwCl (WL cy zL zT zR zI zJ) s.heap := hP
  have hl := lv_entry ([.ref zw, .ref zd, .int zix] : List Value) (n := 4) (Nat.le_of_ble_eq_true rfl)
  rw [lg_entry_eq]
  generalize (lg_sl ([.ref zw, .ref zd, .int zix] : List Value) ++ List.replicate (4 - (lg_sl ([.ref zw, .ref zd, .int zix] : List Value)).length) Slot.unset).toArray = ls at hl ⊢
  have hl : lv_has ls 4 [(0, .ref zw), (1, .ref zd), (2, .int zix)] := hl
  refine w_q (fun Q hQ => ?_)
  have h_zI : WM [3900] (OW zT zR zw) zT zR zI zI := WM.rf hw
  refine lv_aload_n hx hb dX9_layDate_0 rfl (lv_at hl 0 rfl) ?_
  refine ht_getr (C := RX9) (T := TX9) (N := 16) hx hb hts (by decide +kernel) hown hK hP hs t_zw (by decide) rfl rfl 1 (by decide) (hts (.fieldLink RX9 15 "DripStone$Ways" "placeOf" "[I") (by decide +kernel)) (fun _ h9 => h9) rfl dX9_layDate_1 ?_
  have t_1 : zT (zR zw 1) = 38 := sk_f hs t_zw (by decide) rfl (by decide)
  refine lv_aload_n hx hb dX9_layDate_4 rfl (lv_at hl 1 rfl) ?_
  refine ht_getr (C := RX2) (T := TX2) (N := 7) hx hb hts (by decide +kernel) hown hK hP hs t_zd (by decide) rfl rfl 1 (by decide) (hts (.fieldLink RX9 108 "DripStone$Dates" "things" "[I") (by decide +kernel)) (fun _ h9 => h9) rfl dX9_layDate_5 ?_
  have t_2 : zT (zR zd 1) = 25 := sk_f hs t_zd (by decide) rfl (by decide)
  refine lv_iload_n hx hb dX9_layDate_8 rfl (lv_at hl 2 rfl) ?_
  refine ht_iald (n := 8) (q := 0) hx hb hK hP hs t_2 (by decide) rfl rfl ⟨by omega, by omega⟩ dX9_layDate_9 ?_
  refine lv_topi (fun zi_3 ezi_3 => ?_)
  have tzi_3 : 0 ≤ zi_3.toInt ∧ zi_3.toInt ≤ 11 := by rw [ezi_3]; exact h_zI.at t_2 _ rfl
  refine ht_iald (n := 12) (q := 0) hx hb hK hP hs t_1 (by decide) rfl rfl ⟨by omega, by omega⟩ dX9_layDate_10 ?_
  refine lv_topi (fun zi_4 ezi_4 => ?_)
  have tzi_4 : 0 ≤ zi_4.toInt ∧ zi_4.toInt ≤ 11 := by rw [ezi_4]; exact h_zI.at t_1 _ rfl
  refine lv_istore_n (lv' := [(3, .int zi_4), (0, .ref zw), (1, .ref zd), (2, .int zix)]) hx hb dX9_layDate_11 rfl hl (by decide) rfl (fun ls hl => ?_)
  refine lv_aload_n hx hb dX9_layDate_12 rfl (lv_at hl 1 rfl) ?_
  refine ht_getr (C := RX9) (T := TX9) (N := 16) hx hb hts (by decide +kernel) hown hK hP hs t_zw (by decide) rfl rfl 2 (by decide) (hts (.fieldLink RX9 18 "DripStone$Ways" "earliest" "[I") (by decide +kernel)) (fun _ h9 => h9) rfl dX9_layDate_13 ?_
  have t_5 : zT (zR zw 2) = 39 := sk_f hs t_zw (by decide) rfl (by decide)
  refine lv_iload_n hx hb dX9_layDate_16 rfl (lv_at hl 0 rfl) ?_
  refine lv_aload_n hx hb dX9_layDate_17 rfl (lv_at hl 1 rfl) ?_
  refine ht_getr (C := RX9) (T := TX9) (N := 16) hx hb hts (by decide +kernel) hown hK hP hs t_zw (by decide) rfl rfl 2 (by decide) (hts (.fieldLink RX9 18 "DripStone$Ways" "earliest" "[I") (by decide +kernel)) (fun _ h9 => h9) rfl dX9_layDate_18 ?_
  refine lv_iload_n hx hb dX9_layDate_21 rfl (lv_at hl 0 rfl) ?_
  refine ht_iald (n := 12) (q := 0) hx hb hK hP hs t_5 (by decide) rfl rfl ⟨by omega, by omega⟩ dX9_layDate_22 ?_
  refine lv_topi (fun zi_6 ezi_6 => ?_)
  have tzi_6 : 0 ≤ zi_6.toInt ∧ zi_6.toInt ≤ 23 := by rw [ezi_6]; exact h_zI.at t_5 _ rfl
  refine lv_aload_n hx hb dX9_layDate_23 rfl (lv_at hl 2 rfl) ?_
  refine ht_getr (C := RX2) (T := TX2) (N := 7) hx hb hts (by decide +kernel) hown hK hP hs t_zd (by decide) rfl rfl 2 (by decide) (hts (.fieldLink RX9 109 "DripStone$Dates" "froms" "[I") (by decide +kernel)) (fun _ h9 => h9) rfl dX9_layDate_24 ?_
  have t_7 : zT (zR zd 2) = 26 := sk_f hs t_zd (by decide) rfl (by decide)
  refine lv_iload_n hx hb dX9_layDate_27 rfl (lv_at hl 3 rfl) ?_
  refine ht_iald (n := 8) (q := 0) hx hb hK hP hs t_7 (by decide) rfl rfl ⟨by omega, by omega⟩ dX9_layDate_28 ?_
  refine lv_topi (fun zi_8 ezi_8 => ?_)
  have tzi_8 : 0 ≤ zi_8.toInt ∧ zi_8.toInt ≤ 23 := by rw [ezi_8]; exact h_zI.at t_7 _ rfl
  refine va_mmax hx hb (by rw [hml]; exact hl.1.symm) hown (hts (.methodLink RX9 102 Lib.Math.max.name) (by decide +kernel)) (hts (.static Lib.Math.max.name) (by decide +kernel)) (hts (.initialized "java/lang/Math") (by decide +kernel)) (hts (.code Lib.Math.max.name Lib.Math.max.code 2 (some .int)) (by decide +kernel)) (Nat.le_of_ble_eq_true rfl) (Nat.le_of_ble_eq_true rfl) (Nat.le_of_ble_eq_true rfl) (Nat.le_of_ble_eq_true rfl) dX9_layDate_29 ?_
  refine lv_topi (fun zi_9 ezi_9 => ?_)
  have tzi_9 : (zi_6.toInt < zi_8.toInt → zi_9.toInt = zi_8.toInt) ∧ (¬ zi_6.toInt < zi_8.toInt → zi_9.toInt = zi_6.toInt) := mx_s ezi_9 (rfl) (rfl)
  refine ht_iast (v := zi_9) (n := 12) (q := 0) hx hb hK hP hD hS hs t_5 (by decide) rfl rfl ⟨by omega, by omega⟩ dX9_layDate_32 (fun H locs hP hD hS => ?_)
  have h_zI_10 : WM [3900] (OW zT zR zw) zT zR zI (u2 zI (zR zw 2) zi_4.toNatClampNeg zi_9) := h_zI.putA hs t_5 rfl (by omega) (by decide) (fun h => absurd h (by decide)) (by decide) (Or.inr ⟨2, by rw [t_zw]; decide, rfl⟩)
  generalize uzI_10 : u2 zI (zR zw 2) zi_4.toNatClampNeg zi_9 = zI_10 at hP hD h_zI_10
  refine lv_aload_n hx hb dX9_layDate_33 rfl (lv_at hl 2 rfl) ?_
  refine ht_getr (C := RX2) (T := TX2) (N := 7) hx hb hts (by decide +kernel) hown hK hP hs t_zd (by decide) rfl rfl 4 (by decide) (hts (.fieldLink RX9 112 "DripStone$Dates" "dirts" "[I") (by decide +kernel)) (fun _ h9 => h9) rfl dX9_layDate_34 ?_
  have t_11 : zT (zR zd 4) = 27 := sk_f hs t_zd (by decide) rfl (by decide)
  refine lv_iload_n hx hb dX9_layDate_37 rfl (lv_at hl 3 rfl) ?_
  refine ht_iald (n := 8) (q := 0) hx hb hK hP hs t_11 (by decide) rfl rfl ⟨by omega, by omega⟩ dX9_layDate_38 ?_
  refine lv_topi (fun zi_12 ezi_12 => ?_)
  refine lv_if_ne (tgt := 63) hx hb dX9_layDate_39 (by decide) (fun c_13 => ?_) (fun c_13 => ?_)
  · have f_14 : zi_12.toInt ≠ 0 := ic_ne (rfl) (by decide) c_13
    subst hQ
    exact W.vret hx hb hr (fun t ht hW => ⟨⟨zI_10, rfl, h_zI_10, ⟨by rw [ht]; exact hP, va_K.moved hW.alike hK, hD⟩⟩, hS.F ht⟩) hS.2.2 dX9_layDate_63
  · have f_14 : ¬ (zi_12.toInt ≠ 0) := ic_nne (rfl) (by decide) c_13
    refine lv_aload_n hx hb dX9_layDate_42 rfl (lv_at hl 1 rfl) ?_
    refine ht_getr (C := RX9) (T := TX9) (N := 16) hx hb hts (by decide +kernel) hown hK hP hs t_zw (by decide) rfl rfl 3 (by decide) (hts (.fieldLink RX9 21 "DripStone$Ways" "latest" "[I") (by decide +kernel)) (fun _ h9 => h9) rfl dX9_layDate_43 ?_
    have t_15 : zT (zR zw 3) = 39 := sk_f hs t_zw (by decide) rfl (by decide)
    refine lv_iload_n hx hb dX9_layDate_46 rfl (lv_at hl 0 rfl) ?_
    refine lv_aload_n hx hb dX9_layDate_47 rfl (lv_at hl 1 rfl) ?_
    refine ht_getr (C := RX9) (T := TX9) (N := 16) hx hb hts (by decide +kernel) hown hK hP hs t_zw (by decide) rfl rfl 3 (by decide) (hts (.fieldLink RX9 21 "DripStone$Ways" "latest" "[I") (by decide +kernel)) (fun _ h9 => h9) rfl dX9_layDate_48 ?_
    refine lv_iload_n hx hb dX9_layDate_51 rfl (lv_at hl 0 rfl) ?_
    refine ht_iald (n := 12) (q := 0) hx hb hK hP hs t_15 (by decide) rfl rfl ⟨by omega, by omega⟩ dX9_layDate_52 ?_
    refine lv_topi (fun zi_16 ezi_16 => ?_)
    have tzi_16 : 0 ≤ zi_16.toInt ∧ zi_16.toInt ≤ 23 := by rw [ezi_16]; exact h_zI_10.at t_15 _ rfl
    refine lv_aload_n hx hb dX9_layDate_53 rfl (lv_at hl 2 rfl) ?_
    refine ht_getr (C := RX2) (T := TX2) (N := 7) hx hb hts (by decide +kernel) hown hK hP hs t_zd (by decide) rfl rfl 3 (by decide) (hts (.fieldLink RX9 115 "DripStone$Dates" "tos" "[I") (by decide +kernel)) (fun _ h9 => h9) rfl dX9_layDate_54 ?_
    have t_17 : zT (zR zd 3) = 26 := sk_f hs t_zd (by decide) rfl (by decide)
    refine lv_iload_n hx hb dX9_layDate_57 rfl (lv_at hl 3 rfl) ?_
    refine ht_iald (n := 8) (q := 0) hx hb hK hP hs t_17 (by decide) rfl rfl ⟨by omega, by omega⟩ dX9_layDate_58 ?_
    refine lv_topi (fun zi_18 ezi_18 => ?_)
    have tzi_18 : 0 ≤ zi_18.toInt ∧ zi_18.toInt ≤ 23 := by rw [ezi_18]; exact h_zI_10.at t_17 _ rfl
    refine va_mmin hx hb (by rw [hml]; exact hl.1.symm) hown (hts (.methodLink RX9 118 Lib.Math.min.name) (by decide +kernel)) (hts (.static Lib.Math.min.name) (by decide +kernel)) (hts (.initialized "java/lang/Math") (by decide +kernel)) (hts (.code Lib.Math.min.name Lib.Math.min.code 2 (some .int)) (by decide +kernel)) (Nat.le_of_ble_eq_true rfl) (Nat.le_of_ble_eq_true rfl) (Nat.le_of_ble_eq_true rfl) (Nat.le_of_ble_eq_true rfl) dX9_layDate_59 ?_
    refine lv_topi (fun zi_19 ezi_19 => ?_)
    have tzi_19 : (zi_18.toInt < zi_16.toInt → zi_19.toInt = zi_18.toInt) ∧ (¬ zi_18.toInt < zi_16.toInt → zi_19.toInt = zi_16.toInt) := mn_s ezi_19 (rfl) (rfl)
    refine ht_iast (v := zi_19) (n := 12) (q := 0) hx hb hK hP hD hS hs t_15 (by decide) rfl rfl ⟨by omega, by omega⟩ dX9_layDate_62 (fun H locs hP hD hS => ?_)
    have h_zI_20 : WM [3900] (OW zT zR zw) zT zR zI (u2 zI_10 (zR zw 3) zi_4.toNatClampNeg zi_19) := h_zI_10.putA hs t_15 rfl (by omega) (by decide) (fun h => absurd h (by decide)) (by decide) (Or.inr ⟨3, by rw [t_zw]; decide, rfl⟩)
    generalize uzI_20 : u2 zI_10 (zR zw 3) zi_4.toNatClampNeg zi_19 = zI_20 at hP hD h_zI_20
    subst hQ
    exact W.vret hx hb hr (fun t ht hW => ⟨⟨zI_20, rfl, h_zI_20, ⟨by rw [ht]; exact hP, va_K.moved hW.alike hK, hD⟩⟩, hS.F ht⟩) hS.2.2 dX9_layDate_63
set_option maxHeartbeats 8000000 in
set_option maxRecDepth 100000 in
theorem t_X9_lay (l : Launch) (dC : Nat → ClassId) (dI : Nat → Nat → Nat) (cy : Nat → ClassId) (sz : Nat) (zL : List Nat) (zT : Nat → Nat) (zR : Nat → Nat → Nat) (zI : Nat → Nat → Int32) (zJ : Nat → Nat → Int64) (zw : Nat) (zc : Nat) (zd : Nat) (zib : Int32) (hs : SKP zL zT zR) (hw : WT zT zR zI) (t_zw : zT zw = 10) (t_zc : zT zc = 1) (t_zd : zT zd = 3) : Met l yX9_lay wsX9_lay ({ frames := 2, cells := 0, slots := 0, locals := 54 } : Room) (va_Pc [.ref zw, .ref zc, .ref zd, .int zib] (PRE dC dI cy (WL cy zL zT zR zI zJ) sz)) (va_Qv (fun (u : (Nat → Nat → Int32)) => (WM [1013, 1014, 3700, 3800, 3900, 4000, 4200] (OW zT zR zw) zT zR zI u) ∧ (LW zR u zw zc)) (fun u t => POST dC dI cy (va_A (WL cy zL zT zR zI zJ) sz) (WL cy zL zT zR u zJ) t) (va_A (WL cy zL zT zR zI zJ) sz)) 0 0 (va_A (WL cy zL zT zR zI zJ) sz) := by
  refine Met.ofW (cc := cX9_lay) (maxL := 5) (ret := none) (by decide) rfl ?_
  intro p e s m args below meth c s₁ B hml hv
  obtain ⟨rfl, hsz, hP, hK, hD0, hN⟩ := hv
  have hx := B.exec
  have hb := B.bytes
  have hr := B.returns
  have hts := atoms_spec (ws := wsX9_lay) B.pre
  have hown : s.vm.findClass RX9 = some m.cls := findClass_of_methodNamed B.named
  have hlocks := B.notSynchronized
  subst hsz
  have hD := hD0.self (sz := s.heap.size)
  generalize hAe : va_A (WL cy zL zT zR zI zJ) s.heap.size = A at hD ⊢
  have hA : ∀ q : Nat, s.heap.size ≤ q → A q := fun q h => by rw [← hAe]; exact Or.inr h
  have hS : va_S A s.heap s.heap [] := va_S.rf
  have hP : va_P (dC, dI) vwCl (WL cy zL zT zR zI zJ) s.heap := hP
  have hl := lv_entry ([.ref zw, .ref zc, .ref zd, .int zib] : List Value) (n := 5) (Nat.le_of_ble_eq_true rfl)
  rw [lg_entry_eq]
  generalize (lg_sl ([.ref zw, .ref zc, .ref zd, .int zib] : List Value) ++ List.replicate (5 - (lg_sl ([.ref zw, .ref zc, .ref zd, .int zib] : List Value)).length) Slot.unset).toArray = ls at hl ⊢
  have hl : lv_has ls 5 [(0, .ref zw), (1, .ref zc), (2, .ref zd), (3, .int zib)] := hl
  refine w_q (fun Q hQ => ?_)
  have h_zI : WM [1013, 1014, 3700, 3800, 3900, 4000, 4200] (OW zT zR zw) zT zR zI zI := WM.rf hw
  refine lv_aload_n hx hb dX9_lay_0 rfl (lv_at hl 0 rfl) ?_
  refine lv_aload_n hx hb dX9_lay_1 rfl (lv_at hl 1 rfl) ?_
  refine ht_geti (C := RX0) (T := TX0) (N := 11) hx hb hts (by decide +kernel) hown hK hP hs t_zc (by decide) rfl rfl 9 (by decide) (hts (.fieldLink RX9 54 "DripStone$Candle" "most" "I") (by decide +kernel)) (fun _ h9 => h9) rfl dX9_lay_2 ?_
  refine lv_topi (fun zi_1 ezi_1 => ?_)
  have tzi_1 : 1 ≤ zi_1.toInt ∧ zi_1.toInt ≤ 4 := by rw [ezi_1]; exact h_zI.at t_zc _ rfl
  refine ht_puti (v := zi_1) (ty := .int) (C := RX9) (T := TX9) (N := 16) hx hb hts (by decide +kernel) tyX9 tyX9_ok nmX9 hown hK hP hD hS hs t_zw (by decide) rfl rfl 13 (by decide) (hts (.fieldLink RX9 60 "DripStone$Ways" "most" "I") (by decide +kernel)) (fun _ h9 => h9) rfl (by decide +kernel) rfl rfl rfl dX9_lay_5 (fun H locs hP hD hS => ?_)
  have h_zI_2 : WM [1013, 1014, 3700, 3800, 3900, 4000, 4200] (OW zT zR zw) zT zR zI (u2 zI zw 13 zi_1) := h_zI.put hs t_zw rfl (by omega) (by decide) (fun h => absurd h (by decide)) (by decide) (Or.inl rfl)
  generalize uzI_2 : u2 zI zw 13 zi_1 = zI_2 at hP hD h_zI_2
  refine lv_aload_n hx hb dX9_lay_8 rfl (lv_at hl 0 rfl) ?_
  refine lv_aload_n hx hb dX9_lay_9 rfl (lv_at hl 1 rfl) ?_
  refine hj_v (ws := (WL cy zL zT zR zI_2 zJ)) (w1 := fun (u : (Nat → Nat → Int32)) => (WL cy zL zT zR u zJ)) (va_runV (As := [.ref zc]) (rest := []) ⟨hx, hb, hml, hown, hts⟩ (t_X9_layPlaces l dC dI cy H.size zL zT zR zI_2 zJ zw zc hs h_zI_2.1 t_zw t_zc) (cwV 1 hts gX9_lay_X9_layPlaces rfl rfl rfl (by decide +kernel) ⟨(Nat.le_of_ble_eq_true rfl), (Nat.le_of_ble_eq_true rfl)⟩) (PRE.v hP hK hD hN (ht_recv hK hP hs t_zw (by decide) rfl rfl)) rfl rfl hl.1 rfl (lv_room (Nat.le_of_ble_eq_true rfl)) dX9_lay_10 ⟨(Nat.le_of_ble_eq_true rfl), (Nat.le_of_ble_eq_true rfl)⟩) hP hD hS hA (fun zI_6 H locs hw_4 hP hD hS => ?_)
  obtain ⟨k_zI_6, ps_7⟩ : (WM [1014, 3700, 3800, 3900, 4000, 4200] (OW zT zR zw) zT zR zI_2 zI_6) ∧ (LW zR zI_6 zw zc) := hw_4
  have h_zI_6 : WM [1013, 1014, 3700, 3800, 3900, 4000, 4200] (OW zT zR zw) zT zR zI zI_6 := h_zI_2.tr k_zI_6 (by decide) (fun _ h => h)
  refine lv_iconst (v := 0) hx hb dX9_lay_13 (by decide) ?_
  refine lv_istore (lv' := [(4, .int 0), (0, .ref zw), (1, .ref zc), (2, .ref zd), (3, .int zib)]) hx hb dX9_lay_14 hl (by decide) rfl (fun ls hl => ?_)
  have lp_53 : ∀ (n : Nat) (zi_43 : Int32) (zI_44 : Nat → Nat → Int32) (H : Heap) (locs : List Loc) (ls : Array Slot), (6 - zi_43.toInt).toNat = n → (0 ≤ zi_43.toInt ∧ zi_43.toInt ≤ 6) → (WM [1013, 1014, 3700, 3800, 3900, 4000, 4200] (OW zT zR zw) zT zR zI zI_44) → (LW zR zI_44 zw zc) → va_P (dC, dI) vwCl (WL cy zL zT zR zI_44 zJ) H → va_D A (WL cy zL zT zR zI_44 zJ) → va_S A s.heap H locs → lv_has ls 5 [(0, .ref zw), (1, .ref zc), (2, .ref zd), (3, .int zib), (4, .int zi_43)] → W p l e ({ frames := 2, cells := 0, slots := 0, locals := 54 } : Room) s m ([.ref zw, .ref zc, .ref zd, .int zib] : List Value).toArray below meth c H locs 0 0 Q (F0 m 16 ls []) := by
    intro n
    induction n using Nat.strongRecOn with
    | _ n ih_53 =>
      intro zi_43 zI_44 H locs ls hn b_zi_43 h_zI_44 e_lp_53_0 hP hD hS hl
      refine lv_iload hx hb dX9_lay_16 (lv_at hl 4 rfl) ?_
      refine lv_aload_n hx hb dX9_lay_18 rfl (lv_at hl 1 rfl) ?_
      refine ht_geti (C := RX0) (T := TX0) (N := 11) hx hb hts (by decide +kernel) hown hK hP hs t_zc (by decide) rfl rfl 8 (by decide) (hts (.fieldLink RX9 65 "DripStone$Candle" "stretches" "I") (by decide +kernel)) (fun _ h9 => h9) rfl dX9_lay_19 ?_
      refine lv_topi (fun zi_54 ezi_54 => ?_)
      have tzi_54 : 0 ≤ zi_54.toInt ∧ zi_54.toInt ≤ 6 := by rw [ezi_54]; exact h_zI_44.at t_zc _ rfl
      refine lv_icmp_ge (tgt := 38) hx hb dX9_lay_22 (by decide) (fun c_55 => ?_) (fun c_55 => ?_)
      · have f_56 : zi_43.toInt ≥ zi_54.toInt := ic_ge (rfl) (rfl) c_55
        refine lv_iconst (v := 0) hx hb dX9_lay_38 (by decide) ?_
        refine lv_istore (lv' := [(4, .int 0), (0, .ref zw), (1, .ref zc), (2, .ref zd), (3, .int zib)]) hx hb dX9_lay_39 hl (by decide) rfl (fun ls hl => ?_)
        have lp_126 : ∀ (n : Nat) (zi_111 : Int32) (zI_112 : Nat → Nat → Int32) (H : Heap) (locs : List Loc) (ls : Array Slot), (8 - zi_111.toInt).toNat = n → (0 ≤ zi_111.toInt ∧ zi_111.toInt ≤ 8) → (WM [1013, 1014, 3700, 3800, 3900, 4000, 4200] (OW zT zR zw) zT zR zI zI_112) → (LW zR zI_112 zw zc) → va_P (dC, dI) vwCl (WL cy zL zT zR zI_112 zJ) H → va_D A (WL cy zL zT zR zI_112 zJ) → va_S A s.heap H locs → lv_has ls 5 [(0, .ref zw), (1, .ref zc), (2, .ref zd), (3, .int zib), (4, .int zi_111)] → W p l e ({ frames := 2, cells := 0, slots := 0, locals := 54 } : Room) s m ([.ref zw, .ref zc, .ref zd, .int zib] : List Value).toArray below meth c H locs 0 0 Q (F0 m 41 ls []) := by
          intro n
          induction n using Nat.strongRecOn with
          | _ n ih_126 =>
            intro zi_111 zI_112 H locs ls hn b_zi_111 h_zI_112 e_lp_126_0 hP hD hS hl
            refine lv_iload hx hb dX9_lay_41 (lv_at hl 4 rfl) ?_
            refine lv_aload_n hx hb dX9_lay_43 rfl (lv_at hl 2 rfl) ?_
            refine ht_geti (C := RX2) (T := TX2) (N := 7) hx hb hts (by decide +kernel) hown hK hP hs t_zd (by decide) rfl rfl 6 (by decide) (hts (.fieldLink RX9 72 "DripStone$Dates" "held" "I") (by decide +kernel)) (fun _ h9 => h9) rfl dX9_lay_44 ?_
            refine lv_topi (fun zi_127 ezi_127 => ?_)
            have tzi_127 : 0 ≤ zi_127.toInt ∧ zi_127.toInt ≤ 8 := by rw [ezi_127]; exact h_zI_112.at t_zd _ rfl
            refine lv_icmp_ge (tgt := 73) hx hb dX9_lay_47 (by decide) (fun c_128 => ?_) (fun c_128 => ?_)
            · have f_129 : zi_111.toInt ≥ zi_127.toInt := ic_ge (rfl) (rfl) c_128
              subst hQ
              exact W.vret hx hb hr (fun t ht hW => ⟨⟨zI_112, rfl, ⟨h_zI_112, (show LW zR zI_112 zw zc from e_lp_126_0)⟩, ⟨by rw [ht]; exact hP, va_K.moved hW.alike hK, hD⟩⟩, hS.F ht⟩) hS.2.2 dX9_lay_73
            · have f_129 : ¬ (zi_111.toInt ≥ zi_127.toInt) := ic_nge (rfl) (rfl) c_128
              refine lv_iload_n hx hb dX9_lay_50 rfl (lv_at hl 3 rfl) ?_
              refine lv_iload hx hb dX9_lay_51 (lv_at hl 4 rfl) ?_
              refine lv_ishr hx hb dX9_lay_53 ?_
              refine lv_topi (fun zi_130 ezi_130 => ?_)
              have rzi_130 := rng zi_130
              refine lv_iconst (v := 1) hx hb dX9_lay_54 (by decide) ?_
              refine lv_iand hx hb dX9_lay_55 ?_
              refine lv_topi (fun zi_131 ezi_131 => ?_)
              have tzi_131 : 0 ≤ zi_131.toInt ∧ zi_131.toInt ≤ 1 := by rw [ezi_131]; exact andb (k := 1) (by decide) (by decide) (by decide)
              refine lv_iconst (v := 1) hx hb dX9_lay_56 (by decide) ?_
              refine lv_icmp_ne (tgt := 67) hx hb dX9_lay_57 (by decide) (fun c_132 => ?_) (fun c_132 => ?_)
              · have f_133 : zi_131.toInt ≠ (1 : Int) := ic_ne (rfl) (show (1 : Int32).toInt = 1 by decide) c_132
                obtain ⟨zi_134, ezi_134⟩ : ∃ y : Int32, y = zi_111 + 1 := ⟨_, rfl⟩
                have tzi_134 : zi_134.toInt = zi_111.toInt + 1 := by rw [ezi_134]; exact tadd rfl (show (1 : Int32).toInt = 1 by decide) (by omega) (by omega)
                refine lv_iinc (v := zi_134) (lv' := [(4, .int zi_134), (0, .ref zw), (1, .ref zc), (2, .ref zd), (3, .int zib)]) hx hb dX9_lay_67 hl (k := 4) rfl (by rw [ezi_134]; rfl) (by decide) rfl (fun ls hl => ?_)
                refine lv_goto (tgt := 41) hx hb dX9_lay_70 (by decide) ?_
                exact ih_126 (8 - zi_134.toInt).toNat (by omega) zi_134 zI_112 _ _ _ rfl (by omega) h_zI_112 e_lp_126_0 hP hD hS (lv_sub hl [1, 2, 3, 4, 0] rfl)
              · have f_133 : ¬ (zi_131.toInt ≠ (1 : Int)) := ic_nne (rfl) (show (1 : Int32).toInt = 1 by decide) c_132
                refine lv_aload_n hx hb dX9_lay_60 rfl (lv_at hl 0 rfl) ?_
                refine lv_aload_n hx hb dX9_lay_61 rfl (lv_at hl 2 rfl) ?_
                refine lv_iload hx hb dX9_lay_62 (lv_at hl 4 rfl) ?_
                refine hj_v (ws := (WL cy zL zT zR zI_112 zJ)) (w1 := fun (u : (Nat → Nat → Int32)) => (WL cy zL zT zR u zJ)) (va_runV (As := [.ref zd, .int zi_111]) (rest := []) ⟨hx, hb, hml, hown, hts⟩ (t_X9_layDate l dC dI cy H.size zL zT zR zI_112 zJ zw zd zi_111 hs h_zI_112.1 t_zw t_zd (by omega)) (cwV 2 hts gX9_lay_X9_layDate rfl rfl rfl (by decide +kernel) ⟨(Nat.le_of_ble_eq_true rfl), (Nat.le_of_ble_eq_true rfl)⟩) (PRE.v hP hK hD hN (ht_recv hK hP hs t_zw (by decide) rfl rfl)) rfl rfl hl.1 rfl (lv_room (Nat.le_of_ble_eq_true rfl)) dX9_lay_64 ⟨(Nat.le_of_ble_eq_true rfl), (Nat.le_of_ble_eq_true rfl)⟩) hP hD hS hA (fun zI_138 H locs hw_136 hP hD hS => ?_)
                have k_zI_138 : WM [3900] (OW zT zR zw) zT zR zI_112 zI_138 := hw_136
                have h_zI_138 : WM [1013, 1014, 3700, 3800, 3900, 4000, 4200] (OW zT zR zw) zT zR zI zI_138 := h_zI_112.tr k_zI_138 (by decide) (fun _ h => h)
                obtain ⟨zi_139, ezi_139⟩ : ∃ y : Int32, y = zi_111 + 1 := ⟨_, rfl⟩
                have tzi_139 : zi_139.toInt = zi_111.toInt + 1 := by rw [ezi_139]; exact tadd rfl (show (1 : Int32).toInt = 1 by decide) (by omega) (by omega)
                refine lv_iinc (v := zi_139) (lv' := [(4, .int zi_139), (0, .ref zw), (1, .ref zc), (2, .ref zd), (3, .int zib)]) hx hb dX9_lay_67 hl (k := 4) rfl (by rw [ezi_139]; rfl) (by decide) rfl (fun ls hl => ?_)
                refine lv_goto (tgt := 41) hx hb dX9_lay_70 (by decide) ?_
                exact ih_126 (8 - zi_139.toInt).toNat (by omega) zi_139 zI_138 _ _ _ rfl (by omega) h_zI_138 (e_lp_126_0.sm hs t_zw t_zc k_zI_138.2 (by decide)) hP hD hS (lv_sub hl [1, 2, 3, 4, 0] rfl)
        have qc_0 : (0 : Int32).toInt = 0 := by decide
        exact lp_126 _ (0 : Int32) zI_44 _ _ _ rfl (by decide) h_zI_44 e_lp_53_0 hP hD hS (lv_sub hl [1, 2, 3, 4, 0] rfl)
      · have f_56 : ¬ (zi_43.toInt ≥ zi_54.toInt) := ic_nge (rfl) (rfl) c_55
        refine lv_aload_n hx hb dX9_lay_25 rfl (lv_at hl 0 rfl) ?_
        refine lv_aload_n hx hb dX9_lay_26 rfl (lv_at hl 1 rfl) ?_
        refine lv_iload hx hb dX9_lay_27 (lv_at hl 4 rfl) ?_
        refine hj_v (ws := (WL cy zL zT zR zI_44 zJ)) (w1 := fun (u : (Nat → Nat → Int32)) => (WL cy zL zT zR u zJ)) (va_runV (As := [.ref zc, .int zi_43]) (rest := []) ⟨hx, hb, hml, hown, hts⟩ (t_X9_layStretch l dC dI cy H.size zL zT zR zI_44 zJ zw zc zi_43 hs h_zI_44.1 t_zw t_zc (by omega)) (cwV 2 hts gX9_lay_X9_layStretch rfl rfl rfl (by decide +kernel) ⟨(Nat.le_of_ble_eq_true rfl), (Nat.le_of_ble_eq_true rfl)⟩) (PRE.v hP hK hD hN (ht_recv hK hP hs t_zw (by decide) rfl rfl)) rfl rfl hl.1 rfl (lv_room (Nat.le_of_ble_eq_true rfl)) dX9_lay_29 ⟨(Nat.le_of_ble_eq_true rfl), (Nat.le_of_ble_eq_true rfl)⟩) hP hD hS hA (fun zI_143 H locs hw_141 hP hD hS => ?_)
        have k_zI_143 : WM [3900, 4000, 4200] (OW zT zR zw) zT zR zI_44 zI_143 := hw_141
        have h_zI_143 : WM [1013, 1014, 3700, 3800, 3900, 4000, 4200] (OW zT zR zw) zT zR zI zI_143 := h_zI_44.tr k_zI_143 (by decide) (fun _ h => h)
        obtain ⟨zi_144, ezi_144⟩ : ∃ y : Int32, y = zi_43 + 1 := ⟨_, rfl⟩
        have tzi_144 : zi_144.toInt = zi_43.toInt + 1 := by rw [ezi_144]; exact tadd rfl (show (1 : Int32).toInt = 1 by decide) (by omega) (by omega)
        refine lv_iinc (v := zi_144) (lv' := [(4, .int zi_144), (0, .ref zw), (1, .ref zc), (2, .ref zd), (3, .int zib)]) hx hb dX9_lay_32 hl (k := 4) rfl (by rw [ezi_144]; rfl) (by decide) rfl (fun ls hl => ?_)
        refine lv_goto (tgt := 16) hx hb dX9_lay_35 (by decide) ?_
        exact ih_53 (6 - zi_144.toInt).toNat (by omega) zi_144 zI_143 _ _ _ rfl (by omega) h_zI_143 (e_lp_53_0.sm hs t_zw t_zc k_zI_143.2 (by decide)) hP hD hS (lv_sub hl [1, 2, 3, 4, 0] rfl)
  have qc_0 : (0 : Int32).toInt = 0 := by decide
  exact lp_53 _ (0 : Int32) zI_6 _ _ _ rfl (by decide) h_zI_6 ps_7 hP hD hS (lv_sub hl [1, 2, 3, 4, 0] rfl)
set_option maxHeartbeats 8000000 in
set_option maxRecDepth 100000 in
theorem t_X9_firstYear (l : Launch) (dC : Nat → ClassId) (dI : Nat → Nat → Nat) (cy : Nat → ClassId) (sz : Nat) (zL : List Nat) (zT : Nat → Nat) (zR : Nat → Nat → Nat) (zI : Nat → Nat → Int32) (zJ : Nat → Nat → Int64) (zx1 : Nat) (hs : SKP zL zT zR) (hw : WT zT zR zI) (t_zx1 : zT zx1 = 50) : Met l yX9_firstYear wsX9_firstYear ({ frames := 0, cells := 0, slots := 0, locals := 0 } : Room) (va_Pc [.ref zx1] (PRE dC dI cy (WL cy zL zT zR zI zJ) sz)) (va_Qi (fun (r : Int32) (u : Unit) => (0 ≤ r.toInt ∧ r.toInt ≤ 24)) (fun u t => POST dC dI cy (va_A (WL cy zL zT zR zI zJ) sz) (WL cy zL zT zR zI zJ) t) (va_A (WL cy zL zT zR zI zJ) sz)) 0 0 (va_A (WL cy zL zT zR zI zJ) sz) := by
  refine Met.ofW (cc := cX9_firstYear) (maxL := 2) (ret := (some .int)) (by decide) rfl ?_
  intro p e s m args below meth c s₁ B hml hv
  obtain ⟨rfl, hsz, hP, hK, hD0, hN⟩ := hv
  have hx := B.exec
  have hb := B.bytes
  have hr := B.returns
  have hts := atoms_spec (ws := wsX9_firstYear) B.pre
  have hown : s.vm.findClass RX9 = some m.cls := findClass_of_methodNamed B.named
  have hlocks := B.notSynchronized
  subst hsz
  have hD := hD0.self (sz := s.heap.size)
  generalize hAe : va_A (WL cy zL zT zR zI zJ) s.heap.size = A at hD ⊢
  have hA : ∀ q : Nat, s.heap.size ≤ q → A q := fun q h => by rw [← hAe]; exact Or.inr h
  have hS : va_S A s.heap s.heap [] := va_S.rf
  have hP : va_P (dC, dI) vwCl (WL cy zL zT zR zI zJ) s.heap := hP
  have hl := lv_entry ([.ref zx1] : List Value) (n := 2) (Nat.le_of_ble_eq_true rfl)
  rw [lg_entry_eq]
  generalize (lg_sl ([.ref zx1] : List Value) ++ List.replicate (2 - (lg_sl ([.ref zx1] : List Value)).length) Slot.unset).toArray = ls at hl ⊢
  have hl : lv_has ls 2 [(0, .ref zx1)] := hl
  refine w_q (fun Q hQ => ?_)
  have h_zI : WM [] AL zT zR zI zI := WM.rf hw
  refine lv_iconst (v := 0) hx hb dX9_firstYear_0 (by decide) ?_
  refine lv_istore_n (lv' := [(1, .int 0), (0, .ref zx1)]) hx hb dX9_firstYear_1 rfl hl (by decide) rfl (fun ls hl => ?_)
  have lp_37 : ∀ (n : Nat) (zi_29 : Int32) (H : Heap) (locs : List Loc) (ls : Array Slot), (96 - zi_29.toInt).toNat = n → (0 ≤ zi_29.toInt ∧ zi_29.toInt ≤ 96) → va_P (dC, dI) vwCl (WL cy zL zT zR zI zJ) H → va_D A (WL cy zL zT zR zI zJ) → va_S A s.heap H locs → lv_has ls 2 [(0, .ref zx1), (1, .int zi_29)] → W p l e ({ frames := 0, cells := 0, slots := 0, locals := 0 } : Room) s m ([.ref zx1] : List Value).toArray below meth c H locs 0 0 Q (F0 m 2 ls []) := by
    intro n
    induction n using Nat.strongRecOn with
    | _ n ih_37 =>
      intro zi_29 H locs ls hn b_zi_29 hP hD hS hl
      refine lv_iload_n hx hb dX9_firstYear_2 rfl (lv_at hl 1 rfl) ?_
      refine lv_bipush (v := 96) hx hb dX9_firstYear_3 (by decide) ?_
      refine lv_icmp_ge (tgt := 22) hx hb dX9_firstYear_5 (by decide) (fun c_38 => ?_) (fun c_38 => ?_)
      · have f_39 : zi_29.toInt ≥ (96 : Int) := ic_ge (rfl) (show (96 : Int32).toInt = 96 by decide) c_38
        refine lv_iload_n hx hb dX9_firstYear_22 rfl (lv_at hl 1 rfl) ?_
        refine lv_iconst (v := 4) hx hb dX9_firstYear_23 (by decide) ?_
        refine lv_idiv hx hb dX9_firstYear_24 (by decide) ?_
        refine lv_topi (fun zi_40 ezi_40 => ?_)
        have tzi_40 : zi_40.toInt = zi_29.toInt / 4 := by rw [ezi_40]; exact tidiv rfl (show (4 : Int32).toInt = 4 by decide) (by omega) (by decide)
        subst hQ
        exact W.iret (v := zi_40) hx hb hr (fun t ht hW => ⟨⟨zi_40, (), rfl, (show 0 ≤ zi_40.toInt ∧ zi_40.toInt ≤ 24 from by omega), ⟨by rw [ht]; exact hP, va_K.moved hW.alike hK, hD⟩⟩, hS.F ht⟩) hS.2.2 dX9_firstYear_25
      · have f_39 : ¬ (zi_29.toInt ≥ (96 : Int)) := ic_nge (rfl) (show (96 : Int32).toInt = 96 by decide) c_38
        refine lv_aload_n hx hb dX9_firstYear_8 rfl (lv_at hl 0 rfl) ?_
        refine lv_iload_n hx hb dX9_firstYear_9 rfl (lv_at hl 1 rfl) ?_
        refine ht_lald (n := 96) (q := 1) hx hb hK hP hs t_zx1 (by decide) rfl rfl ⟨by omega, by omega⟩ dX9_firstYear_10 ?_
        refine lv_topl (fun zj_41 ezj_41 => ?_)
        refine lv_lconst (v := 0) hx hb dX9_firstYear_11 (by decide) ?_
        refine W.lcmp hx hb dX9_firstYear_12 ?_
        refine lv_topi (fun zi_42 ezi_42 => ?_)
        refine lv_if_ne (tgt := 22) hx hb dX9_firstYear_13 (by decide) (fun c_43 => ?_) (fun c_43 => ?_)
        · have f_44 : ¬ (zj_41.toInt = (0 : Int)) := lk_ne ezi_42 (rfl) (show (0 : Int64).toInt = 0 by decide) c_43
          refine lv_iload_n hx hb dX9_firstYear_22 rfl (lv_at hl 1 rfl) ?_
          refine lv_iconst (v := 4) hx hb dX9_firstYear_23 (by decide) ?_
          refine lv_idiv hx hb dX9_firstYear_24 (by decide) ?_
          refine lv_topi (fun zi_45 ezi_45 => ?_)
          have tzi_45 : zi_45.toInt = zi_29.toInt / 4 := by rw [ezi_45]; exact tidiv rfl (show (4 : Int32).toInt = 4 by decide) (by omega) (by decide)
          subst hQ
          exact W.iret (v := zi_45) hx hb hr (fun t ht hW => ⟨⟨zi_45, (), rfl, (show 0 ≤ zi_45.toInt ∧ zi_45.toInt ≤ 24 from by omega), ⟨by rw [ht]; exact hP, va_K.moved hW.alike hK, hD⟩⟩, hS.F ht⟩) hS.2.2 dX9_firstYear_25
        · have f_44 : zj_41.toInt = (0 : Int) := lk_nne ezi_42 (rfl) (show (0 : Int64).toInt = 0 by decide) c_43
          obtain ⟨zi_46, ezi_46⟩ : ∃ y : Int32, y = zi_29 + 1 := ⟨_, rfl⟩
          have tzi_46 : zi_46.toInt = zi_29.toInt + 1 := by rw [ezi_46]; exact tadd rfl (show (1 : Int32).toInt = 1 by decide) (by omega) (by omega)
          refine lv_iinc (v := zi_46) (lv' := [(1, .int zi_46), (0, .ref zx1)]) hx hb dX9_firstYear_16 hl (k := 1) rfl (by rw [ezi_46]; rfl) (by decide) rfl (fun ls hl => ?_)
          refine lv_goto (tgt := 2) hx hb dX9_firstYear_19 (by decide) ?_
          exact ih_37 (96 - zi_46.toInt).toNat (by omega) zi_46 _ _ _ rfl (by omega) hP hD hS (lv_sub hl [1, 0] rfl)
  exact lp_37 _ (0 : Int32) _ _ _ rfl (by decide) hP hD hS (lv_sub hl [1, 0] rfl)
set_option maxHeartbeats 8000000 in
set_option maxRecDepth 100000 in
theorem t_X9_leaving (l : Launch) (dC : Nat → ClassId) (dI : Nat → Nat → Nat) (cy : Nat → ClassId) (sz : Nat) (zL : List Nat) (zT : Nat → Nat) (zR : Nat → Nat → Nat) (zI : Nat → Nat → Int32) (zJ : Nat → Nat → Int64) (zw : Nat) (zx1 : Nat) (ziy : Int32) (zip : Int32) (hs : SKP zL zT zR) (hw : WT zT zR zI) (t_zw : zT zw = 10) (t_zx1 : zT zx1 = 50) (b_ziy : (-100) ≤ ziy.toInt ∧ ziy.toInt ≤ 23) (b_zip : 0 ≤ zip.toInt ∧ zip.toInt ≤ 11) (hx1 : zip.toInt < (zI zw 14).toInt) : Met l yX9_leaving wsX9_leaving ({ frames := 0, cells := 0, slots := 0, locals := 0 } : Room) (va_Pc [.ref zw, .ref zx1, .int ziy, .int zip] (PRE dC dI cy (WL cy zL zT zR zI zJ) sz)) (va_Ql (fun (r : Int64) (u : Unit) => True) (fun u t => POST dC dI cy (va_A (WL cy zL zT zR zI zJ) sz) (WL cy zL zT zR zI zJ) t) (va_A (WL cy zL zT zR zI zJ) sz)) 0 0 (va_A (WL cy zL zT zR zI zJ) sz) := by
  refine Met.ofW (cc := cX9_leaving) (maxL := 7) (ret := (some .long)) (by decide) rfl ?_
  intro p e s m args below meth c s₁ B hml hv
  obtain ⟨rfl, hsz, hP, hK, hD0, hN⟩ := hv
  have hx := B.exec
  have hb := B.bytes
  have hr := B.returns
  have hts := atoms_spec (ws := wsX9_leaving) B.pre
  have hown : s.vm.findClass RX9 = some m.cls := findClass_of_methodNamed B.named
  have hlocks := B.notSynchronized
  subst hsz
  have hD := hD0.self (sz := s.heap.size)
  generalize hAe : va_A (WL cy zL zT zR zI zJ) s.heap.size = A at hD ⊢
  have hA : ∀ q : Nat, s.heap.size ≤ q → A q := fun q h => by rw [← hAe]; exact Or.inr h
  have hS : va_S A s.heap s.heap [] := va_S.rf
  have hP : va_P (dC, dI) vwCl (WL cy zL zT zR zI zJ) s.heap := hP
  have hl := lv_entry ([.ref zw, .ref zx1, .int ziy, .int zip] : List Value) (n := 7) (Nat.le_of_ble_eq_true rfl)
  rw [lg_entry_eq]
  generalize (lg_sl ([.ref zw, .ref zx1, .int ziy, .int zip] : List Value) ++ List.replicate (7 - (lg_sl ([.ref zw, .ref zx1, .int ziy, .int zip] : List Value)).length) Slot.unset).toArray = ls at hl ⊢
  have hl : lv_has ls 7 [(0, .ref zw), (1, .ref zx1), (2, .int ziy), (3, .int zip)] := hl
  refine w_q (fun Q hQ => ?_)
  have h_zI : WM [] AL zT zR zI zI := WM.rf hw
  refine lv_lconst (v := 0) hx hb dX9_leaving_0 (by decide) ?_
  refine lv_lstore (lv' := [(4, .long 0), (0, .ref zw), (1, .ref zx1), (2, .int ziy), (3, .int zip)]) hx hb dX9_leaving_1 hl (by decide) rfl (fun ls hl => ?_)
  refine lv_iload_n hx hb dX9_leaving_3 rfl (lv_at hl 3 rfl) ?_
  refine lv_if_lt (tgt := 45) hx hb dX9_leaving_4 (by decide) (fun c_1 => ?_) (fun c_1 => ?_)
  · have f_2 : ziy.toInt < 0 := ic_lt (rfl) (by decide) c_1
    refine lv_lload hx hb dX9_leaving_45 (lv_at hl 0 rfl) ?_
    subst hQ
    exact W.lret (v := (0 : Int64)) hx hb hr (fun t ht hW => ⟨⟨(0 : Int64), (), rfl, trivial, ⟨by rw [ht]; exact hP, va_K.moved hW.alike hK, hD⟩⟩, hS.F ht⟩) hS.2.2 dX9_leaving_47
  · have f_2 : ¬ (ziy.toInt < 0) := ic_nlt (rfl) (by decide) c_1
    refine lv_aload_n hx hb dX9_leaving_7 rfl (lv_at hl 1 rfl) ?_
    refine ht_getr (C := RX9) (T := TX9) (N := 16) hx hb hts (by decide +kernel) hown hK hP hs t_zw (by decide) rfl rfl 6 (by decide) (hts (.fieldLink RX9 30 "DripStone$Ways" "needed" "[I") (by decide +kernel)) (fun _ h9 => h9) rfl dX9_leaving_8 ?_
    have t_3 : zT (zR zw 6) = 42 := sk_f hs t_zw (by decide) rfl (by decide)
    refine lv_iload_n hx hb dX9_leaving_11 rfl (lv_at hl 4 rfl) ?_
    refine ht_iald (n := 12) (q := 0) hx hb hK hP hs t_3 (by decide) rfl rfl ⟨by omega, by omega⟩ dX9_leaving_12 ?_
    refine lv_topi (fun zi_4 ezi_4 => ?_)
    have tzi_4 : 0 ≤ zi_4.toInt ∧ zi_4.toInt ≤ 20 := by rw [ezi_4]; exact h_zI.at t_3 _ rfl
    have n_5 : 1 ≤ zi_4.toInt := by rw [← ezi_4.symm]; exact h_zI.nd t_zw (by omega) (by omega)
    refine lv_iconst (v := 1) hx hb dX9_leaving_13 (by decide) ?_
    refine lv_isub hx hb dX9_leaving_14 ?_
    refine lv_topi (fun zi_6 ezi_6 => ?_)
    have tzi_6 : zi_6.toInt = zi_4.toInt - (1 : Int) := by rw [ezi_6]; exact tisub (rfl) (show (1 : Int32).toInt = 1 by decide) (by omega) (by omega)
    refine lv_istore (lv' := [(6, .int zi_6), (4, .long 0), (0, .ref zw), (1, .ref zx1), (2, .int ziy), (3, .int zip)]) hx hb dX9_leaving_15 hl (by decide) rfl (fun ls hl => ?_)
    have lp_33 : ∀ (n : Nat) (zj_15 : Int64) (zi_16 : Int32) (H : Heap) (locs : List Loc) (ls : Array Slot), (19 - zi_16.toInt).toNat = n → (0 ≤ zi_16.toInt ∧ zi_16.toInt ≤ 19) → va_P (dC, dI) vwCl (WL cy zL zT zR zI zJ) H → va_D A (WL cy zL zT zR zI zJ) → va_S A s.heap H locs → lv_has ls 7 [(0, .ref zw), (1, .ref zx1), (2, .int ziy), (3, .int zip), (4, .long zj_15), (6, .int zi_16)] → W p l e ({ frames := 0, cells := 0, slots := 0, locals := 0 } : Room) s m ([.ref zw, .ref zx1, .int ziy, .int zip] : List Value).toArray below meth c H locs 0 0 Q (F0 m 17 ls []) := by
      intro n
      induction n using Nat.strongRecOn with
      | _ n ih_33 =>
        intro zj_15 zi_16 H locs ls hn b_zi_16 hP hD hS hl
        refine lv_iload hx hb dX9_leaving_17 (lv_at hl 5 rfl) ?_
        refine lv_aload_n hx hb dX9_leaving_19 rfl (lv_at hl 0 rfl) ?_
        refine ht_geti (C := RX9) (T := TX9) (N := 16) hx hb hts (by decide +kernel) hown hK hP hs t_zw (by decide) rfl rfl 13 (by decide) (hts (.fieldLink RX9 60 "DripStone$Ways" "most" "I") (by decide +kernel)) (fun _ h9 => h9) rfl dX9_leaving_20 ?_
        refine lv_topi (fun zi_34 ezi_34 => ?_)
        have tzi_34 : 0 ≤ zi_34.toInt ∧ zi_34.toInt ≤ 4 := by rw [ezi_34]; exact h_zI.at t_zw _ rfl
        refine lv_icmp_ge (tgt := 45) hx hb dX9_leaving_23 (by decide) (fun c_35 => ?_) (fun c_35 => ?_)
        · have f_36 : zi_16.toInt ≥ zi_34.toInt := ic_ge (rfl) (rfl) c_35
          refine lv_lload hx hb dX9_leaving_45 (lv_at hl 4 rfl) ?_
          subst hQ
          exact W.lret (v := zj_15) hx hb hr (fun t ht hW => ⟨⟨zj_15, (), rfl, trivial, ⟨by rw [ht]; exact hP, va_K.moved hW.alike hK, hD⟩⟩, hS.F ht⟩) hS.2.2 dX9_leaving_47
        · have f_36 : ¬ (zi_16.toInt ≥ zi_34.toInt) := ic_nge (rfl) (rfl) c_35
          refine lv_lload hx hb dX9_leaving_26 (lv_at hl 4 rfl) ?_
          refine lv_aload_n hx hb dX9_leaving_28 rfl (lv_at hl 1 rfl) ?_
          refine lv_iload_n hx hb dX9_leaving_29 rfl (lv_at hl 2 rfl) ?_
          refine lv_iconst (v := 4) hx hb dX9_leaving_30 (by decide) ?_
          refine lv_imul hx hb dX9_leaving_31 ?_
          refine lv_topi (fun zi_37 ezi_37 => ?_)
          have tzi_37 : zi_37.toInt = ziy.toInt * (4 : Int) := by rw [ezi_37]; exact timul (rfl) (show (4 : Int32).toInt = 4 by decide) (by omega) (by omega)
          refine lv_iload hx hb dX9_leaving_32 (lv_at hl 5 rfl) ?_
          refine lv_iadd hx hb dX9_leaving_34 ?_
          refine lv_topi (fun zi_38 ezi_38 => ?_)
          have tzi_38 : zi_38.toInt = zi_37.toInt + zi_16.toInt := by rw [ezi_38]; exact tiadd (rfl) (rfl) (by omega) (by omega)
          refine ht_lald (n := 96) (q := 1) hx hb hK hP hs t_zx1 (by decide) rfl rfl ⟨by omega, by omega⟩ dX9_leaving_35 ?_
          refine lv_topl (fun zj_39 ezj_39 => ?_)
          refine lv_ladd hx hb dX9_leaving_36 ?_
          refine lv_topl (fun zj_40 ezj_40 => ?_)
          refine lv_lstore (lv' := [(4, .long zj_40), (0, .ref zw), (1, .ref zx1), (2, .int ziy), (3, .int zip), (6, .int zi_16)]) hx hb dX9_leaving_37 hl (by decide) rfl (fun ls hl => ?_)
          obtain ⟨zi_41, ezi_41⟩ : ∃ y : Int32, y = zi_16 + 1 := ⟨_, rfl⟩
          have tzi_41 : zi_41.toInt = zi_16.toInt + 1 := by rw [ezi_41]; exact tadd rfl (show (1 : Int32).toInt = 1 by decide) (by omega) (by omega)
          refine lv_iinc (v := zi_41) (lv' := [(6, .int zi_41), (4, .long zj_40), (0, .ref zw), (1, .ref zx1), (2, .int ziy), (3, .int zip)]) hx hb dX9_leaving_39 hl (k := 5) rfl (by rw [ezi_41]; rfl) (by decide) rfl (fun ls hl => ?_)
          refine lv_goto (tgt := 17) hx hb dX9_leaving_42 (by decide) ?_
          exact ih_33 (19 - zi_41.toInt).toNat (by omega) zj_40 zi_41 _ _ _ rfl (by omega) hP hD hS (lv_sub hl [2, 3, 4, 5, 1, 0] rfl)
    exact lp_33 _ (0 : Int64) zi_6 _ _ _ rfl (by omega) hP hD hS (lv_sub hl [2, 3, 4, 5, 1, 0] rfl)
set_option maxHeartbeats 8000000 in
set_option maxRecDepth 100000 in
theorem t_X9_arriving (l : Launch) (dC : Nat → ClassId) (dI : Nat → Nat → Nat) (cy : Nat → ClassId) (sz : Nat) (zL : List Nat) (zT : Nat → Nat) (zR : Nat → Nat → Nat) (zI : Nat → Nat → Int32) (zJ : Nat → Nat → Int64) (zw : Nat) (zx1 : Nat) (ziy : Int32) (zip : Int32) (hs : SKP zL zT zR) (hw : WT zT zR zI) (t_zw : zT zw = 10) (t_zx1 : zT zx1 = 50) (b_zip : 0 ≤ zip.toInt ∧ zip.toInt ≤ 11) : Met l yX9_arriving wsX9_arriving ({ frames := 1, cells := 0, slots := 0, locals := 22 } : Room) (va_Pc [.ref zw, .ref zx1, .int ziy, .int zip] (PRE dC dI cy (WL cy zL zT zR zI zJ) sz)) (va_Ql (fun (r : Int64) (u : Unit) => True) (fun u t => POST dC dI cy (va_A (WL cy zL zT zR zI zJ) sz) (WL cy zL zT zR zI zJ) t) (va_A (WL cy zL zT zR zI zJ) sz)) 0 0 (va_A (WL cy zL zT zR zI zJ) sz) := by
  refine Met.ofW (cc := cX9_arriving) (maxL := 4) (ret := (some .long)) (by decide) rfl ?_
  intro p e s m args below meth c s₁ B hml hv
  obtain ⟨rfl, hsz, hP, hK, hD0, hN⟩ := hv
  have hx := B.exec
  have hb := B.bytes
  have hr := B.returns
  have hts := atoms_spec (ws := wsX9_arriving) B.pre
  have hown : s.vm.findClass RX9 = some m.cls := findClass_of_methodNamed B.named
  have hlocks := B.notSynchronized
  subst hsz
  have hD := hD0.self (sz := s.heap.size)
  generalize hAe : va_A (WL cy zL zT zR zI zJ) s.heap.size = A at hD ⊢
  have hA : ∀ q : Nat, s.heap.size ≤ q → A q := fun q h => by rw [← hAe]; exact Or.inr h
  have hS : va_S A s.heap s.heap [] := va_S.rf
  have hP : va_P (dC, dI) vwCl (WL cy zL zT zR zI zJ) s.heap := hP
  have hl := lv_entry ([.ref zw, .ref zx1, .int ziy, .int zip] : List Value) (n := 4) (Nat.le_of_ble_eq_true rfl)
  rw [lg_entry_eq]
  generalize (lg_sl ([.ref zw, .ref zx1, .int ziy, .int zip] : List Value) ++ List.replicate (4 - (lg_sl ([.ref zw, .ref zx1, .int ziy, .int zip] : List Value)).length) Slot.unset).toArray = ls at hl ⊢
  have hl : lv_has ls 4 [(0, .ref zw), (1, .ref zx1), (2, .int ziy), (3, .int zip)] := hl
  refine w_q (fun Q hQ => ?_)
  have h_zI : WM [] AL zT zR zI zI := WM.rf hw
  refine lv_iload_n hx hb dX9_arriving_0 rfl (lv_at hl 2 rfl) ?_
  refine lv_aload_n hx hb dX9_arriving_1 rfl (lv_at hl 0 rfl) ?_
  refine ht_getr (C := RX9) (T := TX9) (N := 16) hx hb hts (by decide +kernel) hown hK hP hs t_zw (by decide) rfl rfl 2 (by decide) (hts (.fieldLink RX9 18 "DripStone$Ways" "earliest" "[I") (by decide +kernel)) (fun _ h9 => h9) rfl dX9_arriving_2 ?_
  have t_1 : zT (zR zw 2) = 39 := sk_f hs t_zw (by decide) rfl (by decide)
  refine lv_iload_n hx hb dX9_arriving_5 rfl (lv_at hl 3 rfl) ?_
  refine ht_iald (n := 12) (q := 0) hx hb hK hP hs t_1 (by decide) rfl rfl ⟨by omega, by omega⟩ dX9_arriving_6 ?_
  refine lv_topi (fun zi_2 ezi_2 => ?_)
  have tzi_2 : 0 ≤ zi_2.toInt ∧ zi_2.toInt ≤ 23 := by rw [ezi_2]; exact h_zI.at t_1 _ rfl
  refine lv_aload_n hx hb dX9_arriving_7 rfl (lv_at hl 0 rfl) ?_
  refine ht_getr (C := RX9) (T := TX9) (N := 16) hx hb hts (by decide +kernel) hown hK hP hs t_zw (by decide) rfl rfl 3 (by decide) (hts (.fieldLink RX9 21 "DripStone$Ways" "latest" "[I") (by decide +kernel)) (fun _ h9 => h9) rfl dX9_arriving_8 ?_
  have t_3 : zT (zR zw 3) = 39 := sk_f hs t_zw (by decide) rfl (by decide)
  refine lv_iload_n hx hb dX9_arriving_11 rfl (lv_at hl 3 rfl) ?_
  refine ht_iald (n := 12) (q := 0) hx hb hK hP hs t_3 (by decide) rfl rfl ⟨by omega, by omega⟩ dX9_arriving_12 ?_
  refine lv_topi (fun zi_4 ezi_4 => ?_)
  have tzi_4 : 0 ≤ zi_4.toInt ∧ zi_4.toInt ≤ 23 := by rw [ezi_4]; exact h_zI.at t_3 _ rfl
  refine hj0_i (ws := (WL cy zL zT zR zI zJ)) (va_runSN (As := [.int ziy, .int zi_2, .int zi_4]) (rest := []) ⟨hx, hb, hml, hown, hts⟩ (c_X10_isWithin l dC dI cy s.heap.size ziy zi_2 zi_4 zi_2.toInt zi_4.toInt (by first | rfl | decide | omega | exact Int32.toInt_toInt64 _) (by first | rfl | decide | omega | exact Int32.toInt_toInt64 _)) ⟨va_cnB 3 hts ggX9_arriving_X10_isWithin rfl rfl rfl (n0_23 hN) (hts (.initialized RX10) (by decide +kernel)) (by decide +kernel) ⟨(Nat.le_of_ble_eq_true rfl), (Nat.le_of_ble_eq_true rfl)⟩, hts (.static yX10_isWithin) (by decide +kernel), trivial⟩ (PRE.s (hP.sub [] rfl) hK (hD.sub [] (by decide) rfl) hN) rfl rfl hl.1 rfl (lv_room (Nat.le_of_ble_eq_true rfl)) dX9_arriving_13 ⟨(Nat.le_of_ble_eq_true rfl), (Nat.le_of_ble_eq_true rfl)⟩) hP hD hS hA (fun zi_5 u_7 H locs hw_6 hP hD hS => ?_)
  have hw_6 : zi_5 = if zi_2.toInt ≤ ziy.toInt ∧ ziy.toInt ≤ zi_4.toInt then 1 else 0 := hw_6
  have b_zi_5 : 0 ≤ zi_5.toInt ∧ zi_5.toInt ≤ 1 := bz_b hw_6
  refine lv_if_eq (tgt := 27) hx hb dX9_arriving_16 (by decide) (fun c_8 => ?_) (fun c_8 => ?_)
  · have f_9 : ¬ (zi_2.toInt ≤ ziy.toInt ∧ ziy.toInt ≤ zi_4.toInt) := bz_0 hw_6 c_8
    refine lv_lconst (v := 0) hx hb dX9_arriving_27 (by decide) ?_
    subst hQ
    exact W.lret (v := (0 : Int64)) hx hb hr (fun t ht hW => ⟨⟨(0 : Int64), (), rfl, trivial, ⟨by rw [ht]; exact hP, va_K.moved hW.alike hK, hD⟩⟩, hS.F ht⟩) hS.2.2 dX9_arriving_28
  · have f_9 : zi_2.toInt ≤ ziy.toInt ∧ ziy.toInt ≤ zi_4.toInt := bz_1 hw_6 c_8
    refine lv_aload_n hx hb dX9_arriving_19 rfl (lv_at hl 1 rfl) ?_
    refine lv_iload_n hx hb dX9_arriving_20 rfl (lv_at hl 2 rfl) ?_
    refine lv_iconst (v := 4) hx hb dX9_arriving_21 (by decide) ?_
    refine lv_imul hx hb dX9_arriving_22 ?_
    refine lv_topi (fun zi_10 ezi_10 => ?_)
    have tzi_10 : zi_10.toInt = ziy.toInt * (4 : Int) := by rw [ezi_10]; exact timul (rfl) (show (4 : Int32).toInt = 4 by decide) (by omega) (by omega)
    refine ht_lald (n := 96) (q := 1) hx hb hK hP hs t_zx1 (by decide) rfl rfl ⟨by omega, by omega⟩ dX9_arriving_23 ?_
    refine lv_topl (fun zj_11 ezj_11 => ?_)
    refine lv_goto (tgt := 28) hx hb dX9_arriving_24 (by decide) ?_
    subst hQ
    exact W.lret (v := zj_11) hx hb hr (fun t ht hW => ⟨⟨zj_11, (), rfl, trivial, ⟨by rw [ht]; exact hP, va_K.moved hW.alike hK, hD⟩⟩, hS.F ht⟩) hS.2.2 dX9_arriving_28
set_option maxHeartbeats 8000000 in
set_option maxRecDepth 100000 in
theorem t_X9_start_a (l : Launch) (dC : Nat → ClassId) (dI : Nat → Nat → Nat) (cy : Nat → ClassId) (sz : Nat) (zL : List Nat) (zT : Nat → Nat) (zR : Nat → Nat → Nat) (zI : Nat → Nat → Int32) (zJ : Nat → Nat → Int64) (zw : Nat) (zx2 : Nat) (zx3 : Nat) (hs : SKP zL zT zR) (hw : WT zT zR zI) (t_zw : zT zw = 10) (t_zx2 : zT zx2 = 50) (t_zx3 : zT zx3 = 43) : Met l yX9_start wsX9_start ({ frames := 0, cells := 0, slots := 0, locals := 0 } : Room) (va_Pc [.ref zw, .ref zx2, .ref zx3] (PRE dC dI cy (WL cy zL zT zR zI zJ) sz)) (va_Qv (fun (u : (Nat → Nat → Int64)) => True) (fun u t => POST dC dI cy (va_A (WL cy zL zT zR zI zJ) sz) (WL cy zL zT zR zI u) t) (va_A (WL cy zL zT zR zI zJ) sz)) 0 0 (va_A (WL cy zL zT zR zI zJ) sz) := by
  refine Met.ofW (cc := cX9_start) (maxL := 4) (ret := none) (by decide) rfl ?_
  intro p e s m args below meth c s₁ B hml hv
  obtain ⟨rfl, hsz, hP, hK, hD0, hN⟩ := hv
  have hx := B.exec
  have hb := B.bytes
  have hr := B.returns
  have hts := atoms_spec (ws := wsX9_start) B.pre
  have hown : s.vm.findClass RX9 = some m.cls := findClass_of_methodNamed B.named
  have hlocks := B.notSynchronized
  subst hsz
  have hD := hD0.self (sz := s.heap.size)
  generalize hAe : va_A (WL cy zL zT zR zI zJ) s.heap.size = A at hD ⊢
  have hA : ∀ q : Nat, s.heap.size ≤ q → A q := fun q h => by rw [← hAe]; exact Or.inr h
  have hS : va_S A s.heap s.heap [] := va_S.rf
  have hP : va_P (dC, dI) vwCl (WL cy zL zT zR zI zJ) s.heap := hP
  have hl := lv_entry ([.ref zw, .ref zx2, .ref zx3] : List Value) (n := 4) (Nat.le_of_ble_eq_true rfl)
  rw [lg_entry_eq]
  generalize (lg_sl ([.ref zw, .ref zx2, .ref zx3] : List Value) ++ List.replicate (4 - (lg_sl ([.ref zw, .ref zx2, .ref zx3] : List Value)).length) Slot.unset).toArray = ls at hl ⊢
  have hl : lv_has ls 4 [(0, .ref zw), (1, .ref zx2), (2, .ref zx3)] := hl
  refine w_q (fun Q hQ => ?_)
  have h_zI : WM [] AL zT zR zI zI := WM.rf hw
  refine lv_aload_n hx hb dX9_start_0 rfl (lv_at hl 0 rfl) ?_
  refine ht_getr (C := RX9) (T := TX9) (N := 16) hx hb hts (by decide +kernel) hown hK hP hs t_zw (by decide) rfl rfl 2 (by decide) (hts (.fieldLink RX9 18 "DripStone$Ways" "earliest" "[I") (by decide +kernel)) (fun _ h9 => h9) rfl dX9_start_1 ?_
  have t_1 : zT (zR zw 2) = 39 := sk_f hs t_zw (by decide) rfl (by decide)
  refine lv_iconst (v := 0) hx hb dX9_start_4 (by decide) ?_
  refine ht_iald (n := 12) (q := 0) hx hb hK hP hs t_1 (by decide) rfl rfl ⟨by decide, by decide⟩ dX9_start_5 ?_
  refine lv_topi (fun zi_2 ezi_2 => ?_)
  have tzi_2 : 0 ≤ zi_2.toInt ∧ zi_2.toInt ≤ 23 := by rw [ezi_2]; exact h_zI.at t_1 _ rfl
  refine lv_istore_n (lv' := [(3, .int zi_2), (0, .ref zw), (1, .ref zx2), (2, .ref zx3)]) hx hb dX9_start_6 rfl hl (by decide) rfl (fun ls hl => ?_)
  have lp_35 : ∀ (n : Nat) (zi_13 : Int32) (zJ_14 : Nat → Nat → Int64) (H : Heap) (locs : List Loc) (ls : Array Slot), (24 - zi_13.toInt).toNat = n → (0 ≤ zi_13.toInt ∧ zi_13.toInt ≤ 24) → va_P (dC, dI) vwCl (WL cy zL zT zR zI zJ_14) H → va_D A (WL cy zL zT zR zI zJ_14) → va_S A s.heap H locs → lv_has ls 4 [(0, .ref zw), (1, .ref zx2), (2, .ref zx3), (3, .int zi_13)] → W p l e ({ frames := 0, cells := 0, slots := 0, locals := 0 } : Room) s m ([.ref zw, .ref zx2, .ref zx3] : List Value).toArray below meth c H locs 0 0 Q (F0 m 7 ls []) := by
    intro n
    induction n using Nat.strongRecOn with
    | _ n ih_35 =>
      intro zi_13 zJ_14 H locs ls hn b_zi_13 hP hD hS hl
      refine lv_iload_n hx hb dX9_start_7 rfl (lv_at hl 3 rfl) ?_
      refine lv_aload_n hx hb dX9_start_8 rfl (lv_at hl 0 rfl) ?_
      refine ht_getr (C := RX9) (T := TX9) (N := 16) hx hb hts (by decide +kernel) hown hK hP hs t_zw (by decide) rfl rfl 3 (by decide) (hts (.fieldLink RX9 21 "DripStone$Ways" "latest" "[I") (by decide +kernel)) (fun _ h9 => h9) rfl dX9_start_9 ?_
      have t_36 : zT (zR zw 3) = 39 := sk_f hs t_zw (by decide) rfl (by decide)
      refine lv_iconst (v := 0) hx hb dX9_start_12 (by decide) ?_
      refine ht_iald (n := 12) (q := 0) hx hb hK hP hs t_36 (by decide) rfl rfl ⟨by decide, by decide⟩ dX9_start_13 ?_
      refine lv_topi (fun zi_37 ezi_37 => ?_)
      have tzi_37 : 0 ≤ zi_37.toInt ∧ zi_37.toInt ≤ 23 := by rw [ezi_37]; exact h_zI.at t_36 _ rfl
      refine lv_icmp_gt (tgt := 36) hx hb dX9_start_14 (by decide) (fun c_38 => ?_) (fun c_38 => ?_)
      · have f_39 : zi_13.toInt > zi_37.toInt := ic_gt (rfl) (rfl) c_38
        subst hQ
        exact W.vret hx hb hr (fun t ht hW => ⟨⟨zJ_14, rfl, trivial, ⟨by rw [ht]; exact hP, va_K.moved hW.alike hK, hD⟩⟩, hS.F ht⟩) hS.2.2 dX9_start_36
      · have f_39 : ¬ (zi_13.toInt > zi_37.toInt) := ic_ngt (rfl) (rfl) c_38
        refine lv_aload_n hx hb dX9_start_17 rfl (lv_at hl 1 rfl) ?_
        refine lv_aload_n hx hb dX9_start_18 rfl (lv_at hl 2 rfl) ?_
        refine lv_iload_n hx hb dX9_start_19 rfl (lv_at hl 3 rfl) ?_
        refine ht_iald (n := 24) (q := 0) hx hb hK hP hs t_zx3 (by decide) rfl rfl ⟨by omega, by omega⟩ dX9_start_20 ?_
        refine lv_topi (fun zi_40 ezi_40 => ?_)
        have tzi_40 : 0 ≤ zi_40.toInt ∧ zi_40.toInt ≤ 0 := by rw [ezi_40]; exact h_zI.at t_zx3 _ rfl
        refine lv_bipush (v := 96) hx hb dX9_start_21 (by decide) ?_
        refine lv_imul hx hb dX9_start_23 ?_
        refine lv_topi (fun zi_41 ezi_41 => ?_)
        have tzi_41 : zi_41.toInt = zi_40.toInt * (96 : Int) := by rw [ezi_41]; exact timul (rfl) (show (96 : Int32).toInt = 96 by decide) (by omega) (by omega)
        refine lv_iload_n hx hb dX9_start_24 rfl (lv_at hl 3 rfl) ?_
        refine lv_iconst (v := 4) hx hb dX9_start_25 (by decide) ?_
        refine lv_imul hx hb dX9_start_26 ?_
        refine lv_topi (fun zi_42 ezi_42 => ?_)
        have tzi_42 : zi_42.toInt = zi_13.toInt * (4 : Int) := by rw [ezi_42]; exact timul (rfl) (show (4 : Int32).toInt = 4 by decide) (by omega) (by omega)
        refine lv_iadd hx hb dX9_start_27 ?_
        refine lv_topi (fun zi_43 ezi_43 => ?_)
        have tzi_43 : zi_43.toInt = zi_41.toInt + zi_42.toInt := by rw [ezi_43]; exact tiadd (rfl) (rfl) (by omega) (by omega)
        refine lv_lconst (v := 1) hx hb dX9_start_28 (by decide) ?_
        refine ht_last (v := (1 : Int64)) (n := 96) (q := 1) hx hb hK hP hD hS hs t_zx2 (by decide) rfl rfl ⟨by omega, by omega⟩ dX9_start_29 (fun H locs hP hD hS => ?_)
        generalize uzJ_44 : u2 zJ_14 zx2 zi_43.toNatClampNeg (1 : Int64) = zJ_44 at hP hD
        obtain ⟨zi_45, ezi_45⟩ : ∃ y : Int32, y = zi_13 + 1 := ⟨_, rfl⟩
        have tzi_45 : zi_45.toInt = zi_13.toInt + 1 := by rw [ezi_45]; exact tadd rfl (show (1 : Int32).toInt = 1 by decide) (by omega) (by omega)
        refine lv_iinc (v := zi_45) (lv' := [(3, .int zi_45), (0, .ref zw), (1, .ref zx2), (2, .ref zx3)]) hx hb dX9_start_30 hl (k := 3) rfl (by rw [ezi_45]; rfl) (by decide) rfl (fun ls hl => ?_)
        refine lv_goto (tgt := 7) hx hb dX9_start_33 (by decide) ?_
        exact ih_35 (24 - zi_45.toInt).toNat (by omega) zi_45 zJ_44 _ _ _ rfl (by omega) hP hD hS (lv_sub hl [1, 2, 3, 0] rfl)
  exact lp_35 _ zi_2 zJ _ _ _ rfl (by omega) hP hD hS (lv_sub hl [1, 2, 3, 0] rfl)
set_option maxHeartbeats 8000000 in
set_option maxRecDepth 100000 in
theorem t_X9_advance_a (l : Launch) (dC : Nat → ClassId) (dI : Nat → Nat → Nat) (cy : Nat → ClassId) (sz : Nat) (zL : List Nat) (zT : Nat → Nat) (zR : Nat → Nat → Nat) (zI : Nat → Nat → Int32) (zJ : Nat → Nat → Int64) (zw : Nat) (zx1 : Nat) (zx2 : Nat) (zip : Int32) (zx3 : Nat) (hs : SKP zL zT zR) (hw : WT zT zR zI) (t_zw : zT zw = 10) (t_zx1 : zT zx1 = 50) (t_zx2 : zT zx2 = 50) (t_zx3 : zT zx3 = 43) (b_zip : 0 ≤ zip.toInt ∧ zip.toInt ≤ 11) (hx1 : zip.toInt < (zI zw 14).toInt) : Met l yX9_advance wsX9_advance ({ frames := 1, cells := 0, slots := 0, locals := 30 } : Room) (va_Pc [.ref zw, .ref zx1, .ref zx2, .int zip, .ref zx3] (PRE dC dI cy (WL cy zL zT zR zI zJ) sz)) (va_Qv (fun (u : (Nat → Nat → Int64)) => True) (fun u t => POST dC dI cy (va_A (WL cy zL zT zR zI zJ) sz) (WL cy zL zT zR zI u) t) (va_A (WL cy zL zT zR zI zJ) sz)) 0 0 (va_A (WL cy zL zT zR zI zJ) sz) := by
  refine Met.ofW (cc := cX9_advance) (maxL := 12) (ret := none) (by decide) rfl ?_
  intro p e s m args below meth c s₁ B hml hv
  obtain ⟨rfl, hsz, hP, hK, hD0, hN⟩ := hv
  have hx := B.exec
  have hb := B.bytes
  have hr := B.returns
  have hts := atoms_spec (ws := wsX9_advance) B.pre
  have hown : s.vm.findClass RX9 = some m.cls := findClass_of_methodNamed B.named
  have hlocks := B.notSynchronized
  subst hsz
  have hD := hD0.self (sz := s.heap.size)
  generalize hAe : va_A (WL cy zL zT zR zI zJ) s.heap.size = A at hD ⊢
  have hA : ∀ q : Nat, s.heap.size ≤ q → A q := fun q h => by rw [← hAe]; exact Or.inr h
  have hS : va_S A s.heap s.heap [] := va_S.rf
  have hP : va_P (dC, dI) vwCl (WL cy zL zT zR zI zJ) s.heap := hP
  have hl := lv_entry ([.ref zw, .ref zx1, .ref zx2, .int zip, .ref zx3] : List Value) (n := 12) (Nat.le_of_ble_eq_true rfl)
  rw [lg_entry_eq]
  generalize (lg_sl ([.ref zw, .ref zx1, .ref zx2, .int zip, .ref zx3] : List Value) ++ List.replicate (12 - (lg_sl ([.ref zw, .ref zx1, .ref zx2, .int zip, .ref zx3] : List Value)).length) Slot.unset).toArray = ls at hl ⊢
  have hl : lv_has ls 12 [(0, .ref zw), (1, .ref zx1), (2, .ref zx2), (3, .int zip), (4, .ref zx3)] := hl
  refine w_q (fun Q hQ => ?_)
  have h_zI : WM [] AL zT zR zI zI := WM.rf hw
  refine lv_iconst (v := 1) hx hb dX9_advance_0 (by decide) ?_
  refine lv_aload_n hx hb dX9_advance_1 rfl (lv_at hl 0 rfl) ?_
  refine ht_getr (C := RX9) (T := TX9) (N := 16) hx hb hts (by decide +kernel) hown hK hP hs t_zw (by decide) rfl rfl 4 (by decide) (hts (.fieldLink RX9 24 "DripStone$Ways" "least" "[I") (by decide +kernel)) (fun _ h9 => h9) rfl dX9_advance_2 ?_
  have t_1 : zT (zR zw 4) = 40 := sk_f hs t_zw (by decide) rfl (by decide)
  refine lv_iload_n hx hb dX9_advance_5 rfl (lv_at hl 3 rfl) ?_
  refine ht_iald (n := 12) (q := 0) hx hb hK hP hs t_1 (by decide) rfl rfl ⟨by omega, by omega⟩ dX9_advance_6 ?_
  refine lv_topi (fun zi_2 ezi_2 => ?_)
  have tzi_2 : 0 ≤ zi_2.toInt ∧ zi_2.toInt ≤ 20 := by rw [ezi_2]; exact h_zI.at t_1 _ rfl
  refine va_mmax hx hb (by rw [hml]; exact hl.1.symm) hown (hts (.methodLink RX9 102 Lib.Math.max.name) (by decide +kernel)) (hts (.static Lib.Math.max.name) (by decide +kernel)) (hts (.initialized "java/lang/Math") (by decide +kernel)) (hts (.code Lib.Math.max.name Lib.Math.max.code 2 (some .int)) (by decide +kernel)) (Nat.le_of_ble_eq_true rfl) (Nat.le_of_ble_eq_true rfl) (Nat.le_of_ble_eq_true rfl) (Nat.le_of_ble_eq_true rfl) dX9_advance_7 ?_
  refine lv_topi (fun zi_3 ezi_3 => ?_)
  have tzi_3 : ((1 : Int) < zi_2.toInt → zi_3.toInt = zi_2.toInt) ∧ (¬ (1 : Int) < zi_2.toInt → zi_3.toInt = (1 : Int)) := mx_s ezi_3 (show (1 : Int32).toInt = 1 by decide) (rfl)
  refine lv_istore (lv' := [(5, .int zi_3), (0, .ref zw), (1, .ref zx1), (2, .ref zx2), (3, .int zip), (4, .ref zx3)]) hx hb dX9_advance_10 hl (by decide) rfl (fun ls hl => ?_)
  refine lv_iload hx hb dX9_advance_12 (lv_at hl 0 rfl) ?_
  refine lv_aload_n hx hb dX9_advance_14 rfl (lv_at hl 1 rfl) ?_
  refine ht_getr (C := RX9) (T := TX9) (N := 16) hx hb hts (by decide +kernel) hown hK hP hs t_zw (by decide) rfl rfl 5 (by decide) (hts (.fieldLink RX9 27 "DripStone$Ways" "furthest" "[I") (by decide +kernel)) (fun _ h9 => h9) rfl dX9_advance_15 ?_
  have t_4 : zT (zR zw 5) = 39 := sk_f hs t_zw (by decide) rfl (by decide)
  refine lv_iload_n hx hb dX9_advance_18 rfl (lv_at hl 4 rfl) ?_
  refine ht_iald (n := 12) (q := 0) hx hb hK hP hs t_4 (by decide) rfl rfl ⟨by omega, by omega⟩ dX9_advance_19 ?_
  refine lv_topi (fun zi_5 ezi_5 => ?_)
  have tzi_5 : 0 ≤ zi_5.toInt ∧ zi_5.toInt ≤ 23 := by rw [ezi_5]; exact h_zI.at t_4 _ rfl
  have jn_9 : ∀ (zi_8 : Int32) (H : Heap) (locs : List Loc) (ls : Array Slot), (0 ≤ zi_8.toInt ∧ zi_8.toInt ≤ 1) → va_P (dC, dI) vwCl (WL cy zL zT zR zI zJ) H → va_D A (WL cy zL zT zR zI zJ) → va_S A s.heap H locs → lv_has ls 12 [(0, .ref zw), (1, .ref zx1), (2, .ref zx2), (3, .int zip), (4, .ref zx3), (5, .int zi_3)] → W p l e ({ frames := 1, cells := 0, slots := 0, locals := 30 } : Room) s m ([.ref zw, .ref zx1, .ref zx2, .int zip, .ref zx3] : List Value).toArray below meth c H locs 0 0 Q (F0 m 28 ls [.int zi_8]) := by
    intro zi_8 H locs ls b_zi_8 hP hD hS hl
    refine lv_istore (lv' := [(6, .int zi_8), (0, .ref zw), (1, .ref zx1), (2, .ref zx2), (3, .int zip), (4, .ref zx3), (5, .int zi_3)]) hx hb dX9_advance_28 hl (by decide) rfl (fun ls hl => ?_)
    refine lv_lconst (v := 0) hx hb dX9_advance_30 (by decide) ?_
    refine lv_lstore (lv' := [(7, .long 0), (6, .int zi_8), (0, .ref zw), (1, .ref zx1), (2, .ref zx2), (3, .int zip), (4, .ref zx3), (5, .int zi_3)]) hx hb dX9_advance_31 hl (by decide) rfl (fun ls hl => ?_)
    refine lv_aload_n hx hb dX9_advance_33 rfl (lv_at hl 3 rfl) ?_
    refine hj_i (ws := (WL cy zL zT zR zI zJ)) (w1 := fun (u : Unit) => (WL cy zL zT zR zI zJ)) (va_runS (As := [.ref zx1]) (rest := []) ⟨hx, hb, hml, hown, hts⟩ (t_X9_firstYear l dC dI cy H.size zL zT zR zI zJ zx1 hs h_zI.1 t_zx1) (va_cwS 1 hts gX9_advance_X9_firstYear rfl rfl rfl (by decide +kernel) ⟨(Nat.le_of_ble_eq_true rfl), (Nat.le_of_ble_eq_true rfl)⟩) (PRE.s hP hK hD hN) rfl rfl hl.1 rfl (lv_room (Nat.le_of_ble_eq_true rfl)) dX9_advance_34 ⟨(Nat.le_of_ble_eq_true rfl), (Nat.le_of_ble_eq_true rfl)⟩) hP hD hS hA (fun zi_10 u_12 H locs hw_11 hP hD hS => ?_)
    have b_zi_10 : 0 ≤ zi_10.toInt ∧ zi_10.toInt ≤ 24 := hw_11
    refine lv_istore (lv' := [(9, .int zi_10), (7, .long 0), (6, .int zi_8), (0, .ref zw), (1, .ref zx1), (2, .ref zx2), (3, .int zip), (4, .ref zx3), (5, .int zi_3)]) hx hb dX9_advance_37 hl (by decide) rfl (fun ls hl => ?_)
    have lp_436 : ∀ (n : Nat) (zj_195 : Int64) (zi_196 : Int32) (zJ_197 : Nat → Nat → Int64) (H : Heap) (locs : List Loc) (ls : Array Slot), (24 - zi_196.toInt).toNat = n → (0 ≤ zi_196.toInt ∧ zi_196.toInt ≤ 24) → va_P (dC, dI) vwCl (WL cy zL zT zR zI zJ_197) H → va_D A (WL cy zL zT zR zI zJ_197) → va_S A s.heap H locs → lv_has ls 12 [(0, .ref zw), (1, .ref zx1), (2, .ref zx2), (3, .int zip), (4, .ref zx3), (5, .int zi_3), (6, .int zi_8), (7, .long zj_195), (9, .int zi_196)] → W p l e ({ frames := 1, cells := 0, slots := 0, locals := 30 } : Room) s m ([.ref zw, .ref zx1, .ref zx2, .int zip, .ref zx3] : List Value).toArray below meth c H locs 0 0 Q (F0 m 39 ls []) := by
      intro n
      induction n using Nat.strongRecOn with
      | _ n ih_436 =>
        intro zj_195 zi_196 zJ_197 H locs ls hn b_zi_196 hP hD hS hl
        refine lv_iload hx hb dX9_advance_39 (lv_at hl 8 rfl) ?_
        refine lv_aload_n hx hb dX9_advance_41 rfl (lv_at hl 0 rfl) ?_
        refine ht_getr (C := RX9) (T := TX9) (N := 16) hx hb hts (by decide +kernel) hown hK hP hs t_zw (by decide) rfl rfl 3 (by decide) (hts (.fieldLink RX9 21 "DripStone$Ways" "latest" "[I") (by decide +kernel)) (fun _ h9 => h9) rfl dX9_advance_42 ?_
        have t_437 : zT (zR zw 3) = 39 := sk_f hs t_zw (by decide) rfl (by decide)
        refine lv_iload_n hx hb dX9_advance_45 rfl (lv_at hl 3 rfl) ?_
        refine ht_iald (n := 12) (q := 0) hx hb hK hP hs t_437 (by decide) rfl rfl ⟨by omega, by omega⟩ dX9_advance_46 ?_
        refine lv_topi (fun zi_438 ezi_438 => ?_)
        have tzi_438 : 0 ≤ zi_438.toInt ∧ zi_438.toInt ≤ 23 := by rw [ezi_438]; exact h_zI.at t_437 _ rfl
        refine lv_icmp_gt (tgt := 178) hx hb dX9_advance_47 (by decide) (fun c_439 => ?_) (fun c_439 => ?_)
        · have f_440 : zi_196.toInt > zi_438.toInt := ic_gt (rfl) (rfl) c_439
          subst hQ
          exact W.vret hx hb hr (fun t ht hW => ⟨⟨zJ_197, rfl, trivial, ⟨by rw [ht]; exact hP, va_K.moved hW.alike hK, hD⟩⟩, hS.F ht⟩) hS.2.2 dX9_advance_178
        · have f_440 : ¬ (zi_196.toInt > zi_438.toInt) := ic_ngt (rfl) (rfl) c_439
          refine lv_iload hx hb dX9_advance_50 (lv_at hl 6 rfl) ?_
          have jn_456 : ∀ (zj_455 : Int64) (H : Heap) (locs : List Loc) (ls : Array Slot), va_P (dC, dI) vwCl (WL cy zL zT zR zI zJ_197) H → va_D A (WL cy zL zT zR zI zJ_197) → va_S A s.heap H locs → lv_has ls 12 [(0, .ref zw), (1, .ref zx1), (2, .ref zx2), (3, .int zip), (4, .ref zx3), (5, .int zi_3), (6, .int zi_8), (7, .long zj_455), (9, .int zi_196)] → W p l e ({ frames := 1, cells := 0, slots := 0, locals := 30 } : Room) s m ([.ref zw, .ref zx1, .ref zx2, .int zip, .ref zx3] : List Value).toArray below meth c H locs 0 0 Q (F0 m 89 ls []) := by
            intro zj_455 H locs ls  hP hD hS hl
            refine lv_iload hx hb dX9_advance_89 (lv_at hl 8 rfl) ?_
            refine lv_aload_n hx hb dX9_advance_91 rfl (lv_at hl 0 rfl) ?_
            refine ht_getr (C := RX9) (T := TX9) (N := 16) hx hb hts (by decide +kernel) hown hK hP hs t_zw (by decide) rfl rfl 2 (by decide) (hts (.fieldLink RX9 18 "DripStone$Ways" "earliest" "[I") (by decide +kernel)) (fun _ h9 => h9) rfl dX9_advance_92 ?_
            have t_457 : zT (zR zw 2) = 39 := sk_f hs t_zw (by decide) rfl (by decide)
            refine lv_iload_n hx hb dX9_advance_95 rfl (lv_at hl 3 rfl) ?_
            refine ht_iald (n := 12) (q := 0) hx hb hK hP hs t_457 (by decide) rfl rfl ⟨by omega, by omega⟩ dX9_advance_96 ?_
            refine lv_topi (fun zi_458 ezi_458 => ?_)
            have tzi_458 : 0 ≤ zi_458.toInt ∧ zi_458.toInt ≤ 23 := by rw [ezi_458]; exact h_zI.at t_457 _ rfl
            have jn_501 : ∀ (zJ_500 : Nat → Nat → Int64) (H : Heap) (locs : List Loc) (ls : Array Slot), va_P (dC, dI) vwCl (WL cy zL zT zR zI zJ_500) H → va_D A (WL cy zL zT zR zI zJ_500) → va_S A s.heap H locs → lv_has ls 12 [(0, .ref zw), (1, .ref zx1), (2, .ref zx2), (3, .int zip), (4, .ref zx3), (5, .int zi_3), (6, .int zi_8), (7, .long zj_455), (9, .int zi_196)] → W p l e ({ frames := 1, cells := 0, slots := 0, locals := 30 } : Room) s m ([.ref zw, .ref zx1, .ref zx2, .int zip, .ref zx3] : List Value).toArray below meth c H locs 0 0 Q (F0 m 172 ls []) := by
              intro zJ_500 H locs ls  hP hD hS hl
              obtain ⟨zi_502, ezi_502⟩ : ∃ y : Int32, y = zi_196 + 1 := ⟨_, rfl⟩
              have tzi_502 : zi_502.toInt = zi_196.toInt + 1 := by rw [ezi_502]; exact tadd rfl (show (1 : Int32).toInt = 1 by decide) (by omega) (by omega)
              refine lv_iinc (v := zi_502) (lv' := [(9, .int zi_502), (0, .ref zw), (1, .ref zx1), (2, .ref zx2), (3, .int zip), (4, .ref zx3), (5, .int zi_3), (6, .int zi_8), (7, .long zj_455)]) hx hb dX9_advance_172 hl (k := 8) rfl (by rw [ezi_502]; rfl) (by decide) rfl (fun ls hl => ?_)
              refine lv_goto (tgt := 39) hx hb dX9_advance_175 (by decide) ?_
              exact ih_436 (24 - zi_502.toInt).toNat (by omega) zj_455 zi_502 zJ_500 _ _ _ rfl (by omega) hP hD hS (lv_sub hl [1, 2, 3, 4, 5, 6, 7, 8, 0] rfl)
            refine lv_icmp_lt (tgt := 172) hx hb dX9_advance_97 (by decide) (fun c_503 => ?_) (fun c_503 => ?_)
            · have f_504 : zi_196.toInt < zi_458.toInt := ic_lt (rfl) (rfl) c_503
              exact jn_501 zJ_197 _ _ _  hP hD hS (lv_sub hl [0, 1, 2, 3, 4, 5, 6, 7, 8] rfl)
            · have f_504 : ¬ (zi_196.toInt < zi_458.toInt) := ic_nlt (rfl) (rfl) c_503
              refine lv_aload hx hb dX9_advance_100 (lv_at hl 4 rfl) ?_
              refine lv_iload hx hb dX9_advance_102 (lv_at hl 8 rfl) ?_
              refine ht_iald (n := 24) (q := 0) hx hb hK hP hs t_zx3 (by decide) rfl rfl ⟨by omega, by omega⟩ dX9_advance_104 ?_
              refine lv_topi (fun zi_505 ezi_505 => ?_)
              have tzi_505 : 0 ≤ zi_505.toInt ∧ zi_505.toInt ≤ 0 := by rw [ezi_505]; exact h_zI.at t_zx3 _ rfl
              refine lv_bipush (v := 96) hx hb dX9_advance_105 (by decide) ?_
              refine lv_imul hx hb dX9_advance_107 ?_
              refine lv_topi (fun zi_506 ezi_506 => ?_)
              have tzi_506 : zi_506.toInt = zi_505.toInt * (96 : Int) := by rw [ezi_506]; exact timul (rfl) (show (96 : Int32).toInt = 96 by decide) (by omega) (by omega)
              refine lv_iload hx hb dX9_advance_108 (lv_at hl 8 rfl) ?_
              refine lv_iconst (v := 4) hx hb dX9_advance_110 (by decide) ?_
              refine lv_imul hx hb dX9_advance_111 ?_
              refine lv_topi (fun zi_507 ezi_507 => ?_)
              have tzi_507 : zi_507.toInt = zi_196.toInt * (4 : Int) := by rw [ezi_507]; exact timul (rfl) (show (4 : Int32).toInt = 4 by decide) (by omega) (by omega)
              refine lv_iadd hx hb dX9_advance_112 ?_
              refine lv_topi (fun zi_508 ezi_508 => ?_)
              have tzi_508 : zi_508.toInt = zi_506.toInt + zi_507.toInt := by rw [ezi_508]; exact tiadd (rfl) (rfl) (by omega) (by omega)
              refine lv_istore (lv' := [(10, .int zi_508), (0, .ref zw), (1, .ref zx1), (2, .ref zx2), (3, .int zip), (4, .ref zx3), (5, .int zi_3), (6, .int zi_8), (7, .long zj_455), (9, .int zi_196)]) hx hb dX9_advance_113 hl (by decide) rfl (fun ls hl => ?_)
              refine lv_aload_n hx hb dX9_advance_115 rfl (lv_at hl 3 rfl) ?_
              refine lv_iload hx hb dX9_advance_116 (lv_at hl 0 rfl) ?_
              refine lv_dup2_11 hx hb dX9_advance_118 rfl rfl ?_
              refine ht_lald (n := 96) (q := 1) hx hb hK hP hs t_zx2 (by decide) rfl rfl ⟨by omega, by omega⟩ dX9_advance_119 ?_
              refine lv_topl (fun zj_509 ezj_509 => ?_)
              refine lv_lload hx hb dX9_advance_120 (lv_at hl 8 rfl) ?_
              refine lv_ladd hx hb dX9_advance_122 ?_
              refine lv_topl (fun zj_510 ezj_510 => ?_)
              refine ht_last (v := zj_510) (n := 96) (q := 1) hx hb hK hP hD hS hs t_zx2 (by decide) rfl rfl ⟨by omega, by omega⟩ dX9_advance_123 (fun H locs hP hD hS => ?_)
              generalize uzJ_511 : u2 zJ_197 zx2 zi_508.toNatClampNeg zj_510 = zJ_511 at hP hD
              refine lv_iconst (v := 1) hx hb dX9_advance_124 (by decide) ?_
              refine lv_istore (lv' := [(11, .int 1), (10, .int zi_508), (0, .ref zw), (1, .ref zx1), (2, .ref zx2), (3, .int zip), (4, .ref zx3), (5, .int zi_3), (6, .int zi_8), (7, .long zj_455), (9, .int zi_196)]) hx hb dX9_advance_125 hl (by decide) rfl (fun ls hl => ?_)
              have lp_529 : ∀ (n : Nat) (zi_512 : Int32) (zJ_513 : Nat → Nat → Int64) (H : Heap) (locs : List Loc) (ls : Array Slot), (4 - zi_512.toInt).toNat = n → (1 ≤ zi_512.toInt ∧ zi_512.toInt ≤ 4) → va_P (dC, dI) vwCl (WL cy zL zT zR zI zJ_513) H → va_D A (WL cy zL zT zR zI zJ_513) → va_S A s.heap H locs → lv_has ls 12 [(0, .ref zw), (1, .ref zx1), (2, .ref zx2), (3, .int zip), (4, .ref zx3), (5, .int zi_3), (6, .int zi_8), (7, .long zj_455), (9, .int zi_196), (10, .int zi_508), (11, .int zi_512)] → W p l e ({ frames := 1, cells := 0, slots := 0, locals := 30 } : Room) s m ([.ref zw, .ref zx1, .ref zx2, .int zip, .ref zx3] : List Value).toArray below meth c H locs 0 0 Q (F0 m 127 ls []) := by
                intro n
                induction n using Nat.strongRecOn with
                | _ n ih_529 =>
                  intro zi_512 zJ_513 H locs ls hn b_zi_512 hP hD hS hl
                  refine lv_iload hx hb dX9_advance_127 (lv_at hl 10 rfl) ?_
                  refine lv_aload_n hx hb dX9_advance_129 rfl (lv_at hl 0 rfl) ?_
                  refine ht_geti (C := RX9) (T := TX9) (N := 16) hx hb hts (by decide +kernel) hown hK hP hs t_zw (by decide) rfl rfl 13 (by decide) (hts (.fieldLink RX9 60 "DripStone$Ways" "most" "I") (by decide +kernel)) (fun _ h9 => h9) rfl dX9_advance_130 ?_
                  refine lv_topi (fun zi_530 ezi_530 => ?_)
                  have tzi_530 : 0 ≤ zi_530.toInt ∧ zi_530.toInt ≤ 4 := by rw [ezi_530]; exact h_zI.at t_zw _ rfl
                  refine lv_icmp_ge (tgt := 172) hx hb dX9_advance_133 (by decide) (fun c_531 => ?_) (fun c_531 => ?_)
                  · have f_532 : zi_512.toInt ≥ zi_530.toInt := ic_ge (rfl) (rfl) c_531
                    exact jn_501 zJ_513 _ _ _  hP hD hS (lv_sub hl [0, 1, 2, 3, 4, 5, 6, 7, 8] rfl)
                  · have f_532 : ¬ (zi_512.toInt ≥ zi_530.toInt) := ic_nge (rfl) (rfl) c_531
                    refine lv_aload_n hx hb dX9_advance_136 rfl (lv_at hl 0 rfl) ?_
                    refine ht_getr (C := RX9) (T := TX9) (N := 16) hx hb hts (by decide +kernel) hown hK hP hs t_zw (by decide) rfl rfl 4 (by decide) (hts (.fieldLink RX9 24 "DripStone$Ways" "least" "[I") (by decide +kernel)) (fun _ h9 => h9) rfl dX9_advance_137 ?_
                    refine lv_iload_n hx hb dX9_advance_140 rfl (lv_at hl 3 rfl) ?_
                    refine ht_iald (n := 12) (q := 0) hx hb hK hP hs t_1 (by decide) rfl rfl ⟨by omega, by omega⟩ dX9_advance_141 ?_
                    refine lv_topi (fun zi_533 ezi_533 => ?_)
                    obtain rfl : zi_2 = zi_533 := (ezi_533.trans ezi_2.symm).symm
                    refine lv_if_ne (tgt := 172) hx hb dX9_advance_142 (by decide) (fun c_534 => ?_) (fun c_534 => ?_)
                    · have f_535 : zi_2.toInt ≠ 0 := ic_ne (rfl) (by decide) c_534
                      exact jn_501 zJ_513 _ _ _  hP hD hS (lv_sub hl [0, 1, 2, 3, 4, 5, 6, 7, 8] rfl)
                    · have f_535 : ¬ (zi_2.toInt ≠ 0) := ic_nne (rfl) (by decide) c_534
                      refine lv_aload_n hx hb dX9_advance_145 rfl (lv_at hl 2 rfl) ?_
                      refine lv_iload hx hb dX9_advance_146 (lv_at hl 9 rfl) ?_
                      refine lv_iload hx hb dX9_advance_148 (lv_at hl 10 rfl) ?_
                      refine lv_iadd hx hb dX9_advance_150 ?_
                      refine lv_topi (fun zi_536 ezi_536 => ?_)
                      have tzi_536 : zi_536.toInt = zi_508.toInt + zi_512.toInt := by rw [ezi_536]; exact tiadd (rfl) (rfl) (by omega) (by omega)
                      refine lv_dup2_11 hx hb dX9_advance_151 rfl rfl ?_
                      refine ht_lald (n := 96) (q := 1) hx hb hK hP hs t_zx2 (by decide) rfl rfl ⟨by omega, by omega⟩ dX9_advance_152 ?_
                      refine lv_topl (fun zj_537 ezj_537 => ?_)
                      refine lv_aload_n hx hb dX9_advance_153 rfl (lv_at hl 1 rfl) ?_
                      refine lv_iload hx hb dX9_advance_154 (lv_at hl 8 rfl) ?_
                      refine lv_iconst (v := 4) hx hb dX9_advance_156 (by decide) ?_
                      refine lv_imul hx hb dX9_advance_157 ?_
                      refine lv_topi (fun zi_538 ezi_538 => ?_)
                      have tzi_538 : zi_538.toInt = zi_196.toInt * (4 : Int) := by rw [ezi_538]; exact timul (rfl) (show (4 : Int32).toInt = 4 by decide) (by omega) (by omega)
                      refine lv_iload hx hb dX9_advance_158 (lv_at hl 10 rfl) ?_
                      refine lv_iadd hx hb dX9_advance_160 ?_
                      refine lv_topi (fun zi_539 ezi_539 => ?_)
                      have tzi_539 : zi_539.toInt = zi_538.toInt + zi_512.toInt := by rw [ezi_539]; exact tiadd (rfl) (rfl) (by omega) (by omega)
                      refine lv_iconst (v := 1) hx hb dX9_advance_161 (by decide) ?_
                      refine lv_isub hx hb dX9_advance_162 ?_
                      refine lv_topi (fun zi_540 ezi_540 => ?_)
                      have tzi_540 : zi_540.toInt = zi_539.toInt - (1 : Int) := by rw [ezi_540]; exact tisub (rfl) (show (1 : Int32).toInt = 1 by decide) (by omega) (by omega)
                      refine ht_lald (n := 96) (q := 1) hx hb hK hP hs t_zx1 (by decide) rfl rfl ⟨by omega, by omega⟩ dX9_advance_163 ?_
                      refine lv_topl (fun zj_541 ezj_541 => ?_)
                      refine lv_ladd hx hb dX9_advance_164 ?_
                      refine lv_topl (fun zj_542 ezj_542 => ?_)
                      refine ht_last (v := zj_542) (n := 96) (q := 1) hx hb hK hP hD hS hs t_zx2 (by decide) rfl rfl ⟨by omega, by omega⟩ dX9_advance_165 (fun H locs hP hD hS => ?_)
                      generalize uzJ_543 : u2 zJ_513 zx2 zi_536.toNatClampNeg zj_542 = zJ_543 at hP hD
                      obtain ⟨zi_544, ezi_544⟩ : ∃ y : Int32, y = zi_512 + 1 := ⟨_, rfl⟩
                      have tzi_544 : zi_544.toInt = zi_512.toInt + 1 := by rw [ezi_544]; exact tadd rfl (show (1 : Int32).toInt = 1 by decide) (by omega) (by omega)
                      refine lv_iinc (v := zi_544) (lv' := [(11, .int zi_544), (0, .ref zw), (1, .ref zx1), (2, .ref zx2), (3, .int zip), (4, .ref zx3), (5, .int zi_3), (6, .int zi_8), (7, .long zj_455), (9, .int zi_196), (10, .int zi_508)]) hx hb dX9_advance_166 hl (k := 10) rfl (by rw [ezi_544]; rfl) (by decide) rfl (fun ls hl => ?_)
                      refine lv_goto (tgt := 127) hx hb dX9_advance_169 (by decide) ?_
                      exact ih_529 (4 - zi_544.toInt).toNat (by omega) zi_544 zJ_543 _ _ _ rfl (by omega) hP hD hS (lv_sub hl [1, 2, 3, 4, 5, 6, 7, 8, 9, 10, 0] rfl)
              exact lp_529 _ (1 : Int32) zJ_511 _ _ _ rfl (by decide) hP hD hS (lv_sub hl [2, 3, 4, 5, 6, 7, 8, 9, 10, 1, 0] rfl)
          refine lv_if_eq (tgt := 89) hx hb dX9_advance_52 (by decide) (fun c_545 => ?_) (fun c_545 => ?_)
          · have f_546 : zi_8.toInt = 0 := ic_eq (rfl) (by decide) c_545
            exact jn_456 zj_195 _ _ _  hP hD hS (lv_sub hl [0, 1, 2, 3, 4, 5, 6, 7, 8] rfl)
          · have f_546 : ¬ (zi_8.toInt = 0) := ic_neq (rfl) (by decide) c_545
            refine lv_lload hx hb dX9_advance_55 (lv_at hl 7 rfl) ?_
            refine lv_aload_n hx hb dX9_advance_57 rfl (lv_at hl 0 rfl) ?_
            refine lv_aload_n hx hb dX9_advance_58 rfl (lv_at hl 1 rfl) ?_
            refine lv_iload hx hb dX9_advance_59 (lv_at hl 8 rfl) ?_
            refine lv_iload hx hb dX9_advance_61 (lv_at hl 5 rfl) ?_
            refine lv_isub hx hb dX9_advance_63 ?_
            refine lv_topi (fun zi_547 ezi_547 => ?_)
            have tzi_547 : zi_547.toInt = zi_196.toInt - zi_3.toInt := by rw [ezi_547]; exact tisub (rfl) (rfl) (by omega) (by omega)
            refine lv_iload_n hx hb dX9_advance_64 rfl (lv_at hl 3 rfl) ?_
            refine hj_l (ws := (WL cy zL zT zR zI zJ_197)) (w1 := fun (u : Unit) => (WL cy zL zT zR zI zJ_197)) (va_runV (As := [.ref zx1, .int zi_547, .int zip]) (rest := [.long zj_195]) ⟨hx, hb, hml, hown, hts⟩ (t_X9_leaving l dC dI cy H.size zL zT zR zI zJ_197 zw zx1 zi_547 zip hs h_zI.1 t_zw t_zx1 (by omega) (by omega) (by omega)) (cwV 3 hts gX9_advance_X9_leaving rfl rfl rfl (by decide +kernel) ⟨(Nat.le_of_ble_eq_true rfl), (Nat.le_of_ble_eq_true rfl)⟩) (PRE.v hP hK hD hN (ht_recv hK hP hs t_zw (by decide) rfl rfl)) rfl rfl hl.1 rfl (lv_room (Nat.le_of_ble_eq_true rfl)) dX9_advance_65 ⟨(Nat.le_of_ble_eq_true rfl), (Nat.le_of_ble_eq_true rfl)⟩) hP hD hS hA (fun zj_548 u_550 H locs hw_549 hP hD hS => ?_)
            refine lv_aload_n hx hb dX9_advance_68 rfl (lv_at hl 0 rfl) ?_
            refine lv_aload_n hx hb dX9_advance_69 rfl (lv_at hl 1 rfl) ?_
            refine lv_iload hx hb dX9_advance_70 (lv_at hl 8 rfl) ?_
            refine lv_aload_n hx hb dX9_advance_72 rfl (lv_at hl 0 rfl) ?_
            refine ht_getr (C := RX9) (T := TX9) (N := 16) hx hb hts (by decide +kernel) hown hK hP hs t_zw (by decide) rfl rfl 5 (by decide) (hts (.fieldLink RX9 27 "DripStone$Ways" "furthest" "[I") (by decide +kernel)) (fun _ h9 => h9) rfl dX9_advance_73 ?_
            refine lv_iload_n hx hb dX9_advance_76 rfl (lv_at hl 3 rfl) ?_
            refine ht_iald (n := 12) (q := 0) hx hb hK hP hs t_4 (by decide) rfl rfl ⟨by omega, by omega⟩ dX9_advance_77 ?_
            refine lv_topi (fun zi_551 ezi_551 => ?_)
            obtain rfl : zi_5 = zi_551 := (ezi_551.trans ezi_5.symm).symm
            refine lv_isub hx hb dX9_advance_78 ?_
            refine lv_topi (fun zi_552 ezi_552 => ?_)
            have tzi_552 : zi_552.toInt = zi_196.toInt - zi_5.toInt := by rw [ezi_552]; exact tisub (rfl) (rfl) (by omega) (by omega)
            refine lv_iconst (v := 1) hx hb dX9_advance_79 (by decide) ?_
            refine lv_isub hx hb dX9_advance_80 ?_
            refine lv_topi (fun zi_553 ezi_553 => ?_)
            have tzi_553 : zi_553.toInt = zi_552.toInt - (1 : Int) := by rw [ezi_553]; exact tisub (rfl) (show (1 : Int32).toInt = 1 by decide) (by omega) (by omega)
            refine lv_iload_n hx hb dX9_advance_81 rfl (lv_at hl 3 rfl) ?_
            refine hj_l (ws := (WL cy zL zT zR zI zJ_197)) (w1 := fun (u : Unit) => (WL cy zL zT zR zI zJ_197)) (va_runV (As := [.ref zx1, .int zi_553, .int zip]) (rest := [.long zj_548, .long zj_195]) ⟨hx, hb, hml, hown, hts⟩ (t_X9_leaving l dC dI cy H.size zL zT zR zI zJ_197 zw zx1 zi_553 zip hs h_zI.1 t_zw t_zx1 (by omega) (by omega) (by omega)) (cwV 3 hts gX9_advance_X9_leaving rfl rfl rfl (by decide +kernel) ⟨(Nat.le_of_ble_eq_true rfl), (Nat.le_of_ble_eq_true rfl)⟩) (PRE.v hP hK hD hN (ht_recv hK hP hs t_zw (by decide) rfl rfl)) rfl rfl hl.1 rfl (lv_room (Nat.le_of_ble_eq_true rfl)) dX9_advance_82 ⟨(Nat.le_of_ble_eq_true rfl), (Nat.le_of_ble_eq_true rfl)⟩) hP hD hS hA (fun zj_554 u_556 H locs hw_555 hP hD hS => ?_)
            refine lv_lsub hx hb dX9_advance_85 ?_
            refine lv_topl (fun zj_557 ezj_557 => ?_)
            refine lv_ladd hx hb dX9_advance_86 ?_
            refine lv_topl (fun zj_558 ezj_558 => ?_)
            refine lv_lstore (lv' := [(7, .long zj_558), (0, .ref zw), (1, .ref zx1), (2, .ref zx2), (3, .int zip), (4, .ref zx3), (5, .int zi_3), (6, .int zi_8), (9, .int zi_196)]) hx hb dX9_advance_87 hl (by decide) rfl (fun ls hl => ?_)
            exact jn_456 zj_558 _ _ _  hP hD hS (lv_sub hl [1, 2, 3, 4, 5, 6, 7, 0, 8] rfl)
    exact lp_436 _ (0 : Int64) zi_10 zJ _ _ _ rfl (by omega) hP hD hS (lv_sub hl [3, 4, 5, 6, 7, 8, 2, 1, 0] rfl)
  refine lv_icmp_gt (tgt := 27) hx hb dX9_advance_20 (by decide) (fun c_559 => ?_) (fun c_559 => ?_)
  · have f_560 : zi_3.toInt > zi_5.toInt := ic_gt (rfl) (rfl) c_559
    refine lv_iconst (v := 0) hx hb dX9_advance_27 (by decide) ?_
    exact jn_9 (0 : Int32) _ _ _ (by decide) hP hD hS (lv_sub hl [1, 2, 3, 4, 5, 0] rfl)
  · have f_560 : ¬ (zi_3.toInt > zi_5.toInt) := ic_ngt (rfl) (rfl) c_559
    refine lv_iconst (v := 1) hx hb dX9_advance_23 (by decide) ?_
    refine lv_goto (tgt := 28) hx hb dX9_advance_24 (by decide) ?_
    exact jn_9 (1 : Int32) _ _ _ (by decide) hP hD hS (lv_sub hl [1, 2, 3, 4, 5, 0] rfl)
set_option maxHeartbeats 8000000 in
set_option maxRecDepth 100000 in
theorem t_X9_start_b (l : Launch) (dC : Nat → ClassId) (dI : Nat → Nat → Nat) (cy : Nat → ClassId) (sz : Nat) (zL : List Nat) (zT : Nat → Nat) (zR : Nat → Nat → Nat) (zI : Nat → Nat → Int32) (zJ : Nat → Nat → Int64) (zw : Nat) (zx2 : Nat) (zx3 : Nat) (hs : SKP zL zT zR) (hw : WT zT zR zI) (t_zw : zT zw = 10) (t_zx2 : zT zx2 = 52) (t_zx3 : zT zx3 = 44) : Met l yX9_start wsX9_start ({ frames := 0, cells := 0, slots := 0, locals := 0 } : Room) (va_Pc [.ref zw, .ref zx2, .ref zx3] (PRE dC dI cy (WL cy zL zT zR zI zJ) sz)) (va_Qv (fun (u : (Nat → Nat → Int64)) => True) (fun u t => POST dC dI cy (va_A (WL cy zL zT zR zI zJ) sz) (WL cy zL zT zR zI u) t) (va_A (WL cy zL zT zR zI zJ) sz)) 0 0 (va_A (WL cy zL zT zR zI zJ) sz) := by
  refine Met.ofW (cc := cX9_start) (maxL := 4) (ret := none) (by decide) rfl ?_
  intro p e s m args below meth c s₁ B hml hv
  obtain ⟨rfl, hsz, hP, hK, hD0, hN⟩ := hv
  have hx := B.exec
  have hb := B.bytes
  have hr := B.returns
  have hts := atoms_spec (ws := wsX9_start) B.pre
  have hown : s.vm.findClass RX9 = some m.cls := findClass_of_methodNamed B.named
  have hlocks := B.notSynchronized
  subst hsz
  have hD := hD0.self (sz := s.heap.size)
  generalize hAe : va_A (WL cy zL zT zR zI zJ) s.heap.size = A at hD ⊢
  have hA : ∀ q : Nat, s.heap.size ≤ q → A q := fun q h => by rw [← hAe]; exact Or.inr h
  have hS : va_S A s.heap s.heap [] := va_S.rf
  have hP : va_P (dC, dI) vwCl (WL cy zL zT zR zI zJ) s.heap := hP
  have hl := lv_entry ([.ref zw, .ref zx2, .ref zx3] : List Value) (n := 4) (Nat.le_of_ble_eq_true rfl)
  rw [lg_entry_eq]
  generalize (lg_sl ([.ref zw, .ref zx2, .ref zx3] : List Value) ++ List.replicate (4 - (lg_sl ([.ref zw, .ref zx2, .ref zx3] : List Value)).length) Slot.unset).toArray = ls at hl ⊢
  have hl : lv_has ls 4 [(0, .ref zw), (1, .ref zx2), (2, .ref zx3)] := hl
  refine w_q (fun Q hQ => ?_)
  have h_zI : WM [] AL zT zR zI zI := WM.rf hw
  refine lv_aload_n hx hb dX9_start_0 rfl (lv_at hl 0 rfl) ?_
  refine ht_getr (C := RX9) (T := TX9) (N := 16) hx hb hts (by decide +kernel) hown hK hP hs t_zw (by decide) rfl rfl 2 (by decide) (hts (.fieldLink RX9 18 "DripStone$Ways" "earliest" "[I") (by decide +kernel)) (fun _ h9 => h9) rfl dX9_start_1 ?_
  have t_1 : zT (zR zw 2) = 39 := sk_f hs t_zw (by decide) rfl (by decide)
  refine lv_iconst (v := 0) hx hb dX9_start_4 (by decide) ?_
  refine ht_iald (n := 12) (q := 0) hx hb hK hP hs t_1 (by decide) rfl rfl ⟨by decide, by decide⟩ dX9_start_5 ?_
  refine lv_topi (fun zi_2 ezi_2 => ?_)
  have tzi_2 : 0 ≤ zi_2.toInt ∧ zi_2.toInt ≤ 23 := by rw [ezi_2]; exact h_zI.at t_1 _ rfl
  refine lv_istore_n (lv' := [(3, .int zi_2), (0, .ref zw), (1, .ref zx2), (2, .ref zx3)]) hx hb dX9_start_6 rfl hl (by decide) rfl (fun ls hl => ?_)
  have lp_35 : ∀ (n : Nat) (zi_13 : Int32) (zJ_14 : Nat → Nat → Int64) (H : Heap) (locs : List Loc) (ls : Array Slot), (24 - zi_13.toInt).toNat = n → (0 ≤ zi_13.toInt ∧ zi_13.toInt ≤ 24) → va_P (dC, dI) vwCl (WL cy zL zT zR zI zJ_14) H → va_D A (WL cy zL zT zR zI zJ_14) → va_S A s.heap H locs → lv_has ls 4 [(0, .ref zw), (1, .ref zx2), (2, .ref zx3), (3, .int zi_13)] → W p l e ({ frames := 0, cells := 0, slots := 0, locals := 0 } : Room) s m ([.ref zw, .ref zx2, .ref zx3] : List Value).toArray below meth c H locs 0 0 Q (F0 m 7 ls []) := by
    intro n
    induction n using Nat.strongRecOn with
    | _ n ih_35 =>
      intro zi_13 zJ_14 H locs ls hn b_zi_13 hP hD hS hl
      refine lv_iload_n hx hb dX9_start_7 rfl (lv_at hl 3 rfl) ?_
      refine lv_aload_n hx hb dX9_start_8 rfl (lv_at hl 0 rfl) ?_
      refine ht_getr (C := RX9) (T := TX9) (N := 16) hx hb hts (by decide +kernel) hown hK hP hs t_zw (by decide) rfl rfl 3 (by decide) (hts (.fieldLink RX9 21 "DripStone$Ways" "latest" "[I") (by decide +kernel)) (fun _ h9 => h9) rfl dX9_start_9 ?_
      have t_36 : zT (zR zw 3) = 39 := sk_f hs t_zw (by decide) rfl (by decide)
      refine lv_iconst (v := 0) hx hb dX9_start_12 (by decide) ?_
      refine ht_iald (n := 12) (q := 0) hx hb hK hP hs t_36 (by decide) rfl rfl ⟨by decide, by decide⟩ dX9_start_13 ?_
      refine lv_topi (fun zi_37 ezi_37 => ?_)
      have tzi_37 : 0 ≤ zi_37.toInt ∧ zi_37.toInt ≤ 23 := by rw [ezi_37]; exact h_zI.at t_36 _ rfl
      refine lv_icmp_gt (tgt := 36) hx hb dX9_start_14 (by decide) (fun c_38 => ?_) (fun c_38 => ?_)
      · have f_39 : zi_13.toInt > zi_37.toInt := ic_gt (rfl) (rfl) c_38
        subst hQ
        exact W.vret hx hb hr (fun t ht hW => ⟨⟨zJ_14, rfl, trivial, ⟨by rw [ht]; exact hP, va_K.moved hW.alike hK, hD⟩⟩, hS.F ht⟩) hS.2.2 dX9_start_36
      · have f_39 : ¬ (zi_13.toInt > zi_37.toInt) := ic_ngt (rfl) (rfl) c_38
        refine lv_aload_n hx hb dX9_start_17 rfl (lv_at hl 1 rfl) ?_
        refine lv_aload_n hx hb dX9_start_18 rfl (lv_at hl 2 rfl) ?_
        refine lv_iload_n hx hb dX9_start_19 rfl (lv_at hl 3 rfl) ?_
        refine ht_iald (n := 24) (q := 0) hx hb hK hP hs t_zx3 (by decide) rfl rfl ⟨by omega, by omega⟩ dX9_start_20 ?_
        refine lv_topi (fun zi_40 ezi_40 => ?_)
        have tzi_40 : 0 ≤ zi_40.toInt ∧ zi_40.toInt ≤ 168 := by rw [ezi_40]; exact h_zI.at t_zx3 _ rfl
        refine lv_bipush (v := 96) hx hb dX9_start_21 (by decide) ?_
        refine lv_imul hx hb dX9_start_23 ?_
        refine lv_topi (fun zi_41 ezi_41 => ?_)
        have tzi_41 : zi_41.toInt = zi_40.toInt * (96 : Int) := by rw [ezi_41]; exact timul (rfl) (show (96 : Int32).toInt = 96 by decide) (by omega) (by omega)
        refine lv_iload_n hx hb dX9_start_24 rfl (lv_at hl 3 rfl) ?_
        refine lv_iconst (v := 4) hx hb dX9_start_25 (by decide) ?_
        refine lv_imul hx hb dX9_start_26 ?_
        refine lv_topi (fun zi_42 ezi_42 => ?_)
        have tzi_42 : zi_42.toInt = zi_13.toInt * (4 : Int) := by rw [ezi_42]; exact timul (rfl) (show (4 : Int32).toInt = 4 by decide) (by omega) (by omega)
        refine lv_iadd hx hb dX9_start_27 ?_
        refine lv_topi (fun zi_43 ezi_43 => ?_)
        have tzi_43 : zi_43.toInt = zi_41.toInt + zi_42.toInt := by rw [ezi_43]; exact tiadd (rfl) (rfl) (by omega) (by omega)
        refine lv_lconst (v := 1) hx hb dX9_start_28 (by decide) ?_
        refine ht_last (v := (1 : Int64)) (n := 16224) (q := 1) hx hb hK hP hD hS hs t_zx2 (by decide) rfl rfl ⟨by omega, by omega⟩ dX9_start_29 (fun H locs hP hD hS => ?_)
        generalize uzJ_44 : u2 zJ_14 zx2 zi_43.toNatClampNeg (1 : Int64) = zJ_44 at hP hD
        obtain ⟨zi_45, ezi_45⟩ : ∃ y : Int32, y = zi_13 + 1 := ⟨_, rfl⟩
        have tzi_45 : zi_45.toInt = zi_13.toInt + 1 := by rw [ezi_45]; exact tadd rfl (show (1 : Int32).toInt = 1 by decide) (by omega) (by omega)
        refine lv_iinc (v := zi_45) (lv' := [(3, .int zi_45), (0, .ref zw), (1, .ref zx2), (2, .ref zx3)]) hx hb dX9_start_30 hl (k := 3) rfl (by rw [ezi_45]; rfl) (by decide) rfl (fun ls hl => ?_)
        refine lv_goto (tgt := 7) hx hb dX9_start_33 (by decide) ?_
        exact ih_35 (24 - zi_45.toInt).toNat (by omega) zi_45 zJ_44 _ _ _ rfl (by omega) hP hD hS (lv_sub hl [1, 2, 3, 0] rfl)
  exact lp_35 _ zi_2 zJ _ _ _ rfl (by omega) hP hD hS (lv_sub hl [1, 2, 3, 0] rfl)
set_option maxHeartbeats 8000000 in
set_option maxRecDepth 100000 in
theorem t_X9_advance_b (l : Launch) (dC : Nat → ClassId) (dI : Nat → Nat → Nat) (cy : Nat → ClassId) (sz : Nat) (zL : List Nat) (zT : Nat → Nat) (zR : Nat → Nat → Nat) (zI : Nat → Nat → Int32) (zJ : Nat → Nat → Int64) (zw : Nat) (zx1 : Nat) (zx2 : Nat) (zip : Int32) (zx3 : Nat) (hs : SKP zL zT zR) (hw : WT zT zR zI) (t_zw : zT zw = 10) (t_zx1 : zT zx1 = 50) (t_zx2 : zT zx2 = 52) (t_zx3 : zT zx3 = 44) (b_zip : 0 ≤ zip.toInt ∧ zip.toInt ≤ 11) (hx1 : zip.toInt < (zI zw 14).toInt) : Met l yX9_advance wsX9_advance ({ frames := 1, cells := 0, slots := 0, locals := 30 } : Room) (va_Pc [.ref zw, .ref zx1, .ref zx2, .int zip, .ref zx3] (PRE dC dI cy (WL cy zL zT zR zI zJ) sz)) (va_Qv (fun (u : (Nat → Nat → Int64)) => True) (fun u t => POST dC dI cy (va_A (WL cy zL zT zR zI zJ) sz) (WL cy zL zT zR zI u) t) (va_A (WL cy zL zT zR zI zJ) sz)) 0 0 (va_A (WL cy zL zT zR zI zJ) sz) := by
  refine Met.ofW (cc := cX9_advance) (maxL := 12) (ret := none) (by decide) rfl ?_
  intro p e s m args below meth c s₁ B hml hv
  obtain ⟨rfl, hsz, hP, hK, hD0, hN⟩ := hv
  have hx := B.exec
  have hb := B.bytes
  have hr := B.returns
  have hts := atoms_spec (ws := wsX9_advance) B.pre
  have hown : s.vm.findClass RX9 = some m.cls := findClass_of_methodNamed B.named
  have hlocks := B.notSynchronized
  subst hsz
  have hD := hD0.self (sz := s.heap.size)
  generalize hAe : va_A (WL cy zL zT zR zI zJ) s.heap.size = A at hD ⊢
  have hA : ∀ q : Nat, s.heap.size ≤ q → A q := fun q h => by rw [← hAe]; exact Or.inr h
  have hS : va_S A s.heap s.heap [] := va_S.rf
  have hP : va_P (dC, dI) vwCl (WL cy zL zT zR zI zJ) s.heap := hP
  have hl := lv_entry ([.ref zw, .ref zx1, .ref zx2, .int zip, .ref zx3] : List Value) (n := 12) (Nat.le_of_ble_eq_true rfl)
  rw [lg_entry_eq]
  generalize (lg_sl ([.ref zw, .ref zx1, .ref zx2, .int zip, .ref zx3] : List Value) ++ List.replicate (12 - (lg_sl ([.ref zw, .ref zx1, .ref zx2, .int zip, .ref zx3] : List Value)).length) Slot.unset).toArray = ls at hl ⊢
  have hl : lv_has ls 12 [(0, .ref zw), (1, .ref zx1), (2, .ref zx2), (3, .int zip), (4, .ref zx3)] := hl
  refine w_q (fun Q hQ => ?_)
  have h_zI : WM [] AL zT zR zI zI := WM.rf hw
  refine lv_iconst (v := 1) hx hb dX9_advance_0 (by decide) ?_
  refine lv_aload_n hx hb dX9_advance_1 rfl (lv_at hl 0 rfl) ?_
  refine ht_getr (C := RX9) (T := TX9) (N := 16) hx hb hts (by decide +kernel) hown hK hP hs t_zw (by decide) rfl rfl 4 (by decide) (hts (.fieldLink RX9 24 "DripStone$Ways" "least" "[I") (by decide +kernel)) (fun _ h9 => h9) rfl dX9_advance_2 ?_
  have t_1 : zT (zR zw 4) = 40 := sk_f hs t_zw (by decide) rfl (by decide)
  refine lv_iload_n hx hb dX9_advance_5 rfl (lv_at hl 3 rfl) ?_
  refine ht_iald (n := 12) (q := 0) hx hb hK hP hs t_1 (by decide) rfl rfl ⟨by omega, by omega⟩ dX9_advance_6 ?_
  refine lv_topi (fun zi_2 ezi_2 => ?_)
  have tzi_2 : 0 ≤ zi_2.toInt ∧ zi_2.toInt ≤ 20 := by rw [ezi_2]; exact h_zI.at t_1 _ rfl
  refine va_mmax hx hb (by rw [hml]; exact hl.1.symm) hown (hts (.methodLink RX9 102 Lib.Math.max.name) (by decide +kernel)) (hts (.static Lib.Math.max.name) (by decide +kernel)) (hts (.initialized "java/lang/Math") (by decide +kernel)) (hts (.code Lib.Math.max.name Lib.Math.max.code 2 (some .int)) (by decide +kernel)) (Nat.le_of_ble_eq_true rfl) (Nat.le_of_ble_eq_true rfl) (Nat.le_of_ble_eq_true rfl) (Nat.le_of_ble_eq_true rfl) dX9_advance_7 ?_
  refine lv_topi (fun zi_3 ezi_3 => ?_)
  have tzi_3 : ((1 : Int) < zi_2.toInt → zi_3.toInt = zi_2.toInt) ∧ (¬ (1 : Int) < zi_2.toInt → zi_3.toInt = (1 : Int)) := mx_s ezi_3 (show (1 : Int32).toInt = 1 by decide) (rfl)
  refine lv_istore (lv' := [(5, .int zi_3), (0, .ref zw), (1, .ref zx1), (2, .ref zx2), (3, .int zip), (4, .ref zx3)]) hx hb dX9_advance_10 hl (by decide) rfl (fun ls hl => ?_)
  refine lv_iload hx hb dX9_advance_12 (lv_at hl 0 rfl) ?_
  refine lv_aload_n hx hb dX9_advance_14 rfl (lv_at hl 1 rfl) ?_
  refine ht_getr (C := RX9) (T := TX9) (N := 16) hx hb hts (by decide +kernel) hown hK hP hs t_zw (by decide) rfl rfl 5 (by decide) (hts (.fieldLink RX9 27 "DripStone$Ways" "furthest" "[I") (by decide +kernel)) (fun _ h9 => h9) rfl dX9_advance_15 ?_
  have t_4 : zT (zR zw 5) = 39 := sk_f hs t_zw (by decide) rfl (by decide)
  refine lv_iload_n hx hb dX9_advance_18 rfl (lv_at hl 4 rfl) ?_
  refine ht_iald (n := 12) (q := 0) hx hb hK hP hs t_4 (by decide) rfl rfl ⟨by omega, by omega⟩ dX9_advance_19 ?_
  refine lv_topi (fun zi_5 ezi_5 => ?_)
  have tzi_5 : 0 ≤ zi_5.toInt ∧ zi_5.toInt ≤ 23 := by rw [ezi_5]; exact h_zI.at t_4 _ rfl
  have jn_9 : ∀ (zi_8 : Int32) (H : Heap) (locs : List Loc) (ls : Array Slot), (0 ≤ zi_8.toInt ∧ zi_8.toInt ≤ 1) → va_P (dC, dI) vwCl (WL cy zL zT zR zI zJ) H → va_D A (WL cy zL zT zR zI zJ) → va_S A s.heap H locs → lv_has ls 12 [(0, .ref zw), (1, .ref zx1), (2, .ref zx2), (3, .int zip), (4, .ref zx3), (5, .int zi_3)] → W p l e ({ frames := 1, cells := 0, slots := 0, locals := 30 } : Room) s m ([.ref zw, .ref zx1, .ref zx2, .int zip, .ref zx3] : List Value).toArray below meth c H locs 0 0 Q (F0 m 28 ls [.int zi_8]) := by
    intro zi_8 H locs ls b_zi_8 hP hD hS hl
    refine lv_istore (lv' := [(6, .int zi_8), (0, .ref zw), (1, .ref zx1), (2, .ref zx2), (3, .int zip), (4, .ref zx3), (5, .int zi_3)]) hx hb dX9_advance_28 hl (by decide) rfl (fun ls hl => ?_)
    refine lv_lconst (v := 0) hx hb dX9_advance_30 (by decide) ?_
    refine lv_lstore (lv' := [(7, .long 0), (6, .int zi_8), (0, .ref zw), (1, .ref zx1), (2, .ref zx2), (3, .int zip), (4, .ref zx3), (5, .int zi_3)]) hx hb dX9_advance_31 hl (by decide) rfl (fun ls hl => ?_)
    refine lv_aload_n hx hb dX9_advance_33 rfl (lv_at hl 3 rfl) ?_
    refine hj_i (ws := (WL cy zL zT zR zI zJ)) (w1 := fun (u : Unit) => (WL cy zL zT zR zI zJ)) (va_runS (As := [.ref zx1]) (rest := []) ⟨hx, hb, hml, hown, hts⟩ (t_X9_firstYear l dC dI cy H.size zL zT zR zI zJ zx1 hs h_zI.1 t_zx1) (va_cwS 1 hts gX9_advance_X9_firstYear rfl rfl rfl (by decide +kernel) ⟨(Nat.le_of_ble_eq_true rfl), (Nat.le_of_ble_eq_true rfl)⟩) (PRE.s hP hK hD hN) rfl rfl hl.1 rfl (lv_room (Nat.le_of_ble_eq_true rfl)) dX9_advance_34 ⟨(Nat.le_of_ble_eq_true rfl), (Nat.le_of_ble_eq_true rfl)⟩) hP hD hS hA (fun zi_10 u_12 H locs hw_11 hP hD hS => ?_)
    have b_zi_10 : 0 ≤ zi_10.toInt ∧ zi_10.toInt ≤ 24 := hw_11
    refine lv_istore (lv' := [(9, .int zi_10), (7, .long 0), (6, .int zi_8), (0, .ref zw), (1, .ref zx1), (2, .ref zx2), (3, .int zip), (4, .ref zx3), (5, .int zi_3)]) hx hb dX9_advance_37 hl (by decide) rfl (fun ls hl => ?_)
    have lp_436 : ∀ (n : Nat) (zj_195 : Int64) (zi_196 : Int32) (zJ_197 : Nat → Nat → Int64) (H : Heap) (locs : List Loc) (ls : Array Slot), (24 - zi_196.toInt).toNat = n → (0 ≤ zi_196.toInt ∧ zi_196.toInt ≤ 24) → va_P (dC, dI) vwCl (WL cy zL zT zR zI zJ_197) H → va_D A (WL cy zL zT zR zI zJ_197) → va_S A s.heap H locs → lv_has ls 12 [(0, .ref zw), (1, .ref zx1), (2, .ref zx2), (3, .int zip), (4, .ref zx3), (5, .int zi_3), (6, .int zi_8), (7, .long zj_195), (9, .int zi_196)] → W p l e ({ frames := 1, cells := 0, slots := 0, locals := 30 } : Room) s m ([.ref zw, .ref zx1, .ref zx2, .int zip, .ref zx3] : List Value).toArray below meth c H locs 0 0 Q (F0 m 39 ls []) := by
      intro n
      induction n using Nat.strongRecOn with
      | _ n ih_436 =>
        intro zj_195 zi_196 zJ_197 H locs ls hn b_zi_196 hP hD hS hl
        refine lv_iload hx hb dX9_advance_39 (lv_at hl 8 rfl) ?_
        refine lv_aload_n hx hb dX9_advance_41 rfl (lv_at hl 0 rfl) ?_
        refine ht_getr (C := RX9) (T := TX9) (N := 16) hx hb hts (by decide +kernel) hown hK hP hs t_zw (by decide) rfl rfl 3 (by decide) (hts (.fieldLink RX9 21 "DripStone$Ways" "latest" "[I") (by decide +kernel)) (fun _ h9 => h9) rfl dX9_advance_42 ?_
        have t_437 : zT (zR zw 3) = 39 := sk_f hs t_zw (by decide) rfl (by decide)
        refine lv_iload_n hx hb dX9_advance_45 rfl (lv_at hl 3 rfl) ?_
        refine ht_iald (n := 12) (q := 0) hx hb hK hP hs t_437 (by decide) rfl rfl ⟨by omega, by omega⟩ dX9_advance_46 ?_
        refine lv_topi (fun zi_438 ezi_438 => ?_)
        have tzi_438 : 0 ≤ zi_438.toInt ∧ zi_438.toInt ≤ 23 := by rw [ezi_438]; exact h_zI.at t_437 _ rfl
        refine lv_icmp_gt (tgt := 178) hx hb dX9_advance_47 (by decide) (fun c_439 => ?_) (fun c_439 => ?_)
        · have f_440 : zi_196.toInt > zi_438.toInt := ic_gt (rfl) (rfl) c_439
          subst hQ
          exact W.vret hx hb hr (fun t ht hW => ⟨⟨zJ_197, rfl, trivial, ⟨by rw [ht]; exact hP, va_K.moved hW.alike hK, hD⟩⟩, hS.F ht⟩) hS.2.2 dX9_advance_178
        · have f_440 : ¬ (zi_196.toInt > zi_438.toInt) := ic_ngt (rfl) (rfl) c_439
          refine lv_iload hx hb dX9_advance_50 (lv_at hl 6 rfl) ?_
          have jn_456 : ∀ (zj_455 : Int64) (H : Heap) (locs : List Loc) (ls : Array Slot), va_P (dC, dI) vwCl (WL cy zL zT zR zI zJ_197) H → va_D A (WL cy zL zT zR zI zJ_197) → va_S A s.heap H locs → lv_has ls 12 [(0, .ref zw), (1, .ref zx1), (2, .ref zx2), (3, .int zip), (4, .ref zx3), (5, .int zi_3), (6, .int zi_8), (7, .long zj_455), (9, .int zi_196)] → W p l e ({ frames := 1, cells := 0, slots := 0, locals := 30 } : Room) s m ([.ref zw, .ref zx1, .ref zx2, .int zip, .ref zx3] : List Value).toArray below meth c H locs 0 0 Q (F0 m 89 ls []) := by
            intro zj_455 H locs ls  hP hD hS hl
            refine lv_iload hx hb dX9_advance_89 (lv_at hl 8 rfl) ?_
            refine lv_aload_n hx hb dX9_advance_91 rfl (lv_at hl 0 rfl) ?_
            refine ht_getr (C := RX9) (T := TX9) (N := 16) hx hb hts (by decide +kernel) hown hK hP hs t_zw (by decide) rfl rfl 2 (by decide) (hts (.fieldLink RX9 18 "DripStone$Ways" "earliest" "[I") (by decide +kernel)) (fun _ h9 => h9) rfl dX9_advance_92 ?_
            have t_457 : zT (zR zw 2) = 39 := sk_f hs t_zw (by decide) rfl (by decide)
            refine lv_iload_n hx hb dX9_advance_95 rfl (lv_at hl 3 rfl) ?_
            refine ht_iald (n := 12) (q := 0) hx hb hK hP hs t_457 (by decide) rfl rfl ⟨by omega, by omega⟩ dX9_advance_96 ?_
            refine lv_topi (fun zi_458 ezi_458 => ?_)
            have tzi_458 : 0 ≤ zi_458.toInt ∧ zi_458.toInt ≤ 23 := by rw [ezi_458]; exact h_zI.at t_457 _ rfl
            have jn_501 : ∀ (zJ_500 : Nat → Nat → Int64) (H : Heap) (locs : List Loc) (ls : Array Slot), va_P (dC, dI) vwCl (WL cy zL zT zR zI zJ_500) H → va_D A (WL cy zL zT zR zI zJ_500) → va_S A s.heap H locs → lv_has ls 12 [(0, .ref zw), (1, .ref zx1), (2, .ref zx2), (3, .int zip), (4, .ref zx3), (5, .int zi_3), (6, .int zi_8), (7, .long zj_455), (9, .int zi_196)] → W p l e ({ frames := 1, cells := 0, slots := 0, locals := 30 } : Room) s m ([.ref zw, .ref zx1, .ref zx2, .int zip, .ref zx3] : List Value).toArray below meth c H locs 0 0 Q (F0 m 172 ls []) := by
              intro zJ_500 H locs ls  hP hD hS hl
              obtain ⟨zi_502, ezi_502⟩ : ∃ y : Int32, y = zi_196 + 1 := ⟨_, rfl⟩
              have tzi_502 : zi_502.toInt = zi_196.toInt + 1 := by rw [ezi_502]; exact tadd rfl (show (1 : Int32).toInt = 1 by decide) (by omega) (by omega)
              refine lv_iinc (v := zi_502) (lv' := [(9, .int zi_502), (0, .ref zw), (1, .ref zx1), (2, .ref zx2), (3, .int zip), (4, .ref zx3), (5, .int zi_3), (6, .int zi_8), (7, .long zj_455)]) hx hb dX9_advance_172 hl (k := 8) rfl (by rw [ezi_502]; rfl) (by decide) rfl (fun ls hl => ?_)
              refine lv_goto (tgt := 39) hx hb dX9_advance_175 (by decide) ?_
              exact ih_436 (24 - zi_502.toInt).toNat (by omega) zj_455 zi_502 zJ_500 _ _ _ rfl (by omega) hP hD hS (lv_sub hl [1, 2, 3, 4, 5, 6, 7, 8, 0] rfl)
            refine lv_icmp_lt (tgt := 172) hx hb dX9_advance_97 (by decide) (fun c_503 => ?_) (fun c_503 => ?_)
            · have f_504 : zi_196.toInt < zi_458.toInt := ic_lt (rfl) (rfl) c_503
              exact jn_501 zJ_197 _ _ _  hP hD hS (lv_sub hl [0, 1, 2, 3, 4, 5, 6, 7, 8] rfl)
            · have f_504 : ¬ (zi_196.toInt < zi_458.toInt) := ic_nlt (rfl) (rfl) c_503
              refine lv_aload hx hb dX9_advance_100 (lv_at hl 4 rfl) ?_
              refine lv_iload hx hb dX9_advance_102 (lv_at hl 8 rfl) ?_
              refine ht_iald (n := 24) (q := 0) hx hb hK hP hs t_zx3 (by decide) rfl rfl ⟨by omega, by omega⟩ dX9_advance_104 ?_
              refine lv_topi (fun zi_505 ezi_505 => ?_)
              have tzi_505 : 0 ≤ zi_505.toInt ∧ zi_505.toInt ≤ 168 := by rw [ezi_505]; exact h_zI.at t_zx3 _ rfl
              refine lv_bipush (v := 96) hx hb dX9_advance_105 (by decide) ?_
              refine lv_imul hx hb dX9_advance_107 ?_
              refine lv_topi (fun zi_506 ezi_506 => ?_)
              have tzi_506 : zi_506.toInt = zi_505.toInt * (96 : Int) := by rw [ezi_506]; exact timul (rfl) (show (96 : Int32).toInt = 96 by decide) (by omega) (by omega)
              refine lv_iload hx hb dX9_advance_108 (lv_at hl 8 rfl) ?_
              refine lv_iconst (v := 4) hx hb dX9_advance_110 (by decide) ?_
              refine lv_imul hx hb dX9_advance_111 ?_
              refine lv_topi (fun zi_507 ezi_507 => ?_)
              have tzi_507 : zi_507.toInt = zi_196.toInt * (4 : Int) := by rw [ezi_507]; exact timul (rfl) (show (4 : Int32).toInt = 4 by decide) (by omega) (by omega)
              refine lv_iadd hx hb dX9_advance_112 ?_
              refine lv_topi (fun zi_508 ezi_508 => ?_)
              have tzi_508 : zi_508.toInt = zi_506.toInt + zi_507.toInt := by rw [ezi_508]; exact tiadd (rfl) (rfl) (by omega) (by omega)
              refine lv_istore (lv' := [(10, .int zi_508), (0, .ref zw), (1, .ref zx1), (2, .ref zx2), (3, .int zip), (4, .ref zx3), (5, .int zi_3), (6, .int zi_8), (7, .long zj_455), (9, .int zi_196)]) hx hb dX9_advance_113 hl (by decide) rfl (fun ls hl => ?_)
              refine lv_aload_n hx hb dX9_advance_115 rfl (lv_at hl 3 rfl) ?_
              refine lv_iload hx hb dX9_advance_116 (lv_at hl 0 rfl) ?_
              refine lv_dup2_11 hx hb dX9_advance_118 rfl rfl ?_
              refine ht_lald (n := 16224) (q := 1) hx hb hK hP hs t_zx2 (by decide) rfl rfl ⟨by omega, by omega⟩ dX9_advance_119 ?_
              refine lv_topl (fun zj_509 ezj_509 => ?_)
              refine lv_lload hx hb dX9_advance_120 (lv_at hl 8 rfl) ?_
              refine lv_ladd hx hb dX9_advance_122 ?_
              refine lv_topl (fun zj_510 ezj_510 => ?_)
              refine ht_last (v := zj_510) (n := 16224) (q := 1) hx hb hK hP hD hS hs t_zx2 (by decide) rfl rfl ⟨by omega, by omega⟩ dX9_advance_123 (fun H locs hP hD hS => ?_)
              generalize uzJ_511 : u2 zJ_197 zx2 zi_508.toNatClampNeg zj_510 = zJ_511 at hP hD
              refine lv_iconst (v := 1) hx hb dX9_advance_124 (by decide) ?_
              refine lv_istore (lv' := [(11, .int 1), (10, .int zi_508), (0, .ref zw), (1, .ref zx1), (2, .ref zx2), (3, .int zip), (4, .ref zx3), (5, .int zi_3), (6, .int zi_8), (7, .long zj_455), (9, .int zi_196)]) hx hb dX9_advance_125 hl (by decide) rfl (fun ls hl => ?_)
              have lp_529 : ∀ (n : Nat) (zi_512 : Int32) (zJ_513 : Nat → Nat → Int64) (H : Heap) (locs : List Loc) (ls : Array Slot), (4 - zi_512.toInt).toNat = n → (1 ≤ zi_512.toInt ∧ zi_512.toInt ≤ 4) → va_P (dC, dI) vwCl (WL cy zL zT zR zI zJ_513) H → va_D A (WL cy zL zT zR zI zJ_513) → va_S A s.heap H locs → lv_has ls 12 [(0, .ref zw), (1, .ref zx1), (2, .ref zx2), (3, .int zip), (4, .ref zx3), (5, .int zi_3), (6, .int zi_8), (7, .long zj_455), (9, .int zi_196), (10, .int zi_508), (11, .int zi_512)] → W p l e ({ frames := 1, cells := 0, slots := 0, locals := 30 } : Room) s m ([.ref zw, .ref zx1, .ref zx2, .int zip, .ref zx3] : List Value).toArray below meth c H locs 0 0 Q (F0 m 127 ls []) := by
                intro n
                induction n using Nat.strongRecOn with
                | _ n ih_529 =>
                  intro zi_512 zJ_513 H locs ls hn b_zi_512 hP hD hS hl
                  refine lv_iload hx hb dX9_advance_127 (lv_at hl 10 rfl) ?_
                  refine lv_aload_n hx hb dX9_advance_129 rfl (lv_at hl 0 rfl) ?_
                  refine ht_geti (C := RX9) (T := TX9) (N := 16) hx hb hts (by decide +kernel) hown hK hP hs t_zw (by decide) rfl rfl 13 (by decide) (hts (.fieldLink RX9 60 "DripStone$Ways" "most" "I") (by decide +kernel)) (fun _ h9 => h9) rfl dX9_advance_130 ?_
                  refine lv_topi (fun zi_530 ezi_530 => ?_)
                  have tzi_530 : 0 ≤ zi_530.toInt ∧ zi_530.toInt ≤ 4 := by rw [ezi_530]; exact h_zI.at t_zw _ rfl
                  refine lv_icmp_ge (tgt := 172) hx hb dX9_advance_133 (by decide) (fun c_531 => ?_) (fun c_531 => ?_)
                  · have f_532 : zi_512.toInt ≥ zi_530.toInt := ic_ge (rfl) (rfl) c_531
                    exact jn_501 zJ_513 _ _ _  hP hD hS (lv_sub hl [0, 1, 2, 3, 4, 5, 6, 7, 8] rfl)
                  · have f_532 : ¬ (zi_512.toInt ≥ zi_530.toInt) := ic_nge (rfl) (rfl) c_531
                    refine lv_aload_n hx hb dX9_advance_136 rfl (lv_at hl 0 rfl) ?_
                    refine ht_getr (C := RX9) (T := TX9) (N := 16) hx hb hts (by decide +kernel) hown hK hP hs t_zw (by decide) rfl rfl 4 (by decide) (hts (.fieldLink RX9 24 "DripStone$Ways" "least" "[I") (by decide +kernel)) (fun _ h9 => h9) rfl dX9_advance_137 ?_
                    refine lv_iload_n hx hb dX9_advance_140 rfl (lv_at hl 3 rfl) ?_
                    refine ht_iald (n := 12) (q := 0) hx hb hK hP hs t_1 (by decide) rfl rfl ⟨by omega, by omega⟩ dX9_advance_141 ?_
                    refine lv_topi (fun zi_533 ezi_533 => ?_)
                    obtain rfl : zi_2 = zi_533 := (ezi_533.trans ezi_2.symm).symm
                    refine lv_if_ne (tgt := 172) hx hb dX9_advance_142 (by decide) (fun c_534 => ?_) (fun c_534 => ?_)
                    · have f_535 : zi_2.toInt ≠ 0 := ic_ne (rfl) (by decide) c_534
                      exact jn_501 zJ_513 _ _ _  hP hD hS (lv_sub hl [0, 1, 2, 3, 4, 5, 6, 7, 8] rfl)
                    · have f_535 : ¬ (zi_2.toInt ≠ 0) := ic_nne (rfl) (by decide) c_534
                      refine lv_aload_n hx hb dX9_advance_145 rfl (lv_at hl 2 rfl) ?_
                      refine lv_iload hx hb dX9_advance_146 (lv_at hl 9 rfl) ?_
                      refine lv_iload hx hb dX9_advance_148 (lv_at hl 10 rfl) ?_
                      refine lv_iadd hx hb dX9_advance_150 ?_
                      refine lv_topi (fun zi_536 ezi_536 => ?_)
                      have tzi_536 : zi_536.toInt = zi_508.toInt + zi_512.toInt := by rw [ezi_536]; exact tiadd (rfl) (rfl) (by omega) (by omega)
                      refine lv_dup2_11 hx hb dX9_advance_151 rfl rfl ?_
                      refine ht_lald (n := 16224) (q := 1) hx hb hK hP hs t_zx2 (by decide) rfl rfl ⟨by omega, by omega⟩ dX9_advance_152 ?_
                      refine lv_topl (fun zj_537 ezj_537 => ?_)
                      refine lv_aload_n hx hb dX9_advance_153 rfl (lv_at hl 1 rfl) ?_
                      refine lv_iload hx hb dX9_advance_154 (lv_at hl 8 rfl) ?_
                      refine lv_iconst (v := 4) hx hb dX9_advance_156 (by decide) ?_
                      refine lv_imul hx hb dX9_advance_157 ?_
                      refine lv_topi (fun zi_538 ezi_538 => ?_)
                      have tzi_538 : zi_538.toInt = zi_196.toInt * (4 : Int) := by rw [ezi_538]; exact timul (rfl) (show (4 : Int32).toInt = 4 by decide) (by omega) (by omega)
                      refine lv_iload hx hb dX9_advance_158 (lv_at hl 10 rfl) ?_
                      refine lv_iadd hx hb dX9_advance_160 ?_
                      refine lv_topi (fun zi_539 ezi_539 => ?_)
                      have tzi_539 : zi_539.toInt = zi_538.toInt + zi_512.toInt := by rw [ezi_539]; exact tiadd (rfl) (rfl) (by omega) (by omega)
                      refine lv_iconst (v := 1) hx hb dX9_advance_161 (by decide) ?_
                      refine lv_isub hx hb dX9_advance_162 ?_
                      refine lv_topi (fun zi_540 ezi_540 => ?_)
                      have tzi_540 : zi_540.toInt = zi_539.toInt - (1 : Int) := by rw [ezi_540]; exact tisub (rfl) (show (1 : Int32).toInt = 1 by decide) (by omega) (by omega)
                      refine ht_lald (n := 96) (q := 1) hx hb hK hP hs t_zx1 (by decide) rfl rfl ⟨by omega, by omega⟩ dX9_advance_163 ?_
                      refine lv_topl (fun zj_541 ezj_541 => ?_)
                      refine lv_ladd hx hb dX9_advance_164 ?_
                      refine lv_topl (fun zj_542 ezj_542 => ?_)
                      refine ht_last (v := zj_542) (n := 16224) (q := 1) hx hb hK hP hD hS hs t_zx2 (by decide) rfl rfl ⟨by omega, by omega⟩ dX9_advance_165 (fun H locs hP hD hS => ?_)
                      generalize uzJ_543 : u2 zJ_513 zx2 zi_536.toNatClampNeg zj_542 = zJ_543 at hP hD
                      obtain ⟨zi_544, ezi_544⟩ : ∃ y : Int32, y = zi_512 + 1 := ⟨_, rfl⟩
                      have tzi_544 : zi_544.toInt = zi_512.toInt + 1 := by rw [ezi_544]; exact tadd rfl (show (1 : Int32).toInt = 1 by decide) (by omega) (by omega)
                      refine lv_iinc (v := zi_544) (lv' := [(11, .int zi_544), (0, .ref zw), (1, .ref zx1), (2, .ref zx2), (3, .int zip), (4, .ref zx3), (5, .int zi_3), (6, .int zi_8), (7, .long zj_455), (9, .int zi_196), (10, .int zi_508)]) hx hb dX9_advance_166 hl (k := 10) rfl (by rw [ezi_544]; rfl) (by decide) rfl (fun ls hl => ?_)
                      refine lv_goto (tgt := 127) hx hb dX9_advance_169 (by decide) ?_
                      exact ih_529 (4 - zi_544.toInt).toNat (by omega) zi_544 zJ_543 _ _ _ rfl (by omega) hP hD hS (lv_sub hl [1, 2, 3, 4, 5, 6, 7, 8, 9, 10, 0] rfl)
              exact lp_529 _ (1 : Int32) zJ_511 _ _ _ rfl (by decide) hP hD hS (lv_sub hl [2, 3, 4, 5, 6, 7, 8, 9, 10, 1, 0] rfl)
          refine lv_if_eq (tgt := 89) hx hb dX9_advance_52 (by decide) (fun c_545 => ?_) (fun c_545 => ?_)
          · have f_546 : zi_8.toInt = 0 := ic_eq (rfl) (by decide) c_545
            exact jn_456 zj_195 _ _ _  hP hD hS (lv_sub hl [0, 1, 2, 3, 4, 5, 6, 7, 8] rfl)
          · have f_546 : ¬ (zi_8.toInt = 0) := ic_neq (rfl) (by decide) c_545
            refine lv_lload hx hb dX9_advance_55 (lv_at hl 7 rfl) ?_
            refine lv_aload_n hx hb dX9_advance_57 rfl (lv_at hl 0 rfl) ?_
            refine lv_aload_n hx hb dX9_advance_58 rfl (lv_at hl 1 rfl) ?_
            refine lv_iload hx hb dX9_advance_59 (lv_at hl 8 rfl) ?_
            refine lv_iload hx hb dX9_advance_61 (lv_at hl 5 rfl) ?_
            refine lv_isub hx hb dX9_advance_63 ?_
            refine lv_topi (fun zi_547 ezi_547 => ?_)
            have tzi_547 : zi_547.toInt = zi_196.toInt - zi_3.toInt := by rw [ezi_547]; exact tisub (rfl) (rfl) (by omega) (by omega)
            refine lv_iload_n hx hb dX9_advance_64 rfl (lv_at hl 3 rfl) ?_
            refine hj_l (ws := (WL cy zL zT zR zI zJ_197)) (w1 := fun (u : Unit) => (WL cy zL zT zR zI zJ_197)) (va_runV (As := [.ref zx1, .int zi_547, .int zip]) (rest := [.long zj_195]) ⟨hx, hb, hml, hown, hts⟩ (t_X9_leaving l dC dI cy H.size zL zT zR zI zJ_197 zw zx1 zi_547 zip hs h_zI.1 t_zw t_zx1 (by omega) (by omega) (by omega)) (cwV 3 hts gX9_advance_X9_leaving rfl rfl rfl (by decide +kernel) ⟨(Nat.le_of_ble_eq_true rfl), (Nat.le_of_ble_eq_true rfl)⟩) (PRE.v hP hK hD hN (ht_recv hK hP hs t_zw (by decide) rfl rfl)) rfl rfl hl.1 rfl (lv_room (Nat.le_of_ble_eq_true rfl)) dX9_advance_65 ⟨(Nat.le_of_ble_eq_true rfl), (Nat.le_of_ble_eq_true rfl)⟩) hP hD hS hA (fun zj_548 u_550 H locs hw_549 hP hD hS => ?_)
            refine lv_aload_n hx hb dX9_advance_68 rfl (lv_at hl 0 rfl) ?_
            refine lv_aload_n hx hb dX9_advance_69 rfl (lv_at hl 1 rfl) ?_
            refine lv_iload hx hb dX9_advance_70 (lv_at hl 8 rfl) ?_
            refine lv_aload_n hx hb dX9_advance_72 rfl (lv_at hl 0 rfl) ?_
            refine ht_getr (C := RX9) (T := TX9) (N := 16) hx hb hts (by decide +kernel) hown hK hP hs t_zw (by decide) rfl rfl 5 (by decide) (hts (.fieldLink RX9 27 "DripStone$Ways" "furthest" "[I") (by decide +kernel)) (fun _ h9 => h9) rfl dX9_advance_73 ?_
            refine lv_iload_n hx hb dX9_advance_76 rfl (lv_at hl 3 rfl) ?_
            refine ht_iald (n := 12) (q := 0) hx hb hK hP hs t_4 (by decide) rfl rfl ⟨by omega, by omega⟩ dX9_advance_77 ?_
            refine lv_topi (fun zi_551 ezi_551 => ?_)
            obtain rfl : zi_5 = zi_551 := (ezi_551.trans ezi_5.symm).symm
            refine lv_isub hx hb dX9_advance_78 ?_
            refine lv_topi (fun zi_552 ezi_552 => ?_)
            have tzi_552 : zi_552.toInt = zi_196.toInt - zi_5.toInt := by rw [ezi_552]; exact tisub (rfl) (rfl) (by omega) (by omega)
            refine lv_iconst (v := 1) hx hb dX9_advance_79 (by decide) ?_
            refine lv_isub hx hb dX9_advance_80 ?_
            refine lv_topi (fun zi_553 ezi_553 => ?_)
            have tzi_553 : zi_553.toInt = zi_552.toInt - (1 : Int) := by rw [ezi_553]; exact tisub (rfl) (show (1 : Int32).toInt = 1 by decide) (by omega) (by omega)
            refine lv_iload_n hx hb dX9_advance_81 rfl (lv_at hl 3 rfl) ?_
            refine hj_l (ws := (WL cy zL zT zR zI zJ_197)) (w1 := fun (u : Unit) => (WL cy zL zT zR zI zJ_197)) (va_runV (As := [.ref zx1, .int zi_553, .int zip]) (rest := [.long zj_548, .long zj_195]) ⟨hx, hb, hml, hown, hts⟩ (t_X9_leaving l dC dI cy H.size zL zT zR zI zJ_197 zw zx1 zi_553 zip hs h_zI.1 t_zw t_zx1 (by omega) (by omega) (by omega)) (cwV 3 hts gX9_advance_X9_leaving rfl rfl rfl (by decide +kernel) ⟨(Nat.le_of_ble_eq_true rfl), (Nat.le_of_ble_eq_true rfl)⟩) (PRE.v hP hK hD hN (ht_recv hK hP hs t_zw (by decide) rfl rfl)) rfl rfl hl.1 rfl (lv_room (Nat.le_of_ble_eq_true rfl)) dX9_advance_82 ⟨(Nat.le_of_ble_eq_true rfl), (Nat.le_of_ble_eq_true rfl)⟩) hP hD hS hA (fun zj_554 u_556 H locs hw_555 hP hD hS => ?_)
            refine lv_lsub hx hb dX9_advance_85 ?_
            refine lv_topl (fun zj_557 ezj_557 => ?_)
            refine lv_ladd hx hb dX9_advance_86 ?_
            refine lv_topl (fun zj_558 ezj_558 => ?_)
            refine lv_lstore (lv' := [(7, .long zj_558), (0, .ref zw), (1, .ref zx1), (2, .ref zx2), (3, .int zip), (4, .ref zx3), (5, .int zi_3), (6, .int zi_8), (9, .int zi_196)]) hx hb dX9_advance_87 hl (by decide) rfl (fun ls hl => ?_)
            exact jn_456 zj_558 _ _ _  hP hD hS (lv_sub hl [1, 2, 3, 4, 5, 6, 7, 0, 8] rfl)
    exact lp_436 _ (0 : Int64) zi_10 zJ _ _ _ rfl (by omega) hP hD hS (lv_sub hl [3, 4, 5, 6, 7, 8, 2, 1, 0] rfl)
  refine lv_icmp_gt (tgt := 27) hx hb dX9_advance_20 (by decide) (fun c_559 => ?_) (fun c_559 => ?_)
  · have f_560 : zi_3.toInt > zi_5.toInt := ic_gt (rfl) (rfl) c_559
    refine lv_iconst (v := 0) hx hb dX9_advance_27 (by decide) ?_
    exact jn_9 (0 : Int32) _ _ _ (by decide) hP hD hS (lv_sub hl [1, 2, 3, 4, 5, 0] rfl)
  · have f_560 : ¬ (zi_3.toInt > zi_5.toInt) := ic_ngt (rfl) (rfl) c_559
    refine lv_iconst (v := 1) hx hb dX9_advance_23 (by decide) ?_
    refine lv_goto (tgt := 28) hx hb dX9_advance_24 (by decide) ?_
    exact jn_9 (1 : Int32) _ _ _ (by decide) hP hD hS (lv_sub hl [1, 2, 3, 4, 5, 0] rfl)
set_option maxHeartbeats 8000000 in
set_option maxRecDepth 100000 in
theorem t_X9_retreat (l : Launch) (dC : Nat → ClassId) (dI : Nat → Nat → Nat) (cy : Nat → ClassId) (sz : Nat) (zL : List Nat) (zT : Nat → Nat) (zR : Nat → Nat → Nat) (zI : Nat → Nat → Int32) (zJ : Nat → Nat → Int64) (zw : Nat) (zx1 : Nat) (zx2 : Nat) (zip : Int32) (hs : SKP zL zT zR) (hw : WT zT zR zI) (t_zw : zT zw = 10) (t_zx1 : zT zx1 = 50) (t_zx2 : zT zx2 = 50) (b_zip : 0 ≤ zip.toInt ∧ zip.toInt ≤ 11) : Met l yX9_retreat wsX9_retreat ({ frames := 2, cells := 0, slots := 0, locals := 45 } : Room) (va_Pc [.ref zw, .ref zx1, .ref zx2, .int zip] (PRE dC dI cy (WL cy zL zT zR zI zJ) sz)) (va_Qv (fun (u : (Nat → Nat → Int64)) => True) (fun u t => POST dC dI cy (va_A (WL cy zL zT zR zI zJ) sz) (WL cy zL zT zR zI u) t) (va_A (WL cy zL zT zR zI zJ) sz)) 0 0 (va_A (WL cy zL zT zR zI zJ) sz) := by
  refine Met.ofW (cc := cX9_retreat) (maxL := 14) (ret := none) (by decide) rfl ?_
  intro p e s m args below meth c s₁ B hml hv
  obtain ⟨rfl, hsz, hP, hK, hD0, hN⟩ := hv
  have hx := B.exec
  have hb := B.bytes
  have hr := B.returns
  have hts := atoms_spec (ws := wsX9_retreat) B.pre
  have hown : s.vm.findClass RX9 = some m.cls := findClass_of_methodNamed B.named
  have hlocks := B.notSynchronized
  subst hsz
  have hD := hD0.self (sz := s.heap.size)
  generalize hAe : va_A (WL cy zL zT zR zI zJ) s.heap.size = A at hD ⊢
  have hA : ∀ q : Nat, s.heap.size ≤ q → A q := fun q h => by rw [← hAe]; exact Or.inr h
  have hS : va_S A s.heap s.heap [] := va_S.rf
  have hP : va_P (dC, dI) vwCl (WL cy zL zT zR zI zJ) s.heap := hP
  have hl := lv_entry ([.ref zw, .ref zx1, .ref zx2, .int zip] : List Value) (n := 14) (Nat.le_of_ble_eq_true rfl)
  rw [lg_entry_eq]
  generalize (lg_sl ([.ref zw, .ref zx1, .ref zx2, .int zip] : List Value) ++ List.replicate (14 - (lg_sl ([.ref zw, .ref zx1, .ref zx2, .int zip] : List Value)).length) Slot.unset).toArray = ls at hl ⊢
  have hl : lv_has ls 14 [(0, .ref zw), (1, .ref zx1), (2, .ref zx2), (3, .int zip)] := hl
  refine w_q (fun Q hQ => ?_)
  have h_zI : WM [] AL zT zR zI zI := WM.rf hw
  refine lv_iconst (v := 1) hx hb dX9_retreat_0 (by decide) ?_
  refine lv_aload_n hx hb dX9_retreat_1 rfl (lv_at hl 0 rfl) ?_
  refine ht_getr (C := RX9) (T := TX9) (N := 16) hx hb hts (by decide +kernel) hown hK hP hs t_zw (by decide) rfl rfl 4 (by decide) (hts (.fieldLink RX9 24 "DripStone$Ways" "least" "[I") (by decide +kernel)) (fun _ h9 => h9) rfl dX9_retreat_2 ?_
  have t_1 : zT (zR zw 4) = 40 := sk_f hs t_zw (by decide) rfl (by decide)
  refine lv_iload_n hx hb dX9_retreat_5 rfl (lv_at hl 3 rfl) ?_
  refine ht_iald (n := 12) (q := 0) hx hb hK hP hs t_1 (by decide) rfl rfl ⟨by omega, by omega⟩ dX9_retreat_6 ?_
  refine lv_topi (fun zi_2 ezi_2 => ?_)
  have tzi_2 : 0 ≤ zi_2.toInt ∧ zi_2.toInt ≤ 20 := by rw [ezi_2]; exact h_zI.at t_1 _ rfl
  refine va_mmax hx hb (by rw [hml]; exact hl.1.symm) hown (hts (.methodLink RX9 102 Lib.Math.max.name) (by decide +kernel)) (hts (.static Lib.Math.max.name) (by decide +kernel)) (hts (.initialized "java/lang/Math") (by decide +kernel)) (hts (.code Lib.Math.max.name Lib.Math.max.code 2 (some .int)) (by decide +kernel)) (Nat.le_of_ble_eq_true rfl) (Nat.le_of_ble_eq_true rfl) (Nat.le_of_ble_eq_true rfl) (Nat.le_of_ble_eq_true rfl) dX9_retreat_7 ?_
  refine lv_topi (fun zi_3 ezi_3 => ?_)
  have tzi_3 : ((1 : Int) < zi_2.toInt → zi_3.toInt = zi_2.toInt) ∧ (¬ (1 : Int) < zi_2.toInt → zi_3.toInt = (1 : Int)) := mx_s ezi_3 (show (1 : Int32).toInt = 1 by decide) (rfl)
  refine lv_istore (lv' := [(4, .int zi_3), (0, .ref zw), (1, .ref zx1), (2, .ref zx2), (3, .int zip)]) hx hb dX9_retreat_10 hl (by decide) rfl (fun ls hl => ?_)
  refine lv_iload hx hb dX9_retreat_12 (lv_at hl 0 rfl) ?_
  refine lv_aload_n hx hb dX9_retreat_14 rfl (lv_at hl 1 rfl) ?_
  refine ht_getr (C := RX9) (T := TX9) (N := 16) hx hb hts (by decide +kernel) hown hK hP hs t_zw (by decide) rfl rfl 5 (by decide) (hts (.fieldLink RX9 27 "DripStone$Ways" "furthest" "[I") (by decide +kernel)) (fun _ h9 => h9) rfl dX9_retreat_15 ?_
  have t_4 : zT (zR zw 5) = 39 := sk_f hs t_zw (by decide) rfl (by decide)
  refine lv_iload_n hx hb dX9_retreat_18 rfl (lv_at hl 4 rfl) ?_
  refine ht_iald (n := 12) (q := 0) hx hb hK hP hs t_4 (by decide) rfl rfl ⟨by omega, by omega⟩ dX9_retreat_19 ?_
  refine lv_topi (fun zi_5 ezi_5 => ?_)
  have tzi_5 : 0 ≤ zi_5.toInt ∧ zi_5.toInt ≤ 23 := by rw [ezi_5]; exact h_zI.at t_4 _ rfl
  have jn_9 : ∀ (zi_8 : Int32) (H : Heap) (locs : List Loc) (ls : Array Slot), (0 ≤ zi_8.toInt ∧ zi_8.toInt ≤ 1) → va_P (dC, dI) vwCl (WL cy zL zT zR zI zJ) H → va_D A (WL cy zL zT zR zI zJ) → va_S A s.heap H locs → lv_has ls 14 [(0, .ref zw), (1, .ref zx1), (2, .ref zx2), (3, .int zip), (4, .int zi_3)] → W p l e ({ frames := 2, cells := 0, slots := 0, locals := 45 } : Room) s m ([.ref zw, .ref zx1, .ref zx2, .int zip] : List Value).toArray below meth c H locs 0 0 Q (F0 m 28 ls [.int zi_8]) := by
    intro zi_8 H locs ls b_zi_8 hP hD hS hl
    refine lv_istore (lv' := [(5, .int zi_8), (0, .ref zw), (1, .ref zx1), (2, .ref zx2), (3, .int zip), (4, .int zi_3)]) hx hb dX9_retreat_28 hl (by decide) rfl (fun ls hl => ?_)
    refine lv_lconst (v := 0) hx hb dX9_retreat_30 (by decide) ?_
    refine lv_lstore (lv' := [(6, .long 0), (5, .int zi_8), (0, .ref zw), (1, .ref zx1), (2, .ref zx2), (3, .int zip), (4, .int zi_3)]) hx hb dX9_retreat_31 hl (by decide) rfl (fun ls hl => ?_)
    refine lv_bipush (v := 23) hx hb dX9_retreat_33 (by decide) ?_
    refine lv_istore (lv' := [(8, .int 23), (6, .long 0), (5, .int zi_8), (0, .ref zw), (1, .ref zx1), (2, .ref zx2), (3, .int zip), (4, .int zi_3)]) hx hb dX9_retreat_35 hl (by decide) rfl (fun ls hl => ?_)
    have lp_1209 : ∀ (n : Nat) (zj_991 : Int64) (zi_992 : Int32) (zJ_993 : Nat → Nat → Int64) (H : Heap) (locs : List Loc) (ls : Array Slot), (zi_992.toInt + 1).toNat = n → ((-1) ≤ zi_992.toInt ∧ zi_992.toInt ≤ 23) → va_P (dC, dI) vwCl (WL cy zL zT zR zI zJ_993) H → va_D A (WL cy zL zT zR zI zJ_993) → va_S A s.heap H locs → lv_has ls 14 [(0, .ref zw), (1, .ref zx1), (2, .ref zx2), (3, .int zip), (4, .int zi_3), (5, .int zi_8), (6, .long zj_991), (8, .int zi_992)] → W p l e ({ frames := 2, cells := 0, slots := 0, locals := 45 } : Room) s m ([.ref zw, .ref zx1, .ref zx2, .int zip] : List Value).toArray below meth c H locs 0 0 Q (F0 m 37 ls []) := by
      intro n
      induction n using Nat.strongRecOn with
      | _ n ih_1209 =>
        intro zj_991 zi_992 zJ_993 H locs ls hn b_zi_992 hP hD hS hl
        refine lv_iload hx hb dX9_retreat_37 (lv_at hl 7 rfl) ?_
        refine lv_if_lt (tgt := 205) hx hb dX9_retreat_39 (by decide) (fun c_1210 => ?_) (fun c_1210 => ?_)
        · have f_1211 : zi_992.toInt < 0 := ic_lt (rfl) (by decide) c_1210
          subst hQ
          exact W.vret hx hb hr (fun t ht hW => ⟨⟨zJ_993, rfl, trivial, ⟨by rw [ht]; exact hP, va_K.moved hW.alike hK, hD⟩⟩, hS.F ht⟩) hS.2.2 dX9_retreat_205
        · have f_1211 : ¬ (zi_992.toInt < 0) := ic_nlt (rfl) (by decide) c_1210
          refine lv_iload hx hb dX9_retreat_42 (lv_at hl 5 rfl) ?_
          have jn_1227 : ∀ (zj_1226 : Int64) (H : Heap) (locs : List Loc) (ls : Array Slot), va_P (dC, dI) vwCl (WL cy zL zT zR zI zJ_993) H → va_D A (WL cy zL zT zR zI zJ_993) → va_S A s.heap H locs → lv_has ls 14 [(0, .ref zw), (1, .ref zx1), (2, .ref zx2), (3, .int zip), (4, .int zi_3), (5, .int zi_8), (6, .long zj_1226), (8, .int zi_992)] → W p l e ({ frames := 2, cells := 0, slots := 0, locals := 45 } : Room) s m ([.ref zw, .ref zx1, .ref zx2, .int zip] : List Value).toArray below meth c H locs 0 0 Q (F0 m 81 ls []) := by
            intro zj_1226 H locs ls  hP hD hS hl
            refine lv_aload_n hx hb dX9_retreat_81 rfl (lv_at hl 0 rfl) ?_
            refine ht_getr (C := RX9) (T := TX9) (N := 16) hx hb hts (by decide +kernel) hown hK hP hs t_zw (by decide) rfl rfl 4 (by decide) (hts (.fieldLink RX9 24 "DripStone$Ways" "least" "[I") (by decide +kernel)) (fun _ h9 => h9) rfl dX9_retreat_82 ?_
            refine lv_iload_n hx hb dX9_retreat_85 rfl (lv_at hl 3 rfl) ?_
            refine ht_iald (n := 12) (q := 0) hx hb hK hP hs t_1 (by decide) rfl rfl ⟨by omega, by omega⟩ dX9_retreat_86 ?_
            refine lv_topi (fun zi_1228 ezi_1228 => ?_)
            obtain rfl : zi_2 = zi_1228 := (ezi_1228.trans ezi_2.symm).symm
            have jn_1303 : ∀  (H : Heap) (locs : List Loc) (ls : Array Slot), va_P (dC, dI) vwCl (WL cy zL zT zR zI zJ_993) H → va_D A (WL cy zL zT zR zI zJ_993) → va_S A s.heap H locs → lv_has ls 14 [(0, .ref zw), (1, .ref zx1), (2, .ref zx2), (3, .int zip), (4, .int zi_3), (5, .int zi_8), (6, .long zj_1226), (8, .int zi_992)] → W p l e ({ frames := 2, cells := 0, slots := 0, locals := 45 } : Room) s m ([.ref zw, .ref zx1, .ref zx2, .int zip] : List Value).toArray below meth c H locs 0 0 Q (F0 m 114 ls []) := by
              intro  H locs ls  hP hD hS hl
              refine lv_iconst (v := 0) hx hb dX9_retreat_114 (by decide) ?_
              refine lv_istore (lv' := [(9, .int 0), (0, .ref zw), (1, .ref zx1), (2, .ref zx2), (3, .int zip), (4, .int zi_3), (5, .int zi_8), (6, .long zj_1226), (8, .int zi_992)]) hx hb dX9_retreat_115 hl (by decide) rfl (fun ls hl => ?_)
              refine lv_iconst (v := 0) hx hb dX9_retreat_117 (by decide) ?_
              refine lv_istore (lv' := [(10, .int 0), (9, .int 0), (0, .ref zw), (1, .ref zx1), (2, .ref zx2), (3, .int zip), (4, .int zi_3), (5, .int zi_8), (6, .long zj_1226), (8, .int zi_992)]) hx hb dX9_retreat_118 hl (by decide) rfl (fun ls hl => ?_)
              have lp_1322 : ∀ (n : Nat) (zi_1304 : Int32) (zJ_1305 : Nat → Nat → Int64) (H : Heap) (locs : List Loc) (ls : Array Slot), (4 - zi_1304.toInt).toNat = n → (0 ≤ zi_1304.toInt ∧ zi_1304.toInt ≤ 4) → va_P (dC, dI) vwCl (WL cy zL zT zR zI zJ_1305) H → va_D A (WL cy zL zT zR zI zJ_1305) → va_S A s.heap H locs → lv_has ls 14 [(0, .ref zw), (1, .ref zx1), (2, .ref zx2), (3, .int zip), (4, .int zi_3), (5, .int zi_8), (6, .long zj_1226), (8, .int zi_992), (9, .int 0), (10, .int zi_1304)] → W p l e ({ frames := 2, cells := 0, slots := 0, locals := 45 } : Room) s m ([.ref zw, .ref zx1, .ref zx2, .int zip] : List Value).toArray below meth c H locs 0 0 Q (F0 m 120 ls []) := by
                intro n
                induction n using Nat.strongRecOn with
                | _ n ih_1322 =>
                  intro zi_1304 zJ_1305 H locs ls hn b_zi_1304 hP hD hS hl
                  refine lv_iload hx hb dX9_retreat_120 (lv_at hl 9 rfl) ?_
                  refine lv_aload_n hx hb dX9_retreat_122 rfl (lv_at hl 0 rfl) ?_
                  refine ht_geti (C := RX9) (T := TX9) (N := 16) hx hb hts (by decide +kernel) hown hK hP hs t_zw (by decide) rfl rfl 13 (by decide) (hts (.fieldLink RX9 60 "DripStone$Ways" "most" "I") (by decide +kernel)) (fun _ h9 => h9) rfl dX9_retreat_123 ?_
                  refine lv_topi (fun zi_1323 ezi_1323 => ?_)
                  have tzi_1323 : 0 ≤ zi_1323.toInt ∧ zi_1323.toInt ≤ 4 := by rw [ezi_1323]; exact h_zI.at t_zw _ rfl
                  refine lv_icmp_ge (tgt := 199) hx hb dX9_retreat_126 (by decide) (fun c_1324 => ?_) (fun c_1324 => ?_)
                  · have f_1325 : zi_1304.toInt ≥ zi_1323.toInt := ic_ge (rfl) (rfl) c_1324
                    obtain ⟨zi_1326, ezi_1326⟩ : ∃ y : Int32, y = zi_992 + (-1) := ⟨_, rfl⟩
                    have tzi_1326 : zi_1326.toInt = zi_992.toInt + (-1) := by rw [ezi_1326]; exact tadd rfl (show ((-1) : Int32).toInt = -1 by decide) (by omega) (by omega)
                    refine lv_iinc (v := zi_1326) (lv' := [(8, .int zi_1326), (0, .ref zw), (1, .ref zx1), (2, .ref zx2), (3, .int zip), (4, .int zi_3), (5, .int zi_8), (6, .long zj_1226), (9, .int 0), (10, .int zi_1304)]) hx hb dX9_retreat_199 hl (k := 7) rfl (by rw [ezi_1326]; rfl) (by decide) rfl (fun ls hl => ?_)
                    refine lv_goto (tgt := 37) hx hb dX9_retreat_202 (by decide) ?_
                    exact ih_1209 (zi_1326.toInt + 1).toNat (by omega) zj_1226 zi_1326 zJ_1305 _ _ _ rfl (by omega) hP hD hS (lv_sub hl [1, 2, 3, 4, 5, 6, 7, 0] rfl)
                  · have f_1325 : ¬ (zi_1304.toInt ≥ zi_1323.toInt) := ic_nge (rfl) (rfl) c_1324
                    refine lv_iload hx hb dX9_retreat_129 (lv_at hl 7 rfl) ?_
                    refine lv_iconst (v := 4) hx hb dX9_retreat_131 (by decide) ?_
                    refine lv_imul hx hb dX9_retreat_132 ?_
                    refine lv_topi (fun zi_1327 ezi_1327 => ?_)
                    have tzi_1327 : zi_1327.toInt = zi_992.toInt * (4 : Int) := by rw [ezi_1327]; exact timul (rfl) (show (4 : Int32).toInt = 4 by decide) (by omega) (by omega)
                    refine lv_iload hx hb dX9_retreat_133 (lv_at hl 9 rfl) ?_
                    refine lv_iadd hx hb dX9_retreat_135 ?_
                    refine lv_topi (fun zi_1328 ezi_1328 => ?_)
                    have tzi_1328 : zi_1328.toInt = zi_1327.toInt + zi_1304.toInt := by rw [ezi_1328]; exact tiadd (rfl) (rfl) (by omega) (by omega)
                    refine lv_istore (lv' := [(11, .int zi_1328), (0, .ref zw), (1, .ref zx1), (2, .ref zx2), (3, .int zip), (4, .int zi_3), (5, .int zi_8), (6, .long zj_1226), (8, .int zi_992), (9, .int 0), (10, .int zi_1304)]) hx hb dX9_retreat_136 hl (by decide) rfl (fun ls hl => ?_)
                    refine lv_iload hx hb dX9_retreat_138 (lv_at hl 10 rfl) ?_
                    refine lv_iconst (v := 1) hx hb dX9_retreat_140 (by decide) ?_
                    refine lv_iadd hx hb dX9_retreat_141 ?_
                    refine lv_topi (fun zi_1329 ezi_1329 => ?_)
                    have tzi_1329 : zi_1329.toInt = zi_1304.toInt + (1 : Int) := by rw [ezi_1329]; exact tiadd (rfl) (show (1 : Int32).toInt = 1 by decide) (by omega) (by omega)
                    refine lv_aload_n hx hb dX9_retreat_142 rfl (lv_at hl 1 rfl) ?_
                    refine ht_getr (C := RX9) (T := TX9) (N := 16) hx hb hts (by decide +kernel) hown hK hP hs t_zw (by decide) rfl rfl 6 (by decide) (hts (.fieldLink RX9 30 "DripStone$Ways" "needed" "[I") (by decide +kernel)) (fun _ h9 => h9) rfl dX9_retreat_143 ?_
                    have t_1330 : zT (zR zw 6) = 42 := sk_f hs t_zw (by decide) rfl (by decide)
                    refine lv_iload_n hx hb dX9_retreat_146 rfl (lv_at hl 4 rfl) ?_
                    refine ht_iald (n := 12) (q := 0) hx hb hK hP hs t_1330 (by decide) rfl rfl ⟨by omega, by omega⟩ dX9_retreat_147 ?_
                    refine lv_topi (fun zi_1331 ezi_1331 => ?_)
                    have tzi_1331 : 0 ≤ zi_1331.toInt ∧ zi_1331.toInt ≤ 20 := by rw [ezi_1331]; exact h_zI.at t_1330 _ rfl
                    have jn_1335 : ∀ (zj_1334 : Int64) (H : Heap) (locs : List Loc) (ls : Array Slot), va_P (dC, dI) vwCl (WL cy zL zT zR zI zJ_1305) H → va_D A (WL cy zL zT zR zI zJ_1305) → va_S A s.heap H locs → lv_has ls 14 [(0, .ref zw), (1, .ref zx1), (2, .ref zx2), (3, .int zip), (4, .int zi_3), (5, .int zi_8), (6, .long zj_1226), (8, .int zi_992), (9, .int 0), (10, .int zi_1304), (11, .int zi_1328)] → W p l e ({ frames := 2, cells := 0, slots := 0, locals := 45 } : Room) s m ([.ref zw, .ref zx1, .ref zx2, .int zip] : List Value).toArray below meth c H locs 0 0 Q (F0 m 157 ls [.long zj_1334]) := by
                      intro zj_1334 H locs ls  hP hD hS hl
                      refine lv_lstore (lv' := [(12, .long zj_1334), (0, .ref zw), (1, .ref zx1), (2, .ref zx2), (3, .int zip), (4, .int zi_3), (5, .int zi_8), (6, .long zj_1226), (8, .int zi_992), (9, .int 0), (10, .int zi_1304), (11, .int zi_1328)]) hx hb dX9_retreat_157 hl (by decide) rfl (fun ls hl => ?_)
                      refine lv_aload_n hx hb dX9_retreat_159 rfl (lv_at hl 3 rfl) ?_
                      refine lv_iload hx hb dX9_retreat_160 (lv_at hl 11 rfl) ?_
                      refine lv_iload hx hb dX9_retreat_162 (lv_at hl 9 rfl) ?_
                      refine lv_if_eq (tgt := 190) hx hb dX9_retreat_164 (by decide) (fun c_1336 => ?_) (fun c_1336 => absurd (by decide) c_1336)
                      refine lv_lload hx hb dX9_retreat_190 (lv_at hl 0 rfl) ?_
                      refine ht_last (v := zj_1334) (n := 96) (q := 1) hx hb hK hP hD hS hs t_zx2 (by decide) rfl rfl ⟨by omega, by omega⟩ dX9_retreat_192 (fun H locs hP hD hS => ?_)
                      generalize uzJ_1337 : u2 zJ_1305 zx2 zi_1328.toNatClampNeg zj_1334 = zJ_1337 at hP hD
                      obtain ⟨zi_1338, ezi_1338⟩ : ∃ y : Int32, y = zi_1304 + 1 := ⟨_, rfl⟩
                      have tzi_1338 : zi_1338.toInt = zi_1304.toInt + 1 := by rw [ezi_1338]; exact tadd rfl (show (1 : Int32).toInt = 1 by decide) (by omega) (by omega)
                      refine lv_iinc (v := zi_1338) (lv' := [(10, .int zi_1338), (12, .long zj_1334), (0, .ref zw), (1, .ref zx1), (2, .ref zx2), (3, .int zip), (4, .int zi_3), (5, .int zi_8), (6, .long zj_1226), (8, .int zi_992), (9, .int 0), (11, .int zi_1328)]) hx hb dX9_retreat_193 hl (k := 10) rfl (by rw [ezi_1338]; rfl) (by decide) rfl (fun ls hl => ?_)
                      refine lv_goto (tgt := 120) hx hb dX9_retreat_196 (by decide) ?_
                      exact ih_1322 (4 - zi_1338.toInt).toNat (by omega) zi_1338 zJ_1337 _ _ _ rfl (by omega) hP hD hS (lv_sub hl [2, 3, 4, 5, 6, 7, 8, 9, 10, 0] rfl)
                    refine lv_icmp_lt (tgt := 156) hx hb dX9_retreat_148 (by decide) (fun c_1339 => ?_) (fun c_1339 => ?_)
                    · have f_1340 : zi_1329.toInt < zi_1331.toInt := ic_lt (rfl) (rfl) c_1339
                      refine lv_lconst (v := 0) hx hb dX9_retreat_156 (by decide) ?_
                      exact jn_1335 (0 : Int64) _ _ _  hP hD hS (lv_sub hl [1, 2, 3, 4, 5, 6, 7, 8, 9, 10, 0] rfl)
                    · have f_1340 : ¬ (zi_1329.toInt < zi_1331.toInt) := ic_nlt (rfl) (rfl) c_1339
                      refine lv_lload hx hb dX9_retreat_151 (lv_at hl 7 rfl) ?_
                      refine lv_goto (tgt := 157) hx hb dX9_retreat_153 (by decide) ?_
                      exact jn_1335 zj_1226 _ _ _  hP hD hS (lv_sub hl [1, 2, 3, 4, 5, 6, 7, 8, 9, 10, 0] rfl)
              exact lp_1322 _ (0 : Int32) zJ_993 _ _ _ rfl (by decide) hP hD hS (lv_sub hl [2, 3, 4, 5, 6, 7, 8, 9, 1, 0] rfl)
            refine lv_if_ne (tgt := 114) hx hb dX9_retreat_87 (by decide) (fun c_1341 => ?_) (fun c_1341 => ?_)
            · have f_1342 : zi_2.toInt ≠ 0 := ic_ne (rfl) (by decide) c_1341
              exact jn_1303  _ _ _  hP hD hS (lv_sub hl [0, 1, 2, 3, 4, 5, 6, 7] rfl)
            · have f_1342 : ¬ (zi_2.toInt ≠ 0) := ic_nne (rfl) (by decide) c_1341
              refine lv_iload hx hb dX9_retreat_90 (lv_at hl 7 rfl) ?_
              refine lv_aload_n hx hb dX9_retreat_92 rfl (lv_at hl 0 rfl) ?_
              refine ht_getr (C := RX9) (T := TX9) (N := 16) hx hb hts (by decide +kernel) hown hK hP hs t_zw (by decide) rfl rfl 2 (by decide) (hts (.fieldLink RX9 18 "DripStone$Ways" "earliest" "[I") (by decide +kernel)) (fun _ h9 => h9) rfl dX9_retreat_93 ?_
              have t_1343 : zT (zR zw 2) = 39 := sk_f hs t_zw (by decide) rfl (by decide)
              refine lv_iload_n hx hb dX9_retreat_96 rfl (lv_at hl 3 rfl) ?_
              refine ht_iald (n := 12) (q := 0) hx hb hK hP hs t_1343 (by decide) rfl rfl ⟨by omega, by omega⟩ dX9_retreat_97 ?_
              refine lv_topi (fun zi_1344 ezi_1344 => ?_)
              have tzi_1344 : 0 ≤ zi_1344.toInt ∧ zi_1344.toInt ≤ 23 := by rw [ezi_1344]; exact h_zI.at t_1343 _ rfl
              refine lv_aload_n hx hb dX9_retreat_98 rfl (lv_at hl 0 rfl) ?_
              refine ht_getr (C := RX9) (T := TX9) (N := 16) hx hb hts (by decide +kernel) hown hK hP hs t_zw (by decide) rfl rfl 3 (by decide) (hts (.fieldLink RX9 21 "DripStone$Ways" "latest" "[I") (by decide +kernel)) (fun _ h9 => h9) rfl dX9_retreat_99 ?_
              have t_1345 : zT (zR zw 3) = 39 := sk_f hs t_zw (by decide) rfl (by decide)
              refine lv_iload_n hx hb dX9_retreat_102 rfl (lv_at hl 3 rfl) ?_
              refine ht_iald (n := 12) (q := 0) hx hb hK hP hs t_1345 (by decide) rfl rfl ⟨by omega, by omega⟩ dX9_retreat_103 ?_
              refine lv_topi (fun zi_1346 ezi_1346 => ?_)
              have tzi_1346 : 0 ≤ zi_1346.toInt ∧ zi_1346.toInt ≤ 23 := by rw [ezi_1346]; exact h_zI.at t_1345 _ rfl
              refine hj0_i (ws := (WL cy zL zT zR zI zJ_993)) (va_runSN (As := [.int zi_992, .int zi_1344, .int zi_1346]) (rest := []) ⟨hx, hb, hml, hown, hts⟩ (c_X10_isWithin l dC dI cy H.size zi_992 zi_1344 zi_1346 zi_1344.toInt zi_1346.toInt (by first | rfl | decide | omega | exact Int32.toInt_toInt64 _) (by first | rfl | decide | omega | exact Int32.toInt_toInt64 _)) ⟨va_cnB 3 hts ggX9_retreat_X10_isWithin rfl rfl rfl (n0_23 hN) (hts (.initialized RX10) (by decide +kernel)) (by decide +kernel) ⟨(Nat.le_of_ble_eq_true rfl), (Nat.le_of_ble_eq_true rfl)⟩, hts (.static yX10_isWithin) (by decide +kernel), trivial⟩ (PRE.s (hP.sub [] rfl) hK (hD.sub [] (by decide) rfl) hN) rfl rfl hl.1 rfl (lv_room (Nat.le_of_ble_eq_true rfl)) dX9_retreat_104 ⟨(Nat.le_of_ble_eq_true rfl), (Nat.le_of_ble_eq_true rfl)⟩) hP hD hS hA (fun zi_1347 u_1349 H locs hw_1348 hP hD hS => ?_)
              have hw_1348 : zi_1347 = if zi_1344.toInt ≤ zi_992.toInt ∧ zi_992.toInt ≤ zi_1346.toInt then 1 else 0 := hw_1348
              have b_zi_1347 : 0 ≤ zi_1347.toInt ∧ zi_1347.toInt ≤ 1 := bz_b hw_1348
              refine lv_if_eq (tgt := 114) hx hb dX9_retreat_107 (by decide) (fun c_1352 => ?_) (fun c_1352 => ?_)
              · have f_1353 : ¬ (zi_1344.toInt ≤ zi_992.toInt ∧ zi_992.toInt ≤ zi_1346.toInt) := bz_0 hw_1348 c_1352
                exact jn_1303  _ _ _  hP hD hS (lv_sub hl [0, 1, 2, 3, 4, 5, 6, 7] rfl)
              · have f_1353 : zi_1344.toInt ≤ zi_992.toInt ∧ zi_992.toInt ≤ zi_1346.toInt := bz_1 hw_1348 c_1352
                refine lv_iconst (v := 1) hx hb dX9_retreat_110 (by decide) ?_
                refine lv_goto (tgt := 115) hx hb dX9_retreat_111 (by decide) ?_
                refine lv_istore (lv' := [(9, .int 1), (0, .ref zw), (1, .ref zx1), (2, .ref zx2), (3, .int zip), (4, .int zi_3), (5, .int zi_8), (6, .long zj_1226), (8, .int zi_992)]) hx hb dX9_retreat_115 hl (by decide) rfl (fun ls hl => ?_)
                refine lv_iconst (v := 0) hx hb dX9_retreat_117 (by decide) ?_
                refine lv_istore (lv' := [(10, .int 0), (9, .int 1), (0, .ref zw), (1, .ref zx1), (2, .ref zx2), (3, .int zip), (4, .int zi_3), (5, .int zi_8), (6, .long zj_1226), (8, .int zi_992)]) hx hb dX9_retreat_118 hl (by decide) rfl (fun ls hl => ?_)
                have lp_1385 : ∀ (n : Nat) (zi_1354 : Int32) (zJ_1355 : Nat → Nat → Int64) (H : Heap) (locs : List Loc) (ls : Array Slot), (4 - zi_1354.toInt).toNat = n → (0 ≤ zi_1354.toInt ∧ zi_1354.toInt ≤ 4) → va_P (dC, dI) vwCl (WL cy zL zT zR zI zJ_1355) H → va_D A (WL cy zL zT zR zI zJ_1355) → va_S A s.heap H locs → lv_has ls 14 [(0, .ref zw), (1, .ref zx1), (2, .ref zx2), (3, .int zip), (4, .int zi_3), (5, .int zi_8), (6, .long zj_1226), (8, .int zi_992), (9, .int 1), (10, .int zi_1354)] → W p l e ({ frames := 2, cells := 0, slots := 0, locals := 45 } : Room) s m ([.ref zw, .ref zx1, .ref zx2, .int zip] : List Value).toArray below meth c H locs 0 0 Q (F0 m 120 ls []) := by
                  intro n
                  induction n using Nat.strongRecOn with
                  | _ n ih_1385 =>
                    intro zi_1354 zJ_1355 H locs ls hn b_zi_1354 hP hD hS hl
                    refine lv_iload hx hb dX9_retreat_120 (lv_at hl 9 rfl) ?_
                    refine lv_aload_n hx hb dX9_retreat_122 rfl (lv_at hl 0 rfl) ?_
                    refine ht_geti (C := RX9) (T := TX9) (N := 16) hx hb hts (by decide +kernel) hown hK hP hs t_zw (by decide) rfl rfl 13 (by decide) (hts (.fieldLink RX9 60 "DripStone$Ways" "most" "I") (by decide +kernel)) (fun _ h9 => h9) rfl dX9_retreat_123 ?_
                    refine lv_topi (fun zi_1386 ezi_1386 => ?_)
                    have tzi_1386 : 0 ≤ zi_1386.toInt ∧ zi_1386.toInt ≤ 4 := by rw [ezi_1386]; exact h_zI.at t_zw _ rfl
                    refine lv_icmp_ge (tgt := 199) hx hb dX9_retreat_126 (by decide) (fun c_1387 => ?_) (fun c_1387 => ?_)
                    · have f_1388 : zi_1354.toInt ≥ zi_1386.toInt := ic_ge (rfl) (rfl) c_1387
                      obtain ⟨zi_1389, ezi_1389⟩ : ∃ y : Int32, y = zi_992 + (-1) := ⟨_, rfl⟩
                      have tzi_1389 : zi_1389.toInt = zi_992.toInt + (-1) := by rw [ezi_1389]; exact tadd rfl (show ((-1) : Int32).toInt = -1 by decide) (by omega) (by omega)
                      refine lv_iinc (v := zi_1389) (lv' := [(8, .int zi_1389), (0, .ref zw), (1, .ref zx1), (2, .ref zx2), (3, .int zip), (4, .int zi_3), (5, .int zi_8), (6, .long zj_1226), (9, .int 1), (10, .int zi_1354)]) hx hb dX9_retreat_199 hl (k := 7) rfl (by rw [ezi_1389]; rfl) (by decide) rfl (fun ls hl => ?_)
                      refine lv_goto (tgt := 37) hx hb dX9_retreat_202 (by decide) ?_
                      exact ih_1209 (zi_1389.toInt + 1).toNat (by omega) zj_1226 zi_1389 zJ_1355 _ _ _ rfl (by omega) hP hD hS (lv_sub hl [1, 2, 3, 4, 5, 6, 7, 0] rfl)
                    · have f_1388 : ¬ (zi_1354.toInt ≥ zi_1386.toInt) := ic_nge (rfl) (rfl) c_1387
                      refine lv_iload hx hb dX9_retreat_129 (lv_at hl 7 rfl) ?_
                      refine lv_iconst (v := 4) hx hb dX9_retreat_131 (by decide) ?_
                      refine lv_imul hx hb dX9_retreat_132 ?_
                      refine lv_topi (fun zi_1390 ezi_1390 => ?_)
                      have tzi_1390 : zi_1390.toInt = zi_992.toInt * (4 : Int) := by rw [ezi_1390]; exact timul (rfl) (show (4 : Int32).toInt = 4 by decide) (by omega) (by omega)
                      refine lv_iload hx hb dX9_retreat_133 (lv_at hl 9 rfl) ?_
                      refine lv_iadd hx hb dX9_retreat_135 ?_
                      refine lv_topi (fun zi_1391 ezi_1391 => ?_)
                      have tzi_1391 : zi_1391.toInt = zi_1390.toInt + zi_1354.toInt := by rw [ezi_1391]; exact tiadd (rfl) (rfl) (by omega) (by omega)
                      refine lv_istore (lv' := [(11, .int zi_1391), (0, .ref zw), (1, .ref zx1), (2, .ref zx2), (3, .int zip), (4, .int zi_3), (5, .int zi_8), (6, .long zj_1226), (8, .int zi_992), (9, .int 1), (10, .int zi_1354)]) hx hb dX9_retreat_136 hl (by decide) rfl (fun ls hl => ?_)
                      refine lv_iload hx hb dX9_retreat_138 (lv_at hl 10 rfl) ?_
                      refine lv_iconst (v := 1) hx hb dX9_retreat_140 (by decide) ?_
                      refine lv_iadd hx hb dX9_retreat_141 ?_
                      refine lv_topi (fun zi_1392 ezi_1392 => ?_)
                      have tzi_1392 : zi_1392.toInt = zi_1354.toInt + (1 : Int) := by rw [ezi_1392]; exact tiadd (rfl) (show (1 : Int32).toInt = 1 by decide) (by omega) (by omega)
                      refine lv_aload_n hx hb dX9_retreat_142 rfl (lv_at hl 1 rfl) ?_
                      refine ht_getr (C := RX9) (T := TX9) (N := 16) hx hb hts (by decide +kernel) hown hK hP hs t_zw (by decide) rfl rfl 6 (by decide) (hts (.fieldLink RX9 30 "DripStone$Ways" "needed" "[I") (by decide +kernel)) (fun _ h9 => h9) rfl dX9_retreat_143 ?_
                      have t_1393 : zT (zR zw 6) = 42 := sk_f hs t_zw (by decide) rfl (by decide)
                      refine lv_iload_n hx hb dX9_retreat_146 rfl (lv_at hl 4 rfl) ?_
                      refine ht_iald (n := 12) (q := 0) hx hb hK hP hs t_1393 (by decide) rfl rfl ⟨by omega, by omega⟩ dX9_retreat_147 ?_
                      refine lv_topi (fun zi_1394 ezi_1394 => ?_)
                      have tzi_1394 : 0 ≤ zi_1394.toInt ∧ zi_1394.toInt ≤ 20 := by rw [ezi_1394]; exact h_zI.at t_1393 _ rfl
                      have jn_1398 : ∀ (zj_1397 : Int64) (H : Heap) (locs : List Loc) (ls : Array Slot), va_P (dC, dI) vwCl (WL cy zL zT zR zI zJ_1355) H → va_D A (WL cy zL zT zR zI zJ_1355) → va_S A s.heap H locs → lv_has ls 14 [(0, .ref zw), (1, .ref zx1), (2, .ref zx2), (3, .int zip), (4, .int zi_3), (5, .int zi_8), (6, .long zj_1226), (8, .int zi_992), (9, .int 1), (10, .int zi_1354), (11, .int zi_1391)] → W p l e ({ frames := 2, cells := 0, slots := 0, locals := 45 } : Room) s m ([.ref zw, .ref zx1, .ref zx2, .int zip] : List Value).toArray below meth c H locs 0 0 Q (F0 m 157 ls [.long zj_1397]) := by
                        intro zj_1397 H locs ls  hP hD hS hl
                        refine lv_lstore (lv' := [(12, .long zj_1397), (0, .ref zw), (1, .ref zx1), (2, .ref zx2), (3, .int zip), (4, .int zi_3), (5, .int zi_8), (6, .long zj_1226), (8, .int zi_992), (9, .int 1), (10, .int zi_1354), (11, .int zi_1391)]) hx hb dX9_retreat_157 hl (by decide) rfl (fun ls hl => ?_)
                        refine lv_aload_n hx hb dX9_retreat_159 rfl (lv_at hl 3 rfl) ?_
                        refine lv_iload hx hb dX9_retreat_160 (lv_at hl 11 rfl) ?_
                        refine lv_iload hx hb dX9_retreat_162 (lv_at hl 9 rfl) ?_
                        refine lv_if_eq (tgt := 190) hx hb dX9_retreat_164 (by decide) (fun c_1399 => absurd c_1399 (by decide)) (fun c_1399 => ?_)
                        refine lv_iload hx hb dX9_retreat_167 (lv_at hl 10 rfl) ?_
                        refine lv_iconst (v := 1) hx hb dX9_retreat_169 (by decide) ?_
                        refine lv_iadd hx hb dX9_retreat_170 ?_
                        refine lv_topi (fun zi_1400 ezi_1400 => ?_)
                        have tzi_1400 : zi_1400.toInt = zi_1354.toInt + (1 : Int) := by rw [ezi_1400]; exact tiadd (rfl) (show (1 : Int32).toInt = 1 by decide) (by omega) (by omega)
                        refine lv_aload_n hx hb dX9_retreat_171 rfl (lv_at hl 1 rfl) ?_
                        refine ht_geti (C := RX9) (T := TX9) (N := 16) hx hb hts (by decide +kernel) hown hK hP hs t_zw (by decide) rfl rfl 13 (by decide) (hts (.fieldLink RX9 60 "DripStone$Ways" "most" "I") (by decide +kernel)) (fun _ h9 => h9) rfl dX9_retreat_172 ?_
                        refine lv_topi (fun zi_1401 ezi_1401 => ?_)
                        obtain rfl : zi_1386 = zi_1401 := (ezi_1401.trans ezi_1386.symm).symm
                        have jn_1408 : ∀ (zj_1407 : Int64) (H : Heap) (locs : List Loc) (ls : Array Slot), va_P (dC, dI) vwCl (WL cy zL zT zR zI zJ_1355) H → va_D A (WL cy zL zT zR zI zJ_1355) → va_S A s.heap H locs → lv_has ls 14 [(0, .ref zw), (1, .ref zx1), (2, .ref zx2), (3, .int zip), (4, .int zi_3), (5, .int zi_8), (6, .long zj_1226), (8, .int zi_992), (9, .int 1), (10, .int zi_1354), (11, .int zi_1391), (12, .long zj_1397)] → W p l e ({ frames := 2, cells := 0, slots := 0, locals := 45 } : Room) s m ([.ref zw, .ref zx1, .ref zx2, .int zip] : List Value).toArray below meth c H locs 0 0 Q (F0 m 192 ls [.long zj_1407, .int zi_1391, .ref zx2]) := by
                          intro zj_1407 H locs ls  hP hD hS hl
                          refine ht_last (v := zj_1407) (n := 96) (q := 1) hx hb hK hP hD hS hs t_zx2 (by decide) rfl rfl ⟨by omega, by omega⟩ dX9_retreat_192 (fun H locs hP hD hS => ?_)
                          generalize uzJ_1409 : u2 zJ_1355 zx2 zi_1391.toNatClampNeg zj_1407 = zJ_1409 at hP hD
                          obtain ⟨zi_1410, ezi_1410⟩ : ∃ y : Int32, y = zi_1354 + 1 := ⟨_, rfl⟩
                          have tzi_1410 : zi_1410.toInt = zi_1354.toInt + 1 := by rw [ezi_1410]; exact tadd rfl (show (1 : Int32).toInt = 1 by decide) (by omega) (by omega)
                          refine lv_iinc (v := zi_1410) (lv' := [(10, .int zi_1410), (0, .ref zw), (1, .ref zx1), (2, .ref zx2), (3, .int zip), (4, .int zi_3), (5, .int zi_8), (6, .long zj_1226), (8, .int zi_992), (9, .int 1), (11, .int zi_1391), (12, .long zj_1397)]) hx hb dX9_retreat_193 hl (k := 9) rfl (by rw [ezi_1410]; rfl) (by decide) rfl (fun ls hl => ?_)
                          refine lv_goto (tgt := 120) hx hb dX9_retreat_196 (by decide) ?_
                          exact ih_1385 (4 - zi_1410.toInt).toNat (by omega) zi_1410 zJ_1409 _ _ _ rfl (by omega) hP hD hS (lv_sub hl [1, 2, 3, 4, 5, 6, 7, 8, 9, 0] rfl)
                        refine lv_icmp_ge (tgt := 190) hx hb dX9_retreat_175 (by decide) (fun c_1411 => ?_) (fun c_1411 => ?_)
                        · have f_1412 : zi_1400.toInt ≥ zi_1386.toInt := ic_ge (rfl) (rfl) c_1411
                          refine lv_lload hx hb dX9_retreat_190 (lv_at hl 0 rfl) ?_
                          exact jn_1408 zj_1397 _ _ _  hP hD hS (lv_sub hl [1, 2, 3, 4, 5, 6, 7, 8, 9, 10, 11, 0] rfl)
                        · have f_1412 : ¬ (zi_1400.toInt ≥ zi_1386.toInt) := ic_nge (rfl) (rfl) c_1411
                          refine lv_lload hx hb dX9_retreat_178 (lv_at hl 0 rfl) ?_
                          refine lv_aload_n hx hb dX9_retreat_180 rfl (lv_at hl 2 rfl) ?_
                          refine lv_iload hx hb dX9_retreat_181 (lv_at hl 11 rfl) ?_
                          refine lv_iconst (v := 1) hx hb dX9_retreat_183 (by decide) ?_
                          refine lv_iadd hx hb dX9_retreat_184 ?_
                          refine lv_topi (fun zi_1413 ezi_1413 => ?_)
                          have tzi_1413 : zi_1413.toInt = zi_1391.toInt + (1 : Int) := by rw [ezi_1413]; exact tiadd (rfl) (show (1 : Int32).toInt = 1 by decide) (by omega) (by omega)
                          refine ht_lald (n := 96) (q := 1) hx hb hK hP hs t_zx1 (by decide) rfl rfl ⟨by omega, by omega⟩ dX9_retreat_185 ?_
                          refine lv_topl (fun zj_1414 ezj_1414 => ?_)
                          refine lv_ladd hx hb dX9_retreat_186 ?_
                          refine lv_topl (fun zj_1415 ezj_1415 => ?_)
                          refine lv_goto (tgt := 192) hx hb dX9_retreat_187 (by decide) ?_
                          exact jn_1408 zj_1415 _ _ _  hP hD hS (lv_sub hl [1, 2, 3, 4, 5, 6, 7, 8, 9, 10, 11, 0] rfl)
                      refine lv_icmp_lt (tgt := 156) hx hb dX9_retreat_148 (by decide) (fun c_1416 => ?_) (fun c_1416 => ?_)
                      · have f_1417 : zi_1392.toInt < zi_1394.toInt := ic_lt (rfl) (rfl) c_1416
                        refine lv_lconst (v := 0) hx hb dX9_retreat_156 (by decide) ?_
                        exact jn_1398 (0 : Int64) _ _ _  hP hD hS (lv_sub hl [1, 2, 3, 4, 5, 6, 7, 8, 9, 10, 0] rfl)
                      · have f_1417 : ¬ (zi_1392.toInt < zi_1394.toInt) := ic_nlt (rfl) (rfl) c_1416
                        refine lv_lload hx hb dX9_retreat_151 (lv_at hl 7 rfl) ?_
                        refine lv_goto (tgt := 157) hx hb dX9_retreat_153 (by decide) ?_
                        exact jn_1398 zj_1226 _ _ _  hP hD hS (lv_sub hl [1, 2, 3, 4, 5, 6, 7, 8, 9, 10, 0] rfl)
                exact lp_1385 _ (0 : Int32) zJ_993 _ _ _ rfl (by decide) hP hD hS (lv_sub hl [2, 3, 4, 5, 6, 7, 8, 9, 1, 0] rfl)
          refine lv_if_eq (tgt := 81) hx hb dX9_retreat_44 (by decide) (fun c_1418 => ?_) (fun c_1418 => ?_)
          · have f_1419 : zi_8.toInt = 0 := ic_eq (rfl) (by decide) c_1418
            exact jn_1227 zj_991 _ _ _  hP hD hS (lv_sub hl [0, 1, 2, 3, 4, 5, 6, 7] rfl)
          · have f_1419 : ¬ (zi_8.toInt = 0) := ic_neq (rfl) (by decide) c_1418
            refine lv_lload hx hb dX9_retreat_47 (lv_at hl 6 rfl) ?_
            refine lv_aload_n hx hb dX9_retreat_49 rfl (lv_at hl 0 rfl) ?_
            refine lv_aload_n hx hb dX9_retreat_50 rfl (lv_at hl 1 rfl) ?_
            refine lv_iload hx hb dX9_retreat_51 (lv_at hl 7 rfl) ?_
            refine lv_iload hx hb dX9_retreat_53 (lv_at hl 4 rfl) ?_
            refine lv_iadd hx hb dX9_retreat_55 ?_
            refine lv_topi (fun zi_1420 ezi_1420 => ?_)
            have tzi_1420 : zi_1420.toInt = zi_992.toInt + zi_3.toInt := by rw [ezi_1420]; exact tiadd (rfl) (rfl) (by omega) (by omega)
            refine lv_iload_n hx hb dX9_retreat_56 rfl (lv_at hl 3 rfl) ?_
            refine hj_l (ws := (WL cy zL zT zR zI zJ_993)) (w1 := fun (u : Unit) => (WL cy zL zT zR zI zJ_993)) (va_runV (As := [.ref zx1, .int zi_1420, .int zip]) (rest := [.long zj_991]) ⟨hx, hb, hml, hown, hts⟩ (t_X9_arriving l dC dI cy H.size zL zT zR zI zJ_993 zw zx1 zi_1420 zip hs h_zI.1 t_zw t_zx1 (by omega)) (cwV 3 hts gX9_retreat_X9_arriving rfl rfl rfl (by decide +kernel) ⟨(Nat.le_of_ble_eq_true rfl), (Nat.le_of_ble_eq_true rfl)⟩) (PRE.v hP hK hD hN (ht_recv hK hP hs t_zw (by decide) rfl rfl)) rfl rfl hl.1 rfl (lv_room (Nat.le_of_ble_eq_true rfl)) dX9_retreat_57 ⟨(Nat.le_of_ble_eq_true rfl), (Nat.le_of_ble_eq_true rfl)⟩) hP hD hS hA (fun zj_1421 u_1423 H locs hw_1422 hP hD hS => ?_)
            refine lv_aload_n hx hb dX9_retreat_60 rfl (lv_at hl 0 rfl) ?_
            refine lv_aload_n hx hb dX9_retreat_61 rfl (lv_at hl 1 rfl) ?_
            refine lv_iload hx hb dX9_retreat_62 (lv_at hl 7 rfl) ?_
            refine lv_aload_n hx hb dX9_retreat_64 rfl (lv_at hl 0 rfl) ?_
            refine ht_getr (C := RX9) (T := TX9) (N := 16) hx hb hts (by decide +kernel) hown hK hP hs t_zw (by decide) rfl rfl 5 (by decide) (hts (.fieldLink RX9 27 "DripStone$Ways" "furthest" "[I") (by decide +kernel)) (fun _ h9 => h9) rfl dX9_retreat_65 ?_
            refine lv_iload_n hx hb dX9_retreat_68 rfl (lv_at hl 3 rfl) ?_
            refine ht_iald (n := 12) (q := 0) hx hb hK hP hs t_4 (by decide) rfl rfl ⟨by omega, by omega⟩ dX9_retreat_69 ?_
            refine lv_topi (fun zi_1424 ezi_1424 => ?_)
            obtain rfl : zi_5 = zi_1424 := (ezi_1424.trans ezi_5.symm).symm
            refine lv_iadd hx hb dX9_retreat_70 ?_
            refine lv_topi (fun zi_1425 ezi_1425 => ?_)
            have tzi_1425 : zi_1425.toInt = zi_992.toInt + zi_5.toInt := by rw [ezi_1425]; exact tiadd (rfl) (rfl) (by omega) (by omega)
            refine lv_iconst (v := 1) hx hb dX9_retreat_71 (by decide) ?_
            refine lv_iadd hx hb dX9_retreat_72 ?_
            refine lv_topi (fun zi_1426 ezi_1426 => ?_)
            have tzi_1426 : zi_1426.toInt = zi_1425.toInt + (1 : Int) := by rw [ezi_1426]; exact tiadd (rfl) (show (1 : Int32).toInt = 1 by decide) (by omega) (by omega)
            refine lv_iload_n hx hb dX9_retreat_73 rfl (lv_at hl 3 rfl) ?_
            refine hj_l (ws := (WL cy zL zT zR zI zJ_993)) (w1 := fun (u : Unit) => (WL cy zL zT zR zI zJ_993)) (va_runV (As := [.ref zx1, .int zi_1426, .int zip]) (rest := [.long zj_1421, .long zj_991]) ⟨hx, hb, hml, hown, hts⟩ (t_X9_arriving l dC dI cy H.size zL zT zR zI zJ_993 zw zx1 zi_1426 zip hs h_zI.1 t_zw t_zx1 (by omega)) (cwV 3 hts gX9_retreat_X9_arriving rfl rfl rfl (by decide +kernel) ⟨(Nat.le_of_ble_eq_true rfl), (Nat.le_of_ble_eq_true rfl)⟩) (PRE.v hP hK hD hN (ht_recv hK hP hs t_zw (by decide) rfl rfl)) rfl rfl hl.1 rfl (lv_room (Nat.le_of_ble_eq_true rfl)) dX9_retreat_74 ⟨(Nat.le_of_ble_eq_true rfl), (Nat.le_of_ble_eq_true rfl)⟩) hP hD hS hA (fun zj_1427 u_1429 H locs hw_1428 hP hD hS => ?_)
            refine lv_lsub hx hb dX9_retreat_77 ?_
            refine lv_topl (fun zj_1430 ezj_1430 => ?_)
            refine lv_ladd hx hb dX9_retreat_78 ?_
            refine lv_topl (fun zj_1431 ezj_1431 => ?_)
            refine lv_lstore (lv' := [(6, .long zj_1431), (0, .ref zw), (1, .ref zx1), (2, .ref zx2), (3, .int zip), (4, .int zi_3), (5, .int zi_8), (8, .int zi_992)]) hx hb dX9_retreat_79 hl (by decide) rfl (fun ls hl => ?_)
            exact jn_1227 zj_1431 _ _ _  hP hD hS (lv_sub hl [1, 2, 3, 4, 5, 6, 0, 7] rfl)
    exact lp_1209 _ (0 : Int64) (23 : Int32) zJ _ _ _ rfl (by decide) hP hD hS (lv_sub hl [3, 4, 5, 6, 7, 2, 1, 0] rfl)
  refine lv_icmp_gt (tgt := 27) hx hb dX9_retreat_20 (by decide) (fun c_1432 => ?_) (fun c_1432 => ?_)
  · have f_1433 : zi_3.toInt > zi_5.toInt := ic_gt (rfl) (rfl) c_1432
    refine lv_iconst (v := 0) hx hb dX9_retreat_27 (by decide) ?_
    exact jn_9 (0 : Int32) _ _ _ (by decide) hP hD hS (lv_sub hl [1, 2, 3, 4, 0] rfl)
  · have f_1433 : ¬ (zi_3.toInt > zi_5.toInt) := ic_ngt (rfl) (rfl) c_1432
    refine lv_iconst (v := 1) hx hb dX9_retreat_23 (by decide) ?_
    refine lv_goto (tgt := 28) hx hb dX9_retreat_24 (by decide) ?_
    exact jn_9 (1 : Int32) _ _ _ (by decide) hP hD hS (lv_sub hl [1, 2, 3, 4, 0] rfl)
