set_option maxHeartbeats 8000000 in
set_option maxRecDepth 100000 in
theorem t_X11_readLaw (l : Launch) (dC : Nat → ClassId) (dI : Nat → Nat → Nat) (cy : Nat → ClassId) (sz : Nat) (zL : List Nat) (zT : Nat → Nat) (zR : Nat → Nat → Nat) (zI : Nat → Nat → Int32) (zJ : Nat → Nat → Int64) (zy : Nat) (hs : SKP zL zT zR) (hw : WT zT zR zI) (t_zy : zT zy = 18) : Met l yX11_readLaw wsX11_readLaw ({ frames := 4, cells := 0, slots := 0, locals := 96 } : Room) (va_Pc [.ref zy] (PRE dC dI cy (WL cy zL zT zR zI zJ) sz)) (va_Qi (fun (r : Int32) (u : (Nat → Nat → Int32)) => (WM [1803, 1804, 10200] AL zT zR zI u) ∧ (0 ≤ r.toInt ∧ r.toInt ≤ 1) ∧ (r.toInt = 0 ∨ (1 ≤ (u zy 4).toInt ∧ (u zy 4).toInt ≤ 6 ∧ RLX (u (zR zy 5)) (u zy 4).toInt))) (fun u t => POST dC dI cy (va_A (WL cy zL zT zR zI zJ) sz) (WL cy zL zT zR u zJ) t) (va_A (WL cy zL zT zR zI zJ) sz)) 0 0 (va_A (WL cy zL zT zR zI zJ) sz) := by
  refine Met.ofW (cc := cX11_readLaw) (maxL := 3) (ret := (some .boolean)) (by decide) rfl ?_
  intro p e s m args below meth c s₁ B hml hv
  obtain ⟨rfl, hsz, hP, hK, hD0, hN⟩ := hv
  have hx := B.exec
  have hb := B.bytes
  have hr := B.returns
  have hts := atoms_spec (ws := wsX11_readLaw) B.pre
  have hown : s.vm.findClass RX11 = some m.cls := findClass_of_methodNamed B.named
  have hlocks := B.notSynchronized
  subst hsz
  have hD := hD0.self (sz := s.heap.size)
  generalize hAe : va_A (WL cy zL zT zR zI zJ) s.heap.size = A at hD ⊢
  have hA : ∀ q : Nat, s.heap.size ≤ q → A q := fun q h => by rw [← hAe]; exact Or.inr h
  have hS : va_S A s.heap s.heap [] := va_S.rf
  have hP : va_P (dC, dI) vwCl (WL cy zL zT zR zI zJ) s.heap := hP
  have hl := lv_entry ([.ref zy] : List Value) (n := 3) (Nat.le_of_ble_eq_true rfl)
  rw [lg_entry_eq]
  generalize (lg_sl ([.ref zy] : List Value) ++ List.replicate (3 - (lg_sl ([.ref zy] : List Value)).length) Slot.unset).toArray = ls at hl ⊢
  have hl : lv_has ls 3 [(0, .ref zy)] := hl
  refine w_q (fun Q hQ => ?_)
  have h_zI : WM [1803, 1804, 10200] AL zT zR zI zI := WM.rf hw
  refine lv_aload_n hx hb dX11_readLaw_0 rfl (lv_at hl 0 rfl) ?_
  refine lv_iconst (v := 0) hx hb dX11_readLaw_1 (by decide) ?_
  refine ht_puti (v := (0 : Int32)) (ty := .int) (C := RX11) (T := TX11) (N := 28) hx hb hts (by decide +kernel) tyX11 tyX11_ok nmX11 hown hK hP hD hS hs t_zy (by decide) rfl rfl 3 (by decide) (hts (.fieldLink RX11 116 "DripStoneModel" "at" "I") (by decide +kernel)) (fun _ h9 => h9) rfl (by decide +kernel) rfl rfl rfl dX11_readLaw_2 (fun H locs hP hD hS => ?_)
  have h_zI_1 : WM [1803, 1804, 10200] AL zT zR zI (u2 zI zy 3 (0 : Int32)) := h_zI.put hs t_zy rfl (by decide) (by decide) (fun h => absurd h (by decide)) (by decide) trivial
  generalize uzI_1 : u2 zI zy 3 (0 : Int32) = zI_1 at hP hD h_zI_1
  have t_2 : zT (zR zy 5) = 102 := sk_f hs t_zy (by decide) rfl (by decide)
  refine lv_iconst (v := 0) hx hb dX11_readLaw_5 (by decide) ?_
  refine lv_istore_n (lv' := [(1, .int 0), (0, .ref zy)]) hx hb dX11_readLaw_6 rfl hl (by decide) rfl (fun ls hl => ?_)
  have lp_157 : ∀ (n : Nat) (zi_125 : Int32) (zI_126 : Nat → Nat → Int32) (H : Heap) (locs : List Loc) (ls : Array Slot), (6 - zi_125.toInt).toNat = n → (0 ≤ zi_125.toInt ∧ zi_125.toInt ≤ 5) → (WM [1803, 1804, 10200] AL zT zR zI zI_126) → (RLX (zI_126 (zR zy 5)) zi_125.toInt) → va_P (dC, dI) vwCl (WL cy zL zT zR zI_126 zJ) H → va_D A (WL cy zL zT zR zI_126 zJ) → va_S A s.heap H locs → lv_has ls 3 [(0, .ref zy), (1, .int zi_125)] → W p l e ({ frames := 4, cells := 0, slots := 0, locals := 96 } : Room) s m ([.ref zy] : List Value).toArray below meth c H locs 0 0 Q (F0 m 7 ls []) := by
    intro n
    induction n using Nat.strongRecOn with
    | _ n ih_157 =>
      intro zi_125 zI_126 H locs ls hn b_zi_125 h_zI_126 e_lp_157_0 hP hD hS hl
      refine lv_iload_n hx hb dX11_readLaw_7 rfl (lv_at hl 1 rfl) ?_
      refine lv_bipush (v := 6) hx hb dX11_readLaw_8 (by decide) ?_
      refine lv_icmp_ge (tgt := 70) hx hb dX11_readLaw_10 (by decide) (fun c_158 => ?_) (fun c_158 => ?_)
      · have f_159 : zi_125.toInt ≥ (6 : Int) := ic_ge (rfl) (show (6 : Int32).toInt = 6 by decide) c_158
        exfalso; omega
      · have f_159 : ¬ (zi_125.toInt ≥ (6 : Int)) := ic_nge (rfl) (show (6 : Int32).toInt = 6 by decide) c_158
        refine lv_aload_n hx hb dX11_readLaw_13 rfl (lv_at hl 0 rfl) ?_
        refine lv_iload_n hx hb dX11_readLaw_14 rfl (lv_at hl 1 rfl) ?_
        refine hj_i (ws := (WL cy zL zT zR zI_126 zJ)) (w1 := fun (u : (Nat → Nat → Int32)) => (WL cy zL zT zR u zJ)) (va_runV (As := [.int zi_125]) (rest := []) ⟨hx, hb, hml, hown, hts⟩ (t_X11_readClause l dC dI cy H.size zL zT zR zI_126 zJ zy zi_125 hs h_zI_126.1 t_zy (by omega)) (cwV 1 hts gX11_readLaw_X11_readClause rfl rfl rfl (by decide +kernel) ⟨(Nat.le_of_ble_eq_true rfl), (Nat.le_of_ble_eq_true rfl)⟩) (PRE.v hP hK hD hN (ht_recv hK hP hs t_zy (by decide) rfl rfl)) rfl rfl hl.1 rfl (lv_room (Nat.le_of_ble_eq_true rfl)) dX11_readLaw_15 ⟨(Nat.le_of_ble_eq_true rfl), (Nat.le_of_ble_eq_true rfl)⟩) hP hD hS hA (fun zi_160 zI_163 H locs hw_161 hP hD hS => ?_)
        obtain ⟨k_zI_163, b_zi_160, ps_164, ps_165⟩ : (WM [1803, 10200] AL zT zR zI_126 zI_163) ∧ (0 ≤ zi_160.toInt ∧ zi_160.toInt ≤ 1) ∧ (FRM (zI_126 (zR zy 5)) (zI_163 (zR zy 5)) (11 * zi_125.toInt) (11 * zi_125.toInt + 10)) ∧ (0 ≤ zA (zI_163 (zR zy 5)) (11 * zi_125.toInt) ∧ zA (zI_163 (zR zy 5)) (11 * zi_125.toInt) ≤ 3) := hw_161
        have h_zI_163 : WM [1803, 1804, 10200] AL zT zR zI zI_163 := h_zI_126.tr k_zI_163 (by decide) (fun _ _ => trivial)
        have rx_166 : RLX (zI_163 (zR zy 5)) (zi_125.toInt + 1) := RLX.s e_lp_157_0 (by omega) ps_164 ps_165
        refine lv_if_ne (tgt := 23) hx hb dX11_readLaw_18 (by decide) (fun c_167 => ?_) (fun c_167 => ?_)
        · have f_168 : zi_160.toInt ≠ 0 := ic_ne (rfl) (by decide) c_167
          refine lv_aload_n hx hb dX11_readLaw_23 rfl (lv_at hl 0 rfl) ?_
          refine lv_iload_n hx hb dX11_readLaw_24 rfl (lv_at hl 1 rfl) ?_
          refine lv_iconst (v := 1) hx hb dX11_readLaw_25 (by decide) ?_
          refine lv_iadd hx hb dX11_readLaw_26 ?_
          refine lv_topi (fun zi_169 ezi_169 => ?_)
          have tzi_169 : zi_169.toInt = zi_125.toInt + (1 : Int) := by rw [ezi_169]; exact tiadd (rfl) (show (1 : Int32).toInt = 1 by decide) (by omega) (by omega)
          refine ht_puti (v := zi_169) (ty := .int) (C := RX11) (T := TX11) (N := 28) hx hb hts (by decide +kernel) tyX11 tyX11_ok nmX11 hown hK hP hD hS hs t_zy (by decide) rfl rfl 4 (by decide) (hts (.fieldLink RX11 141 "DripStoneModel" "reads" "I") (by decide +kernel)) (fun _ h9 => h9) rfl (by decide +kernel) rfl rfl rfl dX11_readLaw_27 (fun H locs hP hD hS => ?_)
          have h_zI_170 : WM [1803, 1804, 10200] AL zT zR zI (u2 zI_163 zy 4 zi_169) := h_zI_163.put hs t_zy rfl (by omega) (by decide) (fun h => absurd h (by decide)) (by decide) trivial
          generalize uzI_170 : u2 zI_163 zy 4 zi_169 = zI_170 at hP hD h_zI_170
          refine lv_aload_n hx hb dX11_readLaw_30 rfl (lv_at hl 0 rfl) ?_
          refine hj_i (ws := (WL cy zL zT zR zI_170 zJ)) (w1 := fun (u : (Nat → Nat → Int32)) => (WL cy zL zT zR u zJ)) (va_runV (As := []) (rest := []) ⟨hx, hb, hml, hown, hts⟩ (t_X11_nextByte l dC dI cy H.size zL zT zR zI_170 zJ zy hs h_zI_170.1 t_zy) (cwV 0 hts gX11_readLaw_X11_nextByte rfl rfl rfl (by decide +kernel) ⟨(Nat.le_of_ble_eq_true rfl), (Nat.le_of_ble_eq_true rfl)⟩) (PRE.v hP hK hD hN (ht_recv hK hP hs t_zy (by decide) rfl rfl)) rfl rfl hl.1 rfl (lv_room (Nat.le_of_ble_eq_true rfl)) dX11_readLaw_31 ⟨(Nat.le_of_ble_eq_true rfl), (Nat.le_of_ble_eq_true rfl)⟩) hP hD hS hA (fun zi_171 zI_174 H locs hw_172 hP hD hS => ?_)
          obtain ⟨k_zI_174, b_zi_171, ps_175⟩ : (WM [1803] AL zT zR zI_170 zI_174) ∧ ((-1) ≤ zi_171.toInt ∧ zi_171.toInt ≤ 255) ∧ (zi_171.toInt = -1 ∨ (zI_174 zy 3).toInt ≤ 79) := hw_172
          have h_zI_174 : WM [1803, 1804, 10200] AL zT zR zI zI_174 := h_zI_170.tr k_zI_174 (by decide) (fun _ _ => trivial)
          obtain ⟨zi_176, ezi_176⟩ : ∃ y : Int32, y = zI_174 zy 3 := ⟨_, rfl⟩
          have tzi_176 : 0 ≤ zi_176.toInt ∧ zi_176.toInt ≤ 80 := by rw [ezi_176]; exact h_zI_174.at t_zy _ rfl
          have lzi_176 : (zI_174 zy 3).toInt = zi_176.toInt := by rw [ezi_176]
          have lk_177 : (zI_174 zy 3).toInt = zi_176.toInt := congrArg Int32.toInt ezi_176.symm
          refine lv_istore_n (lv' := [(2, .int zi_171), (0, .ref zy), (1, .int zi_125)]) hx hb dX11_readLaw_34 rfl hl (by decide) rfl (fun ls hl => ?_)
          refine lv_iload_n hx hb dX11_readLaw_35 rfl (lv_at hl 0 rfl) ?_
          refine lv_if_ge (tgt := 41) hx hb dX11_readLaw_36 (by decide) (fun c_178 => ?_) (fun c_178 => ?_)
          · have f_179 : zi_171.toInt ≥ 0 := ic_ge (rfl) (by decide) c_178
            refine lv_iload_n hx hb dX11_readLaw_41 rfl (lv_at hl 0 rfl) ?_
            refine lv_bipush (v := 59) hx hb dX11_readLaw_42 (by decide) ?_
            refine lv_icmp_ne (tgt := 52) hx hb dX11_readLaw_44 (by decide) (fun c_180 => ?_) (fun c_180 => ?_)
            · have f_181 : zi_171.toInt ≠ (59 : Int) := ic_ne (rfl) (show (59 : Int32).toInt = 59 by decide) c_180
              refine lv_iconst (v := 0) hx hb dX11_readLaw_52 (by decide) ?_
              subst hQ
              have qc_0 : (0 : Int32).toInt = 0 := by decide
              exact W.zret (v := (0 : Int32)) hx hb hr rfl (fun t ht hW => ⟨⟨(0 : Int32), zI_174, rfl, ⟨h_zI_174, (show 0 ≤ (0 : Int32).toInt ∧ (0 : Int32).toInt ≤ 1 from by omega), (show (0 : Int32).toInt = 0 ∨ (1 ≤ (zI_174 zy 4).toInt ∧ (zI_174 zy 4).toInt ≤ 6 ∧ RLX (zI_174 (zR zy 5)) (zI_174 zy 4).toInt) from (Or.inl (by decide)))⟩, ⟨by rw [ht]; exact hP, va_K.moved hW.alike hK, hD⟩⟩, hS.F ht⟩) hS.2.2 dX11_readLaw_53
            · have f_181 : ¬ (zi_171.toInt ≠ (59 : Int)) := ic_nne (rfl) (show (59 : Int32).toInt = 59 by decide) c_180
              refine lv_iload_n hx hb dX11_readLaw_47 rfl (lv_at hl 2 rfl) ?_
              refine lv_iconst (v := 5) hx hb dX11_readLaw_48 (by decide) ?_
              refine lv_icmp_ne (tgt := 54) hx hb dX11_readLaw_49 (by decide) (fun c_182 => ?_) (fun c_182 => ?_)
              · have f_183 : zi_125.toInt ≠ (5 : Int) := ic_ne (rfl) (show (5 : Int32).toInt = 5 by decide) c_182
                refine lv_aload_n hx hb dX11_readLaw_54 rfl (lv_at hl 1 rfl) ?_
                refine lv_dup hx hb dX11_readLaw_55 rfl ?_
                refine ht_geti (C := RX11) (T := TX11) (N := 28) hx hb hts (by decide +kernel) hown hK hP hs t_zy (by decide) rfl rfl 3 (by decide) (hts (.fieldLink RX11 116 "DripStoneModel" "at" "I") (by decide +kernel)) (fun _ h9 => h9) rfl dX11_readLaw_56 ?_
                refine lv_topi (fun zi_184 ezi_184 => ?_)
                obtain rfl : zi_176 = zi_184 := (ezi_184.trans ezi_176.symm).symm
                refine lv_iconst (v := 1) hx hb dX11_readLaw_59 (by decide) ?_
                refine lv_iadd hx hb dX11_readLaw_60 ?_
                refine lv_topi (fun zi_185 ezi_185 => ?_)
                have tzi_185 : zi_185.toInt = zi_176.toInt + (1 : Int) := by rw [ezi_185]; exact tiadd (rfl) (show (1 : Int32).toInt = 1 by decide) (by omega) (by omega)
                refine ht_puti (v := zi_185) (ty := .int) (C := RX11) (T := TX11) (N := 28) hx hb hts (by decide +kernel) tyX11 tyX11_ok nmX11 hown hK hP hD hS hs t_zy (by decide) rfl rfl 3 (by decide) (hts (.fieldLink RX11 116 "DripStoneModel" "at" "I") (by decide +kernel)) (fun _ h9 => h9) rfl (by decide +kernel) rfl rfl rfl dX11_readLaw_61 (fun H locs hP hD hS => ?_)
                have h_zI_186 : WM [1803, 1804, 10200] AL zT zR zI (u2 zI_174 zy 3 zi_185) := h_zI_174.put hs t_zy rfl (by omega) (by decide) (fun h => absurd h (by decide)) (by decide) trivial
                generalize uzI_186 : u2 zI_174 zy 3 zi_185 = zI_186 at hP hD h_zI_186
                obtain ⟨zi_187, ezi_187⟩ : ∃ y : Int32, y = zi_125 + 1 := ⟨_, rfl⟩
                have tzi_187 : zi_187.toInt = zi_125.toInt + 1 := by rw [ezi_187]; exact tadd rfl (show (1 : Int32).toInt = 1 by decide) (by omega) (by omega)
                refine lv_iinc (v := zi_187) (lv' := [(1, .int zi_187), (2, .int zi_171), (0, .ref zy)]) hx hb dX11_readLaw_64 hl (k := 2) rfl (by rw [ezi_187]; rfl) (by decide) rfl (fun ls hl => ?_)
                refine lv_goto (tgt := 7) hx hb dX11_readLaw_67 (by decide) ?_
                exact ih_157 (6 - zi_187.toInt).toNat (by omega) zi_187 zI_186 _ _ _ rfl (by omega) h_zI_186 (RLX.e (by rw [(show zI_186 (zR zy 5) = zI_174 (zR zy 5) from by rw [← uzI_186]; exact u2_a (tne t_2 t_zy (by decide))), (k_zI_174.2.row t_2 (by decide) (by decide)), (show zI_170 (zR zy 5) = zI_163 (zR zy 5) from by rw [← uzI_170]; exact u2_a (tne t_2 t_zy (by decide)))]; exact rx_166) (by omega)) hP hD hS (lv_sub hl [2, 0] rfl)
              · have f_183 : ¬ (zi_125.toInt ≠ (5 : Int)) := ic_nne (rfl) (show (5 : Int32).toInt = 5 by decide) c_182
                refine lv_iconst (v := 0) hx hb dX11_readLaw_52 (by decide) ?_
                subst hQ
                have qc_0 : (0 : Int32).toInt = 0 := by decide
                exact W.zret (v := (0 : Int32)) hx hb hr rfl (fun t ht hW => ⟨⟨(0 : Int32), zI_174, rfl, ⟨h_zI_174, (show 0 ≤ (0 : Int32).toInt ∧ (0 : Int32).toInt ≤ 1 from by omega), (show (0 : Int32).toInt = 0 ∨ (1 ≤ (zI_174 zy 4).toInt ∧ (zI_174 zy 4).toInt ≤ 6 ∧ RLX (zI_174 (zR zy 5)) (zI_174 zy 4).toInt) from (Or.inl (by decide)))⟩, ⟨by rw [ht]; exact hP, va_K.moved hW.alike hK, hD⟩⟩, hS.F ht⟩) hS.2.2 dX11_readLaw_53
          · have f_179 : ¬ (zi_171.toInt ≥ 0) := ic_nge (rfl) (by decide) c_178
            refine lv_iconst (v := 1) hx hb dX11_readLaw_39 (by decide) ?_
            subst hQ
            have qc_1 : (1 : Int32).toInt = 1 := by decide
            have lk_188 : (zI_174 zy 4).toInt = zi_169.toInt := congrArg Int32.toInt ((k_zI_174.2 zy 4 (Or.inl (by rw [t_zy]; decide))).trans (by rw [← uzI_170]; exact u2_s))
            exact W.zret (v := (1 : Int32)) hx hb hr rfl (fun t ht hW => ⟨⟨(1 : Int32), zI_174, rfl, ⟨h_zI_174, (show 0 ≤ (1 : Int32).toInt ∧ (1 : Int32).toInt ≤ 1 from by omega), (show (1 : Int32).toInt = 0 ∨ (1 ≤ (zI_174 zy 4).toInt ∧ (zI_174 zy 4).toInt ≤ 6 ∧ RLX (zI_174 (zR zy 5)) (zI_174 zy 4).toInt) from (Or.inr ⟨by omega, by omega, RLX.e (by rw [(k_zI_174.2.row t_2 (by decide) (by decide)), (show zI_170 (zR zy 5) = zI_163 (zR zy 5) from by rw [← uzI_170]; exact u2_a (tne t_2 t_zy (by decide)))]; exact rx_166) (by omega)⟩))⟩, ⟨by rw [ht]; exact hP, va_K.moved hW.alike hK, hD⟩⟩, hS.F ht⟩) hS.2.2 dX11_readLaw_40
        · have f_168 : ¬ (zi_160.toInt ≠ 0) := ic_nne (rfl) (by decide) c_167
          refine lv_iconst (v := 0) hx hb dX11_readLaw_21 (by decide) ?_
          subst hQ
          have qc_0 : (0 : Int32).toInt = 0 := by decide
          exact W.zret (v := (0 : Int32)) hx hb hr rfl (fun t ht hW => ⟨⟨(0 : Int32), zI_163, rfl, ⟨h_zI_163, (show 0 ≤ (0 : Int32).toInt ∧ (0 : Int32).toInt ≤ 1 from by omega), (show (0 : Int32).toInt = 0 ∨ (1 ≤ (zI_163 zy 4).toInt ∧ (zI_163 zy 4).toInt ≤ 6 ∧ RLX (zI_163 (zR zy 5)) (zI_163 zy 4).toInt) from (Or.inl (by decide)))⟩, ⟨by rw [ht]; exact hP, va_K.moved hW.alike hK, hD⟩⟩, hS.F ht⟩) hS.2.2 dX11_readLaw_22
  have qc_0 : (0 : Int32).toInt = 0 := by decide
  exact lp_157 _ (0 : Int32) zI_1 _ _ _ rfl (by decide) h_zI_1 RLX.z hP hD hS (lv_sub hl [1, 0] rfl)
set_option maxHeartbeats 8000000 in
set_option maxRecDepth 100000 in
theorem t_X11_readAtom (l : Launch) (dC : Nat → ClassId) (dI : Nat → Nat → Nat) (cy : Nat → ClassId) (sz : Nat) (zL : List Nat) (zT : Nat → Nat) (zR : Nat → Nat → Nat) (zI : Nat → Nat → Int32) (zJ : Nat → Nat → Int64) (zy : Nat) (zia : Int32) (hs : SKP zL zT zR) (hw : WT zT zR zI) (t_zy : zT zy = 18) (b_zia : 2 ≤ zia.toInt ∧ zia.toInt ≤ 8) : Met l yX11_readAtom wsX11_readAtom ({ frames := 2, cells := 0, slots := 0, locals := 49 } : Room) (va_Pc [.ref zy, .int zia] (PRE dC dI cy (WL cy zL zT zR zI zJ) sz)) (va_Qi (fun (r : Int32) (u : (Nat → Nat → Int32)) => (WM [1803, 10200] AL zT zR zI u) ∧ (0 ≤ r.toInt ∧ r.toInt ≤ 1) ∧ (FRM (zI (zR zy 5)) (u (zR zy 5)) (zia.toInt) (zia.toInt + 5)) ∧ (r.toInt = 0 ∨ (1 ≤ zA (u (zR zy 5)) (5 + zia.toInt) ∧ zA (u (zR zy 5)) (5 + zia.toInt) ≤ 12))) (fun u t => POST dC dI cy (va_A (WL cy zL zT zR zI zJ) sz) (WL cy zL zT zR u zJ) t) (va_A (WL cy zL zT zR zI zJ) sz)) 0 0 (va_A (WL cy zL zT zR zI zJ) sz) := by
  refine Met.ofW (cc := cX11_readAtom) (maxL := 5) (ret := (some .boolean)) (by decide) rfl ?_
  intro p e s m args below meth c s₁ B hml hv
  obtain ⟨rfl, hsz, hP, hK, hD0, hN⟩ := hv
  have hx := B.exec
  have hb := B.bytes
  have hr := B.returns
  have hts := atoms_spec (ws := wsX11_readAtom) B.pre
  have hown : s.vm.findClass RX11 = some m.cls := findClass_of_methodNamed B.named
  have hlocks := B.notSynchronized
  subst hsz
  have hD := hD0.self (sz := s.heap.size)
  generalize hAe : va_A (WL cy zL zT zR zI zJ) s.heap.size = A at hD ⊢
  have hA : ∀ q : Nat, s.heap.size ≤ q → A q := fun q h => by rw [← hAe]; exact Or.inr h
  have hS : va_S A s.heap s.heap [] := va_S.rf
  have hP : va_P (dC, dI) vwCl (WL cy zL zT zR zI zJ) s.heap := hP
  have hl := lv_entry ([.ref zy, .int zia] : List Value) (n := 5) (Nat.le_of_ble_eq_true rfl)
  rw [lg_entry_eq]
  generalize (lg_sl ([.ref zy, .int zia] : List Value) ++ List.replicate (5 - (lg_sl ([.ref zy, .int zia] : List Value)).length) Slot.unset).toArray = ls at hl ⊢
  have hl : lv_has ls 5 [(0, .ref zy), (1, .int zia)] := hl
  refine w_q (fun Q hQ => ?_)
  have h_zI : WM [1803, 10200] AL zT zR zI zI := WM.rf hw
  refine lv_aload_n hx hb dX11_readAtom_0 rfl (lv_at hl 0 rfl) ?_
  refine ht_getr (C := RX11) (T := TX11) (N := 28) hx hb hts (by decide +kernel) hown hK hP hs t_zy (by decide) rfl rfl 5 (by decide) (hts (.fieldLink RX11 16 "DripStoneModel" "read" "[I") (by decide +kernel)) (fun _ h9 => h9) rfl dX11_readAtom_1 ?_
  have t_1 : zT (zR zy 5) = 102 := sk_f hs t_zy (by decide) rfl (by decide)
  refine lv_iload_n hx hb dX11_readAtom_4 rfl (lv_at hl 1 rfl) ?_
  refine lv_aload_n hx hb dX11_readAtom_5 rfl (lv_at hl 0 rfl) ?_
  refine lv_bipush (v := 33) hx hb dX11_readAtom_6 (by decide) ?_
  have qc_33 : (33 : Int32).toInt = 33 := by decide
  refine hj_i (ws := (WL cy zL zT zR zI zJ)) (w1 := fun (u : (Nat → Nat → Int32)) => (WL cy zL zT zR u zJ)) (va_runV (As := [.int 33]) (rest := [.int zia, .ref (zR zy 5)]) ⟨hx, hb, hml, hown, hts⟩ (t_X11_takes l dC dI cy s.heap.size zL zT zR zI zJ zy (33 : Int32) hs h_zI.1 t_zy (by decide)) (cwV 1 hts gX11_readAtom_X11_takes rfl rfl rfl (by decide +kernel) ⟨(Nat.le_of_ble_eq_true rfl), (Nat.le_of_ble_eq_true rfl)⟩) (PRE.v hP hK hD hN (ht_recv hK hP hs t_zy (by decide) rfl rfl)) rfl rfl hl.1 rfl (lv_room (Nat.le_of_ble_eq_true rfl)) dX11_readAtom_8 ⟨(Nat.le_of_ble_eq_true rfl), (Nat.le_of_ble_eq_true rfl)⟩) hP hD hS hA (fun zi_2 zI_5 H locs hw_3 hP hD hS => ?_)
  obtain ⟨k_zI_5, b_zi_2⟩ : (WM [1803] AL zT zR zI zI_5) ∧ (0 ≤ zi_2.toInt ∧ zi_2.toInt ≤ 1) := hw_3
  have h_zI_5 : WM [1803, 10200] AL zT zR zI zI_5 := h_zI.tr k_zI_5 (by decide) (fun _ _ => trivial)
  have kr_6 : zA (zI_5 (zR zy 5)) (5 + zia.toInt) = zA (zI (zR zy 5)) (5 + zia.toInt) := by rw [(k_zI_5.2.row t_1 (by decide) (by decide))]
  have kr_7 : zA (zI_5 (zR zy 5)) (3 + zia.toInt) = zA (zI (zR zy 5)) (3 + zia.toInt) := by rw [(k_zI_5.2.row t_1 (by decide) (by decide))]
  have jn_11 : ∀ (zi_10 : Int32) (H : Heap) (locs : List Loc) (ls : Array Slot), (0 ≤ zi_10.toInt ∧ zi_10.toInt ≤ 1) → (FRM (zI (zR zy 5)) (zI_5 (zR zy 5)) (zia.toInt) (zia.toInt + 5)) → va_P (dC, dI) vwCl (WL cy zL zT zR zI_5 zJ) H → va_D A (WL cy zL zT zR zI_5 zJ) → va_S A s.heap H locs → lv_has ls 5 [(0, .ref zy), (1, .int zia)] → W p l e ({ frames := 2, cells := 0, slots := 0, locals := 49 } : Room) s m ([.ref zy, .int zia] : List Value).toArray below meth c H locs 0 0 Q (F0 m 19 ls [.int zi_10, .int zia, .ref (zR zy 5)]) := by
    intro zi_10 H locs ls b_zi_10 e_jn_11_0 hP hD hS hl
    refine ht_iast (v := zi_10) (n := 66) (q := 0) hx hb hK hP hD hS hs t_1 (by decide) rfl rfl ⟨by omega, by omega⟩ dX11_readAtom_19 (fun H locs hP hD hS => ?_)
    have h_zI_12 : WM [1803, 10200] AL zT zR zI (u2 zI_5 (zR zy 5) zia.toNatClampNeg zi_10) := h_zI_5.putA hs t_1 rfl (rgF _) (by decide) (fun h => absurd h (by decide)) (by decide) trivial
    generalize uzI_12 : u2 zI_5 (zR zy 5) zia.toNatClampNeg zi_10 = zI_12 at hP hD h_zI_12
    have kr_13 : zA (zI_12 (zR zy 5)) (5 + zia.toInt) = zA (zI_5 (zR zy 5)) (5 + zia.toInt) := by rw [← uzI_12, u2_r]; exact zu_n (by omega) (by omega) (by omega)
    have kr_14 : zA (zI_12 (zR zy 5)) (3 + zia.toInt) = zA (zI_5 (zR zy 5)) (3 + zia.toInt) := by rw [← uzI_12, u2_r]; exact zu_n (by omega) (by omega) (by omega)
    refine lv_aload_n hx hb dX11_readAtom_20 rfl (lv_at hl 0 rfl) ?_
    refine ht_getr (C := RX11) (T := TX11) (N := 28) hx hb hts (by decide +kernel) hown hK hP hs t_zy (by decide) rfl rfl 5 (by decide) (hts (.fieldLink RX11 16 "DripStoneModel" "read" "[I") (by decide +kernel)) (fun _ h9 => h9) rfl dX11_readAtom_21 ?_
    refine lv_iload_n hx hb dX11_readAtom_24 rfl (lv_at hl 1 rfl) ?_
    refine lv_iconst (v := 1) hx hb dX11_readAtom_25 (by decide) ?_
    refine lv_iadd hx hb dX11_readAtom_26 ?_
    refine lv_topi (fun zi_15 ezi_15 => ?_)
    have tzi_15 : zi_15.toInt = zia.toInt + (1 : Int) := by rw [ezi_15]; exact tiadd (rfl) (show (1 : Int32).toInt = 1 by decide) (by omega) (by omega)
    refine lv_iconst (v := 0) hx hb dX11_readAtom_27 (by decide) ?_
    refine ht_iast (v := (0 : Int32)) (n := 66) (q := 0) hx hb hK hP hD hS hs t_1 (by decide) rfl rfl ⟨by omega, by omega⟩ dX11_readAtom_28 (fun H locs hP hD hS => ?_)
    have h_zI_16 : WM [1803, 10200] AL zT zR zI (u2 zI_12 (zR zy 5) zi_15.toNatClampNeg (0 : Int32)) := h_zI_12.putA hs t_1 rfl (rgF _) (by decide) (fun h => absurd h (by decide)) (by decide) trivial
    generalize uzI_16 : u2 zI_12 (zR zy 5) zi_15.toNatClampNeg (0 : Int32) = zI_16 at hP hD h_zI_16
    have kr_17 : zA (zI_16 (zR zy 5)) (5 + zia.toInt) = zA (zI_12 (zR zy 5)) (5 + zia.toInt) := by rw [← uzI_16, u2_r]; exact zu_n (by omega) (by omega) (by omega)
    have kr_18 : zA (zI_16 (zR zy 5)) (3 + zia.toInt) = zA (zI_12 (zR zy 5)) (3 + zia.toInt) := by rw [← uzI_16, u2_r]; exact zu_n (by omega) (by omega) (by omega)
    refine lv_aload_n hx hb dX11_readAtom_29 rfl (lv_at hl 0 rfl) ?_
    refine ht_getr (C := RX11) (T := TX11) (N := 28) hx hb hts (by decide +kernel) hown hK hP hs t_zy (by decide) rfl rfl 5 (by decide) (hts (.fieldLink RX11 16 "DripStoneModel" "read" "[I") (by decide +kernel)) (fun _ h9 => h9) rfl dX11_readAtom_30 ?_
    refine lv_iload_n hx hb dX11_readAtom_33 rfl (lv_at hl 1 rfl) ?_
    refine lv_iconst (v := 2) hx hb dX11_readAtom_34 (by decide) ?_
    refine lv_iadd hx hb dX11_readAtom_35 ?_
    refine lv_topi (fun zi_19 ezi_19 => ?_)
    have tzi_19 : zi_19.toInt = zia.toInt + (2 : Int) := by rw [ezi_19]; exact tiadd (rfl) (show (2 : Int32).toInt = 2 by decide) (by omega) (by omega)
    refine lv_iconst (v := 0) hx hb dX11_readAtom_36 (by decide) ?_
    refine ht_iast (v := (0 : Int32)) (n := 66) (q := 0) hx hb hK hP hD hS hs t_1 (by decide) rfl rfl ⟨by omega, by omega⟩ dX11_readAtom_37 (fun H locs hP hD hS => ?_)
    have h_zI_20 : WM [1803, 10200] AL zT zR zI (u2 zI_16 (zR zy 5) zi_19.toNatClampNeg (0 : Int32)) := h_zI_16.putA hs t_1 rfl (rgF _) (by decide) (fun h => absurd h (by decide)) (by decide) trivial
    generalize uzI_20 : u2 zI_16 (zR zy 5) zi_19.toNatClampNeg (0 : Int32) = zI_20 at hP hD h_zI_20
    have kr_21 : zA (zI_20 (zR zy 5)) (5 + zia.toInt) = zA (zI_16 (zR zy 5)) (5 + zia.toInt) := by rw [← uzI_20, u2_r]; exact zu_n (by omega) (by omega) (by omega)
    have kr_22 : zA (zI_20 (zR zy 5)) (3 + zia.toInt) = zA (zI_16 (zR zy 5)) (3 + zia.toInt) := by rw [← uzI_20, u2_r]; exact zu_n (by omega) (by omega) (by omega)
    refine lv_aload_n hx hb dX11_readAtom_38 rfl (lv_at hl 0 rfl) ?_
    refine lv_bipush (v := 42) hx hb dX11_readAtom_39 (by decide) ?_
    have qc_42 : (42 : Int32).toInt = 42 := by decide
    refine hj_i (ws := (WL cy zL zT zR zI_20 zJ)) (w1 := fun (u : (Nat → Nat → Int32)) => (WL cy zL zT zR u zJ)) (va_runV (As := [.int 42]) (rest := []) ⟨hx, hb, hml, hown, hts⟩ (t_X11_takes l dC dI cy H.size zL zT zR zI_20 zJ zy (42 : Int32) hs h_zI_20.1 t_zy (by decide)) (cwV 1 hts gX11_readAtom_X11_takes rfl rfl rfl (by decide +kernel) ⟨(Nat.le_of_ble_eq_true rfl), (Nat.le_of_ble_eq_true rfl)⟩) (PRE.v hP hK hD hN (ht_recv hK hP hs t_zy (by decide) rfl rfl)) rfl rfl hl.1 rfl (lv_room (Nat.le_of_ble_eq_true rfl)) dX11_readAtom_41 ⟨(Nat.le_of_ble_eq_true rfl), (Nat.le_of_ble_eq_true rfl)⟩) hP hD hS hA (fun zi_23 zI_26 H locs hw_24 hP hD hS => ?_)
    obtain ⟨k_zI_26, b_zi_23⟩ : (WM [1803] AL zT zR zI_20 zI_26) ∧ (0 ≤ zi_23.toInt ∧ zi_23.toInt ≤ 1) := hw_24
    have h_zI_26 : WM [1803, 10200] AL zT zR zI zI_26 := h_zI_20.tr k_zI_26 (by decide) (fun _ _ => trivial)
    have kr_27 : zA (zI_26 (zR zy 5)) (5 + zia.toInt) = zA (zI_20 (zR zy 5)) (5 + zia.toInt) := by rw [(k_zI_26.2.row t_1 (by decide) (by decide))]
    have kr_28 : zA (zI_26 (zR zy 5)) (3 + zia.toInt) = zA (zI_20 (zR zy 5)) (3 + zia.toInt) := by rw [(k_zI_26.2.row t_1 (by decide) (by decide))]
    have jn_180 : ∀ (zI_179 : Nat → Nat → Int32) (H : Heap) (locs : List Loc) (ls : Array Slot), (WM [1803, 10200] AL zT zR zI zI_179) → (FRM (zI (zR zy 5)) (zI_179 (zR zy 5)) (zia.toInt) (zia.toInt + 5)) → va_P (dC, dI) vwCl (WL cy zL zT zR zI_179 zJ) H → va_D A (WL cy zL zT zR zI_179 zJ) → va_S A s.heap H locs → lv_has ls 5 [(0, .ref zy), (1, .int zia)] → W p l e ({ frames := 2, cells := 0, slots := 0, locals := 49 } : Room) s m ([.ref zy, .int zia] : List Value).toArray below meth c H locs 0 0 Q (F0 m 229 ls []) := by
      intro zI_179 H locs ls h_zI_179 e_jn_180_0 hP hD hS hl
      refine lv_aload_n hx hb dX11_readAtom_229 rfl (lv_at hl 0 rfl) ?_
      refine lv_bipush (v := 64) hx hb dX11_readAtom_230 (by decide) ?_
      have qc_64 : (64 : Int32).toInt = 64 := by decide
      refine hj_i (ws := (WL cy zL zT zR zI_179 zJ)) (w1 := fun (u : (Nat → Nat → Int32)) => (WL cy zL zT zR u zJ)) (va_runV (As := [.int 64]) (rest := []) ⟨hx, hb, hml, hown, hts⟩ (t_X11_takes l dC dI cy H.size zL zT zR zI_179 zJ zy (64 : Int32) hs h_zI_179.1 t_zy (by decide)) (cwV 1 hts gX11_readAtom_X11_takes rfl rfl rfl (by decide +kernel) ⟨(Nat.le_of_ble_eq_true rfl), (Nat.le_of_ble_eq_true rfl)⟩) (PRE.v hP hK hD hN (ht_recv hK hP hs t_zy (by decide) rfl rfl)) rfl rfl hl.1 rfl (lv_room (Nat.le_of_ble_eq_true rfl)) dX11_readAtom_232 ⟨(Nat.le_of_ble_eq_true rfl), (Nat.le_of_ble_eq_true rfl)⟩) hP hD hS hA (fun zi_181 zI_184 H locs hw_182 hP hD hS => ?_)
      obtain ⟨k_zI_184, b_zi_181⟩ : (WM [1803] AL zT zR zI_179 zI_184) ∧ (0 ≤ zi_181.toInt ∧ zi_181.toInt ≤ 1) := hw_182
      have h_zI_184 : WM [1803, 10200] AL zT zR zI zI_184 := h_zI_179.tr k_zI_184 (by decide) (fun _ _ => trivial)
      have kr_185 : zA (zI_184 (zR zy 5)) (5 + zia.toInt) = zA (zI_179 (zR zy 5)) (5 + zia.toInt) := by rw [(k_zI_184.2.row t_1 (by decide) (by decide))]
      have kr_186 : zA (zI_184 (zR zy 5)) (3 + zia.toInt) = zA (zI_179 (zR zy 5)) (3 + zia.toInt) := by rw [(k_zI_184.2.row t_1 (by decide) (by decide))]
      refine lv_if_ne (tgt := 240) hx hb dX11_readAtom_235 (by decide) (fun c_187 => ?_) (fun c_187 => ?_)
      · have f_188 : zi_181.toInt ≠ 0 := ic_ne (rfl) (by decide) c_187
        refine lv_aload_n hx hb dX11_readAtom_240 rfl (lv_at hl 0 rfl) ?_
        refine ht_getr (C := RX11) (T := TX11) (N := 28) hx hb hts (by decide +kernel) hown hK hP hs t_zy (by decide) rfl rfl 5 (by decide) (hts (.fieldLink RX11 16 "DripStoneModel" "read" "[I") (by decide +kernel)) (fun _ h9 => h9) rfl dX11_readAtom_241 ?_
        refine lv_iload_n hx hb dX11_readAtom_244 rfl (lv_at hl 1 rfl) ?_
        refine lv_iconst (v := 3) hx hb dX11_readAtom_245 (by decide) ?_
        refine lv_iadd hx hb dX11_readAtom_246 ?_
        refine lv_topi (fun zi_189 ezi_189 => ?_)
        have tzi_189 : zi_189.toInt = zia.toInt + (3 : Int) := by rw [ezi_189]; exact tiadd (rfl) (show (3 : Int32).toInt = 3 by decide) (by omega) (by omega)
        refine lv_aload_n hx hb dX11_readAtom_247 rfl (lv_at hl 0 rfl) ?_
        refine lv_iconst (v := 0) hx hb dX11_readAtom_248 (by decide) ?_
        refine lv_bipush (v := 23) hx hb dX11_readAtom_249 (by decide) ?_
        have qc_0 : (0 : Int32).toInt = 0 := by decide
        have qc_23 : (23 : Int32).toInt = 23 := by decide
        refine hj_i (ws := (WL cy zL zT zR zI_184 zJ)) (w1 := fun (u : (Nat → Nat → Int32)) => (WL cy zL zT zR u zJ)) (va_runV (As := [.int 0, .int 23]) (rest := [.int zi_189, .ref (zR zy 5)]) ⟨hx, hb, hml, hown, hts⟩ (t_X11_readNumber l dC dI cy H.size zL zT zR zI_184 zJ zy (0 : Int32) (23 : Int32) hs h_zI_184.1 t_zy (by decide) (by decide)) (cwV 2 hts gX11_readAtom_X11_readNumber rfl rfl rfl (by decide +kernel) ⟨(Nat.le_of_ble_eq_true rfl), (Nat.le_of_ble_eq_true rfl)⟩) (PRE.v hP hK hD hN (ht_recv hK hP hs t_zy (by decide) rfl rfl)) rfl rfl hl.1 rfl (lv_room (Nat.le_of_ble_eq_true rfl)) dX11_readAtom_251 ⟨(Nat.le_of_ble_eq_true rfl), (Nat.le_of_ble_eq_true rfl)⟩) hP hD hS hA (fun zi_190 zI_193 H locs hw_191 hP hD hS => ?_)
        obtain ⟨k_zI_193, b_zi_190, ps_194⟩ : (WM [1803] AL zT zR zI_184 zI_193) ∧ ((-1) ≤ zi_190.toInt) ∧ (zi_190.toInt = -1 ∨ ((0 : Int32).toInt ≤ zi_190.toInt ∧ zi_190.toInt ≤ (23 : Int32).toInt)) := hw_191
        have h_zI_193 : WM [1803, 10200] AL zT zR zI zI_193 := h_zI_184.tr k_zI_193 (by decide) (fun _ _ => trivial)
        have kr_195 : zA (zI_193 (zR zy 5)) (5 + zia.toInt) = zA (zI_184 (zR zy 5)) (5 + zia.toInt) := by rw [(k_zI_193.2.row t_1 (by decide) (by decide))]
        have kr_196 : zA (zI_193 (zR zy 5)) (3 + zia.toInt) = zA (zI_184 (zR zy 5)) (3 + zia.toInt) := by rw [(k_zI_193.2.row t_1 (by decide) (by decide))]
        have b8_zi_190 : (-1) ≤ zi_190.toInt ∧ zi_190.toInt ≤ 23 := by omega
        refine ht_iast (v := zi_190) (n := 66) (q := 0) hx hb hK hP hD hS hs t_1 (by decide) rfl rfl ⟨by omega, by omega⟩ dX11_readAtom_254 (fun H locs hP hD hS => ?_)
        have h_zI_197 : WM [1803, 10200] AL zT zR zI (u2 zI_193 (zR zy 5) zi_189.toNatClampNeg zi_190) := h_zI_193.putA hs t_1 rfl (rgF _) (by decide) (fun h => absurd h (by decide)) (by decide) trivial
        generalize uzI_197 : u2 zI_193 (zR zy 5) zi_189.toNatClampNeg zi_190 = zI_197 at hP hD h_zI_197
        have kr_198 : zA (zI_197 (zR zy 5)) (5 + zia.toInt) = zA (zI_193 (zR zy 5)) (5 + zia.toInt) := by rw [← uzI_197, u2_r]; exact zu_n (by omega) (by omega) (by omega)
        have kr_199 : zA (zI_197 (zR zy 5)) (3 + zia.toInt) = zi_190.toInt := by rw [← uzI_197, u2_r]; exact (zu_s (by omega)).trans rfl
        refine lv_aload_n hx hb dX11_readAtom_255 rfl (lv_at hl 0 rfl) ?_
        refine ht_getr (C := RX11) (T := TX11) (N := 28) hx hb hts (by decide +kernel) hown hK hP hs t_zy (by decide) rfl rfl 5 (by decide) (hts (.fieldLink RX11 16 "DripStoneModel" "read" "[I") (by decide +kernel)) (fun _ h9 => h9) rfl dX11_readAtom_256 ?_
        refine lv_iload_n hx hb dX11_readAtom_259 rfl (lv_at hl 1 rfl) ?_
        refine lv_iconst (v := 3) hx hb dX11_readAtom_260 (by decide) ?_
        refine lv_iadd hx hb dX11_readAtom_261 ?_
        refine lv_topi (fun zi_200 ezi_200 => ?_)
        have tzi_200 : zi_200.toInt = zia.toInt + (3 : Int) := by rw [ezi_200]; exact tiadd (rfl) (show (3 : Int32).toInt = 3 by decide) (by omega) (by omega)
        refine ht_iald (n := 66) (q := 0) hx hb hK hP hs t_1 (by decide) rfl rfl ⟨by omega, by omega⟩ dX11_readAtom_262 ?_
        refine lv_topi (fun zi_201 ezi_201 => ?_)
        have la_202 : zi_201.toInt = zA (zI_197 (zR zy 5)) (3 + zia.toInt) := (congrArg Int32.toInt (show zI_197 (zR zy 5) zi_200.toNatClampNeg = zi_201 from ezi_201.symm).symm).trans (congrArg (zA (zI_197 (zR zy 5))) (show zi_200.toInt = 3 + zia.toInt from by omega))
        refine lv_if_lt (tgt := 275) hx hb dX11_readAtom_263 (by decide) (fun c_203 => ?_) (fun c_203 => ?_)
        · have f_204 : zi_201.toInt < 0 := ic_lt (rfl) (by decide) c_203
          refine lv_iconst (v := 0) hx hb dX11_readAtom_275 (by decide) ?_
          subst hQ
          have fr_205 : FRM (zI (zR zy 5)) (zI_184 (zR zy 5)) (zia.toInt) (zia.toInt + 5) := by rw [(k_zI_184.2.row t_1 (by decide) (by decide))]; exact e_jn_180_0
          have fr_206 : FRM (zI (zR zy 5)) (zI_193 (zR zy 5)) (zia.toInt) (zia.toInt + 5) := by rw [(k_zI_193.2.row t_1 (by decide) (by decide))]; exact fr_205
          have fr_207 : FRM (zI (zR zy 5)) (zI_197 (zR zy 5)) (zia.toInt) (zia.toInt + 5) := by rw [← uzI_197, u2_r]; exact FRM.up fr_206 (by omega)
          exact W.zret (v := (0 : Int32)) hx hb hr rfl (fun t ht hW => ⟨⟨(0 : Int32), zI_197, rfl, ⟨h_zI_197, (show 0 ≤ (0 : Int32).toInt ∧ (0 : Int32).toInt ≤ 1 from by omega), (show FRM (zI (zR zy 5)) (zI_197 (zR zy 5)) (zia.toInt) (zia.toInt + 5) from fr_207), (show (0 : Int32).toInt = 0 ∨ (1 ≤ zA (zI_197 (zR zy 5)) (5 + zia.toInt) ∧ zA (zI_197 (zR zy 5)) (5 + zia.toInt) ≤ 12) from by omega)⟩, ⟨by rw [ht]; exact hP, va_K.moved hW.alike hK, hD⟩⟩, hS.F ht⟩) hS.2.2 dX11_readAtom_276
        · have f_204 : ¬ (zi_201.toInt < 0) := ic_nlt (rfl) (by decide) c_203
          refine lv_aload_n hx hb dX11_readAtom_266 rfl (lv_at hl 0 rfl) ?_
          refine lv_bipush (v := 45) hx hb dX11_readAtom_267 (by decide) ?_
          have qc_45 : (45 : Int32).toInt = 45 := by decide
          refine hj_i (ws := (WL cy zL zT zR zI_197 zJ)) (w1 := fun (u : (Nat → Nat → Int32)) => (WL cy zL zT zR u zJ)) (va_runV (As := [.int 45]) (rest := []) ⟨hx, hb, hml, hown, hts⟩ (t_X11_takes l dC dI cy H.size zL zT zR zI_197 zJ zy (45 : Int32) hs h_zI_197.1 t_zy (by decide)) (cwV 1 hts gX11_readAtom_X11_takes rfl rfl rfl (by decide +kernel) ⟨(Nat.le_of_ble_eq_true rfl), (Nat.le_of_ble_eq_true rfl)⟩) (PRE.v hP hK hD hN (ht_recv hK hP hs t_zy (by decide) rfl rfl)) rfl rfl hl.1 rfl (lv_room (Nat.le_of_ble_eq_true rfl)) dX11_readAtom_269 ⟨(Nat.le_of_ble_eq_true rfl), (Nat.le_of_ble_eq_true rfl)⟩) hP hD hS hA (fun zi_208 zI_211 H locs hw_209 hP hD hS => ?_)
          obtain ⟨k_zI_211, b_zi_208⟩ : (WM [1803] AL zT zR zI_197 zI_211) ∧ (0 ≤ zi_208.toInt ∧ zi_208.toInt ≤ 1) := hw_209
          have h_zI_211 : WM [1803, 10200] AL zT zR zI zI_211 := h_zI_197.tr k_zI_211 (by decide) (fun _ _ => trivial)
          have kr_212 : zA (zI_211 (zR zy 5)) (5 + zia.toInt) = zA (zI_197 (zR zy 5)) (5 + zia.toInt) := by rw [(k_zI_211.2.row t_1 (by decide) (by decide))]
          have kr_213 : zA (zI_211 (zR zy 5)) (3 + zia.toInt) = zA (zI_197 (zR zy 5)) (3 + zia.toInt) := by rw [(k_zI_211.2.row t_1 (by decide) (by decide))]
          refine lv_if_ne (tgt := 277) hx hb dX11_readAtom_272 (by decide) (fun c_214 => ?_) (fun c_214 => ?_)
          · have f_215 : zi_208.toInt ≠ 0 := ic_ne (rfl) (by decide) c_214
            refine lv_aload_n hx hb dX11_readAtom_277 rfl (lv_at hl 0 rfl) ?_
            refine ht_getr (C := RX11) (T := TX11) (N := 28) hx hb hts (by decide +kernel) hown hK hP hs t_zy (by decide) rfl rfl 5 (by decide) (hts (.fieldLink RX11 16 "DripStoneModel" "read" "[I") (by decide +kernel)) (fun _ h9 => h9) rfl dX11_readAtom_278 ?_
            refine lv_iload_n hx hb dX11_readAtom_281 rfl (lv_at hl 1 rfl) ?_
            refine lv_iconst (v := 4) hx hb dX11_readAtom_282 (by decide) ?_
            refine lv_iadd hx hb dX11_readAtom_283 ?_
            refine lv_topi (fun zi_216 ezi_216 => ?_)
            have tzi_216 : zi_216.toInt = zia.toInt + (4 : Int) := by rw [ezi_216]; exact tiadd (rfl) (show (4 : Int32).toInt = 4 by decide) (by omega) (by omega)
            refine lv_aload_n hx hb dX11_readAtom_284 rfl (lv_at hl 0 rfl) ?_
            refine lv_aload_n hx hb dX11_readAtom_285 rfl (lv_at hl 0 rfl) ?_
            refine ht_getr (C := RX11) (T := TX11) (N := 28) hx hb hts (by decide +kernel) hown hK hP hs t_zy (by decide) rfl rfl 5 (by decide) (hts (.fieldLink RX11 16 "DripStoneModel" "read" "[I") (by decide +kernel)) (fun _ h9 => h9) rfl dX11_readAtom_286 ?_
            refine lv_iload_n hx hb dX11_readAtom_289 rfl (lv_at hl 1 rfl) ?_
            refine lv_iconst (v := 3) hx hb dX11_readAtom_290 (by decide) ?_
            refine lv_iadd hx hb dX11_readAtom_291 ?_
            refine lv_topi (fun zi_217 ezi_217 => ?_)
            have tzi_217 : zi_217.toInt = zia.toInt + (3 : Int) := by rw [ezi_217]; exact tiadd (rfl) (show (3 : Int32).toInt = 3 by decide) (by omega) (by omega)
            refine ht_iald (n := 66) (q := 0) hx hb hK hP hs t_1 (by decide) rfl rfl ⟨by omega, by omega⟩ dX11_readAtom_292 ?_
            refine lv_topi (fun zi_218 ezi_218 => ?_)
            have la_219 : zi_218.toInt = zA (zI_211 (zR zy 5)) (3 + zia.toInt) := (congrArg Int32.toInt (show zI_211 (zR zy 5) zi_217.toNatClampNeg = zi_218 from ezi_218.symm).symm).trans (congrArg (zA (zI_211 (zR zy 5))) (show zi_217.toInt = 3 + zia.toInt from by omega))
            refine lv_bipush (v := 23) hx hb dX11_readAtom_293 (by decide) ?_
            refine hj_i (ws := (WL cy zL zT zR zI_211 zJ)) (w1 := fun (u : (Nat → Nat → Int32)) => (WL cy zL zT zR u zJ)) (va_runV (As := [.int zi_218, .int 23]) (rest := [.int zi_216, .ref (zR zy 5)]) ⟨hx, hb, hml, hown, hts⟩ (t_X11_readNumber l dC dI cy H.size zL zT zR zI_211 zJ zy zi_218 (23 : Int32) hs h_zI_211.1 t_zy (by omega) (by decide)) (cwV 2 hts gX11_readAtom_X11_readNumber rfl rfl rfl (by decide +kernel) ⟨(Nat.le_of_ble_eq_true rfl), (Nat.le_of_ble_eq_true rfl)⟩) (PRE.v hP hK hD hN (ht_recv hK hP hs t_zy (by decide) rfl rfl)) rfl rfl hl.1 rfl (lv_room (Nat.le_of_ble_eq_true rfl)) dX11_readAtom_295 ⟨(Nat.le_of_ble_eq_true rfl), (Nat.le_of_ble_eq_true rfl)⟩) hP hD hS hA (fun zi_220 zI_223 H locs hw_221 hP hD hS => ?_)
            obtain ⟨k_zI_223, b_zi_220, ps_224⟩ : (WM [1803] AL zT zR zI_211 zI_223) ∧ ((-1) ≤ zi_220.toInt) ∧ (zi_220.toInt = -1 ∨ (zi_218.toInt ≤ zi_220.toInt ∧ zi_220.toInt ≤ (23 : Int32).toInt)) := hw_221
            have h_zI_223 : WM [1803, 10200] AL zT zR zI zI_223 := h_zI_211.tr k_zI_223 (by decide) (fun _ _ => trivial)
            have kr_225 : zA (zI_223 (zR zy 5)) (5 + zia.toInt) = zA (zI_211 (zR zy 5)) (5 + zia.toInt) := by rw [(k_zI_223.2.row t_1 (by decide) (by decide))]
            have kr_226 : zA (zI_223 (zR zy 5)) (3 + zia.toInt) = zA (zI_211 (zR zy 5)) (3 + zia.toInt) := by rw [(k_zI_223.2.row t_1 (by decide) (by decide))]
            have b8_zi_220 : (-1) ≤ zi_220.toInt ∧ zi_220.toInt ≤ 23 := by omega
            refine ht_iast (v := zi_220) (n := 66) (q := 0) hx hb hK hP hD hS hs t_1 (by decide) rfl rfl ⟨by omega, by omega⟩ dX11_readAtom_298 (fun H locs hP hD hS => ?_)
            have h_zI_227 : WM [1803, 10200] AL zT zR zI (u2 zI_223 (zR zy 5) zi_216.toNatClampNeg zi_220) := h_zI_223.putA hs t_1 rfl (rgF _) (by decide) (fun h => absurd h (by decide)) (by decide) trivial
            generalize uzI_227 : u2 zI_223 (zR zy 5) zi_216.toNatClampNeg zi_220 = zI_227 at hP hD h_zI_227
            have kr_228 : zA (zI_227 (zR zy 5)) (5 + zia.toInt) = zA (zI_223 (zR zy 5)) (5 + zia.toInt) := by rw [← uzI_227, u2_r]; exact zu_n (by omega) (by omega) (by omega)
            have kr_229 : zA (zI_227 (zR zy 5)) (3 + zia.toInt) = zA (zI_223 (zR zy 5)) (3 + zia.toInt) := by rw [← uzI_227, u2_r]; exact zu_n (by omega) (by omega) (by omega)
            refine lv_aload_n hx hb dX11_readAtom_299 rfl (lv_at hl 0 rfl) ?_
            refine ht_getr (C := RX11) (T := TX11) (N := 28) hx hb hts (by decide +kernel) hown hK hP hs t_zy (by decide) rfl rfl 5 (by decide) (hts (.fieldLink RX11 16 "DripStoneModel" "read" "[I") (by decide +kernel)) (fun _ h9 => h9) rfl dX11_readAtom_300 ?_
            refine lv_iload_n hx hb dX11_readAtom_303 rfl (lv_at hl 1 rfl) ?_
            refine lv_iconst (v := 4) hx hb dX11_readAtom_304 (by decide) ?_
            refine lv_iadd hx hb dX11_readAtom_305 ?_
            refine lv_topi (fun zi_230 ezi_230 => ?_)
            have tzi_230 : zi_230.toInt = zia.toInt + (4 : Int) := by rw [ezi_230]; exact tiadd (rfl) (show (4 : Int32).toInt = 4 by decide) (by omega) (by omega)
            refine ht_iald (n := 66) (q := 0) hx hb hK hP hs t_1 (by decide) rfl rfl ⟨by omega, by omega⟩ dX11_readAtom_306 ?_
            refine lv_topi (fun zi_231 ezi_231 => ?_)
            have la_232 : zi_231.toInt = zA (zI_227 (zR zy 5)) (4 + zia.toInt) := (congrArg Int32.toInt (show zI_227 (zR zy 5) zi_230.toNatClampNeg = zi_231 from ezi_231.symm).symm).trans (congrArg (zA (zI_227 (zR zy 5))) (show zi_230.toInt = 4 + zia.toInt from by omega))
            refine lv_if_lt (tgt := 319) hx hb dX11_readAtom_307 (by decide) (fun c_233 => ?_) (fun c_233 => ?_)
            · have f_234 : zi_231.toInt < 0 := ic_lt (rfl) (by decide) c_233
              refine lv_iconst (v := 0) hx hb dX11_readAtom_319 (by decide) ?_
              subst hQ
              have fr_235 : FRM (zI (zR zy 5)) (zI_184 (zR zy 5)) (zia.toInt) (zia.toInt + 5) := by rw [(k_zI_184.2.row t_1 (by decide) (by decide))]; exact e_jn_180_0
              have fr_236 : FRM (zI (zR zy 5)) (zI_193 (zR zy 5)) (zia.toInt) (zia.toInt + 5) := by rw [(k_zI_193.2.row t_1 (by decide) (by decide))]; exact fr_235
              have fr_237 : FRM (zI (zR zy 5)) (zI_197 (zR zy 5)) (zia.toInt) (zia.toInt + 5) := by rw [← uzI_197, u2_r]; exact FRM.up fr_236 (by omega)
              have fr_238 : FRM (zI (zR zy 5)) (zI_211 (zR zy 5)) (zia.toInt) (zia.toInt + 5) := by rw [(k_zI_211.2.row t_1 (by decide) (by decide))]; exact fr_237
              have fr_239 : FRM (zI (zR zy 5)) (zI_223 (zR zy 5)) (zia.toInt) (zia.toInt + 5) := by rw [(k_zI_223.2.row t_1 (by decide) (by decide))]; exact fr_238
              have fr_240 : FRM (zI (zR zy 5)) (zI_227 (zR zy 5)) (zia.toInt) (zia.toInt + 5) := by rw [← uzI_227, u2_r]; exact FRM.up fr_239 (by omega)
              exact W.zret (v := (0 : Int32)) hx hb hr rfl (fun t ht hW => ⟨⟨(0 : Int32), zI_227, rfl, ⟨h_zI_227, (show 0 ≤ (0 : Int32).toInt ∧ (0 : Int32).toInt ≤ 1 from by omega), (show FRM (zI (zR zy 5)) (zI_227 (zR zy 5)) (zia.toInt) (zia.toInt + 5) from fr_240), (show (0 : Int32).toInt = 0 ∨ (1 ≤ zA (zI_227 (zR zy 5)) (5 + zia.toInt) ∧ zA (zI_227 (zR zy 5)) (5 + zia.toInt) ≤ 12) from by omega)⟩, ⟨by rw [ht]; exact hP, va_K.moved hW.alike hK, hD⟩⟩, hS.F ht⟩) hS.2.2 dX11_readAtom_320
            · have f_234 : ¬ (zi_231.toInt < 0) := ic_nlt (rfl) (by decide) c_233
              refine lv_aload_n hx hb dX11_readAtom_310 rfl (lv_at hl 0 rfl) ?_
              refine lv_bipush (v := 35) hx hb dX11_readAtom_311 (by decide) ?_
              have qc_35 : (35 : Int32).toInt = 35 := by decide
              refine hj_i (ws := (WL cy zL zT zR zI_227 zJ)) (w1 := fun (u : (Nat → Nat → Int32)) => (WL cy zL zT zR u zJ)) (va_runV (As := [.int 35]) (rest := []) ⟨hx, hb, hml, hown, hts⟩ (t_X11_takes l dC dI cy H.size zL zT zR zI_227 zJ zy (35 : Int32) hs h_zI_227.1 t_zy (by decide)) (cwV 1 hts gX11_readAtom_X11_takes rfl rfl rfl (by decide +kernel) ⟨(Nat.le_of_ble_eq_true rfl), (Nat.le_of_ble_eq_true rfl)⟩) (PRE.v hP hK hD hN (ht_recv hK hP hs t_zy (by decide) rfl rfl)) rfl rfl hl.1 rfl (lv_room (Nat.le_of_ble_eq_true rfl)) dX11_readAtom_313 ⟨(Nat.le_of_ble_eq_true rfl), (Nat.le_of_ble_eq_true rfl)⟩) hP hD hS hA (fun zi_241 zI_244 H locs hw_242 hP hD hS => ?_)
              obtain ⟨k_zI_244, b_zi_241⟩ : (WM [1803] AL zT zR zI_227 zI_244) ∧ (0 ≤ zi_241.toInt ∧ zi_241.toInt ≤ 1) := hw_242
              have h_zI_244 : WM [1803, 10200] AL zT zR zI zI_244 := h_zI_227.tr k_zI_244 (by decide) (fun _ _ => trivial)
              have kr_245 : zA (zI_244 (zR zy 5)) (5 + zia.toInt) = zA (zI_227 (zR zy 5)) (5 + zia.toInt) := by rw [(k_zI_244.2.row t_1 (by decide) (by decide))]
              have kr_246 : zA (zI_244 (zR zy 5)) (3 + zia.toInt) = zA (zI_227 (zR zy 5)) (3 + zia.toInt) := by rw [(k_zI_244.2.row t_1 (by decide) (by decide))]
              refine lv_if_ne (tgt := 321) hx hb dX11_readAtom_316 (by decide) (fun c_247 => ?_) (fun c_247 => ?_)
              · have f_248 : zi_241.toInt ≠ 0 := ic_ne (rfl) (by decide) c_247
                refine lv_aload_n hx hb dX11_readAtom_321 rfl (lv_at hl 0 rfl) ?_
                refine ht_getr (C := RX11) (T := TX11) (N := 28) hx hb hts (by decide +kernel) hown hK hP hs t_zy (by decide) rfl rfl 5 (by decide) (hts (.fieldLink RX11 16 "DripStoneModel" "read" "[I") (by decide +kernel)) (fun _ h9 => h9) rfl dX11_readAtom_322 ?_
                refine lv_iload_n hx hb dX11_readAtom_325 rfl (lv_at hl 1 rfl) ?_
                refine lv_iconst (v := 5) hx hb dX11_readAtom_326 (by decide) ?_
                refine lv_iadd hx hb dX11_readAtom_327 ?_
                refine lv_topi (fun zi_249 ezi_249 => ?_)
                have tzi_249 : zi_249.toInt = zia.toInt + (5 : Int) := by rw [ezi_249]; exact tiadd (rfl) (show (5 : Int32).toInt = 5 by decide) (by omega) (by omega)
                refine lv_aload_n hx hb dX11_readAtom_328 rfl (lv_at hl 0 rfl) ?_
                refine lv_iconst (v := 1) hx hb dX11_readAtom_329 (by decide) ?_
                refine lv_bipush (v := 12) hx hb dX11_readAtom_330 (by decide) ?_
                have qc_1 : (1 : Int32).toInt = 1 := by decide
                have qc_12 : (12 : Int32).toInt = 12 := by decide
                refine hj_i (ws := (WL cy zL zT zR zI_244 zJ)) (w1 := fun (u : (Nat → Nat → Int32)) => (WL cy zL zT zR u zJ)) (va_runV (As := [.int 1, .int 12]) (rest := [.int zi_249, .ref (zR zy 5)]) ⟨hx, hb, hml, hown, hts⟩ (t_X11_readNumber l dC dI cy H.size zL zT zR zI_244 zJ zy (1 : Int32) (12 : Int32) hs h_zI_244.1 t_zy (by decide) (by decide)) (cwV 2 hts gX11_readAtom_X11_readNumber rfl rfl rfl (by decide +kernel) ⟨(Nat.le_of_ble_eq_true rfl), (Nat.le_of_ble_eq_true rfl)⟩) (PRE.v hP hK hD hN (ht_recv hK hP hs t_zy (by decide) rfl rfl)) rfl rfl hl.1 rfl (lv_room (Nat.le_of_ble_eq_true rfl)) dX11_readAtom_332 ⟨(Nat.le_of_ble_eq_true rfl), (Nat.le_of_ble_eq_true rfl)⟩) hP hD hS hA (fun zi_250 zI_253 H locs hw_251 hP hD hS => ?_)
                obtain ⟨k_zI_253, b_zi_250, ps_254⟩ : (WM [1803] AL zT zR zI_244 zI_253) ∧ ((-1) ≤ zi_250.toInt) ∧ (zi_250.toInt = -1 ∨ ((1 : Int32).toInt ≤ zi_250.toInt ∧ zi_250.toInt ≤ (12 : Int32).toInt)) := hw_251
                have h_zI_253 : WM [1803, 10200] AL zT zR zI zI_253 := h_zI_244.tr k_zI_253 (by decide) (fun _ _ => trivial)
                have kr_255 : zA (zI_253 (zR zy 5)) (5 + zia.toInt) = zA (zI_244 (zR zy 5)) (5 + zia.toInt) := by rw [(k_zI_253.2.row t_1 (by decide) (by decide))]
                have kr_256 : zA (zI_253 (zR zy 5)) (3 + zia.toInt) = zA (zI_244 (zR zy 5)) (3 + zia.toInt) := by rw [(k_zI_253.2.row t_1 (by decide) (by decide))]
                have b8_zi_250 : (-1) ≤ zi_250.toInt ∧ zi_250.toInt ≤ 12 := by omega
                refine ht_iast (v := zi_250) (n := 66) (q := 0) hx hb hK hP hD hS hs t_1 (by decide) rfl rfl ⟨by omega, by omega⟩ dX11_readAtom_335 (fun H locs hP hD hS => ?_)
                have h_zI_257 : WM [1803, 10200] AL zT zR zI (u2 zI_253 (zR zy 5) zi_249.toNatClampNeg zi_250) := h_zI_253.putA hs t_1 rfl (rgF _) (by decide) (fun h => absurd h (by decide)) (by decide) trivial
                generalize uzI_257 : u2 zI_253 (zR zy 5) zi_249.toNatClampNeg zi_250 = zI_257 at hP hD h_zI_257
                have kr_258 : zA (zI_257 (zR zy 5)) (5 + zia.toInt) = zi_250.toInt := by rw [← uzI_257, u2_r]; exact (zu_s (by omega)).trans rfl
                have kr_259 : zA (zI_257 (zR zy 5)) (3 + zia.toInt) = zA (zI_253 (zR zy 5)) (3 + zia.toInt) := by rw [← uzI_257, u2_r]; exact zu_n (by omega) (by omega) (by omega)
                refine lv_aload_n hx hb dX11_readAtom_336 rfl (lv_at hl 0 rfl) ?_
                refine ht_getr (C := RX11) (T := TX11) (N := 28) hx hb hts (by decide +kernel) hown hK hP hs t_zy (by decide) rfl rfl 5 (by decide) (hts (.fieldLink RX11 16 "DripStoneModel" "read" "[I") (by decide +kernel)) (fun _ h9 => h9) rfl dX11_readAtom_337 ?_
                refine lv_iload_n hx hb dX11_readAtom_340 rfl (lv_at hl 1 rfl) ?_
                refine lv_iconst (v := 5) hx hb dX11_readAtom_341 (by decide) ?_
                refine lv_iadd hx hb dX11_readAtom_342 ?_
                refine lv_topi (fun zi_260 ezi_260 => ?_)
                have tzi_260 : zi_260.toInt = zia.toInt + (5 : Int) := by rw [ezi_260]; exact tiadd (rfl) (show (5 : Int32).toInt = 5 by decide) (by omega) (by omega)
                refine ht_iald (n := 66) (q := 0) hx hb hK hP hs t_1 (by decide) rfl rfl ⟨by omega, by omega⟩ dX11_readAtom_343 ?_
                refine lv_topi (fun zi_261 ezi_261 => ?_)
                have la_262 : zi_261.toInt = zA (zI_257 (zR zy 5)) (5 + zia.toInt) := (congrArg Int32.toInt (show zI_257 (zR zy 5) zi_260.toNatClampNeg = zi_261 from ezi_261.symm).symm).trans (congrArg (zA (zI_257 (zR zy 5))) (show zi_260.toInt = 5 + zia.toInt from by omega))
                refine lv_if_le (tgt := 351) hx hb dX11_readAtom_344 (by decide) (fun c_263 => ?_) (fun c_263 => ?_)
                · have f_264 : zi_261.toInt ≤ 0 := ic_le (rfl) (by decide) c_263
                  refine lv_iconst (v := 0) hx hb dX11_readAtom_351 (by decide) ?_
                  subst hQ
                  have fr_265 : FRM (zI (zR zy 5)) (zI_184 (zR zy 5)) (zia.toInt) (zia.toInt + 5) := by rw [(k_zI_184.2.row t_1 (by decide) (by decide))]; exact e_jn_180_0
                  have fr_266 : FRM (zI (zR zy 5)) (zI_193 (zR zy 5)) (zia.toInt) (zia.toInt + 5) := by rw [(k_zI_193.2.row t_1 (by decide) (by decide))]; exact fr_265
                  have fr_267 : FRM (zI (zR zy 5)) (zI_197 (zR zy 5)) (zia.toInt) (zia.toInt + 5) := by rw [← uzI_197, u2_r]; exact FRM.up fr_266 (by omega)
                  have fr_268 : FRM (zI (zR zy 5)) (zI_211 (zR zy 5)) (zia.toInt) (zia.toInt + 5) := by rw [(k_zI_211.2.row t_1 (by decide) (by decide))]; exact fr_267
                  have fr_269 : FRM (zI (zR zy 5)) (zI_223 (zR zy 5)) (zia.toInt) (zia.toInt + 5) := by rw [(k_zI_223.2.row t_1 (by decide) (by decide))]; exact fr_268
                  have fr_270 : FRM (zI (zR zy 5)) (zI_227 (zR zy 5)) (zia.toInt) (zia.toInt + 5) := by rw [← uzI_227, u2_r]; exact FRM.up fr_269 (by omega)
                  have fr_271 : FRM (zI (zR zy 5)) (zI_244 (zR zy 5)) (zia.toInt) (zia.toInt + 5) := by rw [(k_zI_244.2.row t_1 (by decide) (by decide))]; exact fr_270
                  have fr_272 : FRM (zI (zR zy 5)) (zI_253 (zR zy 5)) (zia.toInt) (zia.toInt + 5) := by rw [(k_zI_253.2.row t_1 (by decide) (by decide))]; exact fr_271
                  have fr_273 : FRM (zI (zR zy 5)) (zI_257 (zR zy 5)) (zia.toInt) (zia.toInt + 5) := by rw [← uzI_257, u2_r]; exact FRM.up fr_272 (by omega)
                  exact W.zret (v := (0 : Int32)) hx hb hr rfl (fun t ht hW => ⟨⟨(0 : Int32), zI_257, rfl, ⟨h_zI_257, (show 0 ≤ (0 : Int32).toInt ∧ (0 : Int32).toInt ≤ 1 from by omega), (show FRM (zI (zR zy 5)) (zI_257 (zR zy 5)) (zia.toInt) (zia.toInt + 5) from fr_273), (show (0 : Int32).toInt = 0 ∨ (1 ≤ zA (zI_257 (zR zy 5)) (5 + zia.toInt) ∧ zA (zI_257 (zR zy 5)) (5 + zia.toInt) ≤ 12) from by omega)⟩, ⟨by rw [ht]; exact hP, va_K.moved hW.alike hK, hD⟩⟩, hS.F ht⟩) hS.2.2 dX11_readAtom_352
                · have f_264 : ¬ (zi_261.toInt ≤ 0) := ic_nle (rfl) (by decide) c_263
                  refine lv_iconst (v := 1) hx hb dX11_readAtom_347 (by decide) ?_
                  refine lv_goto (tgt := 352) hx hb dX11_readAtom_348 (by decide) ?_
                  subst hQ
                  have fr_274 : FRM (zI (zR zy 5)) (zI_184 (zR zy 5)) (zia.toInt) (zia.toInt + 5) := by rw [(k_zI_184.2.row t_1 (by decide) (by decide))]; exact e_jn_180_0
                  have fr_275 : FRM (zI (zR zy 5)) (zI_193 (zR zy 5)) (zia.toInt) (zia.toInt + 5) := by rw [(k_zI_193.2.row t_1 (by decide) (by decide))]; exact fr_274
                  have fr_276 : FRM (zI (zR zy 5)) (zI_197 (zR zy 5)) (zia.toInt) (zia.toInt + 5) := by rw [← uzI_197, u2_r]; exact FRM.up fr_275 (by omega)
                  have fr_277 : FRM (zI (zR zy 5)) (zI_211 (zR zy 5)) (zia.toInt) (zia.toInt + 5) := by rw [(k_zI_211.2.row t_1 (by decide) (by decide))]; exact fr_276
                  have fr_278 : FRM (zI (zR zy 5)) (zI_223 (zR zy 5)) (zia.toInt) (zia.toInt + 5) := by rw [(k_zI_223.2.row t_1 (by decide) (by decide))]; exact fr_277
                  have fr_279 : FRM (zI (zR zy 5)) (zI_227 (zR zy 5)) (zia.toInt) (zia.toInt + 5) := by rw [← uzI_227, u2_r]; exact FRM.up fr_278 (by omega)
                  have fr_280 : FRM (zI (zR zy 5)) (zI_244 (zR zy 5)) (zia.toInt) (zia.toInt + 5) := by rw [(k_zI_244.2.row t_1 (by decide) (by decide))]; exact fr_279
                  have fr_281 : FRM (zI (zR zy 5)) (zI_253 (zR zy 5)) (zia.toInt) (zia.toInt + 5) := by rw [(k_zI_253.2.row t_1 (by decide) (by decide))]; exact fr_280
                  have fr_282 : FRM (zI (zR zy 5)) (zI_257 (zR zy 5)) (zia.toInt) (zia.toInt + 5) := by rw [← uzI_257, u2_r]; exact FRM.up fr_281 (by omega)
                  exact W.zret (v := (1 : Int32)) hx hb hr rfl (fun t ht hW => ⟨⟨(1 : Int32), zI_257, rfl, ⟨h_zI_257, (show 0 ≤ (1 : Int32).toInt ∧ (1 : Int32).toInt ≤ 1 from by omega), (show FRM (zI (zR zy 5)) (zI_257 (zR zy 5)) (zia.toInt) (zia.toInt + 5) from fr_282), (show (1 : Int32).toInt = 0 ∨ (1 ≤ zA (zI_257 (zR zy 5)) (5 + zia.toInt) ∧ zA (zI_257 (zR zy 5)) (5 + zia.toInt) ≤ 12) from by omega)⟩, ⟨by rw [ht]; exact hP, va_K.moved hW.alike hK, hD⟩⟩, hS.F ht⟩) hS.2.2 dX11_readAtom_352
              · have f_248 : ¬ (zi_241.toInt ≠ 0) := ic_nne (rfl) (by decide) c_247
                refine lv_iconst (v := 0) hx hb dX11_readAtom_319 (by decide) ?_
                subst hQ
                have fr_283 : FRM (zI (zR zy 5)) (zI_184 (zR zy 5)) (zia.toInt) (zia.toInt + 5) := by rw [(k_zI_184.2.row t_1 (by decide) (by decide))]; exact e_jn_180_0
                have fr_284 : FRM (zI (zR zy 5)) (zI_193 (zR zy 5)) (zia.toInt) (zia.toInt + 5) := by rw [(k_zI_193.2.row t_1 (by decide) (by decide))]; exact fr_283
                have fr_285 : FRM (zI (zR zy 5)) (zI_197 (zR zy 5)) (zia.toInt) (zia.toInt + 5) := by rw [← uzI_197, u2_r]; exact FRM.up fr_284 (by omega)
                have fr_286 : FRM (zI (zR zy 5)) (zI_211 (zR zy 5)) (zia.toInt) (zia.toInt + 5) := by rw [(k_zI_211.2.row t_1 (by decide) (by decide))]; exact fr_285
                have fr_287 : FRM (zI (zR zy 5)) (zI_223 (zR zy 5)) (zia.toInt) (zia.toInt + 5) := by rw [(k_zI_223.2.row t_1 (by decide) (by decide))]; exact fr_286
                have fr_288 : FRM (zI (zR zy 5)) (zI_227 (zR zy 5)) (zia.toInt) (zia.toInt + 5) := by rw [← uzI_227, u2_r]; exact FRM.up fr_287 (by omega)
                have fr_289 : FRM (zI (zR zy 5)) (zI_244 (zR zy 5)) (zia.toInt) (zia.toInt + 5) := by rw [(k_zI_244.2.row t_1 (by decide) (by decide))]; exact fr_288
                exact W.zret (v := (0 : Int32)) hx hb hr rfl (fun t ht hW => ⟨⟨(0 : Int32), zI_244, rfl, ⟨h_zI_244, (show 0 ≤ (0 : Int32).toInt ∧ (0 : Int32).toInt ≤ 1 from by omega), (show FRM (zI (zR zy 5)) (zI_244 (zR zy 5)) (zia.toInt) (zia.toInt + 5) from fr_289), (show (0 : Int32).toInt = 0 ∨ (1 ≤ zA (zI_244 (zR zy 5)) (5 + zia.toInt) ∧ zA (zI_244 (zR zy 5)) (5 + zia.toInt) ≤ 12) from by omega)⟩, ⟨by rw [ht]; exact hP, va_K.moved hW.alike hK, hD⟩⟩, hS.F ht⟩) hS.2.2 dX11_readAtom_320
          · have f_215 : ¬ (zi_208.toInt ≠ 0) := ic_nne (rfl) (by decide) c_214
            refine lv_iconst (v := 0) hx hb dX11_readAtom_275 (by decide) ?_
            subst hQ
            have fr_290 : FRM (zI (zR zy 5)) (zI_184 (zR zy 5)) (zia.toInt) (zia.toInt + 5) := by rw [(k_zI_184.2.row t_1 (by decide) (by decide))]; exact e_jn_180_0
            have fr_291 : FRM (zI (zR zy 5)) (zI_193 (zR zy 5)) (zia.toInt) (zia.toInt + 5) := by rw [(k_zI_193.2.row t_1 (by decide) (by decide))]; exact fr_290
            have fr_292 : FRM (zI (zR zy 5)) (zI_197 (zR zy 5)) (zia.toInt) (zia.toInt + 5) := by rw [← uzI_197, u2_r]; exact FRM.up fr_291 (by omega)
            have fr_293 : FRM (zI (zR zy 5)) (zI_211 (zR zy 5)) (zia.toInt) (zia.toInt + 5) := by rw [(k_zI_211.2.row t_1 (by decide) (by decide))]; exact fr_292
            exact W.zret (v := (0 : Int32)) hx hb hr rfl (fun t ht hW => ⟨⟨(0 : Int32), zI_211, rfl, ⟨h_zI_211, (show 0 ≤ (0 : Int32).toInt ∧ (0 : Int32).toInt ≤ 1 from by omega), (show FRM (zI (zR zy 5)) (zI_211 (zR zy 5)) (zia.toInt) (zia.toInt + 5) from fr_293), (show (0 : Int32).toInt = 0 ∨ (1 ≤ zA (zI_211 (zR zy 5)) (5 + zia.toInt) ∧ zA (zI_211 (zR zy 5)) (5 + zia.toInt) ≤ 12) from by omega)⟩, ⟨by rw [ht]; exact hP, va_K.moved hW.alike hK, hD⟩⟩, hS.F ht⟩) hS.2.2 dX11_readAtom_276
      · have f_188 : ¬ (zi_181.toInt ≠ 0) := ic_nne (rfl) (by decide) c_187
        refine lv_iconst (v := 0) hx hb dX11_readAtom_238 (by decide) ?_
        subst hQ
        have qc_0 : (0 : Int32).toInt = 0 := by decide
        have fr_294 : FRM (zI (zR zy 5)) (zI_184 (zR zy 5)) (zia.toInt) (zia.toInt + 5) := by rw [(k_zI_184.2.row t_1 (by decide) (by decide))]; exact e_jn_180_0
        exact W.zret (v := (0 : Int32)) hx hb hr rfl (fun t ht hW => ⟨⟨(0 : Int32), zI_184, rfl, ⟨h_zI_184, (show 0 ≤ (0 : Int32).toInt ∧ (0 : Int32).toInt ≤ 1 from by omega), (show FRM (zI (zR zy 5)) (zI_184 (zR zy 5)) (zia.toInt) (zia.toInt + 5) from fr_294), (show (0 : Int32).toInt = 0 ∨ (1 ≤ zA (zI_184 (zR zy 5)) (5 + zia.toInt) ∧ zA (zI_184 (zR zy 5)) (5 + zia.toInt) ≤ 12) from by omega)⟩, ⟨by rw [ht]; exact hP, va_K.moved hW.alike hK, hD⟩⟩, hS.F ht⟩) hS.2.2 dX11_readAtom_239
    refine lv_if_ne (tgt := 229) hx hb dX11_readAtom_44 (by decide) (fun c_295 => ?_) (fun c_295 => ?_)
    · have f_296 : zi_23.toInt ≠ 0 := ic_ne (rfl) (by decide) c_295
      have fr_297 : FRM (zI (zR zy 5)) (zI_12 (zR zy 5)) (zia.toInt) (zia.toInt + 5) := by rw [← uzI_12, u2_r]; exact FRM.up e_jn_11_0 (by omega)
      have fr_298 : FRM (zI (zR zy 5)) (zI_16 (zR zy 5)) (zia.toInt) (zia.toInt + 5) := by rw [← uzI_16, u2_r]; exact FRM.up fr_297 (by omega)
      have fr_299 : FRM (zI (zR zy 5)) (zI_20 (zR zy 5)) (zia.toInt) (zia.toInt + 5) := by rw [← uzI_20, u2_r]; exact FRM.up fr_298 (by omega)
      have fr_300 : FRM (zI (zR zy 5)) (zI_26 (zR zy 5)) (zia.toInt) (zia.toInt + 5) := by rw [(k_zI_26.2.row t_1 (by decide) (by decide))]; exact fr_299
      exact jn_180 zI_26 _ _ _ h_zI_26 fr_300 hP hD hS (lv_sub hl [0, 1] rfl)
    · have f_296 : ¬ (zi_23.toInt ≠ 0) := ic_nne (rfl) (by decide) c_295
      refine lv_aload_n hx hb dX11_readAtom_47 rfl (lv_at hl 0 rfl) ?_
      refine lv_bipush (v := 119) hx hb dX11_readAtom_48 (by decide) ?_
      have qc_119 : (119 : Int32).toInt = 119 := by decide
      refine hj_i (ws := (WL cy zL zT zR zI_26 zJ)) (w1 := fun (u : (Nat → Nat → Int32)) => (WL cy zL zT zR u zJ)) (va_runV (As := [.int 119]) (rest := []) ⟨hx, hb, hml, hown, hts⟩ (t_X11_takes l dC dI cy H.size zL zT zR zI_26 zJ zy (119 : Int32) hs h_zI_26.1 t_zy (by decide)) (cwV 1 hts gX11_readAtom_X11_takes rfl rfl rfl (by decide +kernel) ⟨(Nat.le_of_ble_eq_true rfl), (Nat.le_of_ble_eq_true rfl)⟩) (PRE.v hP hK hD hN (ht_recv hK hP hs t_zy (by decide) rfl rfl)) rfl rfl hl.1 rfl (lv_room (Nat.le_of_ble_eq_true rfl)) dX11_readAtom_50 ⟨(Nat.le_of_ble_eq_true rfl), (Nat.le_of_ble_eq_true rfl)⟩) hP hD hS hA (fun zi_301 zI_304 H locs hw_302 hP hD hS => ?_)
      obtain ⟨k_zI_304, b_zi_301⟩ : (WM [1803] AL zT zR zI_26 zI_304) ∧ (0 ≤ zi_301.toInt ∧ zi_301.toInt ≤ 1) := hw_302
      have h_zI_304 : WM [1803, 10200] AL zT zR zI zI_304 := h_zI_26.tr k_zI_304 (by decide) (fun _ _ => trivial)
      have kr_305 : zA (zI_304 (zR zy 5)) (5 + zia.toInt) = zA (zI_26 (zR zy 5)) (5 + zia.toInt) := by rw [(k_zI_304.2.row t_1 (by decide) (by decide))]
      have kr_306 : zA (zI_304 (zR zy 5)) (3 + zia.toInt) = zA (zI_26 (zR zy 5)) (3 + zia.toInt) := by rw [(k_zI_304.2.row t_1 (by decide) (by decide))]
      refine lv_if_ne (tgt := 58) hx hb dX11_readAtom_53 (by decide) (fun c_307 => ?_) (fun c_307 => ?_)
      · have f_308 : zi_301.toInt ≠ 0 := ic_ne (rfl) (by decide) c_307
        refine lv_aload_n hx hb dX11_readAtom_58 rfl (lv_at hl 0 rfl) ?_
        refine ht_getr (C := RX11) (T := TX11) (N := 28) hx hb hts (by decide +kernel) hown hK hP hs t_zy (by decide) rfl rfl 5 (by decide) (hts (.fieldLink RX11 16 "DripStoneModel" "read" "[I") (by decide +kernel)) (fun _ h9 => h9) rfl dX11_readAtom_59 ?_
        refine lv_iload_n hx hb dX11_readAtom_62 rfl (lv_at hl 1 rfl) ?_
        refine lv_iconst (v := 1) hx hb dX11_readAtom_63 (by decide) ?_
        refine lv_iadd hx hb dX11_readAtom_64 ?_
        refine lv_topi (fun zi_309 ezi_309 => ?_)
        have tzi_309 : zi_309.toInt = zia.toInt + (1 : Int) := by rw [ezi_309]; exact tiadd (rfl) (show (1 : Int32).toInt = 1 by decide) (by omega) (by omega)
        refine lv_aload_n hx hb dX11_readAtom_65 rfl (lv_at hl 0 rfl) ?_
        refine lv_bipush (v := 60) hx hb dX11_readAtom_66 (by decide) ?_
        have qc_60 : (60 : Int32).toInt = 60 := by decide
        refine hj_i (ws := (WL cy zL zT zR zI_304 zJ)) (w1 := fun (u : (Nat → Nat → Int32)) => (WL cy zL zT zR u zJ)) (va_runV (As := [.int 60]) (rest := [.int zi_309, .ref (zR zy 5)]) ⟨hx, hb, hml, hown, hts⟩ (t_X11_takes l dC dI cy H.size zL zT zR zI_304 zJ zy (60 : Int32) hs h_zI_304.1 t_zy (by decide)) (cwV 1 hts gX11_readAtom_X11_takes rfl rfl rfl (by decide +kernel) ⟨(Nat.le_of_ble_eq_true rfl), (Nat.le_of_ble_eq_true rfl)⟩) (PRE.v hP hK hD hN (ht_recv hK hP hs t_zy (by decide) rfl rfl)) rfl rfl hl.1 rfl (lv_room (Nat.le_of_ble_eq_true rfl)) dX11_readAtom_68 ⟨(Nat.le_of_ble_eq_true rfl), (Nat.le_of_ble_eq_true rfl)⟩) hP hD hS hA (fun zi_310 zI_313 H locs hw_311 hP hD hS => ?_)
        obtain ⟨k_zI_313, b_zi_310⟩ : (WM [1803] AL zT zR zI_304 zI_313) ∧ (0 ≤ zi_310.toInt ∧ zi_310.toInt ≤ 1) := hw_311
        have h_zI_313 : WM [1803, 10200] AL zT zR zI zI_313 := h_zI_304.tr k_zI_313 (by decide) (fun _ _ => trivial)
        have kr_314 : zA (zI_313 (zR zy 5)) (5 + zia.toInt) = zA (zI_304 (zR zy 5)) (5 + zia.toInt) := by rw [(k_zI_313.2.row t_1 (by decide) (by decide))]
        have kr_315 : zA (zI_313 (zR zy 5)) (3 + zia.toInt) = zA (zI_304 (zR zy 5)) (3 + zia.toInt) := by rw [(k_zI_313.2.row t_1 (by decide) (by decide))]
        have jn_328 : ∀ (zi_326 : Int32) (zI_327 : Nat → Nat → Int32) (H : Heap) (locs : List Loc) (ls : Array Slot), (0 ≤ zi_326.toInt ∧ zi_326.toInt ≤ 2) → (WM [1803, 10200] AL zT zR zI zI_327) → (FRM (zI (zR zy 5)) (zI_327 (zR zy 5)) (zia.toInt) (zia.toInt + 5)) → va_P (dC, dI) vwCl (WL cy zL zT zR zI_327 zJ) H → va_D A (WL cy zL zT zR zI_327 zJ) → va_S A s.heap H locs → lv_has ls 5 [(0, .ref zy), (1, .int zia)] → W p l e ({ frames := 2, cells := 0, slots := 0, locals := 49 } : Room) s m ([.ref zy, .int zia] : List Value).toArray below meth c H locs 0 0 Q (F0 m 92 ls [.int zi_326, .int zi_309, .ref (zR zy 5)]) := by
          intro zi_326 zI_327 H locs ls b_zi_326 h_zI_327 e_jn_328_0 hP hD hS hl
          refine ht_iast (v := zi_326) (n := 66) (q := 0) hx hb hK hP hD hS hs t_1 (by decide) rfl rfl ⟨by omega, by omega⟩ dX11_readAtom_92 (fun H locs hP hD hS => ?_)
          have h_zI_329 : WM [1803, 10200] AL zT zR zI (u2 zI_327 (zR zy 5) zi_309.toNatClampNeg zi_326) := h_zI_327.putA hs t_1 rfl (rgF _) (by decide) (fun h => absurd h (by decide)) (by decide) trivial
          generalize uzI_329 : u2 zI_327 (zR zy 5) zi_309.toNatClampNeg zi_326 = zI_329 at hP hD h_zI_329
          have kr_330 : zA (zI_329 (zR zy 5)) (5 + zia.toInt) = zA (zI_327 (zR zy 5)) (5 + zia.toInt) := by rw [← uzI_329, u2_r]; exact zu_n (by omega) (by omega) (by omega)
          have kr_331 : zA (zI_329 (zR zy 5)) (3 + zia.toInt) = zA (zI_327 (zR zy 5)) (3 + zia.toInt) := by rw [← uzI_329, u2_r]; exact zu_n (by omega) (by omega) (by omega)
          refine lv_aload_n hx hb dX11_readAtom_93 rfl (lv_at hl 0 rfl) ?_
          refine ht_getr (C := RX11) (T := TX11) (N := 28) hx hb hts (by decide +kernel) hown hK hP hs t_zy (by decide) rfl rfl 5 (by decide) (hts (.fieldLink RX11 16 "DripStoneModel" "read" "[I") (by decide +kernel)) (fun _ h9 => h9) rfl dX11_readAtom_94 ?_
          refine lv_iload_n hx hb dX11_readAtom_97 rfl (lv_at hl 1 rfl) ?_
          refine lv_iconst (v := 1) hx hb dX11_readAtom_98 (by decide) ?_
          refine lv_iadd hx hb dX11_readAtom_99 ?_
          refine lv_topi (fun zi_332 ezi_332 => ?_)
          have tzi_332 : zi_332.toInt = zia.toInt + (1 : Int) := by rw [ezi_332]; exact tiadd (rfl) (show (1 : Int32).toInt = 1 by decide) (by omega) (by omega)
          refine ht_iald (n := 66) (q := 0) hx hb hK hP hs t_1 (by decide) rfl rfl ⟨by omega, by omega⟩ dX11_readAtom_100 ?_
          refine lv_topi (fun zi_333 ezi_333 => ?_)
          have la_334 : zi_333.toInt = zA (zI_329 (zR zy 5)) (1 + zia.toInt) := (congrArg Int32.toInt (show zI_329 (zR zy 5) zi_332.toNatClampNeg = zi_333 from ezi_333.symm).symm).trans (congrArg (zA (zI_329 (zR zy 5))) (show zi_332.toInt = 1 + zia.toInt from by omega))
          refine lv_if_ne (tgt := 106) hx hb dX11_readAtom_101 (by decide) (fun c_335 => ?_) (fun c_335 => ?_)
          · have f_336 : zi_333.toInt ≠ 0 := ic_ne (rfl) (by decide) c_335
            refine lv_aload_n hx hb dX11_readAtom_106 rfl (lv_at hl 0 rfl) ?_
            refine hj_i (ws := (WL cy zL zT zR zI_329 zJ)) (w1 := fun (u : (Nat → Nat → Int32)) => (WL cy zL zT zR u zJ)) (va_runV (As := []) (rest := []) ⟨hx, hb, hml, hown, hts⟩ (t_X11_nextByte l dC dI cy H.size zL zT zR zI_329 zJ zy hs h_zI_329.1 t_zy) (cwV 0 hts gX11_readAtom_X11_nextByte rfl rfl rfl (by decide +kernel) ⟨(Nat.le_of_ble_eq_true rfl), (Nat.le_of_ble_eq_true rfl)⟩) (PRE.v hP hK hD hN (ht_recv hK hP hs t_zy (by decide) rfl rfl)) rfl rfl hl.1 rfl (lv_room (Nat.le_of_ble_eq_true rfl)) dX11_readAtom_107 ⟨(Nat.le_of_ble_eq_true rfl), (Nat.le_of_ble_eq_true rfl)⟩) hP hD hS hA (fun zi_337 zI_340 H locs hw_338 hP hD hS => ?_)
            obtain ⟨k_zI_340, b_zi_337, ps_341⟩ : (WM [1803] AL zT zR zI_329 zI_340) ∧ ((-1) ≤ zi_337.toInt ∧ zi_337.toInt ≤ 255) ∧ (zi_337.toInt = -1 ∨ (zI_340 zy 3).toInt ≤ 79) := hw_338
            have h_zI_340 : WM [1803, 10200] AL zT zR zI zI_340 := h_zI_329.tr k_zI_340 (by decide) (fun _ _ => trivial)
            obtain ⟨zi_342, ezi_342⟩ : ∃ y : Int32, y = zI_340 zy 3 := ⟨_, rfl⟩
            have tzi_342 : 0 ≤ zi_342.toInt ∧ zi_342.toInt ≤ 80 := by rw [ezi_342]; exact h_zI_340.at t_zy _ rfl
            have lzi_342 : (zI_340 zy 3).toInt = zi_342.toInt := by rw [ezi_342]
            have lk_343 : (zI_340 zy 3).toInt = zi_342.toInt := congrArg Int32.toInt ezi_342.symm
            have kr_344 : zA (zI_340 (zR zy 5)) (5 + zia.toInt) = zA (zI_329 (zR zy 5)) (5 + zia.toInt) := by rw [(k_zI_340.2.row t_1 (by decide) (by decide))]
            have kr_345 : zA (zI_340 (zR zy 5)) (3 + zia.toInt) = zA (zI_329 (zR zy 5)) (3 + zia.toInt) := by rw [(k_zI_340.2.row t_1 (by decide) (by decide))]
            refine lv_bipush (v := 45) hx hb dX11_readAtom_110 (by decide) ?_
            have jn_364 : ∀ (zi_362 : Int32) (zI_363 : Nat → Nat → Int32) (H : Heap) (locs : List Loc) (ls : Array Slot), (0 ≤ zi_362.toInt ∧ zi_362.toInt ≤ 1) → (WM [1803, 10200] AL zT zR zI zI_363) → (FRM (zI (zR zy 5)) (zI_363 (zR zy 5)) (zia.toInt) (zia.toInt + 5)) → va_P (dC, dI) vwCl (WL cy zL zT zR zI_363 zJ) H → va_D A (WL cy zL zT zR zI_363 zJ) → va_S A s.heap H locs → lv_has ls 5 [(0, .ref zy), (1, .int zia), (2, .int zi_362), (3, .int zi_342)] → W p l e ({ frames := 2, cells := 0, slots := 0, locals := 49 } : Room) s m ([.ref zy, .int zia] : List Value).toArray below meth c H locs 0 0 Q (F0 m 144 ls []) := by
              intro zi_362 zI_363 H locs ls b_zi_362 h_zI_363 e_jn_364_0 hP hD hS hl
              refine lv_aload_n hx hb dX11_readAtom_144 rfl (lv_at hl 0 rfl) ?_
              refine lv_iconst (v := 0) hx hb dX11_readAtom_145 (by decide) ?_
              refine lv_bipush (v := 50) hx hb dX11_readAtom_146 (by decide) ?_
              have qc_0 : (0 : Int32).toInt = 0 := by decide
              have qc_50 : (50 : Int32).toInt = 50 := by decide
              refine hj_i (ws := (WL cy zL zT zR zI_363 zJ)) (w1 := fun (u : (Nat → Nat → Int32)) => (WL cy zL zT zR u zJ)) (va_runV (As := [.int 0, .int 50]) (rest := []) ⟨hx, hb, hml, hown, hts⟩ (t_X11_readNumber l dC dI cy H.size zL zT zR zI_363 zJ zy (0 : Int32) (50 : Int32) hs h_zI_363.1 t_zy (by decide) (by decide)) (cwV 2 hts gX11_readAtom_X11_readNumber rfl rfl rfl (by decide +kernel) ⟨(Nat.le_of_ble_eq_true rfl), (Nat.le_of_ble_eq_true rfl)⟩) (PRE.v hP hK hD hN (ht_recv hK hP hs t_zy (by decide) rfl rfl)) rfl rfl hl.1 rfl (lv_room (Nat.le_of_ble_eq_true rfl)) dX11_readAtom_148 ⟨(Nat.le_of_ble_eq_true rfl), (Nat.le_of_ble_eq_true rfl)⟩) hP hD hS hA (fun zi_365 zI_368 H locs hw_366 hP hD hS => ?_)
              obtain ⟨k_zI_368, b_zi_365, ps_369⟩ : (WM [1803] AL zT zR zI_363 zI_368) ∧ ((-1) ≤ zi_365.toInt) ∧ (zi_365.toInt = -1 ∨ ((0 : Int32).toInt ≤ zi_365.toInt ∧ zi_365.toInt ≤ (50 : Int32).toInt)) := hw_366
              have h_zI_368 : WM [1803, 10200] AL zT zR zI zI_368 := h_zI_363.tr k_zI_368 (by decide) (fun _ _ => trivial)
              have kr_370 : zA (zI_368 (zR zy 5)) (5 + zia.toInt) = zA (zI_363 (zR zy 5)) (5 + zia.toInt) := by rw [(k_zI_368.2.row t_1 (by decide) (by decide))]
              have kr_371 : zA (zI_368 (zR zy 5)) (3 + zia.toInt) = zA (zI_363 (zR zy 5)) (3 + zia.toInt) := by rw [(k_zI_368.2.row t_1 (by decide) (by decide))]
              have b8_zi_365 : (-1) ≤ zi_365.toInt ∧ zi_365.toInt ≤ 50 := by omega
              refine lv_istore (lv' := [(4, .int zi_365), (0, .ref zy), (1, .int zia), (2, .int zi_362), (3, .int zi_342)]) hx hb dX11_readAtom_151 hl (by decide) rfl (fun ls hl => ?_)
              refine lv_iload hx hb dX11_readAtom_153 (lv_at hl 0 rfl) ?_
              refine lv_if_ge (tgt := 209) hx hb dX11_readAtom_155 (by decide) (fun c_372 => ?_) (fun c_372 => ?_)
              · have f_373 : zi_365.toInt ≥ 0 := ic_ge (rfl) (by decide) c_372
                refine lv_aload_n hx hb dX11_readAtom_209 rfl (lv_at hl 1 rfl) ?_
                refine ht_getr (C := RX11) (T := TX11) (N := 28) hx hb hts (by decide +kernel) hown hK hP hs t_zy (by decide) rfl rfl 5 (by decide) (hts (.fieldLink RX11 16 "DripStoneModel" "read" "[I") (by decide +kernel)) (fun _ h9 => h9) rfl dX11_readAtom_210 ?_
                refine lv_iload_n hx hb dX11_readAtom_213 rfl (lv_at hl 2 rfl) ?_
                refine lv_iconst (v := 2) hx hb dX11_readAtom_214 (by decide) ?_
                refine lv_iadd hx hb dX11_readAtom_215 ?_
                refine lv_topi (fun zi_374 ezi_374 => ?_)
                have tzi_374 : zi_374.toInt = zia.toInt + (2 : Int) := by rw [ezi_374]; exact tiadd (rfl) (show (2 : Int32).toInt = 2 by decide) (by omega) (by omega)
                refine lv_iload_n hx hb dX11_readAtom_216 rfl (lv_at hl 3 rfl) ?_
                have jn_379 : ∀ (zi_378 : Int32) (H : Heap) (locs : List Loc) (ls : Array Slot), ((-50) ≤ zi_378.toInt ∧ zi_378.toInt ≤ 50) → (FRM (zI (zR zy 5)) (zI_368 (zR zy 5)) (zia.toInt) (zia.toInt + 5)) → va_P (dC, dI) vwCl (WL cy zL zT zR zI_368 zJ) H → va_D A (WL cy zL zT zR zI_368 zJ) → va_S A s.heap H locs → lv_has ls 5 [(0, .ref zy), (1, .int zia), (2, .int zi_362), (3, .int zi_342), (4, .int zi_365)] → W p l e ({ frames := 2, cells := 0, slots := 0, locals := 49 } : Room) s m ([.ref zy, .int zia] : List Value).toArray below meth c H locs 0 0 Q (F0 m 228 ls [.int zi_378, .int zi_374, .ref (zR zy 5)]) := by
                  intro zi_378 H locs ls b_zi_378 e_jn_379_0 hP hD hS hl
                  refine ht_iast (v := zi_378) (n := 66) (q := 0) hx hb hK hP hD hS hs t_1 (by decide) rfl rfl ⟨by omega, by omega⟩ dX11_readAtom_228 (fun H locs hP hD hS => ?_)
                  have h_zI_380 : WM [1803, 10200] AL zT zR zI (u2 zI_368 (zR zy 5) zi_374.toNatClampNeg zi_378) := h_zI_368.putA hs t_1 rfl (rgF _) (by decide) (fun h => absurd h (by decide)) (by decide) trivial
                  generalize uzI_380 : u2 zI_368 (zR zy 5) zi_374.toNatClampNeg zi_378 = zI_380 at hP hD h_zI_380
                  have kr_381 : zA (zI_380 (zR zy 5)) (5 + zia.toInt) = zA (zI_368 (zR zy 5)) (5 + zia.toInt) := by rw [← uzI_380, u2_r]; exact zu_n (by omega) (by omega) (by omega)
                  have kr_382 : zA (zI_380 (zR zy 5)) (3 + zia.toInt) = zA (zI_368 (zR zy 5)) (3 + zia.toInt) := by rw [← uzI_380, u2_r]; exact zu_n (by omega) (by omega) (by omega)
                  have fr_383 : FRM (zI (zR zy 5)) (zI_380 (zR zy 5)) (zia.toInt) (zia.toInt + 5) := by rw [← uzI_380, u2_r]; exact FRM.up e_jn_379_0 (by omega)
                  exact jn_180 zI_380 _ _ _ h_zI_380 fr_383 hP hD hS (lv_sub hl [0, 1] rfl)
                refine lv_if_eq (tgt := 226) hx hb dX11_readAtom_217 (by decide) (fun c_384 => ?_) (fun c_384 => ?_)
                · have f_385 : zi_362.toInt = 0 := ic_eq (rfl) (by decide) c_384
                  refine lv_iload hx hb dX11_readAtom_226 (lv_at hl 0 rfl) ?_
                  have fr_386 : FRM (zI (zR zy 5)) (zI_368 (zR zy 5)) (zia.toInt) (zia.toInt + 5) := by rw [(k_zI_368.2.row t_1 (by decide) (by decide))]; exact e_jn_364_0
                  exact jn_379 zi_365 _ _ _ (by omega) fr_386 hP hD hS (lv_sub hl [1, 2, 3, 4, 0] rfl)
                · have f_385 : ¬ (zi_362.toInt = 0) := ic_neq (rfl) (by decide) c_384
                  refine lv_iload hx hb dX11_readAtom_220 (lv_at hl 0 rfl) ?_
                  refine lv_ineg hx hb dX11_readAtom_222 ?_
                  refine lv_topi (fun zi_387 ezi_387 => ?_)
                  have tzi_387 : zi_387.toInt = - zi_365.toInt := by rw [ezi_387]; exact tineg rfl (by omega)
                  refine lv_goto (tgt := 228) hx hb dX11_readAtom_223 (by decide) ?_
                  have fr_388 : FRM (zI (zR zy 5)) (zI_368 (zR zy 5)) (zia.toInt) (zia.toInt + 5) := by rw [(k_zI_368.2.row t_1 (by decide) (by decide))]; exact e_jn_364_0
                  exact jn_379 zi_387 _ _ _ (by omega) fr_388 hP hD hS (lv_sub hl [1, 2, 3, 4, 0] rfl)
              · have f_373 : ¬ (zi_365.toInt ≥ 0) := ic_nge (rfl) (by decide) c_372
                refine lv_aload_n hx hb dX11_readAtom_158 rfl (lv_at hl 1 rfl) ?_
                refine lv_iload_n hx hb dX11_readAtom_159 rfl (lv_at hl 3 rfl) ?_
                have jn_407 : ∀  (H : Heap) (locs : List Loc) (ls : Array Slot), (FRM (zI (zR zy 5)) (zI_368 (zR zy 5)) (zia.toInt) (zia.toInt + 5)) → va_P (dC, dI) vwCl (WL cy zL zT zR zI_368 zJ) H → va_D A (WL cy zL zT zR zI_368 zJ) → va_S A s.heap H locs → lv_has ls 5 [(0, .ref zy), (1, .int zia), (2, .int zi_362), (3, .int zi_342), (4, .int zi_365)] → W p l e ({ frames := 2, cells := 0, slots := 0, locals := 49 } : Room) s m ([.ref zy, .int zia] : List Value).toArray below meth c H locs 0 0 Q (F0 m 200 ls [.ref zy]) := by
                  intro  H locs ls e_jn_407_0 hP hD hS hl
                  refine lv_aload_n hx hb dX11_readAtom_200 rfl (lv_at hl 0 rfl) ?_
                  refine ht_geti (C := RX11) (T := TX11) (N := 28) hx hb hts (by decide +kernel) hown hK hP hs t_zy (by decide) rfl rfl 3 (by decide) (hts (.fieldLink RX11 116 "DripStoneModel" "at" "I") (by decide +kernel)) (fun _ h9 => h9) rfl dX11_readAtom_201 ?_
                  refine lv_topi (fun zi_408 ezi_408 => ?_)
                  have tzi_408 : 0 ≤ zi_408.toInt ∧ zi_408.toInt ≤ 80 := by rw [ezi_408]; exact h_zI_368.at t_zy _ rfl
                  have lzi_408 : (zI_368 zy 3).toInt = zi_408.toInt := by rw [ezi_408]
                  refine ht_puti (v := zi_408) (ty := .int) (C := RX11) (T := TX11) (N := 28) hx hb hts (by decide +kernel) tyX11 tyX11_ok nmX11 hown hK hP hD hS hs t_zy (by decide) rfl rfl 3 (by decide) (hts (.fieldLink RX11 116 "DripStoneModel" "at" "I") (by decide +kernel)) (fun _ h9 => h9) rfl (by decide +kernel) rfl rfl rfl dX11_readAtom_204 (fun H locs hP hD hS => ?_)
                  have h_zI_409 : WM [1803, 10200] AL zT zR zI (u2 zI_368 zy 3 zi_408) := h_zI_368.put hs t_zy rfl (by omega) (by decide) (fun h => absurd h (by decide)) (by decide) trivial
                  generalize uzI_409 : u2 zI_368 zy 3 zi_408 = zI_409 at hP hD h_zI_409
                  have kr_410 : zA (zI_409 (zR zy 5)) (5 + zia.toInt) = zA (zI_368 (zR zy 5)) (5 + zia.toInt) := by rw [(show zI_409 (zR zy 5) = zI_368 (zR zy 5) from by rw [← uzI_409]; exact u2_a (tne t_1 t_zy (by decide)))]
                  have kr_411 : zA (zI_409 (zR zy 5)) (3 + zia.toInt) = zA (zI_368 (zR zy 5)) (3 + zia.toInt) := by rw [(show zI_409 (zR zy 5) = zI_368 (zR zy 5) from by rw [← uzI_409]; exact u2_a (tne t_1 t_zy (by decide)))]
                  refine lv_iconst (v := 0) hx hb dX11_readAtom_207 (by decide) ?_
                  subst hQ
                  have fr_412 : FRM (zI (zR zy 5)) (zI_409 (zR zy 5)) (zia.toInt) (zia.toInt + 5) := by rw [(show zI_409 (zR zy 5) = zI_368 (zR zy 5) from by rw [← uzI_409]; exact u2_a (tne t_1 t_zy (by decide)))]; exact e_jn_407_0
                  exact W.zret (v := (0 : Int32)) hx hb hr rfl (fun t ht hW => ⟨⟨(0 : Int32), zI_409, rfl, ⟨h_zI_409, (show 0 ≤ (0 : Int32).toInt ∧ (0 : Int32).toInt ≤ 1 from by omega), (show FRM (zI (zR zy 5)) (zI_409 (zR zy 5)) (zia.toInt) (zia.toInt + 5) from fr_412), (show (0 : Int32).toInt = 0 ∨ (1 ≤ zA (zI_409 (zR zy 5)) (5 + zia.toInt) ∧ zA (zI_409 (zR zy 5)) (5 + zia.toInt) ≤ 12) from by omega)⟩, ⟨by rw [ht]; exact hP, va_K.moved hW.alike hK, hD⟩⟩, hS.F ht⟩) hS.2.2 dX11_readAtom_208
                refine lv_if_eq (tgt := 200) hx hb dX11_readAtom_160 (by decide) (fun c_413 => ?_) (fun c_413 => ?_)
                · have f_414 : zi_362.toInt = 0 := ic_eq (rfl) (by decide) c_413
                  have fr_415 : FRM (zI (zR zy 5)) (zI_368 (zR zy 5)) (zia.toInt) (zia.toInt + 5) := by rw [(k_zI_368.2.row t_1 (by decide) (by decide))]; exact e_jn_364_0
                  exact jn_407  _ _ _ fr_415 hP hD hS (lv_sub hl [1, 2, 3, 4, 0] rfl)
                · have f_414 : ¬ (zi_362.toInt = 0) := ic_neq (rfl) (by decide) c_413
                  refine lv_aload_n hx hb dX11_readAtom_163 rfl (lv_at hl 1 rfl) ?_
                  refine ht_geti (C := RX11) (T := TX11) (N := 28) hx hb hts (by decide +kernel) hown hK hP hs t_zy (by decide) rfl rfl 3 (by decide) (hts (.fieldLink RX11 116 "DripStoneModel" "at" "I") (by decide +kernel)) (fun _ h9 => h9) rfl dX11_readAtom_164 ?_
                  refine lv_topi (fun zi_416 ezi_416 => ?_)
                  have tzi_416 : 0 ≤ zi_416.toInt ∧ zi_416.toInt ≤ 80 := by rw [ezi_416]; exact h_zI_368.at t_zy _ rfl
                  have lzi_416 : (zI_368 zy 3).toInt = zi_416.toInt := by rw [ezi_416]
                  refine lv_aload_n hx hb dX11_readAtom_167 rfl (lv_at hl 1 rfl) ?_
                  refine ht_geti (C := RX11) (T := TX11) (N := 28) hx hb hts (by decide +kernel) hown hK hP hs t_zy (by decide) rfl rfl 2 (by decide) (hts (.fieldLink RX11 112 "DripStoneModel" "taped" "I") (by decide +kernel)) (fun _ h9 => h9) rfl dX11_readAtom_168 ?_
                  refine lv_topi (fun zi_417 ezi_417 => ?_)
                  have tzi_417 : 0 ≤ zi_417.toInt ∧ zi_417.toInt ≤ 80 := by rw [ezi_417]; exact h_zI_368.at t_zy _ rfl
                  have lzi_417 : (zI_368 zy 2).toInt = zi_417.toInt := by rw [ezi_417]
                  refine lv_icmp_ge (tgt := 200) hx hb dX11_readAtom_171 (by decide) (fun c_418 => ?_) (fun c_418 => ?_)
                  · have f_419 : zi_416.toInt ≥ zi_417.toInt := ic_ge (rfl) (rfl) c_418
                    have fr_420 : FRM (zI (zR zy 5)) (zI_368 (zR zy 5)) (zia.toInt) (zia.toInt + 5) := by rw [(k_zI_368.2.row t_1 (by decide) (by decide))]; exact e_jn_364_0
                    exact jn_407  _ _ _ fr_420 hP hD hS (lv_sub hl [1, 2, 3, 4, 0] rfl)
                  · have f_419 : ¬ (zi_416.toInt ≥ zi_417.toInt) := ic_nge (rfl) (rfl) c_418
                    refine lv_aload_n hx hb dX11_readAtom_174 rfl (lv_at hl 1 rfl) ?_
                    refine ht_getr (C := RX11) (T := TX11) (N := 28) hx hb hts (by decide +kernel) hown hK hP hs t_zy (by decide) rfl rfl 1 (by decide) (hts (.fieldLink RX11 13 "DripStoneModel" "tape" "[I") (by decide +kernel)) (fun _ h9 => h9) rfl dX11_readAtom_175 ?_
                    have t_421 : zT (zR zy 1) = 101 := sk_f hs t_zy (by decide) rfl (by decide)
                    refine lv_aload_n hx hb dX11_readAtom_178 rfl (lv_at hl 1 rfl) ?_
                    refine ht_geti (C := RX11) (T := TX11) (N := 28) hx hb hts (by decide +kernel) hown hK hP hs t_zy (by decide) rfl rfl 3 (by decide) (hts (.fieldLink RX11 116 "DripStoneModel" "at" "I") (by decide +kernel)) (fun _ h9 => h9) rfl dX11_readAtom_179 ?_
                    refine lv_topi (fun zi_422 ezi_422 => ?_)
                    obtain rfl : zi_416 = zi_422 := (ezi_422.trans ezi_416.symm).symm
                    refine ht_iald (n := 80) (q := 0) hx hb hK hP hs t_421 (by decide) rfl rfl ⟨by omega, by omega⟩ dX11_readAtom_182 ?_
                    refine lv_topi (fun zi_423 ezi_423 => ?_)
                    have tzi_423 : 0 ≤ zi_423.toInt ∧ zi_423.toInt ≤ 255 := by rw [ezi_423]; exact h_zI_368.at t_421 _ rfl
                    refine lv_i2l (v := zi_423.toInt64) hx hb dX11_readAtom_183 rfl ?_
                    refine lv_topl (fun zj_424 ezj_424 => ?_)
                    have tzj_424 : zj_424.toInt = zi_423.toInt := by rw [ezj_424]; exact Int32.toInt_toInt64 _
                    refine lv_ldc2 (v := 48) hx hb hown (hts (.constantLong RX11 123 48) (by decide +kernel)) dX11_readAtom_184 ?_
                    refine lv_ldc2 (v := 57) hx hb hown (hts (.constantLong RX11 125 57) (by decide +kernel)) dX11_readAtom_187 ?_
                    refine hj0_i (ws := (WL cy zL zT zR zI_368 zJ)) (va_runS (As := [.long zj_424, .long 48, .long 57]) (rest := [.ref zy]) ⟨hx, hb, hml, hown, hts⟩ (c_X11_in l dC dI cy H.size zj_424 48 57 48 57 zj_424.toInt (by first | rfl | decide | omega | exact Int32.toInt_toInt64 _) (by first | rfl | decide | omega | exact Int32.toInt_toInt64 _) (by first | rfl | decide | omega | exact Int32.toInt_toInt64 _)) (va_cwS 3 hts gX11_readAtom_X11_in rfl rfl rfl (by decide +kernel) ⟨(Nat.le_of_ble_eq_true rfl), (Nat.le_of_ble_eq_true rfl)⟩) (PRE.s (hP.sub [] rfl) hK (hD.sub [] (by decide) rfl) hN) rfl rfl hl.1 rfl (lv_room (Nat.le_of_ble_eq_true rfl)) dX11_readAtom_190 ⟨(Nat.le_of_ble_eq_true rfl), (Nat.le_of_ble_eq_true rfl)⟩) hP hD hS hA (fun zi_425 u_427 H locs hw_426 hP hD hS => ?_)
                    have hw_426 : zi_425 = if 48 ≤ zj_424.toInt ∧ zj_424.toInt ≤ 57 then 1 else 0 := hw_426
                    have b_zi_425 : 0 ≤ zi_425.toInt ∧ zi_425.toInt ≤ 1 := bz_b hw_426
                    refine lv_if_eq (tgt := 200) hx hb dX11_readAtom_193 (by decide) (fun c_428 => ?_) (fun c_428 => ?_)
                    · have f_429 : ¬ (48 ≤ zj_424.toInt ∧ zj_424.toInt ≤ 57) := bz_0 hw_426 c_428
                      have fr_430 : FRM (zI (zR zy 5)) (zI_368 (zR zy 5)) (zia.toInt) (zia.toInt + 5) := by rw [(k_zI_368.2.row t_1 (by decide) (by decide))]; exact e_jn_364_0
                      exact jn_407  _ _ _ fr_430 hP hD hS (lv_sub hl [1, 2, 3, 4, 0] rfl)
                    · have f_429 : 48 ≤ zj_424.toInt ∧ zj_424.toInt ≤ 57 := bz_1 hw_426 c_428
                      refine lv_iload_n hx hb dX11_readAtom_196 rfl (lv_at hl 4 rfl) ?_
                      refine lv_goto (tgt := 204) hx hb dX11_readAtom_197 (by decide) ?_
                      refine ht_puti (v := zi_342) (ty := .int) (C := RX11) (T := TX11) (N := 28) hx hb hts (by decide +kernel) tyX11 tyX11_ok nmX11 hown hK hP hD hS hs t_zy (by decide) rfl rfl 3 (by decide) (hts (.fieldLink RX11 116 "DripStoneModel" "at" "I") (by decide +kernel)) (fun _ h9 => h9) rfl (by decide +kernel) rfl rfl rfl dX11_readAtom_204 (fun H locs hP hD hS => ?_)
                      have h_zI_431 : WM [1803, 10200] AL zT zR zI (u2 zI_368 zy 3 zi_342) := h_zI_368.put hs t_zy rfl (by omega) (by decide) (fun h => absurd h (by decide)) (by decide) trivial
                      generalize uzI_431 : u2 zI_368 zy 3 zi_342 = zI_431 at hP hD h_zI_431
                      have kr_432 : zA (zI_431 (zR zy 5)) (5 + zia.toInt) = zA (zI_368 (zR zy 5)) (5 + zia.toInt) := by rw [(show zI_431 (zR zy 5) = zI_368 (zR zy 5) from by rw [← uzI_431]; exact u2_a (tne t_1 t_zy (by decide)))]
                      have kr_433 : zA (zI_431 (zR zy 5)) (3 + zia.toInt) = zA (zI_368 (zR zy 5)) (3 + zia.toInt) := by rw [(show zI_431 (zR zy 5) = zI_368 (zR zy 5) from by rw [← uzI_431]; exact u2_a (tne t_1 t_zy (by decide)))]
                      refine lv_iconst (v := 0) hx hb dX11_readAtom_207 (by decide) ?_
                      subst hQ
                      have fr_434 : FRM (zI (zR zy 5)) (zI_368 (zR zy 5)) (zia.toInt) (zia.toInt + 5) := by rw [(k_zI_368.2.row t_1 (by decide) (by decide))]; exact e_jn_364_0
                      have fr_435 : FRM (zI (zR zy 5)) (zI_431 (zR zy 5)) (zia.toInt) (zia.toInt + 5) := by rw [(show zI_431 (zR zy 5) = zI_368 (zR zy 5) from by rw [← uzI_431]; exact u2_a (tne t_1 t_zy (by decide)))]; exact fr_434
                      exact W.zret (v := (0 : Int32)) hx hb hr rfl (fun t ht hW => ⟨⟨(0 : Int32), zI_431, rfl, ⟨h_zI_431, (show 0 ≤ (0 : Int32).toInt ∧ (0 : Int32).toInt ≤ 1 from by omega), (show FRM (zI (zR zy 5)) (zI_431 (zR zy 5)) (zia.toInt) (zia.toInt + 5) from fr_435), (show (0 : Int32).toInt = 0 ∨ (1 ≤ zA (zI_431 (zR zy 5)) (5 + zia.toInt) ∧ zA (zI_431 (zR zy 5)) (5 + zia.toInt) ≤ 12) from by omega)⟩, ⟨by rw [ht]; exact hP, va_K.moved hW.alike hK, hD⟩⟩, hS.F ht⟩) hS.2.2 dX11_readAtom_208
            refine lv_icmp_ne (tgt := 119) hx hb dX11_readAtom_112 (by decide) (fun c_436 => ?_) (fun c_436 => ?_)
            · have f_437 : zi_337.toInt ≠ (45 : Int) := ic_ne (rfl) (show (45 : Int32).toInt = 45 by decide) c_436
              refine lv_iconst (v := 0) hx hb dX11_readAtom_119 (by decide) ?_
              refine lv_istore_n (lv' := [(2, .int 0), (0, .ref zy), (1, .int zia)]) hx hb dX11_readAtom_120 rfl hl (by decide) rfl (fun ls hl => ?_)
              refine lv_aload_n hx hb dX11_readAtom_121 rfl (lv_at hl 1 rfl) ?_
              refine ht_geti (C := RX11) (T := TX11) (N := 28) hx hb hts (by decide +kernel) hown hK hP hs t_zy (by decide) rfl rfl 3 (by decide) (hts (.fieldLink RX11 116 "DripStoneModel" "at" "I") (by decide +kernel)) (fun _ h9 => h9) rfl dX11_readAtom_122 ?_
              refine lv_topi (fun zi_438 ezi_438 => ?_)
              obtain rfl : zi_342 = zi_438 := (ezi_438.trans ezi_342.symm).symm
              refine lv_istore_n (lv' := [(3, .int zi_342), (2, .int 0), (0, .ref zy), (1, .int zia)]) hx hb dX11_readAtom_125 rfl hl (by decide) rfl (fun ls hl => ?_)
              refine lv_aload_n hx hb dX11_readAtom_126 rfl (lv_at hl 2 rfl) ?_
              refine lv_dup hx hb dX11_readAtom_127 rfl ?_
              refine ht_geti (C := RX11) (T := TX11) (N := 28) hx hb hts (by decide +kernel) hown hK hP hs t_zy (by decide) rfl rfl 3 (by decide) (hts (.fieldLink RX11 116 "DripStoneModel" "at" "I") (by decide +kernel)) (fun _ h9 => h9) rfl dX11_readAtom_128 ?_
              refine lv_topi (fun zi_439 ezi_439 => ?_)
              obtain rfl : zi_342 = zi_439 := (ezi_439.trans ezi_342.symm).symm
              refine lv_iload_n hx hb dX11_readAtom_131 rfl (lv_at hl 1 rfl) ?_
              refine lv_if_eq (tgt := 139) hx hb dX11_readAtom_132 (by decide) (fun c_440 => ?_) (fun c_440 => absurd (by decide) c_440)
              refine lv_iconst (v := 0) hx hb dX11_readAtom_139 (by decide) ?_
              refine lv_iadd hx hb dX11_readAtom_140 ?_
              refine lv_topi (fun zi_441 ezi_441 => ?_)
              have tzi_441 : zi_441.toInt = zi_342.toInt + (0 : Int) := by rw [ezi_441]; exact tiadd (rfl) (show (0 : Int32).toInt = 0 by decide) (by omega) (by omega)
              refine ht_puti (v := zi_441) (ty := .int) (C := RX11) (T := TX11) (N := 28) hx hb hts (by decide +kernel) tyX11 tyX11_ok nmX11 hown hK hP hD hS hs t_zy (by decide) rfl rfl 3 (by decide) (hts (.fieldLink RX11 116 "DripStoneModel" "at" "I") (by decide +kernel)) (fun _ h9 => h9) rfl (by decide +kernel) rfl rfl rfl dX11_readAtom_141 (fun H locs hP hD hS => ?_)
              have h_zI_442 : WM [1803, 10200] AL zT zR zI (u2 zI_340 zy 3 zi_441) := h_zI_340.put hs t_zy rfl (by omega) (by decide) (fun h => absurd h (by decide)) (by decide) trivial
              generalize uzI_442 : u2 zI_340 zy 3 zi_441 = zI_442 at hP hD h_zI_442
              have kr_443 : zA (zI_442 (zR zy 5)) (5 + zia.toInt) = zA (zI_340 (zR zy 5)) (5 + zia.toInt) := by rw [(show zI_442 (zR zy 5) = zI_340 (zR zy 5) from by rw [← uzI_442]; exact u2_a (tne t_1 t_zy (by decide)))]
              have kr_444 : zA (zI_442 (zR zy 5)) (3 + zia.toInt) = zA (zI_340 (zR zy 5)) (3 + zia.toInt) := by rw [(show zI_442 (zR zy 5) = zI_340 (zR zy 5) from by rw [← uzI_442]; exact u2_a (tne t_1 t_zy (by decide)))]
              have fr_445 : FRM (zI (zR zy 5)) (zI_329 (zR zy 5)) (zia.toInt) (zia.toInt + 5) := by rw [← uzI_329, u2_r]; exact FRM.up e_jn_328_0 (by omega)
              have fr_446 : FRM (zI (zR zy 5)) (zI_340 (zR zy 5)) (zia.toInt) (zia.toInt + 5) := by rw [(k_zI_340.2.row t_1 (by decide) (by decide))]; exact fr_445
              have fr_447 : FRM (zI (zR zy 5)) (zI_442 (zR zy 5)) (zia.toInt) (zia.toInt + 5) := by rw [(show zI_442 (zR zy 5) = zI_340 (zR zy 5) from by rw [← uzI_442]; exact u2_a (tne t_1 t_zy (by decide)))]; exact fr_446
              exact jn_364 (0 : Int32) zI_442 _ _ _ (by decide) h_zI_442 fr_447 hP hD hS (lv_sub hl [2, 3, 1, 0] rfl)
            · have f_437 : ¬ (zi_337.toInt ≠ (45 : Int)) := ic_nne (rfl) (show (45 : Int32).toInt = 45 by decide) c_436
              refine lv_iconst (v := 1) hx hb dX11_readAtom_115 (by decide) ?_
              refine lv_goto (tgt := 120) hx hb dX11_readAtom_116 (by decide) ?_
              refine lv_istore_n (lv' := [(2, .int 1), (0, .ref zy), (1, .int zia)]) hx hb dX11_readAtom_120 rfl hl (by decide) rfl (fun ls hl => ?_)
              refine lv_aload_n hx hb dX11_readAtom_121 rfl (lv_at hl 1 rfl) ?_
              refine ht_geti (C := RX11) (T := TX11) (N := 28) hx hb hts (by decide +kernel) hown hK hP hs t_zy (by decide) rfl rfl 3 (by decide) (hts (.fieldLink RX11 116 "DripStoneModel" "at" "I") (by decide +kernel)) (fun _ h9 => h9) rfl dX11_readAtom_122 ?_
              refine lv_topi (fun zi_448 ezi_448 => ?_)
              obtain rfl : zi_342 = zi_448 := (ezi_448.trans ezi_342.symm).symm
              refine lv_istore_n (lv' := [(3, .int zi_342), (2, .int 1), (0, .ref zy), (1, .int zia)]) hx hb dX11_readAtom_125 rfl hl (by decide) rfl (fun ls hl => ?_)
              refine lv_aload_n hx hb dX11_readAtom_126 rfl (lv_at hl 2 rfl) ?_
              refine lv_dup hx hb dX11_readAtom_127 rfl ?_
              refine ht_geti (C := RX11) (T := TX11) (N := 28) hx hb hts (by decide +kernel) hown hK hP hs t_zy (by decide) rfl rfl 3 (by decide) (hts (.fieldLink RX11 116 "DripStoneModel" "at" "I") (by decide +kernel)) (fun _ h9 => h9) rfl dX11_readAtom_128 ?_
              refine lv_topi (fun zi_449 ezi_449 => ?_)
              obtain rfl : zi_342 = zi_449 := (ezi_449.trans ezi_342.symm).symm
              refine lv_iload_n hx hb dX11_readAtom_131 rfl (lv_at hl 1 rfl) ?_
              refine lv_if_eq (tgt := 139) hx hb dX11_readAtom_132 (by decide) (fun c_450 => absurd c_450 (by decide)) (fun c_450 => ?_)
              refine lv_iconst (v := 1) hx hb dX11_readAtom_135 (by decide) ?_
              refine lv_goto (tgt := 140) hx hb dX11_readAtom_136 (by decide) ?_
              refine lv_iadd hx hb dX11_readAtom_140 ?_
              refine lv_topi (fun zi_451 ezi_451 => ?_)
              have tzi_451 : zi_451.toInt = zi_342.toInt + (1 : Int) := by rw [ezi_451]; exact tiadd (rfl) (show (1 : Int32).toInt = 1 by decide) (by omega) (by omega)
              refine ht_puti (v := zi_451) (ty := .int) (C := RX11) (T := TX11) (N := 28) hx hb hts (by decide +kernel) tyX11 tyX11_ok nmX11 hown hK hP hD hS hs t_zy (by decide) rfl rfl 3 (by decide) (hts (.fieldLink RX11 116 "DripStoneModel" "at" "I") (by decide +kernel)) (fun _ h9 => h9) rfl (by decide +kernel) rfl rfl rfl dX11_readAtom_141 (fun H locs hP hD hS => ?_)
              have h_zI_452 : WM [1803, 10200] AL zT zR zI (u2 zI_340 zy 3 zi_451) := h_zI_340.put hs t_zy rfl (by omega) (by decide) (fun h => absurd h (by decide)) (by decide) trivial
              generalize uzI_452 : u2 zI_340 zy 3 zi_451 = zI_452 at hP hD h_zI_452
              have kr_453 : zA (zI_452 (zR zy 5)) (5 + zia.toInt) = zA (zI_340 (zR zy 5)) (5 + zia.toInt) := by rw [(show zI_452 (zR zy 5) = zI_340 (zR zy 5) from by rw [← uzI_452]; exact u2_a (tne t_1 t_zy (by decide)))]
              have kr_454 : zA (zI_452 (zR zy 5)) (3 + zia.toInt) = zA (zI_340 (zR zy 5)) (3 + zia.toInt) := by rw [(show zI_452 (zR zy 5) = zI_340 (zR zy 5) from by rw [← uzI_452]; exact u2_a (tne t_1 t_zy (by decide)))]
              have fr_455 : FRM (zI (zR zy 5)) (zI_329 (zR zy 5)) (zia.toInt) (zia.toInt + 5) := by rw [← uzI_329, u2_r]; exact FRM.up e_jn_328_0 (by omega)
              have fr_456 : FRM (zI (zR zy 5)) (zI_340 (zR zy 5)) (zia.toInt) (zia.toInt + 5) := by rw [(k_zI_340.2.row t_1 (by decide) (by decide))]; exact fr_455
              have fr_457 : FRM (zI (zR zy 5)) (zI_452 (zR zy 5)) (zia.toInt) (zia.toInt + 5) := by rw [(show zI_452 (zR zy 5) = zI_340 (zR zy 5) from by rw [← uzI_452]; exact u2_a (tne t_1 t_zy (by decide)))]; exact fr_456
              exact jn_364 (1 : Int32) zI_452 _ _ _ (by decide) h_zI_452 fr_457 hP hD hS (lv_sub hl [2, 3, 1, 0] rfl)
          · have f_336 : ¬ (zi_333.toInt ≠ 0) := ic_nne (rfl) (by decide) c_335
            refine lv_iconst (v := 0) hx hb dX11_readAtom_104 (by decide) ?_
            subst hQ
            have qc_0 : (0 : Int32).toInt = 0 := by decide
            have fr_458 : FRM (zI (zR zy 5)) (zI_329 (zR zy 5)) (zia.toInt) (zia.toInt + 5) := by rw [← uzI_329, u2_r]; exact FRM.up e_jn_328_0 (by omega)
            exact W.zret (v := (0 : Int32)) hx hb hr rfl (fun t ht hW => ⟨⟨(0 : Int32), zI_329, rfl, ⟨h_zI_329, (show 0 ≤ (0 : Int32).toInt ∧ (0 : Int32).toInt ≤ 1 from by omega), (show FRM (zI (zR zy 5)) (zI_329 (zR zy 5)) (zia.toInt) (zia.toInt + 5) from fr_458), (show (0 : Int32).toInt = 0 ∨ (1 ≤ zA (zI_329 (zR zy 5)) (5 + zia.toInt) ∧ zA (zI_329 (zR zy 5)) (5 + zia.toInt) ≤ 12) from by omega)⟩, ⟨by rw [ht]; exact hP, va_K.moved hW.alike hK, hD⟩⟩, hS.F ht⟩) hS.2.2 dX11_readAtom_105
        refine lv_if_eq (tgt := 78) hx hb dX11_readAtom_71 (by decide) (fun c_459 => ?_) (fun c_459 => ?_)
        · have f_460 : zi_310.toInt = 0 := ic_eq (rfl) (by decide) c_459
          refine lv_aload_n hx hb dX11_readAtom_78 rfl (lv_at hl 0 rfl) ?_
          refine lv_bipush (v := 62) hx hb dX11_readAtom_79 (by decide) ?_
          have qc_62 : (62 : Int32).toInt = 62 := by decide
          refine hj_i (ws := (WL cy zL zT zR zI_313 zJ)) (w1 := fun (u : (Nat → Nat → Int32)) => (WL cy zL zT zR u zJ)) (va_runV (As := [.int 62]) (rest := [.int zi_309, .ref (zR zy 5)]) ⟨hx, hb, hml, hown, hts⟩ (t_X11_takes l dC dI cy H.size zL zT zR zI_313 zJ zy (62 : Int32) hs h_zI_313.1 t_zy (by decide)) (cwV 1 hts gX11_readAtom_X11_takes rfl rfl rfl (by decide +kernel) ⟨(Nat.le_of_ble_eq_true rfl), (Nat.le_of_ble_eq_true rfl)⟩) (PRE.v hP hK hD hN (ht_recv hK hP hs t_zy (by decide) rfl rfl)) rfl rfl hl.1 rfl (lv_room (Nat.le_of_ble_eq_true rfl)) dX11_readAtom_81 ⟨(Nat.le_of_ble_eq_true rfl), (Nat.le_of_ble_eq_true rfl)⟩) hP hD hS hA (fun zi_461 zI_464 H locs hw_462 hP hD hS => ?_)
          obtain ⟨k_zI_464, b_zi_461⟩ : (WM [1803] AL zT zR zI_313 zI_464) ∧ (0 ≤ zi_461.toInt ∧ zi_461.toInt ≤ 1) := hw_462
          have h_zI_464 : WM [1803, 10200] AL zT zR zI zI_464 := h_zI_313.tr k_zI_464 (by decide) (fun _ _ => trivial)
          have kr_465 : zA (zI_464 (zR zy 5)) (5 + zia.toInt) = zA (zI_313 (zR zy 5)) (5 + zia.toInt) := by rw [(k_zI_464.2.row t_1 (by decide) (by decide))]
          have kr_466 : zA (zI_464 (zR zy 5)) (3 + zia.toInt) = zA (zI_313 (zR zy 5)) (3 + zia.toInt) := by rw [(k_zI_464.2.row t_1 (by decide) (by decide))]
          refine lv_if_eq (tgt := 91) hx hb dX11_readAtom_84 (by decide) (fun c_467 => ?_) (fun c_467 => ?_)
          · have f_468 : zi_461.toInt = 0 := ic_eq (rfl) (by decide) c_467
            refine lv_iconst (v := 0) hx hb dX11_readAtom_91 (by decide) ?_
            have fr_469 : FRM (zI (zR zy 5)) (zI_12 (zR zy 5)) (zia.toInt) (zia.toInt + 5) := by rw [← uzI_12, u2_r]; exact FRM.up e_jn_11_0 (by omega)
            have fr_470 : FRM (zI (zR zy 5)) (zI_16 (zR zy 5)) (zia.toInt) (zia.toInt + 5) := by rw [← uzI_16, u2_r]; exact FRM.up fr_469 (by omega)
            have fr_471 : FRM (zI (zR zy 5)) (zI_20 (zR zy 5)) (zia.toInt) (zia.toInt + 5) := by rw [← uzI_20, u2_r]; exact FRM.up fr_470 (by omega)
            have fr_472 : FRM (zI (zR zy 5)) (zI_26 (zR zy 5)) (zia.toInt) (zia.toInt + 5) := by rw [(k_zI_26.2.row t_1 (by decide) (by decide))]; exact fr_471
            have fr_473 : FRM (zI (zR zy 5)) (zI_304 (zR zy 5)) (zia.toInt) (zia.toInt + 5) := by rw [(k_zI_304.2.row t_1 (by decide) (by decide))]; exact fr_472
            have fr_474 : FRM (zI (zR zy 5)) (zI_313 (zR zy 5)) (zia.toInt) (zia.toInt + 5) := by rw [(k_zI_313.2.row t_1 (by decide) (by decide))]; exact fr_473
            have fr_475 : FRM (zI (zR zy 5)) (zI_464 (zR zy 5)) (zia.toInt) (zia.toInt + 5) := by rw [(k_zI_464.2.row t_1 (by decide) (by decide))]; exact fr_474
            exact jn_328 (0 : Int32) zI_464 _ _ _ (by decide) h_zI_464 fr_475 hP hD hS (lv_sub hl [0, 1] rfl)
          · have f_468 : ¬ (zi_461.toInt = 0) := ic_neq (rfl) (by decide) c_467
            refine lv_iconst (v := 2) hx hb dX11_readAtom_87 (by decide) ?_
            refine lv_goto (tgt := 92) hx hb dX11_readAtom_88 (by decide) ?_
            have fr_476 : FRM (zI (zR zy 5)) (zI_12 (zR zy 5)) (zia.toInt) (zia.toInt + 5) := by rw [← uzI_12, u2_r]; exact FRM.up e_jn_11_0 (by omega)
            have fr_477 : FRM (zI (zR zy 5)) (zI_16 (zR zy 5)) (zia.toInt) (zia.toInt + 5) := by rw [← uzI_16, u2_r]; exact FRM.up fr_476 (by omega)
            have fr_478 : FRM (zI (zR zy 5)) (zI_20 (zR zy 5)) (zia.toInt) (zia.toInt + 5) := by rw [← uzI_20, u2_r]; exact FRM.up fr_477 (by omega)
            have fr_479 : FRM (zI (zR zy 5)) (zI_26 (zR zy 5)) (zia.toInt) (zia.toInt + 5) := by rw [(k_zI_26.2.row t_1 (by decide) (by decide))]; exact fr_478
            have fr_480 : FRM (zI (zR zy 5)) (zI_304 (zR zy 5)) (zia.toInt) (zia.toInt + 5) := by rw [(k_zI_304.2.row t_1 (by decide) (by decide))]; exact fr_479
            have fr_481 : FRM (zI (zR zy 5)) (zI_313 (zR zy 5)) (zia.toInt) (zia.toInt + 5) := by rw [(k_zI_313.2.row t_1 (by decide) (by decide))]; exact fr_480
            have fr_482 : FRM (zI (zR zy 5)) (zI_464 (zR zy 5)) (zia.toInt) (zia.toInt + 5) := by rw [(k_zI_464.2.row t_1 (by decide) (by decide))]; exact fr_481
            exact jn_328 (2 : Int32) zI_464 _ _ _ (by decide) h_zI_464 fr_482 hP hD hS (lv_sub hl [0, 1] rfl)
        · have f_460 : ¬ (zi_310.toInt = 0) := ic_neq (rfl) (by decide) c_459
          refine lv_iconst (v := 1) hx hb dX11_readAtom_74 (by decide) ?_
          refine lv_goto (tgt := 92) hx hb dX11_readAtom_75 (by decide) ?_
          have fr_483 : FRM (zI (zR zy 5)) (zI_12 (zR zy 5)) (zia.toInt) (zia.toInt + 5) := by rw [← uzI_12, u2_r]; exact FRM.up e_jn_11_0 (by omega)
          have fr_484 : FRM (zI (zR zy 5)) (zI_16 (zR zy 5)) (zia.toInt) (zia.toInt + 5) := by rw [← uzI_16, u2_r]; exact FRM.up fr_483 (by omega)
          have fr_485 : FRM (zI (zR zy 5)) (zI_20 (zR zy 5)) (zia.toInt) (zia.toInt + 5) := by rw [← uzI_20, u2_r]; exact FRM.up fr_484 (by omega)
          have fr_486 : FRM (zI (zR zy 5)) (zI_26 (zR zy 5)) (zia.toInt) (zia.toInt + 5) := by rw [(k_zI_26.2.row t_1 (by decide) (by decide))]; exact fr_485
          have fr_487 : FRM (zI (zR zy 5)) (zI_304 (zR zy 5)) (zia.toInt) (zia.toInt + 5) := by rw [(k_zI_304.2.row t_1 (by decide) (by decide))]; exact fr_486
          have fr_488 : FRM (zI (zR zy 5)) (zI_313 (zR zy 5)) (zia.toInt) (zia.toInt + 5) := by rw [(k_zI_313.2.row t_1 (by decide) (by decide))]; exact fr_487
          exact jn_328 (1 : Int32) zI_313 _ _ _ (by decide) h_zI_313 fr_488 hP hD hS (lv_sub hl [0, 1] rfl)
      · have f_308 : ¬ (zi_301.toInt ≠ 0) := ic_nne (rfl) (by decide) c_307
        refine lv_iconst (v := 0) hx hb dX11_readAtom_56 (by decide) ?_
        subst hQ
        have qc_0 : (0 : Int32).toInt = 0 := by decide
        have fr_489 : FRM (zI (zR zy 5)) (zI_12 (zR zy 5)) (zia.toInt) (zia.toInt + 5) := by rw [← uzI_12, u2_r]; exact FRM.up e_jn_11_0 (by omega)
        have fr_490 : FRM (zI (zR zy 5)) (zI_16 (zR zy 5)) (zia.toInt) (zia.toInt + 5) := by rw [← uzI_16, u2_r]; exact FRM.up fr_489 (by omega)
        have fr_491 : FRM (zI (zR zy 5)) (zI_20 (zR zy 5)) (zia.toInt) (zia.toInt + 5) := by rw [← uzI_20, u2_r]; exact FRM.up fr_490 (by omega)
        have fr_492 : FRM (zI (zR zy 5)) (zI_26 (zR zy 5)) (zia.toInt) (zia.toInt + 5) := by rw [(k_zI_26.2.row t_1 (by decide) (by decide))]; exact fr_491
        have fr_493 : FRM (zI (zR zy 5)) (zI_304 (zR zy 5)) (zia.toInt) (zia.toInt + 5) := by rw [(k_zI_304.2.row t_1 (by decide) (by decide))]; exact fr_492
        exact W.zret (v := (0 : Int32)) hx hb hr rfl (fun t ht hW => ⟨⟨(0 : Int32), zI_304, rfl, ⟨h_zI_304, (show 0 ≤ (0 : Int32).toInt ∧ (0 : Int32).toInt ≤ 1 from by omega), (show FRM (zI (zR zy 5)) (zI_304 (zR zy 5)) (zia.toInt) (zia.toInt + 5) from fr_493), (show (0 : Int32).toInt = 0 ∨ (1 ≤ zA (zI_304 (zR zy 5)) (5 + zia.toInt) ∧ zA (zI_304 (zR zy 5)) (5 + zia.toInt) ≤ 12) from by omega)⟩, ⟨by rw [ht]; exact hP, va_K.moved hW.alike hK, hD⟩⟩, hS.F ht⟩) hS.2.2 dX11_readAtom_57
  refine lv_if_eq (tgt := 18) hx hb dX11_readAtom_11 (by decide) (fun c_494 => ?_) (fun c_494 => ?_)
  · have f_495 : zi_2.toInt = 0 := ic_eq (rfl) (by decide) c_494
    refine lv_iconst (v := 0) hx hb dX11_readAtom_18 (by decide) ?_
    have fr_496 : FRM (zI (zR zy 5)) (zI_5 (zR zy 5)) (zia.toInt) (zia.toInt + 5) := by rw [(k_zI_5.2.row t_1 (by decide) (by decide))]; exact FRM.rf
    exact jn_11 (0 : Int32) _ _ _ (by decide) fr_496 hP hD hS (lv_sub hl [0, 1] rfl)
  · have f_495 : ¬ (zi_2.toInt = 0) := ic_neq (rfl) (by decide) c_494
    refine lv_iconst (v := 1) hx hb dX11_readAtom_14 (by decide) ?_
    refine lv_goto (tgt := 19) hx hb dX11_readAtom_15 (by decide) ?_
    have fr_497 : FRM (zI (zR zy 5)) (zI_5 (zR zy 5)) (zia.toInt) (zia.toInt + 5) := by rw [(k_zI_5.2.row t_1 (by decide) (by decide))]; exact FRM.rf
    exact jn_11 (1 : Int32) _ _ _ (by decide) fr_497 hP hD hS (lv_sub hl [0, 1] rfl)
set_option maxHeartbeats 8000000 in
set_option maxRecDepth 100000 in
theorem t_X11_readClaim (l : Launch) (dC : Nat → ClassId) (dI : Nat → Nat → Nat) (cy : Nat → ClassId) (sz : Nat) (zL : List Nat) (zT : Nat → Nat) (zR : Nat → Nat → Nat) (zI : Nat → Nat → Int32) (zJ : Nat → Nat → Int64) (zy : Nat) (hs : SKP zL zT zR) (hw : WT zT zR zI) (t_zy : zT zy = 18) : Met l yX11_readClaim wsX11_readClaim ({ frames := 3, cells := 0, slots := 0, locals := 73 } : Room) (va_Pc [.ref zy] (PRE dC dI cy (WL cy zL zT zR zI zJ) sz)) (va_Qi (fun (r : Int32) (u : (Nat → Nat → Int32)) => (WM [1803, 10200] AL zT zR zI u) ∧ (0 ≤ r.toInt ∧ r.toInt ≤ 1) ∧ (r.toInt = 0 ∨ ((1 ≤ zA (u (zR zy 5)) (0) ∧ zA (u (zR zy 5)) (0) ≤ 2) ∧ (1 ≤ zA (u (zR zy 5)) (7) ∧ zA (u (zR zy 5)) (7) ≤ 12) ∧ (zA (u (zR zy 5)) (0) = 2 → 1 ≤ zA (u (zR zy 5)) (13) ∧ zA (u (zR zy 5)) (13) ≤ 12)))) (fun u t => POST dC dI cy (va_A (WL cy zL zT zR zI zJ) sz) (WL cy zL zT zR u zJ) t) (va_A (WL cy zL zT zR zI zJ) sz)) 0 0 (va_A (WL cy zL zT zR zI zJ) sz) := by
  refine Met.ofW (cc := cX11_readClaim) (maxL := 2) (ret := (some .boolean)) (by decide) rfl ?_
  intro p e s m args below meth c s₁ B hml hv
  obtain ⟨rfl, hsz, hP, hK, hD0, hN⟩ := hv
  have hx := B.exec
  have hb := B.bytes
  have hr := B.returns
  have hts := atoms_spec (ws := wsX11_readClaim) B.pre
  have hown : s.vm.findClass RX11 = some m.cls := findClass_of_methodNamed B.named
  have hlocks := B.notSynchronized
  subst hsz
  have hD := hD0.self (sz := s.heap.size)
  generalize hAe : va_A (WL cy zL zT zR zI zJ) s.heap.size = A at hD ⊢
  have hA : ∀ q : Nat, s.heap.size ≤ q → A q := fun q h => by rw [← hAe]; exact Or.inr h
  have hS : va_S A s.heap s.heap [] := va_S.rf
  have hP : va_P (dC, dI) vwCl (WL cy zL zT zR zI zJ) s.heap := hP
  have hl := lv_entry ([.ref zy] : List Value) (n := 2) (Nat.le_of_ble_eq_true rfl)
  rw [lg_entry_eq]
  generalize (lg_sl ([.ref zy] : List Value) ++ List.replicate (2 - (lg_sl ([.ref zy] : List Value)).length) Slot.unset).toArray = ls at hl ⊢
  have hl : lv_has ls 2 [(0, .ref zy)] := hl
  refine w_q (fun Q hQ => ?_)
  have h_zI : WM [1803, 10200] AL zT zR zI zI := WM.rf hw
  refine lv_aload_n hx hb dX11_readClaim_0 rfl (lv_at hl 0 rfl) ?_
  refine lv_iconst (v := 0) hx hb dX11_readClaim_1 (by decide) ?_
  refine ht_puti (v := (0 : Int32)) (ty := .int) (C := RX11) (T := TX11) (N := 28) hx hb hts (by decide +kernel) tyX11 tyX11_ok nmX11 hown hK hP hD hS hs t_zy (by decide) rfl rfl 3 (by decide) (hts (.fieldLink RX11 116 "DripStoneModel" "at" "I") (by decide +kernel)) (fun _ h9 => h9) rfl (by decide +kernel) rfl rfl rfl dX11_readClaim_2 (fun H locs hP hD hS => ?_)
  have h_zI_1 : WM [1803, 10200] AL zT zR zI (u2 zI zy 3 (0 : Int32)) := h_zI.put hs t_zy rfl (by decide) (by decide) (fun h => absurd h (by decide)) (by decide) trivial
  generalize uzI_1 : u2 zI zy 3 (0 : Int32) = zI_1 at hP hD h_zI_1
  have t_2 : zT (zR zy 5) = 102 := sk_f hs t_zy (by decide) rfl (by decide)
  have kr_3 : zA (zI_1 (zR zy 5)) (0) = zA (zI (zR zy 5)) (0) := by rw [(show zI_1 (zR zy 5) = zI (zR zy 5) from by rw [← uzI_1]; exact u2_a (tne t_2 t_zy (by decide)))]
  have kr_4 : zA (zI_1 (zR zy 5)) (7) = zA (zI (zR zy 5)) (7) := by rw [(show zI_1 (zR zy 5) = zI (zR zy 5) from by rw [← uzI_1]; exact u2_a (tne t_2 t_zy (by decide)))]
  have kr_5 : zA (zI_1 (zR zy 5)) (13) = zA (zI (zR zy 5)) (13) := by rw [(show zI_1 (zR zy 5) = zI (zR zy 5) from by rw [← uzI_1]; exact u2_a (tne t_2 t_zy (by decide)))]
  refine lv_aload_n hx hb dX11_readClaim_5 rfl (lv_at hl 0 rfl) ?_
  refine ht_getr (C := RX11) (T := TX11) (N := 28) hx hb hts (by decide +kernel) hown hK hP hs t_zy (by decide) rfl rfl 5 (by decide) (hts (.fieldLink RX11 16 "DripStoneModel" "read" "[I") (by decide +kernel)) (fun _ h9 => h9) rfl dX11_readClaim_6 ?_
  refine lv_iconst (v := 0) hx hb dX11_readClaim_9 (by decide) ?_
  refine lv_iconst (v := 1) hx hb dX11_readClaim_10 (by decide) ?_
  refine ht_iast (v := (1 : Int32)) (n := 66) (q := 0) hx hb hK hP hD hS hs t_2 (by decide) rfl rfl ⟨by decide, by decide⟩ dX11_readClaim_11 (fun H locs hP hD hS => ?_)
  have h_zI_6 : WM [1803, 10200] AL zT zR zI (u2 zI_1 (zR zy 5) (0 : Int32).toNatClampNeg (1 : Int32)) := h_zI_1.putA hs t_2 rfl (rgF _) (by decide) (fun h => absurd h (by decide)) (by decide) trivial
  generalize uzI_6 : u2 zI_1 (zR zy 5) (0 : Int32).toNatClampNeg (1 : Int32) = zI_6 at hP hD h_zI_6
  have qc_0 : (0 : Int32).toInt = 0 := by decide
  have kr_7 : zA (zI_6 (zR zy 5)) (0) = (1 : Int) := by rw [← uzI_6, u2_r]; exact (zu_s (by omega)).trans (by decide)
  have kr_8 : zA (zI_6 (zR zy 5)) (7) = zA (zI_1 (zR zy 5)) (7) := by rw [← uzI_6, u2_r]; exact zu_n (by omega) (by omega) (by omega)
  have kr_9 : zA (zI_6 (zR zy 5)) (13) = zA (zI_1 (zR zy 5)) (13) := by rw [← uzI_6, u2_r]; exact zu_n (by omega) (by omega) (by omega)
  refine lv_aload_n hx hb dX11_readClaim_12 rfl (lv_at hl 0 rfl) ?_
  refine ht_getr (C := RX11) (T := TX11) (N := 28) hx hb hts (by decide +kernel) hown hK hP hs t_zy (by decide) rfl rfl 5 (by decide) (hts (.fieldLink RX11 16 "DripStoneModel" "read" "[I") (by decide +kernel)) (fun _ h9 => h9) rfl dX11_readClaim_13 ?_
  refine lv_iconst (v := 1) hx hb dX11_readClaim_16 (by decide) ?_
  refine lv_iconst (v := 0) hx hb dX11_readClaim_17 (by decide) ?_
  refine ht_iast (v := (0 : Int32)) (n := 66) (q := 0) hx hb hK hP hD hS hs t_2 (by decide) rfl rfl ⟨by decide, by decide⟩ dX11_readClaim_18 (fun H locs hP hD hS => ?_)
  have h_zI_10 : WM [1803, 10200] AL zT zR zI (u2 zI_6 (zR zy 5) (1 : Int32).toNatClampNeg (0 : Int32)) := h_zI_6.putA hs t_2 rfl (rgF _) (by decide) (fun h => absurd h (by decide)) (by decide) trivial
  generalize uzI_10 : u2 zI_6 (zR zy 5) (1 : Int32).toNatClampNeg (0 : Int32) = zI_10 at hP hD h_zI_10
  have qc_1 : (1 : Int32).toInt = 1 := by decide
  have kr_11 : zA (zI_10 (zR zy 5)) (0) = zA (zI_6 (zR zy 5)) (0) := by rw [← uzI_10, u2_r]; exact zu_n (by omega) (by omega) (by omega)
  have kr_12 : zA (zI_10 (zR zy 5)) (7) = zA (zI_6 (zR zy 5)) (7) := by rw [← uzI_10, u2_r]; exact zu_n (by omega) (by omega) (by omega)
  have kr_13 : zA (zI_10 (zR zy 5)) (13) = zA (zI_6 (zR zy 5)) (13) := by rw [← uzI_10, u2_r]; exact zu_n (by omega) (by omega) (by omega)
  refine lv_aload_n hx hb dX11_readClaim_19 rfl (lv_at hl 0 rfl) ?_
  refine lv_iconst (v := 2) hx hb dX11_readClaim_20 (by decide) ?_
  have qc_2 : (2 : Int32).toInt = 2 := by decide
  refine hj_i (ws := (WL cy zL zT zR zI_10 zJ)) (w1 := fun (u : (Nat → Nat → Int32)) => (WL cy zL zT zR u zJ)) (va_runV (As := [.int 2]) (rest := []) ⟨hx, hb, hml, hown, hts⟩ (t_X11_readAtom l dC dI cy H.size zL zT zR zI_10 zJ zy (2 : Int32) hs h_zI_10.1 t_zy (by decide)) (cwV 1 hts gX11_readClaim_X11_readAtom rfl rfl rfl (by decide +kernel) ⟨(Nat.le_of_ble_eq_true rfl), (Nat.le_of_ble_eq_true rfl)⟩) (PRE.v hP hK hD hN (ht_recv hK hP hs t_zy (by decide) rfl rfl)) rfl rfl hl.1 rfl (lv_room (Nat.le_of_ble_eq_true rfl)) dX11_readClaim_21 ⟨(Nat.le_of_ble_eq_true rfl), (Nat.le_of_ble_eq_true rfl)⟩) hP hD hS hA (fun zi_14 zI_17 H locs hw_15 hP hD hS => ?_)
  obtain ⟨k_zI_17, b_zi_14, ps_18, ps_19⟩ : (WM [1803, 10200] AL zT zR zI_10 zI_17) ∧ (0 ≤ zi_14.toInt ∧ zi_14.toInt ≤ 1) ∧ (FRM (zI_10 (zR zy 5)) (zI_17 (zR zy 5)) ((2 : Int32).toInt) ((2 : Int32).toInt + 5)) ∧ (zi_14.toInt = 0 ∨ (1 ≤ zA (zI_17 (zR zy 5)) (5 + (2 : Int32).toInt) ∧ zA (zI_17 (zR zy 5)) (5 + (2 : Int32).toInt) ≤ 12)) := hw_15
  have h_zI_17 : WM [1803, 10200] AL zT zR zI zI_17 := h_zI_10.tr k_zI_17 (by decide) (fun _ _ => trivial)
  have kc_20 : zA (zI_17 (zR zy 5)) (5 + (2 : Int32).toInt) = zA (zI_17 (zR zy 5)) (7) := congrArg (zA (zI_17 (zR zy 5))) (by decide)
  have kr_21 : zA (zI_17 (zR zy 5)) (0) = zA (zI_10 (zR zy 5)) (0) := ps_18 (0) (by omega) (by omega)
  have kr_22 : zA (zI_17 (zR zy 5)) (13) = zA (zI_10 (zR zy 5)) (13) := ps_18 (13) (by omega) (by omega)
  refine lv_if_ne (tgt := 29) hx hb dX11_readClaim_24 (by decide) (fun c_23 => ?_) (fun c_23 => ?_)
  · have f_24 : zi_14.toInt ≠ 0 := ic_ne (rfl) (by decide) c_23
    refine lv_aload_n hx hb dX11_readClaim_29 rfl (lv_at hl 0 rfl) ?_
    refine hj_i (ws := (WL cy zL zT zR zI_17 zJ)) (w1 := fun (u : (Nat → Nat → Int32)) => (WL cy zL zT zR u zJ)) (va_runV (As := []) (rest := []) ⟨hx, hb, hml, hown, hts⟩ (t_X11_nextByte l dC dI cy H.size zL zT zR zI_17 zJ zy hs h_zI_17.1 t_zy) (cwV 0 hts gX11_readClaim_X11_nextByte rfl rfl rfl (by decide +kernel) ⟨(Nat.le_of_ble_eq_true rfl), (Nat.le_of_ble_eq_true rfl)⟩) (PRE.v hP hK hD hN (ht_recv hK hP hs t_zy (by decide) rfl rfl)) rfl rfl hl.1 rfl (lv_room (Nat.le_of_ble_eq_true rfl)) dX11_readClaim_30 ⟨(Nat.le_of_ble_eq_true rfl), (Nat.le_of_ble_eq_true rfl)⟩) hP hD hS hA (fun zi_25 zI_28 H locs hw_26 hP hD hS => ?_)
    obtain ⟨k_zI_28, b_zi_25, ps_29⟩ : (WM [1803] AL zT zR zI_17 zI_28) ∧ ((-1) ≤ zi_25.toInt ∧ zi_25.toInt ≤ 255) ∧ (zi_25.toInt = -1 ∨ (zI_28 zy 3).toInt ≤ 79) := hw_26
    have h_zI_28 : WM [1803, 10200] AL zT zR zI zI_28 := h_zI_17.tr k_zI_28 (by decide) (fun _ _ => trivial)
    obtain ⟨zi_30, ezi_30⟩ : ∃ y : Int32, y = zI_28 zy 3 := ⟨_, rfl⟩
    have tzi_30 : 0 ≤ zi_30.toInt ∧ zi_30.toInt ≤ 80 := by rw [ezi_30]; exact h_zI_28.at t_zy _ rfl
    have lzi_30 : (zI_28 zy 3).toInt = zi_30.toInt := by rw [ezi_30]
    have lk_31 : (zI_28 zy 3).toInt = zi_30.toInt := congrArg Int32.toInt ezi_30.symm
    have kr_32 : zA (zI_28 (zR zy 5)) (0) = zA (zI_17 (zR zy 5)) (0) := by rw [(k_zI_28.2.row t_2 (by decide) (by decide))]
    have kr_33 : zA (zI_28 (zR zy 5)) (7) = zA (zI_17 (zR zy 5)) (7) := by rw [(k_zI_28.2.row t_2 (by decide) (by decide))]
    have kr_34 : zA (zI_28 (zR zy 5)) (13) = zA (zI_17 (zR zy 5)) (13) := by rw [(k_zI_28.2.row t_2 (by decide) (by decide))]
    refine lv_istore_n (lv' := [(1, .int zi_25), (0, .ref zy)]) hx hb dX11_readClaim_33 rfl hl (by decide) rfl (fun ls hl => ?_)
    refine lv_iload_n hx hb dX11_readClaim_34 rfl (lv_at hl 0 rfl) ?_
    refine lv_bipush (v := 38) hx hb dX11_readClaim_35 (by decide) ?_
    refine lv_icmp_eq (tgt := 46) hx hb dX11_readClaim_37 (by decide) (fun c_35 => ?_) (fun c_35 => ?_)
    · have f_36 : zi_25.toInt = (38 : Int) := ic_eq (rfl) (show (38 : Int32).toInt = 38 by decide) c_35
      refine lv_aload_n hx hb dX11_readClaim_46 rfl (lv_at hl 1 rfl) ?_
      refine lv_dup hx hb dX11_readClaim_47 rfl ?_
      refine ht_geti (C := RX11) (T := TX11) (N := 28) hx hb hts (by decide +kernel) hown hK hP hs t_zy (by decide) rfl rfl 3 (by decide) (hts (.fieldLink RX11 116 "DripStoneModel" "at" "I") (by decide +kernel)) (fun _ h9 => h9) rfl dX11_readClaim_48 ?_
      refine lv_topi (fun zi_37 ezi_37 => ?_)
      obtain rfl : zi_30 = zi_37 := (ezi_37.trans ezi_30.symm).symm
      refine lv_iconst (v := 1) hx hb dX11_readClaim_51 (by decide) ?_
      refine lv_iadd hx hb dX11_readClaim_52 ?_
      refine lv_topi (fun zi_38 ezi_38 => ?_)
      have tzi_38 : zi_38.toInt = zi_30.toInt + (1 : Int) := by rw [ezi_38]; exact tiadd (rfl) (show (1 : Int32).toInt = 1 by decide) (by omega) (by omega)
      refine ht_puti (v := zi_38) (ty := .int) (C := RX11) (T := TX11) (N := 28) hx hb hts (by decide +kernel) tyX11 tyX11_ok nmX11 hown hK hP hD hS hs t_zy (by decide) rfl rfl 3 (by decide) (hts (.fieldLink RX11 116 "DripStoneModel" "at" "I") (by decide +kernel)) (fun _ h9 => h9) rfl (by decide +kernel) rfl rfl rfl dX11_readClaim_53 (fun H locs hP hD hS => ?_)
      have h_zI_39 : WM [1803, 10200] AL zT zR zI (u2 zI_28 zy 3 zi_38) := h_zI_28.put hs t_zy rfl (by omega) (by decide) (fun h => absurd h (by decide)) (by decide) trivial
      generalize uzI_39 : u2 zI_28 zy 3 zi_38 = zI_39 at hP hD h_zI_39
      have kr_40 : zA (zI_39 (zR zy 5)) (0) = zA (zI_28 (zR zy 5)) (0) := by rw [(show zI_39 (zR zy 5) = zI_28 (zR zy 5) from by rw [← uzI_39]; exact u2_a (tne t_2 t_zy (by decide)))]
      have kr_41 : zA (zI_39 (zR zy 5)) (7) = zA (zI_28 (zR zy 5)) (7) := by rw [(show zI_39 (zR zy 5) = zI_28 (zR zy 5) from by rw [← uzI_39]; exact u2_a (tne t_2 t_zy (by decide)))]
      have kr_42 : zA (zI_39 (zR zy 5)) (13) = zA (zI_28 (zR zy 5)) (13) := by rw [(show zI_39 (zR zy 5) = zI_28 (zR zy 5) from by rw [← uzI_39]; exact u2_a (tne t_2 t_zy (by decide)))]
      refine lv_aload_n hx hb dX11_readClaim_56 rfl (lv_at hl 1 rfl) ?_
      refine ht_getr (C := RX11) (T := TX11) (N := 28) hx hb hts (by decide +kernel) hown hK hP hs t_zy (by decide) rfl rfl 5 (by decide) (hts (.fieldLink RX11 16 "DripStoneModel" "read" "[I") (by decide +kernel)) (fun _ h9 => h9) rfl dX11_readClaim_57 ?_
      refine lv_iconst (v := 0) hx hb dX11_readClaim_60 (by decide) ?_
      refine lv_iconst (v := 2) hx hb dX11_readClaim_61 (by decide) ?_
      refine ht_iast (v := (2 : Int32)) (n := 66) (q := 0) hx hb hK hP hD hS hs t_2 (by decide) rfl rfl ⟨by decide, by decide⟩ dX11_readClaim_62 (fun H locs hP hD hS => ?_)
      have h_zI_43 : WM [1803, 10200] AL zT zR zI (u2 zI_39 (zR zy 5) (0 : Int32).toNatClampNeg (2 : Int32)) := h_zI_39.putA hs t_2 rfl (rgF _) (by decide) (fun h => absurd h (by decide)) (by decide) trivial
      generalize uzI_43 : u2 zI_39 (zR zy 5) (0 : Int32).toNatClampNeg (2 : Int32) = zI_43 at hP hD h_zI_43
      have kr_44 : zA (zI_43 (zR zy 5)) (0) = (2 : Int) := by rw [← uzI_43, u2_r]; exact (zu_s (by omega)).trans (by decide)
      have kr_45 : zA (zI_43 (zR zy 5)) (7) = zA (zI_39 (zR zy 5)) (7) := by rw [← uzI_43, u2_r]; exact zu_n (by omega) (by omega) (by omega)
      have kr_46 : zA (zI_43 (zR zy 5)) (13) = zA (zI_39 (zR zy 5)) (13) := by rw [← uzI_43, u2_r]; exact zu_n (by omega) (by omega) (by omega)
      refine lv_aload_n hx hb dX11_readClaim_63 rfl (lv_at hl 1 rfl) ?_
      refine ht_getr (C := RX11) (T := TX11) (N := 28) hx hb hts (by decide +kernel) hown hK hP hs t_zy (by decide) rfl rfl 5 (by decide) (hts (.fieldLink RX11 16 "DripStoneModel" "read" "[I") (by decide +kernel)) (fun _ h9 => h9) rfl dX11_readClaim_64 ?_
      refine lv_iconst (v := 1) hx hb dX11_readClaim_67 (by decide) ?_
      refine lv_iload_n hx hb dX11_readClaim_68 rfl (lv_at hl 0 rfl) ?_
      refine lv_bipush (v := 38) hx hb dX11_readClaim_69 (by decide) ?_
      refine lv_icmp_ne (tgt := 78) hx hb dX11_readClaim_71 (by decide) (fun c_47 => ?_) (fun c_47 => ?_)
      · have f_48 : zi_25.toInt ≠ (38 : Int) := ic_ne (rfl) (show (38 : Int32).toInt = 38 by decide) c_47
        exfalso; omega
      · have f_48 : ¬ (zi_25.toInt ≠ (38 : Int)) := ic_nne (rfl) (show (38 : Int32).toInt = 38 by decide) c_47
        refine lv_iconst (v := 1) hx hb dX11_readClaim_74 (by decide) ?_
        refine lv_goto (tgt := 79) hx hb dX11_readClaim_75 (by decide) ?_
        refine ht_iast (v := (1 : Int32)) (n := 66) (q := 0) hx hb hK hP hD hS hs t_2 (by decide) rfl rfl ⟨by decide, by decide⟩ dX11_readClaim_79 (fun H locs hP hD hS => ?_)
        have h_zI_49 : WM [1803, 10200] AL zT zR zI (u2 zI_43 (zR zy 5) (1 : Int32).toNatClampNeg (1 : Int32)) := h_zI_43.putA hs t_2 rfl (rgF _) (by decide) (fun h => absurd h (by decide)) (by decide) trivial
        generalize uzI_49 : u2 zI_43 (zR zy 5) (1 : Int32).toNatClampNeg (1 : Int32) = zI_49 at hP hD h_zI_49
        have kr_50 : zA (zI_49 (zR zy 5)) (0) = zA (zI_43 (zR zy 5)) (0) := by rw [← uzI_49, u2_r]; exact zu_n (by omega) (by omega) (by omega)
        have kr_51 : zA (zI_49 (zR zy 5)) (7) = zA (zI_43 (zR zy 5)) (7) := by rw [← uzI_49, u2_r]; exact zu_n (by omega) (by omega) (by omega)
        have kr_52 : zA (zI_49 (zR zy 5)) (13) = zA (zI_43 (zR zy 5)) (13) := by rw [← uzI_49, u2_r]; exact zu_n (by omega) (by omega) (by omega)
        refine lv_aload_n hx hb dX11_readClaim_80 rfl (lv_at hl 1 rfl) ?_
        refine lv_bipush (v := 8) hx hb dX11_readClaim_81 (by decide) ?_
        have qc_8 : (8 : Int32).toInt = 8 := by decide
        refine hj_i (ws := (WL cy zL zT zR zI_49 zJ)) (w1 := fun (u : (Nat → Nat → Int32)) => (WL cy zL zT zR u zJ)) (va_runV (As := [.int 8]) (rest := []) ⟨hx, hb, hml, hown, hts⟩ (t_X11_readAtom l dC dI cy H.size zL zT zR zI_49 zJ zy (8 : Int32) hs h_zI_49.1 t_zy (by decide)) (cwV 1 hts gX11_readClaim_X11_readAtom rfl rfl rfl (by decide +kernel) ⟨(Nat.le_of_ble_eq_true rfl), (Nat.le_of_ble_eq_true rfl)⟩) (PRE.v hP hK hD hN (ht_recv hK hP hs t_zy (by decide) rfl rfl)) rfl rfl hl.1 rfl (lv_room (Nat.le_of_ble_eq_true rfl)) dX11_readClaim_83 ⟨(Nat.le_of_ble_eq_true rfl), (Nat.le_of_ble_eq_true rfl)⟩) hP hD hS hA (fun zi_53 zI_56 H locs hw_54 hP hD hS => ?_)
        obtain ⟨k_zI_56, b_zi_53, ps_57, ps_58⟩ : (WM [1803, 10200] AL zT zR zI_49 zI_56) ∧ (0 ≤ zi_53.toInt ∧ zi_53.toInt ≤ 1) ∧ (FRM (zI_49 (zR zy 5)) (zI_56 (zR zy 5)) ((8 : Int32).toInt) ((8 : Int32).toInt + 5)) ∧ (zi_53.toInt = 0 ∨ (1 ≤ zA (zI_56 (zR zy 5)) (5 + (8 : Int32).toInt) ∧ zA (zI_56 (zR zy 5)) (5 + (8 : Int32).toInt) ≤ 12)) := hw_54
        have h_zI_56 : WM [1803, 10200] AL zT zR zI zI_56 := h_zI_49.tr k_zI_56 (by decide) (fun _ _ => trivial)
        have kc_59 : zA (zI_56 (zR zy 5)) (5 + (8 : Int32).toInt) = zA (zI_56 (zR zy 5)) (13) := congrArg (zA (zI_56 (zR zy 5))) (by decide)
        have kr_60 : zA (zI_56 (zR zy 5)) (0) = zA (zI_49 (zR zy 5)) (0) := ps_57 (0) (by omega) (by omega)
        have kr_61 : zA (zI_56 (zR zy 5)) (7) = zA (zI_49 (zR zy 5)) (7) := ps_57 (7) (by omega) (by omega)
        refine lv_if_ne (tgt := 91) hx hb dX11_readClaim_86 (by decide) (fun c_62 => ?_) (fun c_62 => ?_)
        · have f_63 : zi_53.toInt ≠ 0 := ic_ne (rfl) (by decide) c_62
          refine lv_aload_n hx hb dX11_readClaim_91 rfl (lv_at hl 1 rfl) ?_
          refine hj_i (ws := (WL cy zL zT zR zI_56 zJ)) (w1 := fun (u : (Nat → Nat → Int32)) => (WL cy zL zT zR u zJ)) (va_runV (As := []) (rest := []) ⟨hx, hb, hml, hown, hts⟩ (t_X11_nextByte l dC dI cy H.size zL zT zR zI_56 zJ zy hs h_zI_56.1 t_zy) (cwV 0 hts gX11_readClaim_X11_nextByte rfl rfl rfl (by decide +kernel) ⟨(Nat.le_of_ble_eq_true rfl), (Nat.le_of_ble_eq_true rfl)⟩) (PRE.v hP hK hD hN (ht_recv hK hP hs t_zy (by decide) rfl rfl)) rfl rfl hl.1 rfl (lv_room (Nat.le_of_ble_eq_true rfl)) dX11_readClaim_92 ⟨(Nat.le_of_ble_eq_true rfl), (Nat.le_of_ble_eq_true rfl)⟩) hP hD hS hA (fun zi_64 zI_67 H locs hw_65 hP hD hS => ?_)
          obtain ⟨k_zI_67, b_zi_64, ps_68⟩ : (WM [1803] AL zT zR zI_56 zI_67) ∧ ((-1) ≤ zi_64.toInt ∧ zi_64.toInt ≤ 255) ∧ (zi_64.toInt = -1 ∨ (zI_67 zy 3).toInt ≤ 79) := hw_65
          have h_zI_67 : WM [1803, 10200] AL zT zR zI zI_67 := h_zI_56.tr k_zI_67 (by decide) (fun _ _ => trivial)
          obtain ⟨zi_69, ezi_69⟩ : ∃ y : Int32, y = zI_67 zy 3 := ⟨_, rfl⟩
          have tzi_69 : 0 ≤ zi_69.toInt ∧ zi_69.toInt ≤ 80 := by rw [ezi_69]; exact h_zI_67.at t_zy _ rfl
          have lzi_69 : (zI_67 zy 3).toInt = zi_69.toInt := by rw [ezi_69]
          have lk_70 : (zI_67 zy 3).toInt = zi_69.toInt := congrArg Int32.toInt ezi_69.symm
          have kr_71 : zA (zI_67 (zR zy 5)) (0) = zA (zI_56 (zR zy 5)) (0) := by rw [(k_zI_67.2.row t_2 (by decide) (by decide))]
          have kr_72 : zA (zI_67 (zR zy 5)) (7) = zA (zI_56 (zR zy 5)) (7) := by rw [(k_zI_67.2.row t_2 (by decide) (by decide))]
          have kr_73 : zA (zI_67 (zR zy 5)) (13) = zA (zI_56 (zR zy 5)) (13) := by rw [(k_zI_67.2.row t_2 (by decide) (by decide))]
          refine lv_if_ge (tgt := 102) hx hb dX11_readClaim_95 (by decide) (fun c_74 => ?_) (fun c_74 => ?_)
          · have f_75 : zi_64.toInt ≥ 0 := ic_ge (rfl) (by decide) c_74
            refine lv_iconst (v := 0) hx hb dX11_readClaim_102 (by decide) ?_
            subst hQ
            exact W.zret (v := (0 : Int32)) hx hb hr rfl (fun t ht hW => ⟨⟨(0 : Int32), zI_67, rfl, ⟨h_zI_67, (show 0 ≤ (0 : Int32).toInt ∧ (0 : Int32).toInt ≤ 1 from by omega), (show (0 : Int32).toInt = 0 ∨ ((1 ≤ zA (zI_67 (zR zy 5)) (0) ∧ zA (zI_67 (zR zy 5)) (0) ≤ 2) ∧ (1 ≤ zA (zI_67 (zR zy 5)) (7) ∧ zA (zI_67 (zR zy 5)) (7) ≤ 12) ∧ (zA (zI_67 (zR zy 5)) (0) = 2 → 1 ≤ zA (zI_67 (zR zy 5)) (13) ∧ zA (zI_67 (zR zy 5)) (13) ≤ 12)) from by omega)⟩, ⟨by rw [ht]; exact hP, va_K.moved hW.alike hK, hD⟩⟩, hS.F ht⟩) hS.2.2 dX11_readClaim_103
          · have f_75 : ¬ (zi_64.toInt ≥ 0) := ic_nge (rfl) (by decide) c_74
            refine lv_iconst (v := 1) hx hb dX11_readClaim_98 (by decide) ?_
            refine lv_goto (tgt := 103) hx hb dX11_readClaim_99 (by decide) ?_
            subst hQ
            exact W.zret (v := (1 : Int32)) hx hb hr rfl (fun t ht hW => ⟨⟨(1 : Int32), zI_67, rfl, ⟨h_zI_67, (show 0 ≤ (1 : Int32).toInt ∧ (1 : Int32).toInt ≤ 1 from by omega), (show (1 : Int32).toInt = 0 ∨ ((1 ≤ zA (zI_67 (zR zy 5)) (0) ∧ zA (zI_67 (zR zy 5)) (0) ≤ 2) ∧ (1 ≤ zA (zI_67 (zR zy 5)) (7) ∧ zA (zI_67 (zR zy 5)) (7) ≤ 12) ∧ (zA (zI_67 (zR zy 5)) (0) = 2 → 1 ≤ zA (zI_67 (zR zy 5)) (13) ∧ zA (zI_67 (zR zy 5)) (13) ≤ 12)) from by omega)⟩, ⟨by rw [ht]; exact hP, va_K.moved hW.alike hK, hD⟩⟩, hS.F ht⟩) hS.2.2 dX11_readClaim_103
        · have f_63 : ¬ (zi_53.toInt ≠ 0) := ic_nne (rfl) (by decide) c_62
          refine lv_iconst (v := 0) hx hb dX11_readClaim_89 (by decide) ?_
          subst hQ
          exact W.zret (v := (0 : Int32)) hx hb hr rfl (fun t ht hW => ⟨⟨(0 : Int32), zI_56, rfl, ⟨h_zI_56, (show 0 ≤ (0 : Int32).toInt ∧ (0 : Int32).toInt ≤ 1 from by omega), (show (0 : Int32).toInt = 0 ∨ ((1 ≤ zA (zI_56 (zR zy 5)) (0) ∧ zA (zI_56 (zR zy 5)) (0) ≤ 2) ∧ (1 ≤ zA (zI_56 (zR zy 5)) (7) ∧ zA (zI_56 (zR zy 5)) (7) ≤ 12) ∧ (zA (zI_56 (zR zy 5)) (0) = 2 → 1 ≤ zA (zI_56 (zR zy 5)) (13) ∧ zA (zI_56 (zR zy 5)) (13) ≤ 12)) from by omega)⟩, ⟨by rw [ht]; exact hP, va_K.moved hW.alike hK, hD⟩⟩, hS.F ht⟩) hS.2.2 dX11_readClaim_90
    · have f_36 : ¬ (zi_25.toInt = (38 : Int)) := ic_neq (rfl) (show (38 : Int32).toInt = 38 by decide) c_35
      refine lv_iload_n hx hb dX11_readClaim_40 rfl (lv_at hl 0 rfl) ?_
      refine lv_bipush (v := 124) hx hb dX11_readClaim_41 (by decide) ?_
      refine lv_icmp_ne (tgt := 91) hx hb dX11_readClaim_43 (by decide) (fun c_76 => ?_) (fun c_76 => ?_)
      · have f_77 : zi_25.toInt ≠ (124 : Int) := ic_ne (rfl) (show (124 : Int32).toInt = 124 by decide) c_76
        refine lv_aload_n hx hb dX11_readClaim_91 rfl (lv_at hl 1 rfl) ?_
        refine hj_i (ws := (WL cy zL zT zR zI_28 zJ)) (w1 := fun (u : (Nat → Nat → Int32)) => (WL cy zL zT zR u zJ)) (va_runV (As := []) (rest := []) ⟨hx, hb, hml, hown, hts⟩ (t_X11_nextByte l dC dI cy H.size zL zT zR zI_28 zJ zy hs h_zI_28.1 t_zy) (cwV 0 hts gX11_readClaim_X11_nextByte rfl rfl rfl (by decide +kernel) ⟨(Nat.le_of_ble_eq_true rfl), (Nat.le_of_ble_eq_true rfl)⟩) (PRE.v hP hK hD hN (ht_recv hK hP hs t_zy (by decide) rfl rfl)) rfl rfl hl.1 rfl (lv_room (Nat.le_of_ble_eq_true rfl)) dX11_readClaim_92 ⟨(Nat.le_of_ble_eq_true rfl), (Nat.le_of_ble_eq_true rfl)⟩) hP hD hS hA (fun zi_78 zI_81 H locs hw_79 hP hD hS => ?_)
        obtain ⟨k_zI_81, b_zi_78, ps_82⟩ : (WM [1803] AL zT zR zI_28 zI_81) ∧ ((-1) ≤ zi_78.toInt ∧ zi_78.toInt ≤ 255) ∧ (zi_78.toInt = -1 ∨ (zI_81 zy 3).toInt ≤ 79) := hw_79
        have h_zI_81 : WM [1803, 10200] AL zT zR zI zI_81 := h_zI_28.tr k_zI_81 (by decide) (fun _ _ => trivial)
        obtain ⟨zi_83, ezi_83⟩ : ∃ y : Int32, y = zI_81 zy 3 := ⟨_, rfl⟩
        have tzi_83 : 0 ≤ zi_83.toInt ∧ zi_83.toInt ≤ 80 := by rw [ezi_83]; exact h_zI_81.at t_zy _ rfl
        have lzi_83 : (zI_81 zy 3).toInt = zi_83.toInt := by rw [ezi_83]
        have lk_84 : (zI_81 zy 3).toInt = zi_83.toInt := congrArg Int32.toInt ezi_83.symm
        have kr_85 : zA (zI_81 (zR zy 5)) (0) = zA (zI_28 (zR zy 5)) (0) := by rw [(k_zI_81.2.row t_2 (by decide) (by decide))]
        have kr_86 : zA (zI_81 (zR zy 5)) (7) = zA (zI_28 (zR zy 5)) (7) := by rw [(k_zI_81.2.row t_2 (by decide) (by decide))]
        have kr_87 : zA (zI_81 (zR zy 5)) (13) = zA (zI_28 (zR zy 5)) (13) := by rw [(k_zI_81.2.row t_2 (by decide) (by decide))]
        refine lv_if_ge (tgt := 102) hx hb dX11_readClaim_95 (by decide) (fun c_88 => ?_) (fun c_88 => ?_)
        · have f_89 : zi_78.toInt ≥ 0 := ic_ge (rfl) (by decide) c_88
          refine lv_iconst (v := 0) hx hb dX11_readClaim_102 (by decide) ?_
          subst hQ
          exact W.zret (v := (0 : Int32)) hx hb hr rfl (fun t ht hW => ⟨⟨(0 : Int32), zI_81, rfl, ⟨h_zI_81, (show 0 ≤ (0 : Int32).toInt ∧ (0 : Int32).toInt ≤ 1 from by omega), (show (0 : Int32).toInt = 0 ∨ ((1 ≤ zA (zI_81 (zR zy 5)) (0) ∧ zA (zI_81 (zR zy 5)) (0) ≤ 2) ∧ (1 ≤ zA (zI_81 (zR zy 5)) (7) ∧ zA (zI_81 (zR zy 5)) (7) ≤ 12) ∧ (zA (zI_81 (zR zy 5)) (0) = 2 → 1 ≤ zA (zI_81 (zR zy 5)) (13) ∧ zA (zI_81 (zR zy 5)) (13) ≤ 12)) from by omega)⟩, ⟨by rw [ht]; exact hP, va_K.moved hW.alike hK, hD⟩⟩, hS.F ht⟩) hS.2.2 dX11_readClaim_103
        · have f_89 : ¬ (zi_78.toInt ≥ 0) := ic_nge (rfl) (by decide) c_88
          refine lv_iconst (v := 1) hx hb dX11_readClaim_98 (by decide) ?_
          refine lv_goto (tgt := 103) hx hb dX11_readClaim_99 (by decide) ?_
          subst hQ
          exact W.zret (v := (1 : Int32)) hx hb hr rfl (fun t ht hW => ⟨⟨(1 : Int32), zI_81, rfl, ⟨h_zI_81, (show 0 ≤ (1 : Int32).toInt ∧ (1 : Int32).toInt ≤ 1 from by omega), (show (1 : Int32).toInt = 0 ∨ ((1 ≤ zA (zI_81 (zR zy 5)) (0) ∧ zA (zI_81 (zR zy 5)) (0) ≤ 2) ∧ (1 ≤ zA (zI_81 (zR zy 5)) (7) ∧ zA (zI_81 (zR zy 5)) (7) ≤ 12) ∧ (zA (zI_81 (zR zy 5)) (0) = 2 → 1 ≤ zA (zI_81 (zR zy 5)) (13) ∧ zA (zI_81 (zR zy 5)) (13) ≤ 12)) from by omega)⟩, ⟨by rw [ht]; exact hP, va_K.moved hW.alike hK, hD⟩⟩, hS.F ht⟩) hS.2.2 dX11_readClaim_103
      · have f_77 : ¬ (zi_25.toInt ≠ (124 : Int)) := ic_nne (rfl) (show (124 : Int32).toInt = 124 by decide) c_76
        refine lv_aload_n hx hb dX11_readClaim_46 rfl (lv_at hl 1 rfl) ?_
        refine lv_dup hx hb dX11_readClaim_47 rfl ?_
        refine ht_geti (C := RX11) (T := TX11) (N := 28) hx hb hts (by decide +kernel) hown hK hP hs t_zy (by decide) rfl rfl 3 (by decide) (hts (.fieldLink RX11 116 "DripStoneModel" "at" "I") (by decide +kernel)) (fun _ h9 => h9) rfl dX11_readClaim_48 ?_
        refine lv_topi (fun zi_90 ezi_90 => ?_)
        obtain rfl : zi_30 = zi_90 := (ezi_90.trans ezi_30.symm).symm
        refine lv_iconst (v := 1) hx hb dX11_readClaim_51 (by decide) ?_
        refine lv_iadd hx hb dX11_readClaim_52 ?_
        refine lv_topi (fun zi_91 ezi_91 => ?_)
        have tzi_91 : zi_91.toInt = zi_30.toInt + (1 : Int) := by rw [ezi_91]; exact tiadd (rfl) (show (1 : Int32).toInt = 1 by decide) (by omega) (by omega)
        refine ht_puti (v := zi_91) (ty := .int) (C := RX11) (T := TX11) (N := 28) hx hb hts (by decide +kernel) tyX11 tyX11_ok nmX11 hown hK hP hD hS hs t_zy (by decide) rfl rfl 3 (by decide) (hts (.fieldLink RX11 116 "DripStoneModel" "at" "I") (by decide +kernel)) (fun _ h9 => h9) rfl (by decide +kernel) rfl rfl rfl dX11_readClaim_53 (fun H locs hP hD hS => ?_)
        have h_zI_92 : WM [1803, 10200] AL zT zR zI (u2 zI_28 zy 3 zi_91) := h_zI_28.put hs t_zy rfl (by omega) (by decide) (fun h => absurd h (by decide)) (by decide) trivial
        generalize uzI_92 : u2 zI_28 zy 3 zi_91 = zI_92 at hP hD h_zI_92
        have kr_93 : zA (zI_92 (zR zy 5)) (0) = zA (zI_28 (zR zy 5)) (0) := by rw [(show zI_92 (zR zy 5) = zI_28 (zR zy 5) from by rw [← uzI_92]; exact u2_a (tne t_2 t_zy (by decide)))]
        have kr_94 : zA (zI_92 (zR zy 5)) (7) = zA (zI_28 (zR zy 5)) (7) := by rw [(show zI_92 (zR zy 5) = zI_28 (zR zy 5) from by rw [← uzI_92]; exact u2_a (tne t_2 t_zy (by decide)))]
        have kr_95 : zA (zI_92 (zR zy 5)) (13) = zA (zI_28 (zR zy 5)) (13) := by rw [(show zI_92 (zR zy 5) = zI_28 (zR zy 5) from by rw [← uzI_92]; exact u2_a (tne t_2 t_zy (by decide)))]
        refine lv_aload_n hx hb dX11_readClaim_56 rfl (lv_at hl 1 rfl) ?_
        refine ht_getr (C := RX11) (T := TX11) (N := 28) hx hb hts (by decide +kernel) hown hK hP hs t_zy (by decide) rfl rfl 5 (by decide) (hts (.fieldLink RX11 16 "DripStoneModel" "read" "[I") (by decide +kernel)) (fun _ h9 => h9) rfl dX11_readClaim_57 ?_
        refine lv_iconst (v := 0) hx hb dX11_readClaim_60 (by decide) ?_
        refine lv_iconst (v := 2) hx hb dX11_readClaim_61 (by decide) ?_
        refine ht_iast (v := (2 : Int32)) (n := 66) (q := 0) hx hb hK hP hD hS hs t_2 (by decide) rfl rfl ⟨by decide, by decide⟩ dX11_readClaim_62 (fun H locs hP hD hS => ?_)
        have h_zI_96 : WM [1803, 10200] AL zT zR zI (u2 zI_92 (zR zy 5) (0 : Int32).toNatClampNeg (2 : Int32)) := h_zI_92.putA hs t_2 rfl (rgF _) (by decide) (fun h => absurd h (by decide)) (by decide) trivial
        generalize uzI_96 : u2 zI_92 (zR zy 5) (0 : Int32).toNatClampNeg (2 : Int32) = zI_96 at hP hD h_zI_96
        have kr_97 : zA (zI_96 (zR zy 5)) (0) = (2 : Int) := by rw [← uzI_96, u2_r]; exact (zu_s (by omega)).trans (by decide)
        have kr_98 : zA (zI_96 (zR zy 5)) (7) = zA (zI_92 (zR zy 5)) (7) := by rw [← uzI_96, u2_r]; exact zu_n (by omega) (by omega) (by omega)
        have kr_99 : zA (zI_96 (zR zy 5)) (13) = zA (zI_92 (zR zy 5)) (13) := by rw [← uzI_96, u2_r]; exact zu_n (by omega) (by omega) (by omega)
        refine lv_aload_n hx hb dX11_readClaim_63 rfl (lv_at hl 1 rfl) ?_
        refine ht_getr (C := RX11) (T := TX11) (N := 28) hx hb hts (by decide +kernel) hown hK hP hs t_zy (by decide) rfl rfl 5 (by decide) (hts (.fieldLink RX11 16 "DripStoneModel" "read" "[I") (by decide +kernel)) (fun _ h9 => h9) rfl dX11_readClaim_64 ?_
        refine lv_iconst (v := 1) hx hb dX11_readClaim_67 (by decide) ?_
        refine lv_iload_n hx hb dX11_readClaim_68 rfl (lv_at hl 0 rfl) ?_
        refine lv_bipush (v := 38) hx hb dX11_readClaim_69 (by decide) ?_
        refine lv_icmp_ne (tgt := 78) hx hb dX11_readClaim_71 (by decide) (fun c_100 => ?_) (fun c_100 => ?_)
        · have f_101 : zi_25.toInt ≠ (38 : Int) := ic_ne (rfl) (show (38 : Int32).toInt = 38 by decide) c_100
          refine lv_iconst (v := 0) hx hb dX11_readClaim_78 (by decide) ?_
          refine ht_iast (v := (0 : Int32)) (n := 66) (q := 0) hx hb hK hP hD hS hs t_2 (by decide) rfl rfl ⟨by decide, by decide⟩ dX11_readClaim_79 (fun H locs hP hD hS => ?_)
          have h_zI_102 : WM [1803, 10200] AL zT zR zI (u2 zI_96 (zR zy 5) (1 : Int32).toNatClampNeg (0 : Int32)) := h_zI_96.putA hs t_2 rfl (rgF _) (by decide) (fun h => absurd h (by decide)) (by decide) trivial
          generalize uzI_102 : u2 zI_96 (zR zy 5) (1 : Int32).toNatClampNeg (0 : Int32) = zI_102 at hP hD h_zI_102
          have kr_103 : zA (zI_102 (zR zy 5)) (0) = zA (zI_96 (zR zy 5)) (0) := by rw [← uzI_102, u2_r]; exact zu_n (by omega) (by omega) (by omega)
          have kr_104 : zA (zI_102 (zR zy 5)) (7) = zA (zI_96 (zR zy 5)) (7) := by rw [← uzI_102, u2_r]; exact zu_n (by omega) (by omega) (by omega)
          have kr_105 : zA (zI_102 (zR zy 5)) (13) = zA (zI_96 (zR zy 5)) (13) := by rw [← uzI_102, u2_r]; exact zu_n (by omega) (by omega) (by omega)
          refine lv_aload_n hx hb dX11_readClaim_80 rfl (lv_at hl 1 rfl) ?_
          refine lv_bipush (v := 8) hx hb dX11_readClaim_81 (by decide) ?_
          have qc_8 : (8 : Int32).toInt = 8 := by decide
          refine hj_i (ws := (WL cy zL zT zR zI_102 zJ)) (w1 := fun (u : (Nat → Nat → Int32)) => (WL cy zL zT zR u zJ)) (va_runV (As := [.int 8]) (rest := []) ⟨hx, hb, hml, hown, hts⟩ (t_X11_readAtom l dC dI cy H.size zL zT zR zI_102 zJ zy (8 : Int32) hs h_zI_102.1 t_zy (by decide)) (cwV 1 hts gX11_readClaim_X11_readAtom rfl rfl rfl (by decide +kernel) ⟨(Nat.le_of_ble_eq_true rfl), (Nat.le_of_ble_eq_true rfl)⟩) (PRE.v hP hK hD hN (ht_recv hK hP hs t_zy (by decide) rfl rfl)) rfl rfl hl.1 rfl (lv_room (Nat.le_of_ble_eq_true rfl)) dX11_readClaim_83 ⟨(Nat.le_of_ble_eq_true rfl), (Nat.le_of_ble_eq_true rfl)⟩) hP hD hS hA (fun zi_106 zI_109 H locs hw_107 hP hD hS => ?_)
          obtain ⟨k_zI_109, b_zi_106, ps_110, ps_111⟩ : (WM [1803, 10200] AL zT zR zI_102 zI_109) ∧ (0 ≤ zi_106.toInt ∧ zi_106.toInt ≤ 1) ∧ (FRM (zI_102 (zR zy 5)) (zI_109 (zR zy 5)) ((8 : Int32).toInt) ((8 : Int32).toInt + 5)) ∧ (zi_106.toInt = 0 ∨ (1 ≤ zA (zI_109 (zR zy 5)) (5 + (8 : Int32).toInt) ∧ zA (zI_109 (zR zy 5)) (5 + (8 : Int32).toInt) ≤ 12)) := hw_107
          have h_zI_109 : WM [1803, 10200] AL zT zR zI zI_109 := h_zI_102.tr k_zI_109 (by decide) (fun _ _ => trivial)
          have kc_112 : zA (zI_109 (zR zy 5)) (5 + (8 : Int32).toInt) = zA (zI_109 (zR zy 5)) (13) := congrArg (zA (zI_109 (zR zy 5))) (by decide)
          have kr_113 : zA (zI_109 (zR zy 5)) (0) = zA (zI_102 (zR zy 5)) (0) := ps_110 (0) (by omega) (by omega)
          have kr_114 : zA (zI_109 (zR zy 5)) (7) = zA (zI_102 (zR zy 5)) (7) := ps_110 (7) (by omega) (by omega)
          refine lv_if_ne (tgt := 91) hx hb dX11_readClaim_86 (by decide) (fun c_115 => ?_) (fun c_115 => ?_)
          · have f_116 : zi_106.toInt ≠ 0 := ic_ne (rfl) (by decide) c_115
            refine lv_aload_n hx hb dX11_readClaim_91 rfl (lv_at hl 1 rfl) ?_
            refine hj_i (ws := (WL cy zL zT zR zI_109 zJ)) (w1 := fun (u : (Nat → Nat → Int32)) => (WL cy zL zT zR u zJ)) (va_runV (As := []) (rest := []) ⟨hx, hb, hml, hown, hts⟩ (t_X11_nextByte l dC dI cy H.size zL zT zR zI_109 zJ zy hs h_zI_109.1 t_zy) (cwV 0 hts gX11_readClaim_X11_nextByte rfl rfl rfl (by decide +kernel) ⟨(Nat.le_of_ble_eq_true rfl), (Nat.le_of_ble_eq_true rfl)⟩) (PRE.v hP hK hD hN (ht_recv hK hP hs t_zy (by decide) rfl rfl)) rfl rfl hl.1 rfl (lv_room (Nat.le_of_ble_eq_true rfl)) dX11_readClaim_92 ⟨(Nat.le_of_ble_eq_true rfl), (Nat.le_of_ble_eq_true rfl)⟩) hP hD hS hA (fun zi_117 zI_120 H locs hw_118 hP hD hS => ?_)
            obtain ⟨k_zI_120, b_zi_117, ps_121⟩ : (WM [1803] AL zT zR zI_109 zI_120) ∧ ((-1) ≤ zi_117.toInt ∧ zi_117.toInt ≤ 255) ∧ (zi_117.toInt = -1 ∨ (zI_120 zy 3).toInt ≤ 79) := hw_118
            have h_zI_120 : WM [1803, 10200] AL zT zR zI zI_120 := h_zI_109.tr k_zI_120 (by decide) (fun _ _ => trivial)
            obtain ⟨zi_122, ezi_122⟩ : ∃ y : Int32, y = zI_120 zy 3 := ⟨_, rfl⟩
            have tzi_122 : 0 ≤ zi_122.toInt ∧ zi_122.toInt ≤ 80 := by rw [ezi_122]; exact h_zI_120.at t_zy _ rfl
            have lzi_122 : (zI_120 zy 3).toInt = zi_122.toInt := by rw [ezi_122]
            have lk_123 : (zI_120 zy 3).toInt = zi_122.toInt := congrArg Int32.toInt ezi_122.symm
            have kr_124 : zA (zI_120 (zR zy 5)) (0) = zA (zI_109 (zR zy 5)) (0) := by rw [(k_zI_120.2.row t_2 (by decide) (by decide))]
            have kr_125 : zA (zI_120 (zR zy 5)) (7) = zA (zI_109 (zR zy 5)) (7) := by rw [(k_zI_120.2.row t_2 (by decide) (by decide))]
            have kr_126 : zA (zI_120 (zR zy 5)) (13) = zA (zI_109 (zR zy 5)) (13) := by rw [(k_zI_120.2.row t_2 (by decide) (by decide))]
            refine lv_if_ge (tgt := 102) hx hb dX11_readClaim_95 (by decide) (fun c_127 => ?_) (fun c_127 => ?_)
            · have f_128 : zi_117.toInt ≥ 0 := ic_ge (rfl) (by decide) c_127
              refine lv_iconst (v := 0) hx hb dX11_readClaim_102 (by decide) ?_
              subst hQ
              exact W.zret (v := (0 : Int32)) hx hb hr rfl (fun t ht hW => ⟨⟨(0 : Int32), zI_120, rfl, ⟨h_zI_120, (show 0 ≤ (0 : Int32).toInt ∧ (0 : Int32).toInt ≤ 1 from by omega), (show (0 : Int32).toInt = 0 ∨ ((1 ≤ zA (zI_120 (zR zy 5)) (0) ∧ zA (zI_120 (zR zy 5)) (0) ≤ 2) ∧ (1 ≤ zA (zI_120 (zR zy 5)) (7) ∧ zA (zI_120 (zR zy 5)) (7) ≤ 12) ∧ (zA (zI_120 (zR zy 5)) (0) = 2 → 1 ≤ zA (zI_120 (zR zy 5)) (13) ∧ zA (zI_120 (zR zy 5)) (13) ≤ 12)) from by omega)⟩, ⟨by rw [ht]; exact hP, va_K.moved hW.alike hK, hD⟩⟩, hS.F ht⟩) hS.2.2 dX11_readClaim_103
            · have f_128 : ¬ (zi_117.toInt ≥ 0) := ic_nge (rfl) (by decide) c_127
              refine lv_iconst (v := 1) hx hb dX11_readClaim_98 (by decide) ?_
              refine lv_goto (tgt := 103) hx hb dX11_readClaim_99 (by decide) ?_
              subst hQ
              exact W.zret (v := (1 : Int32)) hx hb hr rfl (fun t ht hW => ⟨⟨(1 : Int32), zI_120, rfl, ⟨h_zI_120, (show 0 ≤ (1 : Int32).toInt ∧ (1 : Int32).toInt ≤ 1 from by omega), (show (1 : Int32).toInt = 0 ∨ ((1 ≤ zA (zI_120 (zR zy 5)) (0) ∧ zA (zI_120 (zR zy 5)) (0) ≤ 2) ∧ (1 ≤ zA (zI_120 (zR zy 5)) (7) ∧ zA (zI_120 (zR zy 5)) (7) ≤ 12) ∧ (zA (zI_120 (zR zy 5)) (0) = 2 → 1 ≤ zA (zI_120 (zR zy 5)) (13) ∧ zA (zI_120 (zR zy 5)) (13) ≤ 12)) from by omega)⟩, ⟨by rw [ht]; exact hP, va_K.moved hW.alike hK, hD⟩⟩, hS.F ht⟩) hS.2.2 dX11_readClaim_103
          · have f_116 : ¬ (zi_106.toInt ≠ 0) := ic_nne (rfl) (by decide) c_115
            refine lv_iconst (v := 0) hx hb dX11_readClaim_89 (by decide) ?_
            subst hQ
            exact W.zret (v := (0 : Int32)) hx hb hr rfl (fun t ht hW => ⟨⟨(0 : Int32), zI_109, rfl, ⟨h_zI_109, (show 0 ≤ (0 : Int32).toInt ∧ (0 : Int32).toInt ≤ 1 from by omega), (show (0 : Int32).toInt = 0 ∨ ((1 ≤ zA (zI_109 (zR zy 5)) (0) ∧ zA (zI_109 (zR zy 5)) (0) ≤ 2) ∧ (1 ≤ zA (zI_109 (zR zy 5)) (7) ∧ zA (zI_109 (zR zy 5)) (7) ≤ 12) ∧ (zA (zI_109 (zR zy 5)) (0) = 2 → 1 ≤ zA (zI_109 (zR zy 5)) (13) ∧ zA (zI_109 (zR zy 5)) (13) ≤ 12)) from by omega)⟩, ⟨by rw [ht]; exact hP, va_K.moved hW.alike hK, hD⟩⟩, hS.F ht⟩) hS.2.2 dX11_readClaim_90
        · have f_101 : ¬ (zi_25.toInt ≠ (38 : Int)) := ic_nne (rfl) (show (38 : Int32).toInt = 38 by decide) c_100
          exfalso; omega
  · have f_24 : ¬ (zi_14.toInt ≠ 0) := ic_nne (rfl) (by decide) c_23
    refine lv_iconst (v := 0) hx hb dX11_readClaim_27 (by decide) ?_
    subst hQ
    exact W.zret (v := (0 : Int32)) hx hb hr rfl (fun t ht hW => ⟨⟨(0 : Int32), zI_17, rfl, ⟨h_zI_17, (show 0 ≤ (0 : Int32).toInt ∧ (0 : Int32).toInt ≤ 1 from by omega), (show (0 : Int32).toInt = 0 ∨ ((1 ≤ zA (zI_17 (zR zy 5)) (0) ∧ zA (zI_17 (zR zy 5)) (0) ≤ 2) ∧ (1 ≤ zA (zI_17 (zR zy 5)) (7) ∧ zA (zI_17 (zR zy 5)) (7) ≤ 12) ∧ (zA (zI_17 (zR zy 5)) (0) = 2 → 1 ≤ zA (zI_17 (zR zy 5)) (13) ∧ zA (zI_17 (zR zy 5)) (13) ≤ 12)) from by omega)⟩, ⟨by rw [ht]; exact hP, va_K.moved hW.alike hK, hD⟩⟩, hS.F ht⟩) hS.2.2 dX11_readClaim_28
