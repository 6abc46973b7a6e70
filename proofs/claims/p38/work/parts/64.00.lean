set_option maxHeartbeats 8000000 in
set_option maxRecDepth 100000 in
theorem t_X11_readLaw (l : Launch) (dC : Nat → ClassId) (dI : Nat → Nat → Nat) (cy : Nat → ClassId) (sz : Nat) (zL : List Nat) (zT : Nat → Nat) (zR : Nat → Nat → Nat) (zI : Nat → Nat → Int32) (zJ : Nat → Nat → Int64) (zy : Nat) (hs : SKP zL zT zR) (hw : WT zT zR zI) (t_zy : zT zy = 18) : Met l yX11_readLaw wsX11_readLaw ({ frames := 4, cells := 0, slots := 0, locals := 96 } : Room) (va_Pc [.ref zy] (PRE dC dI cy (WL cy zL zT zR zI zJ) sz)) (va_Qi (fun (r : Int32) (u : (Nat → Nat → Int32)) => (WM [1803, 1804, 10200] AL zT zR zI u) ∧ (0 ≤ r.toInt ∧ r.toInt ≤ 1) ∧ (r.toInt = 0 ∨ (1 ≤ (u zy 4).toInt ∧ (u zy 4).toInt ≤ 6 ∧ RLX (u (zR zy 5)) (u zy 4).toInt))) (fun u t => POST dC dI cy (va_A (WL cy zL zT zR zI zJ) sz) (WL cy zL zT zR u zJ) t) (va_A (WL cy zL zT zR zI zJ) sz)) 0 0 (va_A (WL cy zL zT zR zI zJ) sz) := by
  refine Met.ofW (cc := cX11_readLaw) (maxL := 3) (ret := (some .boolean)) (by decide) rfl ?_
  intro p e s m args below meth c s₁ B hml hv
  obtain ⟨rfl, hsz, hP, hK, hD0, hN⟩ := hv
  have hx := B.exec
  have hb := B.bytes
  have hr := B.returns
  have hts := atoms_spec (ws := wsX11_readLaw) B.pre
  have hown : s.vm.findClass RX11 = some m.cls := findClass_of_methodNamed B.named
  have hlocks := B.notSynchronized
  subst hsz
  have hD := hD0.self (sz := s.heap.size)
  generalize hAe : va_A (WL cy zL zT zR zI zJ) s.heap.size = A at hD ⊢
  have hA : ∀ q : Nat, s.heap.size ≤ q → A q := fun q h => by rw [← hAe]; exact Or.inr h
  have hS : va_S A s.heap s.heap [] := va_S.rf
  have hP : va_P (dC, dI) vwCl (WL cy zL zT zR zI zJ) s.heap := hP
  have hl := lv_entry ([.ref zy] : List Value) (n := 3) (Nat.le_of_ble_eq_true rfl)
  rw [lg_entry_eq]
  generalize (lg_sl ([.ref zy] : List Value) ++ List.replicate (3 - (lg_sl ([.ref zy] : List Value)).length) Slot.unset).toArray = ls at hl ⊢
  have hl : lv_has ls 3 [(0, .ref zy)] := hl
  refine w_q (fun Q hQ => ?_)
  have h_zI : WM [1803, 1804, 10200] AL zT zR zI zI := WM.rf hw
  refine lv_aload_n hx hb dX11_readLaw_0 rfl (lv_at hl 0 rfl) ?_
  refine lv_iconst (v := 0) hx hb dX11_readLaw_1 (by decide) ?_
  refine ht_puti (v := (0 : Int32)) (ty := .int) (C := RX11) (T := TX11) (N := 28) hx hb hts (by decide +kernel) tyX11 tyX11_ok nmX11 hown hK hP hD hS hs t_zy (by decide) rfl rfl 3 (by decide) (hts (.fieldLink RX11 116 "DripStoneModel" "at" "I") (by decide +kernel)) (fun _ h9 => h9) rfl (by decide +kernel) rfl rfl rfl dX11_readLaw_2 (fun H locs hP hD hS => ?_)
  have h_zI_1 : WM [1803, 1804, 10200] AL zT zR zI (u2 zI zy 3 (0 : Int32)) := h_zI.put hs t_zy rfl (by decide) (by decide) (fun h => absurd h (by decide)) (by decide) trivial
  generalize uzI_1 : u2 zI zy 3 (0 : Int32) = zI_1 at hP hD h_zI_1
  have t_2 : zT (zR zy 5) = 102 := sk_f hs t_zy (by decide) rfl (by decide)
  refine lv_iconst (v := 0) hx hb dX11_readLaw_5 (by decide) ?_
  refine lv_istore_n (lv' := [(1, .int 0), (0, .ref zy)]) hx hb dX11_readLaw_6 rfl hl (by decide) rfl (fun ls hl => ?_)
  have lp_156 : ∀ (n : Nat) (zi_124 : Int32) (zI_125 : Nat → Nat → Int32) (H : Heap) (locs : List Loc) (ls : Array Slot), (6 - zi_124.toInt).toNat = n → (0 ≤ zi_124.toInt ∧ zi_124.toInt ≤ 5) → (WM [1803, 1804, 10200] AL zT zR zI zI_125) → (RLX (zI_125 (zR zy 5)) zi_124.toInt) → va_P (dC, dI) vwCl (WL cy zL zT zR zI_125 zJ) H → va_D A (WL cy zL zT zR zI_125 zJ) → va_S A s.heap H locs → lv_has ls 3 [(0, .ref zy), (1, .int zi_124)] → W p l e ({ frames := 4, cells := 0, slots := 0, locals := 96 } : Room) s m ([.ref zy] : List Value).toArray below meth c H locs 0 0 Q (F0 m 7 ls []) := by
    intro n
    induction n using Nat.strongRecOn with
    | _ n ih_156 =>
      intro zi_124 zI_125 H locs ls hn b_zi_124 h_zI_125 e_lp_156_0 hP hD hS hl
      refine lv_iload_n hx hb dX11_readLaw_7 rfl (lv_at hl 1 rfl) ?_
      refine lv_bipush (v := 6) hx hb dX11_readLaw_8 (by decide) ?_
      refine lv_icmp_ge (tgt := 70) hx hb dX11_readLaw_10 (by decide) (fun c_157 => ?_) (fun c_157 => ?_)
      · have f_158 : zi_124.toInt ≥ (6 : Int) := ic_ge (rfl) (show (6 : Int32).toInt = 6 by decide) c_157
        exfalso; omega
      · have f_158 : ¬ (zi_124.toInt ≥ (6 : Int)) := ic_nge (rfl) (show (6 : Int32).toInt = 6 by decide) c_157
        refine lv_aload_n hx hb dX11_readLaw_13 rfl (lv_at hl 0 rfl) ?_
        refine lv_iload_n hx hb dX11_readLaw_14 rfl (lv_at hl 1 rfl) ?_
        refine hj_i (ws := (WL cy zL zT zR zI_125 zJ)) (w1 := fun (u : (Nat → Nat → Int32)) => (WL cy zL zT zR u zJ)) (va_runV (As := [.int zi_124]) (rest := []) ⟨hx, hb, hml, hown, hts⟩ (t_X11_readClause l dC dI cy H.size zL zT zR zI_125 zJ zy zi_124 hs h_zI_125.1 t_zy (by omega)) (cwV 1 hts gX11_readLaw_X11_readClause rfl rfl rfl (by decide +kernel) ⟨(Nat.le_of_ble_eq_true rfl), (Nat.le_of_ble_eq_true rfl)⟩) (PRE.v hP hK hD hN (ht_recv hK hP hs t_zy (by decide) rfl rfl)) rfl rfl hl.1 rfl (lv_room (Nat.le_of_ble_eq_true rfl)) dX11_readLaw_15 ⟨(Nat.le_of_ble_eq_true rfl), (Nat.le_of_ble_eq_true rfl)⟩) hP hD hS hA (fun zi_159 zI_162 H locs hw_160 hP hD hS => ?_)
        obtain ⟨k_zI_162, b_zi_159, ps_163, ps_164⟩ : (WM [1803, 10200] AL zT zR zI_125 zI_162) ∧ (0 ≤ zi_159.toInt ∧ zi_159.toInt ≤ 1) ∧ (FRM (zI_125 (zR zy 5)) (zI_162 (zR zy 5)) (11 * zi_124.toInt) (11 * zi_124.toInt + 10)) ∧ (0 ≤ zA (zI_162 (zR zy 5)) (11 * zi_124.toInt) ∧ zA (zI_162 (zR zy 5)) (11 * zi_124.toInt) ≤ 3) := hw_160
        have h_zI_162 : WM [1803, 1804, 10200] AL zT zR zI zI_162 := h_zI_125.tr k_zI_162 (by decide) (fun _ _ => trivial)
        have rx_165 : RLX (zI_162 (zR zy 5)) (zi_124.toInt + 1) := RLX.s e_lp_156_0 (by omega) ps_163 ps_164
        refine lv_if_ne (tgt := 23) hx hb dX11_readLaw_18 (by decide) (fun c_166 => ?_) (fun c_166 => ?_)
        · have f_167 : zi_159.toInt ≠ 0 := ic_ne (rfl) (by decide) c_166
          refine lv_aload_n hx hb dX11_readLaw_23 rfl (lv_at hl 0 rfl) ?_
          refine lv_iload_n hx hb dX11_readLaw_24 rfl (lv_at hl 1 rfl) ?_
          refine lv_iconst (v := 1) hx hb dX11_readLaw_25 (by decide) ?_
          refine lv_iadd hx hb dX11_readLaw_26 ?_
          refine lv_topi (fun zi_168 ezi_168 => ?_)
          have tzi_168 : zi_168.toInt = zi_124.toInt + (1 : Int) := by rw [ezi_168]; exact tiadd (rfl) (show (1 : Int32).toInt = 1 by decide) (by omega) (by omega)
          refine ht_puti (v := zi_168) (ty := .int) (C := RX11) (T := TX11) (N := 28) hx hb hts (by decide +kernel) tyX11 tyX11_ok nmX11 hown hK hP hD hS hs t_zy (by decide) rfl rfl 4 (by decide) (hts (.fieldLink RX11 141 "DripStoneModel" "reads" "I") (by decide +kernel)) (fun _ h9 => h9) rfl (by decide +kernel) rfl rfl rfl dX11_readLaw_27 (fun H locs hP hD hS => ?_)
          have h_zI_169 : WM [1803, 1804, 10200] AL zT zR zI (u2 zI_162 zy 4 zi_168) := h_zI_162.put hs t_zy rfl (by omega) (by decide) (fun h => absurd h (by decide)) (by decide) trivial
          generalize uzI_169 : u2 zI_162 zy 4 zi_168 = zI_169 at hP hD h_zI_169
          refine lv_aload_n hx hb dX11_readLaw_30 rfl (lv_at hl 0 rfl) ?_
          refine hj_i (ws := (WL cy zL zT zR zI_169 zJ)) (w1 := fun (u : (Nat → Nat → Int32)) => (WL cy zL zT zR u zJ)) (va_runV (As := []) (rest := []) ⟨hx, hb, hml, hown, hts⟩ (t_X11_nextByte l dC dI cy H.size zL zT zR zI_169 zJ zy hs h_zI_169.1 t_zy) (cwV 0 hts gX11_readLaw_X11_nextByte rfl rfl rfl (by decide +kernel) ⟨(Nat.le_of_ble_eq_true rfl), (Nat.le_of_ble_eq_true rfl)⟩) (PRE.v hP hK hD hN (ht_recv hK hP hs t_zy (by decide) rfl rfl)) rfl rfl hl.1 rfl (lv_room (Nat.le_of_ble_eq_true rfl)) dX11_readLaw_31 ⟨(Nat.le_of_ble_eq_true rfl), (Nat.le_of_ble_eq_true rfl)⟩) hP hD hS hA (fun zi_170 zI_173 H locs hw_171 hP hD hS => ?_)
          obtain ⟨k_zI_173, b_zi_170, ps_174⟩ : (WM [1803] AL zT zR zI_169 zI_173) ∧ ((-1) ≤ zi_170.toInt ∧ zi_170.toInt ≤ 255) ∧ (zi_170.toInt = -1 ∨ (zI_173 zy 3).toInt ≤ 79) := hw_171
          have h_zI_173 : WM [1803, 1804, 10200] AL zT zR zI zI_173 := h_zI_169.tr k_zI_173 (by decide) (fun _ _ => trivial)
          obtain ⟨zi_175, ezi_175⟩ : ∃ y : Int32, y = zI_173 zy 3 := ⟨_, rfl⟩
          have tzi_175 : 0 ≤ zi_175.toInt ∧ zi_175.toInt ≤ 80 := by rw [ezi_175]; exact h_zI_173.at t_zy _ rfl
          have lzi_175 : (zI_173 zy 3).toInt = zi_175.toInt := by rw [ezi_175]
          have lk_176 : (zI_173 zy 3).toInt = zi_175.toInt := congrArg Int32.toInt ezi_175.symm
          refine lv_istore_n (lv' := [(2, .int zi_170), (0, .ref zy), (1, .int zi_124)]) hx hb dX11_readLaw_34 rfl hl (by decide) rfl (fun ls hl => ?_)
          refine lv_iload_n hx hb dX11_readLaw_35 rfl (lv_at hl 0 rfl) ?_
          refine lv_if_ge (tgt := 41) hx hb dX11_readLaw_36 (by decide) (fun c_177 => ?_) (fun c_177 => ?_)
          · have f_178 : zi_170.toInt ≥ 0 := ic_ge (rfl) (by decide) c_177
            refine lv_iload_n hx hb dX11_readLaw_41 rfl (lv_at hl 0 rfl) ?_
            refine lv_bipush (v := 59) hx hb dX11_readLaw_42 (by decide) ?_
            refine lv_icmp_ne (tgt := 52) hx hb dX11_readLaw_44 (by decide) (fun c_179 => ?_) (fun c_179 => ?_)
            · have f_180 : zi_170.toInt ≠ (59 : Int) := ic_ne (rfl) (show (59 : Int32).toInt = 59 by decide) c_179
              refine lv_iconst (v := 0) hx hb dX11_readLaw_52 (by decide) ?_
              subst hQ
              have qc_0 : (0 : Int32).toInt = 0 := by decide
              exact W.zret (v := (0 : Int32)) hx hb hr rfl (fun t ht hW => ⟨⟨(0 : Int32), zI_173, rfl, ⟨h_zI_173, (show 0 ≤ (0 : Int32).toInt ∧ (0 : Int32).toInt ≤ 1 from by omega), (show (0 : Int32).toInt = 0 ∨ (1 ≤ (zI_173 zy 4).toInt ∧ (zI_173 zy 4).toInt ≤ 6 ∧ RLX (zI_173 (zR zy 5)) (zI_173 zy 4).toInt) from (Or.inl (by decide)))⟩, ⟨by rw [ht]; exact hP, va_K.moved hW.alike hK, hD⟩⟩, hS.F ht⟩) hS.2.2 dX11_readLaw_53
            · have f_180 : ¬ (zi_170.toInt ≠ (59 : Int)) := ic_nne (rfl) (show (59 : Int32).toInt = 59 by decide) c_179
              refine lv_iload_n hx hb dX11_readLaw_47 rfl (lv_at hl 2 rfl) ?_
              refine lv_iconst (v := 5) hx hb dX11_readLaw_48 (by decide) ?_
              refine lv_icmp_ne (tgt := 54) hx hb dX11_readLaw_49 (by decide) (fun c_181 => ?_) (fun c_181 => ?_)
              · have f_182 : zi_124.toInt ≠ (5 : Int) := ic_ne (rfl) (show (5 : Int32).toInt = 5 by decide) c_181
                refine lv_aload_n hx hb dX11_readLaw_54 rfl (lv_at hl 1 rfl) ?_
                refine lv_dup hx hb dX11_readLaw_55 rfl ?_
                refine ht_geti (C := RX11) (T := TX11) (N := 28) hx hb hts (by decide +kernel) hown hK hP hs t_zy (by decide) rfl rfl 3 (by decide) (hts (.fieldLink RX11 116 "DripStoneModel" "at" "I") (by decide +kernel)) (fun _ h9 => h9) rfl dX11_readLaw_56 ?_
                refine lv_topi (fun zi_183 ezi_183 => ?_)
                obtain rfl : zi_175 = zi_183 := (ezi_183.trans ezi_175.symm).symm
                refine lv_iconst (v := 1) hx hb dX11_readLaw_59 (by decide) ?_
                refine lv_iadd hx hb dX11_readLaw_60 ?_
                refine lv_topi (fun zi_184 ezi_184 => ?_)
                have tzi_184 : zi_184.toInt = zi_175.toInt + (1 : Int) := by rw [ezi_184]; exact tiadd (rfl) (show (1 : Int32).toInt = 1 by decide) (by omega) (by omega)
                refine ht_puti (v := zi_184) (ty := .int) (C := RX11) (T := TX11) (N := 28) hx hb hts (by decide +kernel) tyX11 tyX11_ok nmX11 hown hK hP hD hS hs t_zy (by decide) rfl rfl 3 (by decide) (hts (.fieldLink RX11 116 "DripStoneModel" "at" "I") (by decide +kernel)) (fun _ h9 => h9) rfl (by decide +kernel) rfl rfl rfl dX11_readLaw_61 (fun H locs hP hD hS => ?_)
                have h_zI_185 : WM [1803, 1804, 10200] AL zT zR zI (u2 zI_173 zy 3 zi_184) := h_zI_173.put hs t_zy rfl (by omega) (by decide) (fun h => absurd h (by decide)) (by decide) trivial
                generalize uzI_185 : u2 zI_173 zy 3 zi_184 = zI_185 at hP hD h_zI_185
                obtain ⟨zi_186, ezi_186⟩ : ∃ y : Int32, y = zi_124 + 1 := ⟨_, rfl⟩
                have tzi_186 : zi_186.toInt = zi_124.toInt + 1 := by rw [ezi_186]; exact tadd rfl (show (1 : Int32).toInt = 1 by decide) (by omega) (by omega)
                refine lv_iinc (v := zi_186) (lv' := [(1, .int zi_186), (2, .int zi_170), (0, .ref zy)]) hx hb dX11_readLaw_64 hl (k := 2) rfl (by rw [ezi_186]; rfl) (by decide) rfl (fun ls hl => ?_)
                refine lv_goto (tgt := 7) hx hb dX11_readLaw_67 (by decide) ?_
                exact ih_156 (6 - zi_186.toInt).toNat (by omega) zi_186 zI_185 _ _ _ rfl (by omega) h_zI_185 (RLX.e (by rw [(show zI_185 (zR zy 5) = zI_173 (zR zy 5) from by rw [← uzI_185]; exact u2_a (tne t_2 t_zy (by decide))), (k_zI_173.2.row t_2 (by decide) (by decide)), (show zI_169 (zR zy 5) = zI_162 (zR zy 5) from by rw [← uzI_169]; exact u2_a (tne t_2 t_zy (by decide)))]; exact rx_165) (by omega)) hP hD hS (lv_sub hl [2, 0] rfl)
              · have f_182 : ¬ (zi_124.toInt ≠ (5 : Int)) := ic_nne (rfl) (show (5 : Int32).toInt = 5 by decide) c_181
                refine lv_iconst (v := 0) hx hb dX11_readLaw_52 (by decide) ?_
                subst hQ
                have qc_0 : (0 : Int32).toInt = 0 := by decide
                exact W.zret (v := (0 : Int32)) hx hb hr rfl (fun t ht hW => ⟨⟨(0 : Int32), zI_173, rfl, ⟨h_zI_173, (show 0 ≤ (0 : Int32).toInt ∧ (0 : Int32).toInt ≤ 1 from by omega), (show (0 : Int32).toInt = 0 ∨ (1 ≤ (zI_173 zy 4).toInt ∧ (zI_173 zy 4).toInt ≤ 6 ∧ RLX (zI_173 (zR zy 5)) (zI_173 zy 4).toInt) from (Or.inl (by decide)))⟩, ⟨by rw [ht]; exact hP, va_K.moved hW.alike hK, hD⟩⟩, hS.F ht⟩) hS.2.2 dX11_readLaw_53
          · have f_178 : ¬ (zi_170.toInt ≥ 0) := ic_nge (rfl) (by decide) c_177
            refine lv_iconst (v := 1) hx hb dX11_readLaw_39 (by decide) ?_
            subst hQ
            have qc_1 : (1 : Int32).toInt = 1 := by decide
            have lk_187 : (zI_173 zy 4).toInt = zi_168.toInt := congrArg Int32.toInt ((k_zI_173.2 zy 4 (Or.inl (by rw [t_zy]; decide))).trans (by rw [← uzI_169]; exact u2_s))
            exact W.zret (v := (1 : Int32)) hx hb hr rfl (fun t ht hW => ⟨⟨(1 : Int32), zI_173, rfl, ⟨h_zI_173, (show 0 ≤ (1 : Int32).toInt ∧ (1 : Int32).toInt ≤ 1 from by omega), (show (1 : Int32).toInt = 0 ∨ (1 ≤ (zI_173 zy 4).toInt ∧ (zI_173 zy 4).toInt ≤ 6 ∧ RLX (zI_173 (zR zy 5)) (zI_173 zy 4).toInt) from (Or.inr ⟨by omega, by omega, RLX.e (by rw [(k_zI_173.2.row t_2 (by decide) (by decide)), (show zI_169 (zR zy 5) = zI_162 (zR zy 5) from by rw [← uzI_169]; exact u2_a (tne t_2 t_zy (by decide)))]; exact rx_165) (by omega)⟩))⟩, ⟨by rw [ht]; exact hP, va_K.moved hW.alike hK, hD⟩⟩, hS.F ht⟩) hS.2.2 dX11_readLaw_40
        · have f_167 : ¬ (zi_159.toInt ≠ 0) := ic_nne (rfl) (by decide) c_166
          refine lv_iconst (v := 0) hx hb dX11_readLaw_21 (by decide) ?_
          subst hQ
          have qc_0 : (0 : Int32).toInt = 0 := by decide
          exact W.zret (v := (0 : Int32)) hx hb hr rfl (fun t ht hW => ⟨⟨(0 : Int32), zI_162, rfl, ⟨h_zI_162, (show 0 ≤ (0 : Int32).toInt ∧ (0 : Int32).toInt ≤ 1 from by omega), (show (0 : Int32).toInt = 0 ∨ (1 ≤ (zI_162 zy 4).toInt ∧ (zI_162 zy 4).toInt ≤ 6 ∧ RLX (zI_162 (zR zy 5)) (zI_162 zy 4).toInt) from (Or.inl (by decide)))⟩, ⟨by rw [ht]; exact hP, va_K.moved hW.alike hK, hD⟩⟩, hS.F ht⟩) hS.2.2 dX11_readLaw_22
  have qc_0 : (0 : Int32).toInt = 0 := by decide
  exact lp_156 _ (0 : Int32) zI_1 _ _ _ rfl (by decide) h_zI_1 RLX.z hP hD hS (lv_sub hl [1, 0] rfl)
set_option maxHeartbeats 8000000 in
set_option maxRecDepth 100000 in
theorem t_X11_readAtom (l : Launch) (dC : Nat → ClassId) (dI : Nat → Nat → Nat) (cy : Nat → ClassId) (sz : Nat) (zL : List Nat) (zT : Nat → Nat) (zR : Nat → Nat → Nat) (zI : Nat → Nat → Int32) (zJ : Nat → Nat → Int64) (zy : Nat) (zia : Int32) (hs : SKP zL zT zR) (hw : WT zT zR zI) (t_zy : zT zy = 18) (b_zia : 2 ≤ zia.toInt ∧ zia.toInt ≤ 8) : Met l yX11_readAtom wsX11_readAtom ({ frames := 2, cells := 0, slots := 0, locals := 49 } : Room) (va_Pc [.ref zy, .int zia] (PRE dC dI cy (WL cy zL zT zR zI zJ) sz)) (va_Qi (fun (r : Int32) (u : (Nat → Nat → Int32)) => (WM [1803, 10200] AL zT zR zI u) ∧ (0 ≤ r.toInt ∧ r.toInt ≤ 1) ∧ (FRM (zI (zR zy 5)) (u (zR zy 5)) (zia.toInt) (zia.toInt + 5)) ∧ (r.toInt = 0 ∨ (1 ≤ zA (u (zR zy 5)) (zia.toInt + 5) ∧ zA (u (zR zy 5)) (zia.toInt + 5) ≤ 12))) (fun u t => POST dC dI cy (va_A (WL cy zL zT zR zI zJ) sz) (WL cy zL zT zR u zJ) t) (va_A (WL cy zL zT zR zI zJ) sz)) 0 0 (va_A (WL cy zL zT zR zI zJ) sz) := by
  refine Met.ofW (cc := cX11_readAtom) (maxL := 5) (ret := (some .boolean)) (by decide) rfl ?_
  intro p e s m args below meth c s₁ B hml hv
  obtain ⟨rfl, hsz, hP, hK, hD0, hN⟩ := hv
  have hx := B.exec
  have hb := B.bytes
  have hr := B.returns
  have hts := atoms_spec (ws := wsX11_readAtom) B.pre
  have hown : s.vm.findClass RX11 = some m.cls := findClass_of_methodNamed B.named
  have hlocks := B.notSynchronized
  subst hsz
  have hD := hD0.self (sz := s.heap.size)
  generalize hAe : va_A (WL cy zL zT zR zI zJ) s.heap.size = A at hD ⊢
  have hA : ∀ q : Nat, s.heap.size ≤ q → A q := fun q h => by rw [← hAe]; exact Or.inr h
  have hS : va_S A s.heap s.heap [] := va_S.rf
  have hP : va_P (dC, dI) vwCl (WL cy zL zT zR zI zJ) s.heap := hP
  have hl := lv_entry ([.ref zy, .int zia] : List Value) (n := 5) (Nat.le_of_ble_eq_true rfl)
  rw [lg_entry_eq]
  generalize (lg_sl ([.ref zy, .int zia] : List Value) ++ List.replicate (5 - (lg_sl ([.ref zy, .int zia] : List Value)).length) Slot.unset).toArray = ls at hl ⊢
  have hl : lv_has ls 5 [(0, .ref zy), (1, .int zia)] := hl
  refine w_q (fun Q hQ => ?_)
  have h_zI : WM [1803, 10200] AL zT zR zI zI := WM.rf hw
  refine lv_aload_n hx hb dX11_readAtom_0 rfl (lv_at hl 0 rfl) ?_
  refine ht_getr (C := RX11) (T := TX11) (N := 28) hx hb hts (by decide +kernel) hown hK hP hs t_zy (by decide) rfl rfl 5 (by decide) (hts (.fieldLink RX11 16 "DripStoneModel" "read" "[I") (by decide +kernel)) (fun _ h9 => h9) rfl dX11_readAtom_1 ?_
  have t_1 : zT (zR zy 5) = 102 := sk_f hs t_zy (by decide) rfl (by decide)
  refine lv_iload_n hx hb dX11_readAtom_4 rfl (lv_at hl 1 rfl) ?_
  refine lv_aload_n hx hb dX11_readAtom_5 rfl (lv_at hl 0 rfl) ?_
  refine lv_bipush (v := 33) hx hb dX11_readAtom_6 (by decide) ?_
  have qc_33 : (33 : Int32).toInt = 33 := by decide
  refine hj_i (ws := (WL cy zL zT zR zI zJ)) (w1 := fun (u : (Nat → Nat → Int32)) => (WL cy zL zT zR u zJ)) (va_runV (As := [.int 33]) (rest := [.int zia, .ref (zR zy 5)]) ⟨hx, hb, hml, hown, hts⟩ (t_X11_takes l dC dI cy s.heap.size zL zT zR zI zJ zy (33 : Int32) hs h_zI.1 t_zy (by decide)) (cwV 1 hts gX11_readAtom_X11_takes rfl rfl rfl (by decide +kernel) ⟨(Nat.le_of_ble_eq_true rfl), (Nat.le_of_ble_eq_true rfl)⟩) (PRE.v hP hK hD hN (ht_recv hK hP hs t_zy (by decide) rfl rfl)) rfl rfl hl.1 rfl (lv_room (Nat.le_of_ble_eq_true rfl)) dX11_readAtom_8 ⟨(Nat.le_of_ble_eq_true rfl), (Nat.le_of_ble_eq_true rfl)⟩) hP hD hS hA (fun zi_2 zI_5 H locs hw_3 hP hD hS => ?_)
  obtain ⟨k_zI_5, b_zi_2⟩ : (WM [1803] AL zT zR zI zI_5) ∧ (0 ≤ zi_2.toInt ∧ zi_2.toInt ≤ 1) := hw_3
  have h_zI_5 : WM [1803, 10200] AL zT zR zI zI_5 := h_zI.tr k_zI_5 (by decide) (fun _ _ => trivial)
  have kr_6 : zA (zI_5 (zR zy 5)) (zia.toInt + 5) = zA (zI (zR zy 5)) (zia.toInt + 5) := by rw [(k_zI_5.2.row t_1 (by decide) (by decide))]
  have kr_7 : zA (zI_5 (zR zy 5)) (zia.toInt + 3) = zA (zI (zR zy 5)) (zia.toInt + 3) := by rw [(k_zI_5.2.row t_1 (by decide) (by decide))]
  have jn_11 : ∀ (zi_10 : Int32) (H : Heap) (locs : List Loc) (ls : Array Slot), (0 ≤ zi_10.toInt ∧ zi_10.toInt ≤ 1) → (FRM (zI (zR zy 5)) (zI_5 (zR zy 5)) (zia.toInt) (zia.toInt + 5)) → va_P (dC, dI) vwCl (WL cy zL zT zR zI_5 zJ) H → va_D A (WL cy zL zT zR zI_5 zJ) → va_S A s.heap H locs → lv_has ls 5 [(0, .ref zy), (1, .int zia)] → W p l e ({ frames := 2, cells := 0, slots := 0, locals := 49 } : Room) s m ([.ref zy, .int zia] : List Value).toArray below meth c H locs 0 0 Q (F0 m 19 ls [.int zi_10, .int zia, .ref (zR zy 5)]) := by
    intro zi_10 H locs ls b_zi_10 e_jn_11_0 hP hD hS hl
    refine ht_iast (v := zi_10) (n := 66) (q := 0) hx hb hK hP hD hS hs t_1 (by decide) rfl rfl ⟨by omega, by omega⟩ dX11_readAtom_19 (fun H locs hP hD hS => ?_)
    have h_zI_12 : WM [1803, 10200] AL zT zR zI (u2 zI_5 (zR zy 5) zia.toNatClampNeg zi_10) := h_zI_5.putA hs t_1 rfl (rgF _) (by decide) (fun h => absurd h (by decide)) (by decide) trivial
    generalize uzI_12 : u2 zI_5 (zR zy 5) zia.toNatClampNeg zi_10 = zI_12 at hP hD h_zI_12
    have kr_13 : zA (zI_12 (zR zy 5)) (zia.toInt + 5) = zA (zI_5 (zR zy 5)) (zia.toInt + 5) := by rw [← uzI_12, u2_r]; exact zu_n (by omega) (by omega) (by omega)
    have kr_14 : zA (zI_12 (zR zy 5)) (zia.toInt + 3) = zA (zI_5 (zR zy 5)) (zia.toInt + 3) := by rw [← uzI_12, u2_r]; exact zu_n (by omega) (by omega) (by omega)
    refine lv_aload_n hx hb dX11_readAtom_20 rfl (lv_at hl 0 rfl) ?_
    refine ht_getr (C := RX11) (T := TX11) (N := 28) hx hb hts (by decide +kernel) hown hK hP hs t_zy (by decide) rfl rfl 5 (by decide) (hts (.fieldLink RX11 16 "DripStoneModel" "read" "[I") (by decide +kernel)) (fun _ h9 => h9) rfl dX11_readAtom_21 ?_
    refine lv_iload_n hx hb dX11_readAtom_24 rfl (lv_at hl 1 rfl) ?_
    refine lv_iconst (v := 1) hx hb dX11_readAtom_25 (by decide) ?_
    refine lv_iadd hx hb dX11_readAtom_26 ?_
    refine lv_topi (fun zi_15 ezi_15 => ?_)
    have tzi_15 : zi_15.toInt = zia.toInt + (1 : Int) := by rw [ezi_15]; exact tiadd (rfl) (show (1 : Int32).toInt = 1 by decide) (by omega) (by omega)
    refine lv_iconst (v := 0) hx hb dX11_readAtom_27 (by decide) ?_
    refine ht_iast (v := (0 : Int32)) (n := 66) (q := 0) hx hb hK hP hD hS hs t_1 (by decide) rfl rfl ⟨by omega, by omega⟩ dX11_readAtom_28 (fun H locs hP hD hS => ?_)
    have h_zI_16 : WM [1803, 10200] AL zT zR zI (u2 zI_12 (zR zy 5) zi_15.toNatClampNeg (0 : Int32)) := h_zI_12.putA hs t_1 rfl (rgF _) (by decide) (fun h => absurd h (by decide)) (by decide) trivial
    generalize uzI_16 : u2 zI_12 (zR zy 5) zi_15.toNatClampNeg (0 : Int32) = zI_16 at hP hD h_zI_16
    have kr_17 : zA (zI_16 (zR zy 5)) (zia.toInt + 5) = zA (zI_12 (zR zy 5)) (zia.toInt + 5) := by rw [← uzI_16, u2_r]; exact zu_n (by omega) (by omega) (by omega)
    have kr_18 : zA (zI_16 (zR zy 5)) (zia.toInt + 3) = zA (zI_12 (zR zy 5)) (zia.toInt + 3) := by rw [← uzI_16, u2_r]; exact zu_n (by omega) (by omega) (by omega)
    refine lv_aload_n hx hb dX11_readAtom_29 rfl (lv_at hl 0 rfl) ?_
    refine ht_getr (C := RX11) (T := TX11) (N := 28) hx hb hts (by decide +kernel) hown hK hP hs t_zy (by decide) rfl rfl 5 (by decide) (hts (.fieldLink RX11 16 "DripStoneModel" "read" "[I") (by decide +kernel)) (fun _ h9 => h9) rfl dX11_readAtom_30 ?_
    refine lv_iload_n hx hb dX11_readAtom_33 rfl (lv_at hl 1 rfl) ?_
    refine lv_iconst (v := 2) hx hb dX11_readAtom_34 (by decide) ?_
    refine lv_iadd hx hb dX11_readAtom_35 ?_
    refine lv_topi (fun zi_19 ezi_19 => ?_)
    have tzi_19 : zi_19.toInt = zia.toInt + (2 : Int) := by rw [ezi_19]; exact tiadd (rfl) (show (2 : Int32).toInt = 2 by decide) (by omega) (by omega)
    refine lv_iconst (v := 0) hx hb dX11_readAtom_36 (by decide) ?_
    refine ht_iast (v := (0 : Int32)) (n := 66) (q := 0) hx hb hK hP hD hS hs t_1 (by decide) rfl rfl ⟨by omega, by omega⟩ dX11_readAtom_37 (fun H locs hP hD hS => ?_)
    have h_zI_20 : WM [1803, 10200] AL zT zR zI (u2 zI_16 (zR zy 5) zi_19.toNatClampNeg (0 : Int32)) := h_zI_16.putA hs t_1 rfl (rgF _) (by decide) (fun h => absurd h (by decide)) (by decide) trivial
    generalize uzI_20 : u2 zI_16 (zR zy 5) zi_19.toNatClampNeg (0 : Int32) = zI_20 at hP hD h_zI_20
    have kr_21 : zA (zI_20 (zR zy 5)) (zia.toInt + 5) = zA (zI_16 (zR zy 5)) (zia.toInt + 5) := by rw [← uzI_20, u2_r]; exact zu_n (by omega) (by omega) (by omega)
    have kr_22 : zA (zI_20 (zR zy 5)) (zia.toInt + 3) = zA (zI_16 (zR zy 5)) (zia.toInt + 3) := by rw [← uzI_20, u2_r]; exact zu_n (by omega) (by omega) (by omega)
    refine lv_aload_n hx hb dX11_readAtom_38 rfl (lv_at hl 0 rfl) ?_
    refine lv_bipush (v := 42) hx hb dX11_readAtom_39 (by decide) ?_
    have qc_42 : (42 : Int32).toInt = 42 := by decide
    refine hj_i (ws := (WL cy zL zT zR zI_20 zJ)) (w1 := fun (u : (Nat → Nat → Int32)) => (WL cy zL zT zR u zJ)) (va_runV (As := [.int 42]) (rest := []) ⟨hx, hb, hml, hown, hts⟩ (t_X11_takes l dC dI cy H.size zL zT zR zI_20 zJ zy (42 : Int32) hs h_zI_20.1 t_zy (by decide)) (cwV 1 hts gX11_readAtom_X11_takes rfl rfl rfl (by decide +kernel) ⟨(Nat.le_of_ble_eq_true rfl), (Nat.le_of_ble_eq_true rfl)⟩) (PRE.v hP hK hD hN (ht_recv hK hP hs t_zy (by decide) rfl rfl)) rfl rfl hl.1 rfl (lv_room (Nat.le_of_ble_eq_true rfl)) dX11_readAtom_41 ⟨(Nat.le_of_ble_eq_true rfl), (Nat.le_of_ble_eq_true rfl)⟩) hP hD hS hA (fun zi_23 zI_26 H locs hw_24 hP hD hS => ?_)
    obtain ⟨k_zI_26, b_zi_23⟩ : (WM [1803] AL zT zR zI_20 zI_26) ∧ (0 ≤ zi_23.toInt ∧ zi_23.toInt ≤ 1) := hw_24
    have h_zI_26 : WM [1803, 10200] AL zT zR zI zI_26 := h_zI_20.tr k_zI_26 (by decide) (fun _ _ => trivial)
    have kr_27 : zA (zI_26 (zR zy 5)) (zia.toInt + 5) = zA (zI_20 (zR zy 5)) (zia.toInt + 5) := by rw [(k_zI_26.2.row t_1 (by decide) (by decide))]
    have kr_28 : zA (zI_26 (zR zy 5)) (zia.toInt + 3) = zA (zI_20 (zR zy 5)) (zia.toInt + 3) := by rw [(k_zI_26.2.row t_1 (by decide) (by decide))]
    have jn_162 : ∀ (zI_161 : Nat → Nat → Int32) (H : Heap) (locs : List Loc) (ls : Array Slot), (WM [1803, 10200] AL zT zR zI zI_161) → (FRM (zI (zR zy 5)) (zI_161 (zR zy 5)) (zia.toInt) (zia.toInt + 5)) → va_P (dC, dI) vwCl (WL cy zL zT zR zI_161 zJ) H → va_D A (WL cy zL zT zR zI_161 zJ) → va_S A s.heap H locs → lv_has ls 5 [(0, .ref zy), (1, .int zia)] → W p l e ({ frames := 2, cells := 0, slots := 0, locals := 49 } : Room) s m ([.ref zy, .int zia] : List Value).toArray below meth c H locs 0 0 Q (F0 m 229 ls []) := by
      intro zI_161 H locs ls h_zI_161 e_jn_162_0 hP hD hS hl
      refine lv_aload_n hx hb dX11_readAtom_229 rfl (lv_at hl 0 rfl) ?_
      refine lv_bipush (v := 64) hx hb dX11_readAtom_230 (by decide) ?_
      have qc_64 : (64 : Int32).toInt = 64 := by decide
      refine hj_i (ws := (WL cy zL zT zR zI_161 zJ)) (w1 := fun (u : (Nat → Nat → Int32)) => (WL cy zL zT zR u zJ)) (va_runV (As := [.int 64]) (rest := []) ⟨hx, hb, hml, hown, hts⟩ (t_X11_takes l dC dI cy H.size zL zT zR zI_161 zJ zy (64 : Int32) hs h_zI_161.1 t_zy (by decide)) (cwV 1 hts gX11_readAtom_X11_takes rfl rfl rfl (by decide +kernel) ⟨(Nat.le_of_ble_eq_true rfl), (Nat.le_of_ble_eq_true rfl)⟩) (PRE.v hP hK hD hN (ht_recv hK hP hs t_zy (by decide) rfl rfl)) rfl rfl hl.1 rfl (lv_room (Nat.le_of_ble_eq_true rfl)) dX11_readAtom_232 ⟨(Nat.le_of_ble_eq_true rfl), (Nat.le_of_ble_eq_true rfl)⟩) hP hD hS hA (fun zi_163 zI_166 H locs hw_164 hP hD hS => ?_)
      obtain ⟨k_zI_166, b_zi_163⟩ : (WM [1803] AL zT zR zI_161 zI_166) ∧ (0 ≤ zi_163.toInt ∧ zi_163.toInt ≤ 1) := hw_164
      have h_zI_166 : WM [1803, 10200] AL zT zR zI zI_166 := h_zI_161.tr k_zI_166 (by decide) (fun _ _ => trivial)
      have kr_167 : zA (zI_166 (zR zy 5)) (zia.toInt + 5) = zA (zI_161 (zR zy 5)) (zia.toInt + 5) := by rw [(k_zI_166.2.row t_1 (by decide) (by decide))]
      have kr_168 : zA (zI_166 (zR zy 5)) (zia.toInt + 3) = zA (zI_161 (zR zy 5)) (zia.toInt + 3) := by rw [(k_zI_166.2.row t_1 (by decide) (by decide))]
      refine lv_if_ne (tgt := 240) hx hb dX11_readAtom_235 (by decide) (fun c_169 => ?_) (fun c_169 => ?_)
      · have f_170 : zi_163.toInt ≠ 0 := ic_ne (rfl) (by decide) c_169
        refine lv_aload_n hx hb dX11_readAtom_240 rfl (lv_at hl 0 rfl) ?_
        refine ht_getr (C := RX11) (T := TX11) (N := 28) hx hb hts (by decide +kernel) hown hK hP hs t_zy (by decide) rfl rfl 5 (by decide) (hts (.fieldLink RX11 16 "DripStoneModel" "read" "[I") (by decide +kernel)) (fun _ h9 => h9) rfl dX11_readAtom_241 ?_
        refine lv_iload_n hx hb dX11_readAtom_244 rfl (lv_at hl 1 rfl) ?_
        refine lv_iconst (v := 3) hx hb dX11_readAtom_245 (by decide) ?_
        refine lv_iadd hx hb dX11_readAtom_246 ?_
        refine lv_topi (fun zi_171 ezi_171 => ?_)
        have tzi_171 : zi_171.toInt = zia.toInt + (3 : Int) := by rw [ezi_171]; exact tiadd (rfl) (show (3 : Int32).toInt = 3 by decide) (by omega) (by omega)
        refine lv_aload_n hx hb dX11_readAtom_247 rfl (lv_at hl 0 rfl) ?_
        refine lv_iconst (v := 0) hx hb dX11_readAtom_248 (by decide) ?_
        refine lv_bipush (v := 23) hx hb dX11_readAtom_249 (by decide) ?_
        have qc_0 : (0 : Int32).toInt = 0 := by decide
        have qc_23 : (23 : Int32).toInt = 23 := by decide
        refine hj_i (ws := (WL cy zL zT zR zI_166 zJ)) (w1 := fun (u : (Nat → Nat → Int32)) => (WL cy zL zT zR u zJ)) (va_runV (As := [.int 0, .int 23]) (rest := [.int zi_171, .ref (zR zy 5)]) ⟨hx, hb, hml, hown, hts⟩ (t_X11_readNumber l dC dI cy H.size zL zT zR zI_166 zJ zy (0 : Int32) (23 : Int32) hs h_zI_166.1 t_zy (by decide) (by decide)) (cwV 2 hts gX11_readAtom_X11_readNumber rfl rfl rfl (by decide +kernel) ⟨(Nat.le_of_ble_eq_true rfl), (Nat.le_of_ble_eq_true rfl)⟩) (PRE.v hP hK hD hN (ht_recv hK hP hs t_zy (by decide) rfl rfl)) rfl rfl hl.1 rfl (lv_room (Nat.le_of_ble_eq_true rfl)) dX11_readAtom_251 ⟨(Nat.le_of_ble_eq_true rfl), (Nat.le_of_ble_eq_true rfl)⟩) hP hD hS hA (fun zi_172 zI_175 H locs hw_173 hP hD hS => ?_)
        obtain ⟨k_zI_175, b_zi_172, ps_176⟩ : (WM [1803] AL zT zR zI_166 zI_175) ∧ ((-1) ≤ zi_172.toInt) ∧ (zi_172.toInt = -1 ∨ ((0 : Int32).toInt ≤ zi_172.toInt ∧ zi_172.toInt ≤ (23 : Int32).toInt)) := hw_173
        have h_zI_175 : WM [1803, 10200] AL zT zR zI zI_175 := h_zI_166.tr k_zI_175 (by decide) (fun _ _ => trivial)
        have kr_177 : zA (zI_175 (zR zy 5)) (zia.toInt + 5) = zA (zI_166 (zR zy 5)) (zia.toInt + 5) := by rw [(k_zI_175.2.row t_1 (by decide) (by decide))]
        have kr_178 : zA (zI_175 (zR zy 5)) (zia.toInt + 3) = zA (zI_166 (zR zy 5)) (zia.toInt + 3) := by rw [(k_zI_175.2.row t_1 (by decide) (by decide))]
        have b8_zi_172 : (-1) ≤ zi_172.toInt ∧ zi_172.toInt ≤ 23 := by omega
        refine ht_iast (v := zi_172) (n := 66) (q := 0) hx hb hK hP hD hS hs t_1 (by decide) rfl rfl ⟨by omega, by omega⟩ dX11_readAtom_254 (fun H locs hP hD hS => ?_)
        have h_zI_179 : WM [1803, 10200] AL zT zR zI (u2 zI_175 (zR zy 5) zi_171.toNatClampNeg zi_172) := h_zI_175.putA hs t_1 rfl (rgF _) (by decide) (fun h => absurd h (by decide)) (by decide) trivial
        generalize uzI_179 : u2 zI_175 (zR zy 5) zi_171.toNatClampNeg zi_172 = zI_179 at hP hD h_zI_179
        have kr_180 : zA (zI_179 (zR zy 5)) (zia.toInt + 5) = zA (zI_175 (zR zy 5)) (zia.toInt + 5) := by rw [← uzI_179, u2_r]; exact zu_n (by omega) (by omega) (by omega)
        have kr_181 : zA (zI_179 (zR zy 5)) (zia.toInt + 3) = zi_172.toInt := by rw [← uzI_179, u2_r]; exact (zu_s (by omega)).trans rfl
        refine lv_aload_n hx hb dX11_readAtom_255 rfl (lv_at hl 0 rfl) ?_
        refine ht_getr (C := RX11) (T := TX11) (N := 28) hx hb hts (by decide +kernel) hown hK hP hs t_zy (by decide) rfl rfl 5 (by decide) (hts (.fieldLink RX11 16 "DripStoneModel" "read" "[I") (by decide +kernel)) (fun _ h9 => h9) rfl dX11_readAtom_256 ?_
        refine lv_iload_n hx hb dX11_readAtom_259 rfl (lv_at hl 1 rfl) ?_
        refine lv_iconst (v := 3) hx hb dX11_readAtom_260 (by decide) ?_
        refine lv_iadd hx hb dX11_readAtom_261 ?_
        refine lv_topi (fun zi_182 ezi_182 => ?_)
        have tzi_182 : zi_182.toInt = zia.toInt + (3 : Int) := by rw [ezi_182]; exact tiadd (rfl) (show (3 : Int32).toInt = 3 by decide) (by omega) (by omega)
        refine ht_iald (n := 66) (q := 0) hx hb hK hP hs t_1 (by decide) rfl rfl ⟨by omega, by omega⟩ dX11_readAtom_262 ?_
        refine lv_topi (fun zi_183 ezi_183 => ?_)
        have la_184 : zi_183.toInt = zA (zI_179 (zR zy 5)) (3 + zia.toInt) := (congrArg Int32.toInt (show zI_179 (zR zy 5) zi_182.toNatClampNeg = zi_183 from ezi_183.symm).symm).trans (congrArg (zA (zI_179 (zR zy 5))) (show zi_182.toInt = 3 + zia.toInt from by omega))
        refine lv_if_lt (tgt := 275) hx hb dX11_readAtom_263 (by decide) (fun c_185 => ?_) (fun c_185 => ?_)
        · have f_186 : zi_183.toInt < 0 := ic_lt (rfl) (by decide) c_185
          refine lv_iconst (v := 0) hx hb dX11_readAtom_275 (by decide) ?_
          subst hQ
          have fr_187 : FRM (zI (zR zy 5)) (zI_166 (zR zy 5)) (zia.toInt) (zia.toInt + 5) := by rw [(k_zI_166.2.row t_1 (by decide) (by decide))]; exact e_jn_162_0
          have fr_188 : FRM (zI (zR zy 5)) (zI_175 (zR zy 5)) (zia.toInt) (zia.toInt + 5) := by rw [(k_zI_175.2.row t_1 (by decide) (by decide))]; exact fr_187
          have fr_189 : FRM (zI (zR zy 5)) (zI_179 (zR zy 5)) (zia.toInt) (zia.toInt + 5) := by rw [← uzI_179, u2_r]; exact FRM.up fr_188 (by omega)
          exact W.zret (v := (0 : Int32)) hx hb hr rfl (fun t ht hW => ⟨⟨(0 : Int32), zI_179, rfl, ⟨h_zI_179, (show 0 ≤ (0 : Int32).toInt ∧ (0 : Int32).toInt ≤ 1 from by omega), (show FRM (zI (zR zy 5)) (zI_179 (zR zy 5)) (zia.toInt) (zia.toInt + 5) from fr_189), (show (0 : Int32).toInt = 0 ∨ (1 ≤ zA (zI_179 (zR zy 5)) (zia.toInt + 5) ∧ zA (zI_179 (zR zy 5)) (zia.toInt + 5) ≤ 12) from by omega)⟩, ⟨by rw [ht]; exact hP, va_K.moved hW.alike hK, hD⟩⟩, hS.F ht⟩) hS.2.2 dX11_readAtom_276
        · have f_186 : ¬ (zi_183.toInt < 0) := ic_nlt (rfl) (by decide) c_185
          refine lv_aload_n hx hb dX11_readAtom_266 rfl (lv_at hl 0 rfl) ?_
          refine lv_bipush (v := 45) hx hb dX11_readAtom_267 (by decide) ?_
          have qc_45 : (45 : Int32).toInt = 45 := by decide
          refine hj_i (ws := (WL cy zL zT zR zI_179 zJ)) (w1 := fun (u : (Nat → Nat → Int32)) => (WL cy zL zT zR u zJ)) (va_runV (As := [.int 45]) (rest := []) ⟨hx, hb, hml, hown, hts⟩ (t_X11_takes l dC dI cy H.size zL zT zR zI_179 zJ zy (45 : Int32) hs h_zI_179.1 t_zy (by decide)) (cwV 1 hts gX11_readAtom_X11_takes rfl rfl rfl (by decide +kernel) ⟨(Nat.le_of_ble_eq_true rfl), (Nat.le_of_ble_eq_true rfl)⟩) (PRE.v hP hK hD hN (ht_recv hK hP hs t_zy (by decide) rfl rfl)) rfl rfl hl.1 rfl (lv_room (Nat.le_of_ble_eq_true rfl)) dX11_readAtom_269 ⟨(Nat.le_of_ble_eq_true rfl), (Nat.le_of_ble_eq_true rfl)⟩) hP hD hS hA (fun zi_190 zI_193 H locs hw_191 hP hD hS => ?_)
          obtain ⟨k_zI_193, b_zi_190⟩ : (WM [1803] AL zT zR zI_179 zI_193) ∧ (0 ≤ zi_190.toInt ∧ zi_190.toInt ≤ 1) := hw_191
          have h_zI_193 : WM [1803, 10200] AL zT zR zI zI_193 := h_zI_179.tr k_zI_193 (by decide) (fun _ _ => trivial)
          have kr_194 : zA (zI_193 (zR zy 5)) (zia.toInt + 5) = zA (zI_179 (zR zy 5)) (zia.toInt + 5) := by rw [(k_zI_193.2.row t_1 (by decide) (by decide))]
          have kr_195 : zA (zI_193 (zR zy 5)) (zia.toInt + 3) = zA (zI_179 (zR zy 5)) (zia.toInt + 3) := by rw [(k_zI_193.2.row t_1 (by decide) (by decide))]
          refine lv_if_ne (tgt := 277) hx hb dX11_readAtom_272 (by decide) (fun c_196 => ?_) (fun c_196 => ?_)
          · have f_197 : zi_190.toInt ≠ 0 := ic_ne (rfl) (by decide) c_196
            refine lv_aload_n hx hb dX11_readAtom_277 rfl (lv_at hl 0 rfl) ?_
            refine ht_getr (C := RX11) (T := TX11) (N := 28) hx hb hts (by decide +kernel) hown hK hP hs t_zy (by decide) rfl rfl 5 (by decide) (hts (.fieldLink RX11 16 "DripStoneModel" "read" "[I") (by decide +kernel)) (fun _ h9 => h9) rfl dX11_readAtom_278 ?_
            refine lv_iload_n hx hb dX11_readAtom_281 rfl (lv_at hl 1 rfl) ?_
            refine lv_iconst (v := 4) hx hb dX11_readAtom_282 (by decide) ?_
            refine lv_iadd hx hb dX11_readAtom_283 ?_
            refine lv_topi (fun zi_198 ezi_198 => ?_)
            have tzi_198 : zi_198.toInt = zia.toInt + (4 : Int) := by rw [ezi_198]; exact tiadd (rfl) (show (4 : Int32).toInt = 4 by decide) (by omega) (by omega)
            refine lv_aload_n hx hb dX11_readAtom_284 rfl (lv_at hl 0 rfl) ?_
            refine lv_aload_n hx hb dX11_readAtom_285 rfl (lv_at hl 0 rfl) ?_
            refine ht_getr (C := RX11) (T := TX11) (N := 28) hx hb hts (by decide +kernel) hown hK hP hs t_zy (by decide) rfl rfl 5 (by decide) (hts (.fieldLink RX11 16 "DripStoneModel" "read" "[I") (by decide +kernel)) (fun _ h9 => h9) rfl dX11_readAtom_286 ?_
            refine lv_iload_n hx hb dX11_readAtom_289 rfl (lv_at hl 1 rfl) ?_
            refine lv_iconst (v := 3) hx hb dX11_readAtom_290 (by decide) ?_
            refine lv_iadd hx hb dX11_readAtom_291 ?_
            refine lv_topi (fun zi_199 ezi_199 => ?_)
            have tzi_199 : zi_199.toInt = zia.toInt + (3 : Int) := by rw [ezi_199]; exact tiadd (rfl) (show (3 : Int32).toInt = 3 by decide) (by omega) (by omega)
            refine ht_iald (n := 66) (q := 0) hx hb hK hP hs t_1 (by decide) rfl rfl ⟨by omega, by omega⟩ dX11_readAtom_292 ?_
            refine lv_topi (fun zi_200 ezi_200 => ?_)
            have la_201 : zi_200.toInt = zA (zI_193 (zR zy 5)) (3 + zia.toInt) := (congrArg Int32.toInt (show zI_193 (zR zy 5) zi_199.toNatClampNeg = zi_200 from ezi_200.symm).symm).trans (congrArg (zA (zI_193 (zR zy 5))) (show zi_199.toInt = 3 + zia.toInt from by omega))
            refine lv_bipush (v := 23) hx hb dX11_readAtom_293 (by decide) ?_
            refine hj_i (ws := (WL cy zL zT zR zI_193 zJ)) (w1 := fun (u : (Nat → Nat → Int32)) => (WL cy zL zT zR u zJ)) (va_runV (As := [.int zi_200, .int 23]) (rest := [.int zi_198, .ref (zR zy 5)]) ⟨hx, hb, hml, hown, hts⟩ (t_X11_readNumber l dC dI cy H.size zL zT zR zI_193 zJ zy zi_200 (23 : Int32) hs h_zI_193.1 t_zy (by omega) (by decide)) (cwV 2 hts gX11_readAtom_X11_readNumber rfl rfl rfl (by decide +kernel) ⟨(Nat.le_of_ble_eq_true rfl), (Nat.le_of_ble_eq_true rfl)⟩) (PRE.v hP hK hD hN (ht_recv hK hP hs t_zy (by decide) rfl rfl)) rfl rfl hl.1 rfl (lv_room (Nat.le_of_ble_eq_true rfl)) dX11_readAtom_295 ⟨(Nat.le_of_ble_eq_true rfl), (Nat.le_of_ble_eq_true rfl)⟩) hP hD hS hA (fun zi_202 zI_205 H locs hw_203 hP hD hS => ?_)
            obtain ⟨k_zI_205, b_zi_202, ps_206⟩ : (WM [1803] AL zT zR zI_193 zI_205) ∧ ((-1) ≤ zi_202.toInt) ∧ (zi_202.toInt = -1 ∨ (zi_200.toInt ≤ zi_202.toInt ∧ zi_202.toInt ≤ (23 : Int32).toInt)) := hw_203
            have h_zI_205 : WM [1803, 10200] AL zT zR zI zI_205 := h_zI_193.tr k_zI_205 (by decide) (fun _ _ => trivial)
            have kr_207 : zA (zI_205 (zR zy 5)) (zia.toInt + 5) = zA (zI_193 (zR zy 5)) (zia.toInt + 5) := by rw [(k_zI_205.2.row t_1 (by decide) (by decide))]
            have kr_208 : zA (zI_205 (zR zy 5)) (zia.toInt + 3) = zA (zI_193 (zR zy 5)) (zia.toInt + 3) := by rw [(k_zI_205.2.row t_1 (by decide) (by decide))]
            have b8_zi_202 : (-1) ≤ zi_202.toInt ∧ zi_202.toInt ≤ 23 := by omega
            refine ht_iast (v := zi_202) (n := 66) (q := 0) hx hb hK hP hD hS hs t_1 (by decide) rfl rfl ⟨by omega, by omega⟩ dX11_readAtom_298 (fun H locs hP hD hS => ?_)
            have h_zI_209 : WM [1803, 10200] AL zT zR zI (u2 zI_205 (zR zy 5) zi_198.toNatClampNeg zi_202) := h_zI_205.putA hs t_1 rfl (rgF _) (by decide) (fun h => absurd h (by decide)) (by decide) trivial
            generalize uzI_209 : u2 zI_205 (zR zy 5) zi_198.toNatClampNeg zi_202 = zI_209 at hP hD h_zI_209
            have kr_210 : zA (zI_209 (zR zy 5)) (zia.toInt + 5) = zA (zI_205 (zR zy 5)) (zia.toInt + 5) := by rw [← uzI_209, u2_r]; exact zu_n (by omega) (by omega) (by omega)
            have kr_211 : zA (zI_209 (zR zy 5)) (zia.toInt + 3) = zA (zI_205 (zR zy 5)) (zia.toInt + 3) := by rw [← uzI_209, u2_r]; exact zu_n (by omega) (by omega) (by omega)
            refine lv_aload_n hx hb dX11_readAtom_299 rfl (lv_at hl 0 rfl) ?_
            refine ht_getr (C := RX11) (T := TX11) (N := 28) hx hb hts (by decide +kernel) hown hK hP hs t_zy (by decide) rfl rfl 5 (by decide) (hts (.fieldLink RX11 16 "DripStoneModel" "read" "[I") (by decide +kernel)) (fun _ h9 => h9) rfl dX11_readAtom_300 ?_
            refine lv_iload_n hx hb dX11_readAtom_303 rfl (lv_at hl 1 rfl) ?_
            refine lv_iconst (v := 4) hx hb dX11_readAtom_304 (by decide) ?_
            refine lv_iadd hx hb dX11_readAtom_305 ?_
            refine lv_topi (fun zi_212 ezi_212 => ?_)
            have tzi_212 : zi_212.toInt = zia.toInt + (4 : Int) := by rw [ezi_212]; exact tiadd (rfl) (show (4 : Int32).toInt = 4 by decide) (by omega) (by omega)
            refine ht_iald (n := 66) (q := 0) hx hb hK hP hs t_1 (by decide) rfl rfl ⟨by omega, by omega⟩ dX11_readAtom_306 ?_
            refine lv_topi (fun zi_213 ezi_213 => ?_)
            have la_214 : zi_213.toInt = zA (zI_209 (zR zy 5)) (4 + zia.toInt) := (congrArg Int32.toInt (show zI_209 (zR zy 5) zi_212.toNatClampNeg = zi_213 from ezi_213.symm).symm).trans (congrArg (zA (zI_209 (zR zy 5))) (show zi_212.toInt = 4 + zia.toInt from by omega))
            refine lv_if_lt (tgt := 319) hx hb dX11_readAtom_307 (by decide) (fun c_215 => ?_) (fun c_215 => ?_)
            · have f_216 : zi_213.toInt < 0 := ic_lt (rfl) (by decide) c_215
              refine lv_iconst (v := 0) hx hb dX11_readAtom_319 (by decide) ?_
              subst hQ
              have fr_217 : FRM (zI (zR zy 5)) (zI_166 (zR zy 5)) (zia.toInt) (zia.toInt + 5) := by rw [(k_zI_166.2.row t_1 (by decide) (by decide))]; exact e_jn_162_0
              have fr_218 : FRM (zI (zR zy 5)) (zI_175 (zR zy 5)) (zia.toInt) (zia.toInt + 5) := by rw [(k_zI_175.2.row t_1 (by decide) (by decide))]; exact fr_217
              have fr_219 : FRM (zI (zR zy 5)) (zI_179 (zR zy 5)) (zia.toInt) (zia.toInt + 5) := by rw [← uzI_179, u2_r]; exact FRM.up fr_218 (by omega)
              have fr_220 : FRM (zI (zR zy 5)) (zI_193 (zR zy 5)) (zia.toInt) (zia.toInt + 5) := by rw [(k_zI_193.2.row t_1 (by decide) (by decide))]; exact fr_219
              have fr_221 : FRM (zI (zR zy 5)) (zI_205 (zR zy 5)) (zia.toInt) (zia.toInt + 5) := by rw [(k_zI_205.2.row t_1 (by decide) (by decide))]; exact fr_220
              have fr_222 : FRM (zI (zR zy 5)) (zI_209 (zR zy 5)) (zia.toInt) (zia.toInt + 5) := by rw [← uzI_209, u2_r]; exact FRM.up fr_221 (by omega)
              exact W.zret (v := (0 : Int32)) hx hb hr rfl (fun t ht hW => ⟨⟨(0 : Int32), zI_209, rfl, ⟨h_zI_209, (show 0 ≤ (0 : Int32).toInt ∧ (0 : Int32).toInt ≤ 1 from by omega), (show FRM (zI (zR zy 5)) (zI_209 (zR zy 5)) (zia.toInt) (zia.toInt + 5) from fr_222), (show (0 : Int32).toInt = 0 ∨ (1 ≤ zA (zI_209 (zR zy 5)) (zia.toInt + 5) ∧ zA (zI_209 (zR zy 5)) (zia.toInt + 5) ≤ 12) from by omega)⟩, ⟨by rw [ht]; exact hP, va_K.moved hW.alike hK, hD⟩⟩, hS.F ht⟩) hS.2.2 dX11_readAtom_320
            · have f_216 : ¬ (zi_213.toInt < 0) := ic_nlt (rfl) (by decide) c_215
              refine lv_aload_n hx hb dX11_readAtom_310 rfl (lv_at hl 0 rfl) ?_
              refine lv_bipush (v := 35) hx hb dX11_readAtom_311 (by decide) ?_
              have qc_35 : (35 : Int32).toInt = 35 := by decide
              refine hj_i (ws := (WL cy zL zT zR zI_209 zJ)) (w1 := fun (u : (Nat → Nat → Int32)) => (WL cy zL zT zR u zJ)) (va_runV (As := [.int 35]) (rest := []) ⟨hx, hb, hml, hown, hts⟩ (t_X11_takes l dC dI cy H.size zL zT zR zI_209 zJ zy (35 : Int32) hs h_zI_209.1 t_zy (by decide)) (cwV 1 hts gX11_readAtom_X11_takes rfl rfl rfl (by decide +kernel) ⟨(Nat.le_of_ble_eq_true rfl), (Nat.le_of_ble_eq_true rfl)⟩) (PRE.v hP hK hD hN (ht_recv hK hP hs t_zy (by decide) rfl rfl)) rfl rfl hl.1 rfl (lv_room (Nat.le_of_ble_eq_true rfl)) dX11_readAtom_313 ⟨(Nat.le_of_ble_eq_true rfl), (Nat.le_of_ble_eq_true rfl)⟩) hP hD hS hA (fun zi_223 zI_226 H locs hw_224 hP hD hS => ?_)
              obtain ⟨k_zI_226, b_zi_223⟩ : (WM [1803] AL zT zR zI_209 zI_226) ∧ (0 ≤ zi_223.toInt ∧ zi_223.toInt ≤ 1) := hw_224
              have h_zI_226 : WM [1803, 10200] AL zT zR zI zI_226 := h_zI_209.tr k_zI_226 (by decide) (fun _ _ => trivial)
              have kr_227 : zA (zI_226 (zR zy 5)) (zia.toInt + 5) = zA (zI_209 (zR zy 5)) (zia.toInt + 5) := by rw [(k_zI_226.2.row t_1 (by decide) (by decide))]
              have kr_228 : zA (zI_226 (zR zy 5)) (zia.toInt + 3) = zA (zI_209 (zR zy 5)) (zia.toInt + 3) := by rw [(k_zI_226.2.row t_1 (by decide) (by decide))]
              refine lv_if_ne (tgt := 321) hx hb dX11_readAtom_316 (by decide) (fun c_229 => ?_) (fun c_229 => ?_)
              · have f_230 : zi_223.toInt ≠ 0 := ic_ne (rfl) (by decide) c_229
                refine lv_aload_n hx hb dX11_readAtom_321 rfl (lv_at hl 0 rfl) ?_
                refine ht_getr (C := RX11) (T := TX11) (N := 28) hx hb hts (by decide +kernel) hown hK hP hs t_zy (by decide) rfl rfl 5 (by decide) (hts (.fieldLink RX11 16 "DripStoneModel" "read" "[I") (by decide +kernel)) (fun _ h9 => h9) rfl dX11_readAtom_322 ?_
                refine lv_iload_n hx hb dX11_readAtom_325 rfl (lv_at hl 1 rfl) ?_
                refine lv_iconst (v := 5) hx hb dX11_readAtom_326 (by decide) ?_
                refine lv_iadd hx hb dX11_readAtom_327 ?_
                refine lv_topi (fun zi_231 ezi_231 => ?_)
                have tzi_231 : zi_231.toInt = zia.toInt + (5 : Int) := by rw [ezi_231]; exact tiadd (rfl) (show (5 : Int32).toInt = 5 by decide) (by omega) (by omega)
                refine lv_aload_n hx hb dX11_readAtom_328 rfl (lv_at hl 0 rfl) ?_
                refine lv_iconst (v := 1) hx hb dX11_readAtom_329 (by decide) ?_
                refine lv_bipush (v := 12) hx hb dX11_readAtom_330 (by decide) ?_
                have qc_1 : (1 : Int32).toInt = 1 := by decide
                have qc_12 : (12 : Int32).toInt = 12 := by decide
                refine hj_i (ws := (WL cy zL zT zR zI_226 zJ)) (w1 := fun (u : (Nat → Nat → Int32)) => (WL cy zL zT zR u zJ)) (va_runV (As := [.int 1, .int 12]) (rest := [.int zi_231, .ref (zR zy 5)]) ⟨hx, hb, hml, hown, hts⟩ (t_X11_readNumber l dC dI cy H.size zL zT zR zI_226 zJ zy (1 : Int32) (12 : Int32) hs h_zI_226.1 t_zy (by decide) (by decide)) (cwV 2 hts gX11_readAtom_X11_readNumber rfl rfl rfl (by decide +kernel) ⟨(Nat.le_of_ble_eq_true rfl), (Nat.le_of_ble_eq_true rfl)⟩) (PRE.v hP hK hD hN (ht_recv hK hP hs t_zy (by decide) rfl rfl)) rfl rfl hl.1 rfl (lv_room (Nat.le_of_ble_eq_true rfl)) dX11_readAtom_332 ⟨(Nat.le_of_ble_eq_true rfl), (Nat.le_of_ble_eq_true rfl)⟩) hP hD hS hA (fun zi_232 zI_235 H locs hw_233 hP hD hS => ?_)
                obtain ⟨k_zI_235, b_zi_232, ps_236⟩ : (WM [1803] AL zT zR zI_226 zI_235) ∧ ((-1) ≤ zi_232.toInt) ∧ (zi_232.toInt = -1 ∨ ((1 : Int32).toInt ≤ zi_232.toInt ∧ zi_232.toInt ≤ (12 : Int32).toInt)) := hw_233
                have h_zI_235 : WM [1803, 10200] AL zT zR zI zI_235 := h_zI_226.tr k_zI_235 (by decide) (fun _ _ => trivial)
                have kr_237 : zA (zI_235 (zR zy 5)) (zia.toInt + 5) = zA (zI_226 (zR zy 5)) (zia.toInt + 5) := by rw [(k_zI_235.2.row t_1 (by decide) (by decide))]
                have kr_238 : zA (zI_235 (zR zy 5)) (zia.toInt + 3) = zA (zI_226 (zR zy 5)) (zia.toInt + 3) := by rw [(k_zI_235.2.row t_1 (by decide) (by decide))]
                have b8_zi_232 : (-1) ≤ zi_232.toInt ∧ zi_232.toInt ≤ 12 := by omega
                refine ht_iast (v := zi_232) (n := 66) (q := 0) hx hb hK hP hD hS hs t_1 (by decide) rfl rfl ⟨by omega, by omega⟩ dX11_readAtom_335 (fun H locs hP hD hS => ?_)
                have h_zI_239 : WM [1803, 10200] AL zT zR zI (u2 zI_235 (zR zy 5) zi_231.toNatClampNeg zi_232) := h_zI_235.putA hs t_1 rfl (rgF _) (by decide) (fun h => absurd h (by decide)) (by decide) trivial
                generalize uzI_239 : u2 zI_235 (zR zy 5) zi_231.toNatClampNeg zi_232 = zI_239 at hP hD h_zI_239
                have kr_240 : zA (zI_239 (zR zy 5)) (zia.toInt + 5) = zi_232.toInt := by rw [← uzI_239, u2_r]; exact (zu_s (by omega)).trans rfl
                have kr_241 : zA (zI_239 (zR zy 5)) (zia.toInt + 3) = zA (zI_235 (zR zy 5)) (zia.toInt + 3) := by rw [← uzI_239, u2_r]; exact zu_n (by omega) (by omega) (by omega)
                refine lv_aload_n hx hb dX11_readAtom_336 rfl (lv_at hl 0 rfl) ?_
                refine ht_getr (C := RX11) (T := TX11) (N := 28) hx hb hts (by decide +kernel) hown hK hP hs t_zy (by decide) rfl rfl 5 (by decide) (hts (.fieldLink RX11 16 "DripStoneModel" "read" "[I") (by decide +kernel)) (fun _ h9 => h9) rfl dX11_readAtom_337 ?_
                refine lv_iload_n hx hb dX11_readAtom_340 rfl (lv_at hl 1 rfl) ?_
                refine lv_iconst (v := 5) hx hb dX11_readAtom_341 (by decide) ?_
                refine lv_iadd hx hb dX11_readAtom_342 ?_
                refine lv_topi (fun zi_242 ezi_242 => ?_)
                have tzi_242 : zi_242.toInt = zia.toInt + (5 : Int) := by rw [ezi_242]; exact tiadd (rfl) (show (5 : Int32).toInt = 5 by decide) (by omega) (by omega)
                refine ht_iald (n := 66) (q := 0) hx hb hK hP hs t_1 (by decide) rfl rfl ⟨by omega, by omega⟩ dX11_readAtom_343 ?_
                refine lv_topi (fun zi_243 ezi_243 => ?_)
                have la_244 : zi_243.toInt = zA (zI_239 (zR zy 5)) (5 + zia.toInt) := (congrArg Int32.toInt (show zI_239 (zR zy 5) zi_242.toNatClampNeg = zi_243 from ezi_243.symm).symm).trans (congrArg (zA (zI_239 (zR zy 5))) (show zi_242.toInt = 5 + zia.toInt from by omega))
                refine lv_if_le (tgt := 351) hx hb dX11_readAtom_344 (by decide) (fun c_245 => ?_) (fun c_245 => ?_)
                · have f_246 : zi_243.toInt ≤ 0 := ic_le (rfl) (by decide) c_245
                  refine lv_iconst (v := 0) hx hb dX11_readAtom_351 (by decide) ?_
                  subst hQ
                  have fr_247 : FRM (zI (zR zy 5)) (zI_166 (zR zy 5)) (zia.toInt) (zia.toInt + 5) := by rw [(k_zI_166.2.row t_1 (by decide) (by decide))]; exact e_jn_162_0
                  have fr_248 : FRM (zI (zR zy 5)) (zI_175 (zR zy 5)) (zia.toInt) (zia.toInt + 5) := by rw [(k_zI_175.2.row t_1 (by decide) (by decide))]; exact fr_247
                  have fr_249 : FRM (zI (zR zy 5)) (zI_179 (zR zy 5)) (zia.toInt) (zia.toInt + 5) := by rw [← uzI_179, u2_r]; exact FRM.up fr_248 (by omega)
                  have fr_250 : FRM (zI (zR zy 5)) (zI_193 (zR zy 5)) (zia.toInt) (zia.toInt + 5) := by rw [(k_zI_193.2.row t_1 (by decide) (by decide))]; exact fr_249
                  have fr_251 : FRM (zI (zR zy 5)) (zI_205 (zR zy 5)) (zia.toInt) (zia.toInt + 5) := by rw [(k_zI_205.2.row t_1 (by decide) (by decide))]; exact fr_250
                  have fr_252 : FRM (zI (zR zy 5)) (zI_209 (zR zy 5)) (zia.toInt) (zia.toInt + 5) := by rw [← uzI_209, u2_r]; exact FRM.up fr_251 (by omega)
                  have fr_253 : FRM (zI (zR zy 5)) (zI_226 (zR zy 5)) (zia.toInt) (zia.toInt + 5) := by rw [(k_zI_226.2.row t_1 (by decide) (by decide))]; exact fr_252
                  have fr_254 : FRM (zI (zR zy 5)) (zI_235 (zR zy 5)) (zia.toInt) (zia.toInt + 5) := by rw [(k_zI_235.2.row t_1 (by decide) (by decide))]; exact fr_253
                  have fr_255 : FRM (zI (zR zy 5)) (zI_239 (zR zy 5)) (zia.toInt) (zia.toInt + 5) := by rw [← uzI_239, u2_r]; exact FRM.up fr_254 (by omega)
                  exact W.zret (v := (0 : Int32)) hx hb hr rfl (fun t ht hW => ⟨⟨(0 : Int32), zI_239, rfl, ⟨h_zI_239, (show 0 ≤ (0 : Int32).toInt ∧ (0 : Int32).toInt ≤ 1 from by omega), (show FRM (zI (zR zy 5)) (zI_239 (zR zy 5)) (zia.toInt) (zia.toInt + 5) from fr_255), (show (0 : Int32).toInt = 0 ∨ (1 ≤ zA (zI_239 (zR zy 5)) (zia.toInt + 5) ∧ zA (zI_239 (zR zy 5)) (zia.toInt + 5) ≤ 12) from by omega)⟩, ⟨by rw [ht]; exact hP, va_K.moved hW.alike hK, hD⟩⟩, hS.F ht⟩) hS.2.2 dX11_readAtom_352
                · have f_246 : ¬ (zi_243.toInt ≤ 0) := ic_nle (rfl) (by decide) c_245
                  refine lv_iconst (v := 1) hx hb dX11_readAtom_347 (by decide) ?_
                  refine lv_goto (tgt := 352) hx hb dX11_readAtom_348 (by decide) ?_
                  subst hQ
                  have fr_256 : FRM (zI (zR zy 5)) (zI_166 (zR zy 5)) (zia.toInt) (zia.toInt + 5) := by rw [(k_zI_166.2.row t_1 (by decide) (by decide))]; exact e_jn_162_0
                  have fr_257 : FRM (zI (zR zy 5)) (zI_175 (zR zy 5)) (zia.toInt) (zia.toInt + 5) := by rw [(k_zI_175.2.row t_1 (by decide) (by decide))]; exact fr_256
                  have fr_258 : FRM (zI (zR zy 5)) (zI_179 (zR zy 5)) (zia.toInt) (zia.toInt + 5) := by rw [← uzI_179, u2_r]; exact FRM.up fr_257 (by omega)
                  have fr_259 : FRM (zI (zR zy 5)) (zI_193 (zR zy 5)) (zia.toInt) (zia.toInt + 5) := by rw [(k_zI_193.2.row t_1 (by decide) (by decide))]; exact fr_258
                  have fr_260 : FRM (zI (zR zy 5)) (zI_205 (zR zy 5)) (zia.toInt) (zia.toInt + 5) := by rw [(k_zI_205.2.row t_1 (by decide) (by decide))]; exact fr_259
                  have fr_261 : FRM (zI (zR zy 5)) (zI_209 (zR zy 5)) (zia.toInt) (zia.toInt + 5) := by rw [← uzI_209, u2_r]; exact FRM.up fr_260 (by omega)
                  have fr_262 : FRM (zI (zR zy 5)) (zI_226 (zR zy 5)) (zia.toInt) (zia.toInt + 5) := by rw [(k_zI_226.2.row t_1 (by decide) (by decide))]; exact fr_261
                  have fr_263 : FRM (zI (zR zy 5)) (zI_235 (zR zy 5)) (zia.toInt) (zia.toInt + 5) := by rw [(k_zI_235.2.row t_1 (by decide) (by decide))]; exact fr_262
                  have fr_264 : FRM (zI (zR zy 5)) (zI_239 (zR zy 5)) (zia.toInt) (zia.toInt + 5) := by rw [← uzI_239, u2_r]; exact FRM.up fr_263 (by omega)
                  exact W.zret (v := (1 : Int32)) hx hb hr rfl (fun t ht hW => ⟨⟨(1 : Int32), zI_239, rfl, ⟨h_zI_239, (show 0 ≤ (1 : Int32).toInt ∧ (1 : Int32).toInt ≤ 1 from by omega), (show FRM (zI (zR zy 5)) (zI_239 (zR zy 5)) (zia.toInt) (zia.toInt + 5) from fr_264), (show (1 : Int32).toInt = 0 ∨ (1 ≤ zA (zI_239 (zR zy 5)) (zia.toInt + 5) ∧ zA (zI_239 (zR zy 5)) (zia.toInt + 5) ≤ 12) from by omega)⟩, ⟨by rw [ht]; exact hP, va_K.moved hW.alike hK, hD⟩⟩, hS.F ht⟩) hS.2.2 dX11_readAtom_352
              · have f_230 : ¬ (zi_223.toInt ≠ 0) := ic_nne (rfl) (by decide) c_229
                refine lv_iconst (v := 0) hx hb dX11_readAtom_319 (by decide) ?_
                subst hQ
                have fr_265 : FRM (zI (zR zy 5)) (zI_166 (zR zy 5)) (zia.toInt) (zia.toInt + 5) := by rw [(k_zI_166.2.row t_1 (by decide) (by decide))]; exact e_jn_162_0
                have fr_266 : FRM (zI (zR zy 5)) (zI_175 (zR zy 5)) (zia.toInt) (zia.toInt + 5) := by rw [(k_zI_175.2.row t_1 (by decide) (by decide))]; exact fr_265
                have fr_267 : FRM (zI (zR zy 5)) (zI_179 (zR zy 5)) (zia.toInt) (zia.toInt + 5) := by rw [← uzI_179, u2_r]; exact FRM.up fr_266 (by omega)
                have fr_268 : FRM (zI (zR zy 5)) (zI_193 (zR zy 5)) (zia.toInt) (zia.toInt + 5) := by rw [(k_zI_193.2.row t_1 (by decide) (by decide))]; exact fr_267
                have fr_269 : FRM (zI (zR zy 5)) (zI_205 (zR zy 5)) (zia.toInt) (zia.toInt + 5) := by rw [(k_zI_205.2.row t_1 (by decide) (by decide))]; exact fr_268
                have fr_270 : FRM (zI (zR zy 5)) (zI_209 (zR zy 5)) (zia.toInt) (zia.toInt + 5) := by rw [← uzI_209, u2_r]; exact FRM.up fr_269 (by omega)
                have fr_271 : FRM (zI (zR zy 5)) (zI_226 (zR zy 5)) (zia.toInt) (zia.toInt + 5) := by rw [(k_zI_226.2.row t_1 (by decide) (by decide))]; exact fr_270
                exact W.zret (v := (0 : Int32)) hx hb hr rfl (fun t ht hW => ⟨⟨(0 : Int32), zI_226, rfl, ⟨h_zI_226, (show 0 ≤ (0 : Int32).toInt ∧ (0 : Int32).toInt ≤ 1 from by omega), (show FRM (zI (zR zy 5)) (zI_226 (zR zy 5)) (zia.toInt) (zia.toInt + 5) from fr_271), (show (0 : Int32).toInt = 0 ∨ (1 ≤ zA (zI_226 (zR zy 5)) (zia.toInt + 5) ∧ zA (zI_226 (zR zy 5)) (zia.toInt + 5) ≤ 12) from by omega)⟩, ⟨by rw [ht]; exact hP, va_K.moved hW.alike hK, hD⟩⟩, hS.F ht⟩) hS.2.2 dX11_readAtom_320
          · have f_197 : ¬ (zi_190.toInt ≠ 0) := ic_nne (rfl) (by decide) c_196
            refine lv_iconst (v := 0) hx hb dX11_readAtom_275 (by decide) ?_
            subst hQ
            have fr_272 : FRM (zI (zR zy 5)) (zI_166 (zR zy 5)) (zia.toInt) (zia.toInt + 5) := by rw [(k_zI_166.2.row t_1 (by decide) (by decide))]; exact e_jn_162_0
            have fr_273 : FRM (zI (zR zy 5)) (zI_175 (zR zy 5)) (zia.toInt) (zia.toInt + 5) := by rw [(k_zI_175.2.row t_1 (by decide) (by decide))]; exact fr_272
            have fr_274 : FRM (zI (zR zy 5)) (zI_179 (zR zy 5)) (zia.toInt) (zia.toInt + 5) := by rw [← uzI_179, u2_r]; exact FRM.up fr_273 (by omega)
            have fr_275 : FRM (zI (zR zy 5)) (zI_193 (zR zy 5)) (zia.toInt) (zia.toInt + 5) := by rw [(k_zI_193.2.row t_1 (by decide) (by decide))]; exact fr_274
            exact W.zret (v := (0 : Int32)) hx hb hr rfl (fun t ht hW => ⟨⟨(0 : Int32), zI_193, rfl, ⟨h_zI_193, (show 0 ≤ (0 : Int32).toInt ∧ (0 : Int32).toInt ≤ 1 from by omega), (show FRM (zI (zR zy 5)) (zI_193 (zR zy 5)) (zia.toInt) (zia.toInt + 5) from fr_275), (show (0 : Int32).toInt = 0 ∨ (1 ≤ zA (zI_193 (zR zy 5)) (zia.toInt + 5) ∧ zA (zI_193 (zR zy 5)) (zia.toInt + 5) ≤ 12) from by omega)⟩, ⟨by rw [ht]; exact hP, va_K.moved hW.alike hK, hD⟩⟩, hS.F ht⟩) hS.2.2 dX11_readAtom_276
      · have f_170 : ¬ (zi_163.toInt ≠ 0) := ic_nne (rfl) (by decide) c_169
        refine lv_iconst (v := 0) hx hb dX11_readAtom_238 (by decide) ?_
        subst hQ
        have qc_0 : (0 : Int32).toInt = 0 := by decide
        have fr_276 : FRM (zI (zR zy 5)) (zI_166 (zR zy 5)) (zia.toInt) (zia.toInt + 5) := by rw [(k_zI_166.2.row t_1 (by decide) (by decide))]; exact e_jn_162_0
        exact W.zret (v := (0 : Int32)) hx hb hr rfl (fun t ht hW => ⟨⟨(0 : Int32), zI_166, rfl, ⟨h_zI_166, (show 0 ≤ (0 : Int32).toInt ∧ (0 : Int32).toInt ≤ 1 from by omega), (show FRM (zI (zR zy 5)) (zI_166 (zR zy 5)) (zia.toInt) (zia.toInt + 5) from fr_276), (show (0 : Int32).toInt = 0 ∨ (1 ≤ zA (zI_166 (zR zy 5)) (zia.toInt + 5) ∧ zA (zI_166 (zR zy 5)) (zia.toInt + 5) ≤ 12) from by omega)⟩, ⟨by rw [ht]; exact hP, va_K.moved hW.alike hK, hD⟩⟩, hS.F ht⟩) hS.2.2 dX11_readAtom_239
    refine lv_if_ne (tgt := 229) hx hb dX11_readAtom_44 (by decide) (fun c_277 => ?_) (fun c_277 => ?_)
    · have f_278 : zi_23.toInt ≠ 0 := ic_ne (rfl) (by decide) c_277
      have fr_279 : FRM (zI (zR zy 5)) (zI_12 (zR zy 5)) (zia.toInt) (zia.toInt + 5) := by rw [← uzI_12, u2_r]; exact FRM.up e_jn_11_0 (by omega)
      have fr_280 : FRM (zI (zR zy 5)) (zI_16 (zR zy 5)) (zia.toInt) (zia.toInt + 5) := by rw [← uzI_16, u2_r]; exact FRM.up fr_279 (by omega)
      have fr_281 : FRM (zI (zR zy 5)) (zI_20 (zR zy 5)) (zia.toInt) (zia.toInt + 5) := by rw [← uzI_20, u2_r]; exact FRM.up fr_280 (by omega)
      have fr_282 : FRM (zI (zR zy 5)) (zI_26 (zR zy 5)) (zia.toInt) (zia.toInt + 5) := by rw [(k_zI_26.2.row t_1 (by decide) (by decide))]; exact fr_281
      exact jn_162 zI_26 _ _ _ h_zI_26 fr_282 hP hD hS (lv_sub hl [0, 1] rfl)
    · have f_278 : ¬ (zi_23.toInt ≠ 0) := ic_nne (rfl) (by decide) c_277
      refine lv_aload_n hx hb dX11_readAtom_47 rfl (lv_at hl 0 rfl) ?_
      refine lv_bipush (v := 119) hx hb dX11_readAtom_48 (by decide) ?_
      have qc_119 : (119 : Int32).toInt = 119 := by decide
      refine hj_i (ws := (WL cy zL zT zR zI_26 zJ)) (w1 := fun (u : (Nat → Nat → Int32)) => (WL cy zL zT zR u zJ)) (va_runV (As := [.int 119]) (rest := []) ⟨hx, hb, hml, hown, hts⟩ (t_X11_takes l dC dI cy H.size zL zT zR zI_26 zJ zy (119 : Int32) hs h_zI_26.1 t_zy (by decide)) (cwV 1 hts gX11_readAtom_X11_takes rfl rfl rfl (by decide +kernel) ⟨(Nat.le_of_ble_eq_true rfl), (Nat.le_of_ble_eq_true rfl)⟩) (PRE.v hP hK hD hN (ht_recv hK hP hs t_zy (by decide) rfl rfl)) rfl rfl hl.1 rfl (lv_room (Nat.le_of_ble_eq_true rfl)) dX11_readAtom_50 ⟨(Nat.le_of_ble_eq_true rfl), (Nat.le_of_ble_eq_true rfl)⟩) hP hD hS hA (fun zi_283 zI_286 H locs hw_284 hP hD hS => ?_)
      obtain ⟨k_zI_286, b_zi_283⟩ : (WM [1803] AL zT zR zI_26 zI_286) ∧ (0 ≤ zi_283.toInt ∧ zi_283.toInt ≤ 1) := hw_284
      have h_zI_286 : WM [1803, 10200] AL zT zR zI zI_286 := h_zI_26.tr k_zI_286 (by decide) (fun _ _ => trivial)
      have kr_287 : zA (zI_286 (zR zy 5)) (zia.toInt + 5) = zA (zI_26 (zR zy 5)) (zia.toInt + 5) := by rw [(k_zI_286.2.row t_1 (by decide) (by decide))]
      have kr_288 : zA (zI_286 (zR zy 5)) (zia.toInt + 3) = zA (zI_26 (zR zy 5)) (zia.toInt + 3) := by rw [(k_zI_286.2.row t_1 (by decide) (by decide))]
      refine lv_if_ne (tgt := 58) hx hb dX11_readAtom_53 (by decide) (fun c_289 => ?_) (fun c_289 => ?_)
      · have f_290 : zi_283.toInt ≠ 0 := ic_ne (rfl) (by decide) c_289
        refine lv_aload_n hx hb dX11_readAtom_58 rfl (lv_at hl 0 rfl) ?_
        refine ht_getr (C := RX11) (T := TX11) (N := 28) hx hb hts (by decide +kernel) hown hK hP hs t_zy (by decide) rfl rfl 5 (by decide) (hts (.fieldLink RX11 16 "DripStoneModel" "read" "[I") (by decide +kernel)) (fun _ h9 => h9) rfl dX11_readAtom_59 ?_
        refine lv_iload_n hx hb dX11_readAtom_62 rfl (lv_at hl 1 rfl) ?_
        refine lv_iconst (v := 1) hx hb dX11_readAtom_63 (by decide) ?_
        refine lv_iadd hx hb dX11_readAtom_64 ?_
        refine lv_topi (fun zi_291 ezi_291 => ?_)
        have tzi_291 : zi_291.toInt = zia.toInt + (1 : Int) := by rw [ezi_291]; exact tiadd (rfl) (show (1 : Int32).toInt = 1 by decide) (by omega) (by omega)
        refine lv_aload_n hx hb dX11_readAtom_65 rfl (lv_at hl 0 rfl) ?_
        refine lv_bipush (v := 60) hx hb dX11_readAtom_66 (by decide) ?_
        have qc_60 : (60 : Int32).toInt = 60 := by decide
        refine hj_i (ws := (WL cy zL zT zR zI_286 zJ)) (w1 := fun (u : (Nat → Nat → Int32)) => (WL cy zL zT zR u zJ)) (va_runV (As := [.int 60]) (rest := [.int zi_291, .ref (zR zy 5)]) ⟨hx, hb, hml, hown, hts⟩ (t_X11_takes l dC dI cy H.size zL zT zR zI_286 zJ zy (60 : Int32) hs h_zI_286.1 t_zy (by decide)) (cwV 1 hts gX11_readAtom_X11_takes rfl rfl rfl (by decide +kernel) ⟨(Nat.le_of_ble_eq_true rfl), (Nat.le_of_ble_eq_true rfl)⟩) (PRE.v hP hK hD hN (ht_recv hK hP hs t_zy (by decide) rfl rfl)) rfl rfl hl.1 rfl (lv_room (Nat.le_of_ble_eq_true rfl)) dX11_readAtom_68 ⟨(Nat.le_of_ble_eq_true rfl), (Nat.le_of_ble_eq_true rfl)⟩) hP hD hS hA (fun zi_292 zI_295 H locs hw_293 hP hD hS => ?_)
        obtain ⟨k_zI_295, b_zi_292⟩ : (WM [1803] AL zT zR zI_286 zI_295) ∧ (0 ≤ zi_292.toInt ∧ zi_292.toInt ≤ 1) := hw_293
        have h_zI_295 : WM [1803, 10200] AL zT zR zI zI_295 := h_zI_286.tr k_zI_295 (by decide) (fun _ _ => trivial)
        have kr_296 : zA (zI_295 (zR zy 5)) (zia.toInt + 5) = zA (zI_286 (zR zy 5)) (zia.toInt + 5) := by rw [(k_zI_295.2.row t_1 (by decide) (by decide))]
        have kr_297 : zA (zI_295 (zR zy 5)) (zia.toInt + 3) = zA (zI_286 (zR zy 5)) (zia.toInt + 3) := by rw [(k_zI_295.2.row t_1 (by decide) (by decide))]
        have jn_310 : ∀ (zi_308 : Int32) (zI_309 : Nat → Nat → Int32) (H : Heap) (locs : List Loc) (ls : Array Slot), (0 ≤ zi_308.toInt ∧ zi_308.toInt ≤ 2) → (WM [1803, 10200] AL zT zR zI zI_309) → (FRM (zI (zR zy 5)) (zI_309 (zR zy 5)) (zia.toInt) (zia.toInt + 5)) → va_P (dC, dI) vwCl (WL cy zL zT zR zI_309 zJ) H → va_D A (WL cy zL zT zR zI_309 zJ) → va_S A s.heap H locs → lv_has ls 5 [(0, .ref zy), (1, .int zia)] → W p l e ({ frames := 2, cells := 0, slots := 0, locals := 49 } : Room) s m ([.ref zy, .int zia] : List Value).toArray below meth c H locs 0 0 Q (F0 m 92 ls [.int zi_308, .int zi_291, .ref (zR zy 5)]) := by
          intro zi_308 zI_309 H locs ls b_zi_308 h_zI_309 e_jn_310_0 hP hD hS hl
          refine ht_iast (v := zi_308) (n := 66) (q := 0) hx hb hK hP hD hS hs t_1 (by decide) rfl rfl ⟨by omega, by omega⟩ dX11_readAtom_92 (fun H locs hP hD hS => ?_)
          have h_zI_311 : WM [1803, 10200] AL zT zR zI (u2 zI_309 (zR zy 5) zi_291.toNatClampNeg zi_308) := h_zI_309.putA hs t_1 rfl (rgF _) (by decide) (fun h => absurd h (by decide)) (by decide) trivial
          generalize uzI_311 : u2 zI_309 (zR zy 5) zi_291.toNatClampNeg zi_308 = zI_311 at hP hD h_zI_311
          have kr_312 : zA (zI_311 (zR zy 5)) (zia.toInt + 5) = zA (zI_309 (zR zy 5)) (zia.toInt + 5) := by rw [← uzI_311, u2_r]; exact zu_n (by omega) (by omega) (by omega)
          have kr_313 : zA (zI_311 (zR zy 5)) (zia.toInt + 3) = zA (zI_309 (zR zy 5)) (zia.toInt + 3) := by rw [← uzI_311, u2_r]; exact zu_n (by omega) (by omega) (by omega)
          refine lv_aload_n hx hb dX11_readAtom_93 rfl (lv_at hl 0 rfl) ?_
          refine ht_getr (C := RX11) (T := TX11) (N := 28) hx hb hts (by decide +kernel) hown hK hP hs t_zy (by decide) rfl rfl 5 (by decide) (hts (.fieldLink RX11 16 "DripStoneModel" "read" "[I") (by decide +kernel)) (fun _ h9 => h9) rfl dX11_readAtom_94 ?_
          refine lv_iload_n hx hb dX11_readAtom_97 rfl (lv_at hl 1 rfl) ?_
          refine lv_iconst (v := 1) hx hb dX11_readAtom_98 (by decide) ?_
          refine lv_iadd hx hb dX11_readAtom_99 ?_
          refine lv_topi (fun zi_314 ezi_314 => ?_)
          have tzi_314 : zi_314.toInt = zia.toInt + (1 : Int) := by rw [ezi_314]; exact tiadd (rfl) (show (1 : Int32).toInt = 1 by decide) (by omega) (by omega)
          refine ht_iald (n := 66) (q := 0) hx hb hK hP hs t_1 (by decide) rfl rfl ⟨by omega, by omega⟩ dX11_readAtom_100 ?_
          refine lv_topi (fun zi_315 ezi_315 => ?_)
          have la_316 : zi_315.toInt = zA (zI_311 (zR zy 5)) (1 + zia.toInt) := (congrArg Int32.toInt (show zI_311 (zR zy 5) zi_314.toNatClampNeg = zi_315 from ezi_315.symm).symm).trans (congrArg (zA (zI_311 (zR zy 5))) (show zi_314.toInt = 1 + zia.toInt from by omega))
          refine lv_if_ne (tgt := 106) hx hb dX11_readAtom_101 (by decide) (fun c_317 => ?_) (fun c_317 => ?_)
          · have f_318 : zi_315.toInt ≠ 0 := ic_ne (rfl) (by decide) c_317
            refine lv_aload_n hx hb dX11_readAtom_106 rfl (lv_at hl 0 rfl) ?_
            refine hj_i (ws := (WL cy zL zT zR zI_311 zJ)) (w1 := fun (u : (Nat → Nat → Int32)) => (WL cy zL zT zR u zJ)) (va_runV (As := []) (rest := []) ⟨hx, hb, hml, hown, hts⟩ (t_X11_nextByte l dC dI cy H.size zL zT zR zI_311 zJ zy hs h_zI_311.1 t_zy) (cwV 0 hts gX11_readAtom_X11_nextByte rfl rfl rfl (by decide +kernel) ⟨(Nat.le_of_ble_eq_true rfl), (Nat.le_of_ble_eq_true rfl)⟩) (PRE.v hP hK hD hN (ht_recv hK hP hs t_zy (by decide) rfl rfl)) rfl rfl hl.1 rfl (lv_room (Nat.le_of_ble_eq_true rfl)) dX11_readAtom_107 ⟨(Nat.le_of_ble_eq_true rfl), (Nat.le_of_ble_eq_true rfl)⟩) hP hD hS hA (fun zi_319 zI_322 H locs hw_320 hP hD hS => ?_)
            obtain ⟨k_zI_322, b_zi_319, ps_323⟩ : (WM [1803] AL zT zR zI_311 zI_322) ∧ ((-1) ≤ zi_319.toInt ∧ zi_319.toInt ≤ 255) ∧ (zi_319.toInt = -1 ∨ (zI_322 zy 3).toInt ≤ 79) := hw_320
            have h_zI_322 : WM [1803, 10200] AL zT zR zI zI_322 := h_zI_311.tr k_zI_322 (by decide) (fun _ _ => trivial)
            obtain ⟨zi_324, ezi_324⟩ : ∃ y : Int32, y = zI_322 zy 3 := ⟨_, rfl⟩
            have tzi_324 : 0 ≤ zi_324.toInt ∧ zi_324.toInt ≤ 80 := by rw [ezi_324]; exact h_zI_322.at t_zy _ rfl
            have lzi_324 : (zI_322 zy 3).toInt = zi_324.toInt := by rw [ezi_324]
            have lk_325 : (zI_322 zy 3).toInt = zi_324.toInt := congrArg Int32.toInt ezi_324.symm
            have kr_326 : zA (zI_322 (zR zy 5)) (zia.toInt + 5) = zA (zI_311 (zR zy 5)) (zia.toInt + 5) := by rw [(k_zI_322.2.row t_1 (by decide) (by decide))]
            have kr_327 : zA (zI_322 (zR zy 5)) (zia.toInt + 3) = zA (zI_311 (zR zy 5)) (zia.toInt + 3) := by rw [(k_zI_322.2.row t_1 (by decide) (by decide))]
            refine lv_bipush (v := 45) hx hb dX11_readAtom_110 (by decide) ?_
            have jn_331 : ∀ (zi_330 : Int32) (H : Heap) (locs : List Loc) (ls : Array Slot), (0 ≤ zi_330.toInt ∧ zi_330.toInt ≤ 1) → (FRM (zI (zR zy 5)) (zI_322 (zR zy 5)) (zia.toInt) (zia.toInt + 5)) → va_P (dC, dI) vwCl (WL cy zL zT zR zI_322 zJ) H → va_D A (WL cy zL zT zR zI_322 zJ) → va_S A s.heap H locs → lv_has ls 5 [(0, .ref zy), (1, .int zia)] → W p l e ({ frames := 2, cells := 0, slots := 0, locals := 49 } : Room) s m ([.ref zy, .int zia] : List Value).toArray below meth c H locs 0 0 Q (F0 m 120 ls [.int zi_330]) := by
              intro zi_330 H locs ls b_zi_330 e_jn_331_0 hP hD hS hl
              refine lv_istore_n (lv' := [(2, .int zi_330), (0, .ref zy), (1, .int zia)]) hx hb dX11_readAtom_120 rfl hl (by decide) rfl (fun ls hl => ?_)
              refine lv_aload_n hx hb dX11_readAtom_121 rfl (lv_at hl 1 rfl) ?_
              refine ht_geti (C := RX11) (T := TX11) (N := 28) hx hb hts (by decide +kernel) hown hK hP hs t_zy (by decide) rfl rfl 3 (by decide) (hts (.fieldLink RX11 116 "DripStoneModel" "at" "I") (by decide +kernel)) (fun _ h9 => h9) rfl dX11_readAtom_122 ?_
              refine lv_topi (fun zi_332 ezi_332 => ?_)
              obtain rfl : zi_324 = zi_332 := (ezi_332.trans ezi_324.symm).symm
              refine lv_istore_n (lv' := [(3, .int zi_324), (2, .int zi_330), (0, .ref zy), (1, .int zia)]) hx hb dX11_readAtom_125 rfl hl (by decide) rfl (fun ls hl => ?_)
              refine lv_aload_n hx hb dX11_readAtom_126 rfl (lv_at hl 2 rfl) ?_
              refine lv_dup hx hb dX11_readAtom_127 rfl ?_
              refine ht_geti (C := RX11) (T := TX11) (N := 28) hx hb hts (by decide +kernel) hown hK hP hs t_zy (by decide) rfl rfl 3 (by decide) (hts (.fieldLink RX11 116 "DripStoneModel" "at" "I") (by decide +kernel)) (fun _ h9 => h9) rfl dX11_readAtom_128 ?_
              refine lv_topi (fun zi_333 ezi_333 => ?_)
              obtain rfl : zi_324 = zi_333 := (ezi_333.trans ezi_324.symm).symm
              refine lv_iload_n hx hb dX11_readAtom_131 rfl (lv_at hl 1 rfl) ?_
              have jn_337 : ∀ (zi_336 : Int32) (H : Heap) (locs : List Loc) (ls : Array Slot), (0 ≤ zi_336.toInt ∧ zi_336.toInt ≤ 1) → (FRM (zI (zR zy 5)) (zI_322 (zR zy 5)) (zia.toInt) (zia.toInt + 5)) → va_P (dC, dI) vwCl (WL cy zL zT zR zI_322 zJ) H → va_D A (WL cy zL zT zR zI_322 zJ) → va_S A s.heap H locs → lv_has ls 5 [(0, .ref zy), (1, .int zia), (2, .int zi_330), (3, .int zi_324)] → W p l e ({ frames := 2, cells := 0, slots := 0, locals := 49 } : Room) s m ([.ref zy, .int zia] : List Value).toArray below meth c H locs 0 0 Q (F0 m 140 ls [.int zi_336, .int zi_324, .ref zy]) := by
                intro zi_336 H locs ls b_zi_336 e_jn_337_0 hP hD hS hl
                refine lv_iadd hx hb dX11_readAtom_140 ?_
                refine lv_topi (fun zi_338 ezi_338 => ?_)
                have tzi_338 : zi_338.toInt = zi_324.toInt + zi_336.toInt := by rw [ezi_338]; exact tiadd (rfl) (rfl) (by omega) (by omega)
                refine ht_puti (v := zi_338) (ty := .int) (C := RX11) (T := TX11) (N := 28) hx hb hts (by decide +kernel) tyX11 tyX11_ok nmX11 hown hK hP hD hS hs t_zy (by decide) rfl rfl 3 (by decide) (hts (.fieldLink RX11 116 "DripStoneModel" "at" "I") (by decide +kernel)) (fun _ h9 => h9) rfl (by decide +kernel) rfl rfl rfl dX11_readAtom_141 (fun H locs hP hD hS => ?_)
                have h_zI_339 : WM [1803, 10200] AL zT zR zI (u2 zI_322 zy 3 zi_338) := h_zI_322.put hs t_zy rfl (by omega) (by decide) (fun h => absurd h (by decide)) (by decide) trivial
                generalize uzI_339 : u2 zI_322 zy 3 zi_338 = zI_339 at hP hD h_zI_339
                have kr_340 : zA (zI_339 (zR zy 5)) (zia.toInt + 5) = zA (zI_322 (zR zy 5)) (zia.toInt + 5) := by rw [(show zI_339 (zR zy 5) = zI_322 (zR zy 5) from by rw [← uzI_339]; exact u2_a (tne t_1 t_zy (by decide)))]
                have kr_341 : zA (zI_339 (zR zy 5)) (zia.toInt + 3) = zA (zI_322 (zR zy 5)) (zia.toInt + 3) := by rw [(show zI_339 (zR zy 5) = zI_322 (zR zy 5) from by rw [← uzI_339]; exact u2_a (tne t_1 t_zy (by decide)))]
                refine lv_aload_n hx hb dX11_readAtom_144 rfl (lv_at hl 0 rfl) ?_
                refine lv_iconst (v := 0) hx hb dX11_readAtom_145 (by decide) ?_
                refine lv_bipush (v := 50) hx hb dX11_readAtom_146 (by decide) ?_
                have qc_0 : (0 : Int32).toInt = 0 := by decide
                have qc_50 : (50 : Int32).toInt = 50 := by decide
                refine hj_i (ws := (WL cy zL zT zR zI_339 zJ)) (w1 := fun (u : (Nat → Nat → Int32)) => (WL cy zL zT zR u zJ)) (va_runV (As := [.int 0, .int 50]) (rest := []) ⟨hx, hb, hml, hown, hts⟩ (t_X11_readNumber l dC dI cy H.size zL zT zR zI_339 zJ zy (0 : Int32) (50 : Int32) hs h_zI_339.1 t_zy (by decide) (by decide)) (cwV 2 hts gX11_readAtom_X11_readNumber rfl rfl rfl (by decide +kernel) ⟨(Nat.le_of_ble_eq_true rfl), (Nat.le_of_ble_eq_true rfl)⟩) (PRE.v hP hK hD hN (ht_recv hK hP hs t_zy (by decide) rfl rfl)) rfl rfl hl.1 rfl (lv_room (Nat.le_of_ble_eq_true rfl)) dX11_readAtom_148 ⟨(Nat.le_of_ble_eq_true rfl), (Nat.le_of_ble_eq_true rfl)⟩) hP hD hS hA (fun zi_342 zI_345 H locs hw_343 hP hD hS => ?_)
                obtain ⟨k_zI_345, b_zi_342, ps_346⟩ : (WM [1803] AL zT zR zI_339 zI_345) ∧ ((-1) ≤ zi_342.toInt) ∧ (zi_342.toInt = -1 ∨ ((0 : Int32).toInt ≤ zi_342.toInt ∧ zi_342.toInt ≤ (50 : Int32).toInt)) := hw_343
                have h_zI_345 : WM [1803, 10200] AL zT zR zI zI_345 := h_zI_339.tr k_zI_345 (by decide) (fun _ _ => trivial)
                have kr_347 : zA (zI_345 (zR zy 5)) (zia.toInt + 5) = zA (zI_339 (zR zy 5)) (zia.toInt + 5) := by rw [(k_zI_345.2.row t_1 (by decide) (by decide))]
                have kr_348 : zA (zI_345 (zR zy 5)) (zia.toInt + 3) = zA (zI_339 (zR zy 5)) (zia.toInt + 3) := by rw [(k_zI_345.2.row t_1 (by decide) (by decide))]
                have b8_zi_342 : (-1) ≤ zi_342.toInt ∧ zi_342.toInt ≤ 50 := by omega
                refine lv_istore (lv' := [(4, .int zi_342), (0, .ref zy), (1, .int zia), (2, .int zi_330), (3, .int zi_324)]) hx hb dX11_readAtom_151 hl (by decide) rfl (fun ls hl => ?_)
                refine lv_iload hx hb dX11_readAtom_153 (lv_at hl 0 rfl) ?_
                refine lv_if_ge (tgt := 209) hx hb dX11_readAtom_155 (by decide) (fun c_349 => ?_) (fun c_349 => ?_)
                · have f_350 : zi_342.toInt ≥ 0 := ic_ge (rfl) (by decide) c_349
                  refine lv_aload_n hx hb dX11_readAtom_209 rfl (lv_at hl 1 rfl) ?_
                  refine ht_getr (C := RX11) (T := TX11) (N := 28) hx hb hts (by decide +kernel) hown hK hP hs t_zy (by decide) rfl rfl 5 (by decide) (hts (.fieldLink RX11 16 "DripStoneModel" "read" "[I") (by decide +kernel)) (fun _ h9 => h9) rfl dX11_readAtom_210 ?_
                  refine lv_iload_n hx hb dX11_readAtom_213 rfl (lv_at hl 2 rfl) ?_
                  refine lv_iconst (v := 2) hx hb dX11_readAtom_214 (by decide) ?_
                  refine lv_iadd hx hb dX11_readAtom_215 ?_
                  refine lv_topi (fun zi_351 ezi_351 => ?_)
                  have tzi_351 : zi_351.toInt = zia.toInt + (2 : Int) := by rw [ezi_351]; exact tiadd (rfl) (show (2 : Int32).toInt = 2 by decide) (by omega) (by omega)
                  refine lv_iload_n hx hb dX11_readAtom_216 rfl (lv_at hl 3 rfl) ?_
                  have jn_356 : ∀ (zi_355 : Int32) (H : Heap) (locs : List Loc) (ls : Array Slot), ((-50) ≤ zi_355.toInt ∧ zi_355.toInt ≤ 50) → (FRM (zI (zR zy 5)) (zI_345 (zR zy 5)) (zia.toInt) (zia.toInt + 5)) → va_P (dC, dI) vwCl (WL cy zL zT zR zI_345 zJ) H → va_D A (WL cy zL zT zR zI_345 zJ) → va_S A s.heap H locs → lv_has ls 5 [(0, .ref zy), (1, .int zia), (2, .int zi_330), (3, .int zi_324), (4, .int zi_342)] → W p l e ({ frames := 2, cells := 0, slots := 0, locals := 49 } : Room) s m ([.ref zy, .int zia] : List Value).toArray below meth c H locs 0 0 Q (F0 m 228 ls [.int zi_355, .int zi_351, .ref (zR zy 5)]) := by
                    intro zi_355 H locs ls b_zi_355 e_jn_356_0 hP hD hS hl
                    refine ht_iast (v := zi_355) (n := 66) (q := 0) hx hb hK hP hD hS hs t_1 (by decide) rfl rfl ⟨by omega, by omega⟩ dX11_readAtom_228 (fun H locs hP hD hS => ?_)
                    have h_zI_357 : WM [1803, 10200] AL zT zR zI (u2 zI_345 (zR zy 5) zi_351.toNatClampNeg zi_355) := h_zI_345.putA hs t_1 rfl (rgF _) (by decide) (fun h => absurd h (by decide)) (by decide) trivial
                    generalize uzI_357 : u2 zI_345 (zR zy 5) zi_351.toNatClampNeg zi_355 = zI_357 at hP hD h_zI_357
                    have kr_358 : zA (zI_357 (zR zy 5)) (zia.toInt + 5) = zA (zI_345 (zR zy 5)) (zia.toInt + 5) := by rw [← uzI_357, u2_r]; exact zu_n (by omega) (by omega) (by omega)
                    have kr_359 : zA (zI_357 (zR zy 5)) (zia.toInt + 3) = zA (zI_345 (zR zy 5)) (zia.toInt + 3) := by rw [← uzI_357, u2_r]; exact zu_n (by omega) (by omega) (by omega)
                    have fr_360 : FRM (zI (zR zy 5)) (zI_357 (zR zy 5)) (zia.toInt) (zia.toInt + 5) := by rw [← uzI_357, u2_r]; exact FRM.up e_jn_356_0 (by omega)
                    exact jn_162 zI_357 _ _ _ h_zI_357 fr_360 hP hD hS (lv_sub hl [0, 1] rfl)
                  refine lv_if_eq (tgt := 226) hx hb dX11_readAtom_217 (by decide) (fun c_361 => ?_) (fun c_361 => ?_)
                  · have f_362 : zi_330.toInt = 0 := ic_eq (rfl) (by decide) c_361
                    refine lv_iload hx hb dX11_readAtom_226 (lv_at hl 0 rfl) ?_
                    have fr_363 : FRM (zI (zR zy 5)) (zI_339 (zR zy 5)) (zia.toInt) (zia.toInt + 5) := by rw [(show zI_339 (zR zy 5) = zI_322 (zR zy 5) from by rw [← uzI_339]; exact u2_a (tne t_1 t_zy (by decide)))]; exact e_jn_337_0
                    have fr_364 : FRM (zI (zR zy 5)) (zI_345 (zR zy 5)) (zia.toInt) (zia.toInt + 5) := by rw [(k_zI_345.2.row t_1 (by decide) (by decide))]; exact fr_363
                    exact jn_356 zi_342 _ _ _ (by omega) fr_364 hP hD hS (lv_sub hl [1, 2, 3, 4, 0] rfl)
                  · have f_362 : ¬ (zi_330.toInt = 0) := ic_neq (rfl) (by decide) c_361
                    refine lv_iload hx hb dX11_readAtom_220 (lv_at hl 0 rfl) ?_
                    refine lv_ineg hx hb dX11_readAtom_222 ?_
                    refine lv_topi (fun zi_365 ezi_365 => ?_)
                    have tzi_365 : zi_365.toInt = - zi_342.toInt := by rw [ezi_365]; exact tineg rfl (by omega)
                    refine lv_goto (tgt := 228) hx hb dX11_readAtom_223 (by decide) ?_
                    have fr_366 : FRM (zI (zR zy 5)) (zI_339 (zR zy 5)) (zia.toInt) (zia.toInt + 5) := by rw [(show zI_339 (zR zy 5) = zI_322 (zR zy 5) from by rw [← uzI_339]; exact u2_a (tne t_1 t_zy (by decide)))]; exact e_jn_337_0
                    have fr_367 : FRM (zI (zR zy 5)) (zI_345 (zR zy 5)) (zia.toInt) (zia.toInt + 5) := by rw [(k_zI_345.2.row t_1 (by decide) (by decide))]; exact fr_366
                    exact jn_356 zi_365 _ _ _ (by omega) fr_367 hP hD hS (lv_sub hl [1, 2, 3, 4, 0] rfl)
                · have f_350 : ¬ (zi_342.toInt ≥ 0) := ic_nge (rfl) (by decide) c_349
                  refine lv_aload_n hx hb dX11_readAtom_158 rfl (lv_at hl 1 rfl) ?_
                  refine lv_iload_n hx hb dX11_readAtom_159 rfl (lv_at hl 3 rfl) ?_
                  have jn_386 : ∀  (H : Heap) (locs : List Loc) (ls : Array Slot), (FRM (zI (zR zy 5)) (zI_345 (zR zy 5)) (zia.toInt) (zia.toInt + 5)) → va_P (dC, dI) vwCl (WL cy zL zT zR zI_345 zJ) H → va_D A (WL cy zL zT zR zI_345 zJ) → va_S A s.heap H locs → lv_has ls 5 [(0, .ref zy), (1, .int zia), (2, .int zi_330), (3, .int zi_324), (4, .int zi_342)] → W p l e ({ frames := 2, cells := 0, slots := 0, locals := 49 } : Room) s m ([.ref zy, .int zia] : List Value).toArray below meth c H locs 0 0 Q (F0 m 200 ls [.ref zy]) := by
                    intro  H locs ls e_jn_386_0 hP hD hS hl
                    refine lv_aload_n hx hb dX11_readAtom_200 rfl (lv_at hl 0 rfl) ?_
                    refine ht_geti (C := RX11) (T := TX11) (N := 28) hx hb hts (by decide +kernel) hown hK hP hs t_zy (by decide) rfl rfl 3 (by decide) (hts (.fieldLink RX11 116 "DripStoneModel" "at" "I") (by decide +kernel)) (fun _ h9 => h9) rfl dX11_readAtom_201 ?_
                    refine lv_topi (fun zi_387 ezi_387 => ?_)
                    have tzi_387 : 0 ≤ zi_387.toInt ∧ zi_387.toInt ≤ 80 := by rw [ezi_387]; exact h_zI_345.at t_zy _ rfl
                    have lzi_387 : (zI_345 zy 3).toInt = zi_387.toInt := by rw [ezi_387]
                    refine ht_puti (v := zi_387) (ty := .int) (C := RX11) (T := TX11) (N := 28) hx hb hts (by decide +kernel) tyX11 tyX11_ok nmX11 hown hK hP hD hS hs t_zy (by decide) rfl rfl 3 (by decide) (hts (.fieldLink RX11 116 "DripStoneModel" "at" "I") (by decide +kernel)) (fun _ h9 => h9) rfl (by decide +kernel) rfl rfl rfl dX11_readAtom_204 (fun H locs hP hD hS => ?_)
                    have h_zI_388 : WM [1803, 10200] AL zT zR zI (u2 zI_345 zy 3 zi_387) := h_zI_345.put hs t_zy rfl (by omega) (by decide) (fun h => absurd h (by decide)) (by decide) trivial
                    generalize uzI_388 : u2 zI_345 zy 3 zi_387 = zI_388 at hP hD h_zI_388
                    have kr_389 : zA (zI_388 (zR zy 5)) (zia.toInt + 5) = zA (zI_345 (zR zy 5)) (zia.toInt + 5) := by rw [(show zI_388 (zR zy 5) = zI_345 (zR zy 5) from by rw [← uzI_388]; exact u2_a (tne t_1 t_zy (by decide)))]
                    have kr_390 : zA (zI_388 (zR zy 5)) (zia.toInt + 3) = zA (zI_345 (zR zy 5)) (zia.toInt + 3) := by rw [(show zI_388 (zR zy 5) = zI_345 (zR zy 5) from by rw [← uzI_388]; exact u2_a (tne t_1 t_zy (by decide)))]
                    refine lv_iconst (v := 0) hx hb dX11_readAtom_207 (by decide) ?_
                    subst hQ
                    have fr_391 : FRM (zI (zR zy 5)) (zI_388 (zR zy 5)) (zia.toInt) (zia.toInt + 5) := by rw [(show zI_388 (zR zy 5) = zI_345 (zR zy 5) from by rw [← uzI_388]; exact u2_a (tne t_1 t_zy (by decide)))]; exact e_jn_386_0
                    exact W.zret (v := (0 : Int32)) hx hb hr rfl (fun t ht hW => ⟨⟨(0 : Int32), zI_388, rfl, ⟨h_zI_388, (show 0 ≤ (0 : Int32).toInt ∧ (0 : Int32).toInt ≤ 1 from by omega), (show FRM (zI (zR zy 5)) (zI_388 (zR zy 5)) (zia.toInt) (zia.toInt + 5) from fr_391), (show (0 : Int32).toInt = 0 ∨ (1 ≤ zA (zI_388 (zR zy 5)) (zia.toInt + 5) ∧ zA (zI_388 (zR zy 5)) (zia.toInt + 5) ≤ 12) from by omega)⟩, ⟨by rw [ht]; exact hP, va_K.moved hW.alike hK, hD⟩⟩, hS.F ht⟩) hS.2.2 dX11_readAtom_208
                  refine lv_if_eq (tgt := 200) hx hb dX11_readAtom_160 (by decide) (fun c_392 => ?_) (fun c_392 => ?_)
                  · have f_393 : zi_330.toInt = 0 := ic_eq (rfl) (by decide) c_392
                    have fr_394 : FRM (zI (zR zy 5)) (zI_339 (zR zy 5)) (zia.toInt) (zia.toInt + 5) := by rw [(show zI_339 (zR zy 5) = zI_322 (zR zy 5) from by rw [← uzI_339]; exact u2_a (tne t_1 t_zy (by decide)))]; exact e_jn_337_0
                    have fr_395 : FRM (zI (zR zy 5)) (zI_345 (zR zy 5)) (zia.toInt) (zia.toInt + 5) := by rw [(k_zI_345.2.row t_1 (by decide) (by decide))]; exact fr_394
                    exact jn_386  _ _ _ fr_395 hP hD hS (lv_sub hl [1, 2, 3, 4, 0] rfl)
                  · have f_393 : ¬ (zi_330.toInt = 0) := ic_neq (rfl) (by decide) c_392
                    refine lv_aload_n hx hb dX11_readAtom_163 rfl (lv_at hl 1 rfl) ?_
                    refine ht_geti (C := RX11) (T := TX11) (N := 28) hx hb hts (by decide +kernel) hown hK hP hs t_zy (by decide) rfl rfl 3 (by decide) (hts (.fieldLink RX11 116 "DripStoneModel" "at" "I") (by decide +kernel)) (fun _ h9 => h9) rfl dX11_readAtom_164 ?_
                    refine lv_topi (fun zi_396 ezi_396 => ?_)
                    have tzi_396 : 0 ≤ zi_396.toInt ∧ zi_396.toInt ≤ 80 := by rw [ezi_396]; exact h_zI_345.at t_zy _ rfl
                    have lzi_396 : (zI_345 zy 3).toInt = zi_396.toInt := by rw [ezi_396]
                    refine lv_aload_n hx hb dX11_readAtom_167 rfl (lv_at hl 1 rfl) ?_
                    refine ht_geti (C := RX11) (T := TX11) (N := 28) hx hb hts (by decide +kernel) hown hK hP hs t_zy (by decide) rfl rfl 2 (by decide) (hts (.fieldLink RX11 112 "DripStoneModel" "taped" "I") (by decide +kernel)) (fun _ h9 => h9) rfl dX11_readAtom_168 ?_
                    refine lv_topi (fun zi_397 ezi_397 => ?_)
                    have tzi_397 : 0 ≤ zi_397.toInt ∧ zi_397.toInt ≤ 80 := by rw [ezi_397]; exact h_zI_345.at t_zy _ rfl
                    have lzi_397 : (zI_345 zy 2).toInt = zi_397.toInt := by rw [ezi_397]
                    refine lv_icmp_ge (tgt := 200) hx hb dX11_readAtom_171 (by decide) (fun c_398 => ?_) (fun c_398 => ?_)
                    · have f_399 : zi_396.toInt ≥ zi_397.toInt := ic_ge (rfl) (rfl) c_398
                      have fr_400 : FRM (zI (zR zy 5)) (zI_339 (zR zy 5)) (zia.toInt) (zia.toInt + 5) := by rw [(show zI_339 (zR zy 5) = zI_322 (zR zy 5) from by rw [← uzI_339]; exact u2_a (tne t_1 t_zy (by decide)))]; exact e_jn_337_0
                      have fr_401 : FRM (zI (zR zy 5)) (zI_345 (zR zy 5)) (zia.toInt) (zia.toInt + 5) := by rw [(k_zI_345.2.row t_1 (by decide) (by decide))]; exact fr_400
                      exact jn_386  _ _ _ fr_401 hP hD hS (lv_sub hl [1, 2, 3, 4, 0] rfl)
                    · have f_399 : ¬ (zi_396.toInt ≥ zi_397.toInt) := ic_nge (rfl) (rfl) c_398
                      refine lv_aload_n hx hb dX11_readAtom_174 rfl (lv_at hl 1 rfl) ?_
                      refine ht_getr (C := RX11) (T := TX11) (N := 28) hx hb hts (by decide +kernel) hown hK hP hs t_zy (by decide) rfl rfl 1 (by decide) (hts (.fieldLink RX11 13 "DripStoneModel" "tape" "[I") (by decide +kernel)) (fun _ h9 => h9) rfl dX11_readAtom_175 ?_
                      have t_402 : zT (zR zy 1) = 101 := sk_f hs t_zy (by decide) rfl (by decide)
                      refine lv_aload_n hx hb dX11_readAtom_178 rfl (lv_at hl 1 rfl) ?_
                      refine ht_geti (C := RX11) (T := TX11) (N := 28) hx hb hts (by decide +kernel) hown hK hP hs t_zy (by decide) rfl rfl 3 (by decide) (hts (.fieldLink RX11 116 "DripStoneModel" "at" "I") (by decide +kernel)) (fun _ h9 => h9) rfl dX11_readAtom_179 ?_
                      refine lv_topi (fun zi_403 ezi_403 => ?_)
                      obtain rfl : zi_396 = zi_403 := (ezi_403.trans ezi_396.symm).symm
                      refine ht_iald (n := 80) (q := 0) hx hb hK hP hs t_402 (by decide) rfl rfl ⟨by omega, by omega⟩ dX11_readAtom_182 ?_
                      refine lv_topi (fun zi_404 ezi_404 => ?_)
                      have tzi_404 : 0 ≤ zi_404.toInt ∧ zi_404.toInt ≤ 255 := by rw [ezi_404]; exact h_zI_345.at t_402 _ rfl
                      refine lv_i2l (v := zi_404.toInt64) hx hb dX11_readAtom_183 rfl ?_
                      refine lv_topl (fun zj_405 ezj_405 => ?_)
                      have tzj_405 : zj_405.toInt = zi_404.toInt := by rw [ezj_405]; exact Int32.toInt_toInt64 _
                      refine lv_ldc2 (v := 48) hx hb hown (hts (.constantLong RX11 123 48) (by decide +kernel)) dX11_readAtom_184 ?_
                      refine lv_ldc2 (v := 57) hx hb hown (hts (.constantLong RX11 125 57) (by decide +kernel)) dX11_readAtom_187 ?_
                      refine hj0_i (ws := (WL cy zL zT zR zI_345 zJ)) (va_runS (As := [.long zj_405, .long 48, .long 57]) (rest := [.ref zy]) ⟨hx, hb, hml, hown, hts⟩ (c_X11_in l dC dI cy H.size zj_405 48 57 48 57 zj_405.toInt (by first | rfl | decide | omega | exact Int32.toInt_toInt64 _) (by first | rfl | decide | omega | exact Int32.toInt_toInt64 _) (by first | rfl | decide | omega | exact Int32.toInt_toInt64 _)) (va_cwS 3 hts gX11_readAtom_X11_in rfl rfl rfl (by decide +kernel) ⟨(Nat.le_of_ble_eq_true rfl), (Nat.le_of_ble_eq_true rfl)⟩) (PRE.s (hP.sub [] rfl) hK (hD.sub [] (by decide) rfl) hN) rfl rfl hl.1 rfl (lv_room (Nat.le_of_ble_eq_true rfl)) dX11_readAtom_190 ⟨(Nat.le_of_ble_eq_true rfl), (Nat.le_of_ble_eq_true rfl)⟩) hP hD hS hA (fun zi_406 u_408 H locs hw_407 hP hD hS => ?_)
                      have hw_407 : zi_406 = if 48 ≤ zj_405.toInt ∧ zj_405.toInt ≤ 57 then 1 else 0 := hw_407
                      have b_zi_406 : 0 ≤ zi_406.toInt ∧ zi_406.toInt ≤ 1 := bz_b hw_407
                      refine lv_if_eq (tgt := 200) hx hb dX11_readAtom_193 (by decide) (fun c_409 => ?_) (fun c_409 => ?_)
                      · have f_410 : ¬ (48 ≤ zj_405.toInt ∧ zj_405.toInt ≤ 57) := bz_0 hw_407 c_409
                        have fr_411 : FRM (zI (zR zy 5)) (zI_339 (zR zy 5)) (zia.toInt) (zia.toInt + 5) := by rw [(show zI_339 (zR zy 5) = zI_322 (zR zy 5) from by rw [← uzI_339]; exact u2_a (tne t_1 t_zy (by decide)))]; exact e_jn_337_0
                        have fr_412 : FRM (zI (zR zy 5)) (zI_345 (zR zy 5)) (zia.toInt) (zia.toInt + 5) := by rw [(k_zI_345.2.row t_1 (by decide) (by decide))]; exact fr_411
                        exact jn_386  _ _ _ fr_412 hP hD hS (lv_sub hl [1, 2, 3, 4, 0] rfl)
                      · have f_410 : 48 ≤ zj_405.toInt ∧ zj_405.toInt ≤ 57 := bz_1 hw_407 c_409
                        refine lv_iload_n hx hb dX11_readAtom_196 rfl (lv_at hl 4 rfl) ?_
                        refine lv_goto (tgt := 204) hx hb dX11_readAtom_197 (by decide) ?_
                        refine ht_puti (v := zi_324) (ty := .int) (C := RX11) (T := TX11) (N := 28) hx hb hts (by decide +kernel) tyX11 tyX11_ok nmX11 hown hK hP hD hS hs t_zy (by decide) rfl rfl 3 (by decide) (hts (.fieldLink RX11 116 "DripStoneModel" "at" "I") (by decide +kernel)) (fun _ h9 => h9) rfl (by decide +kernel) rfl rfl rfl dX11_readAtom_204 (fun H locs hP hD hS => ?_)
                        have h_zI_413 : WM [1803, 10200] AL zT zR zI (u2 zI_345 zy 3 zi_324) := h_zI_345.put hs t_zy rfl (by omega) (by decide) (fun h => absurd h (by decide)) (by decide) trivial
                        generalize uzI_413 : u2 zI_345 zy 3 zi_324 = zI_413 at hP hD h_zI_413
                        have kr_414 : zA (zI_413 (zR zy 5)) (zia.toInt + 5) = zA (zI_345 (zR zy 5)) (zia.toInt + 5) := by rw [(show zI_413 (zR zy 5) = zI_345 (zR zy 5) from by rw [← uzI_413]; exact u2_a (tne t_1 t_zy (by decide)))]
                        have kr_415 : zA (zI_413 (zR zy 5)) (zia.toInt + 3) = zA (zI_345 (zR zy 5)) (zia.toInt + 3) := by rw [(show zI_413 (zR zy 5) = zI_345 (zR zy 5) from by rw [← uzI_413]; exact u2_a (tne t_1 t_zy (by decide)))]
                        refine lv_iconst (v := 0) hx hb dX11_readAtom_207 (by decide) ?_
                        subst hQ
                        have fr_416 : FRM (zI (zR zy 5)) (zI_339 (zR zy 5)) (zia.toInt) (zia.toInt + 5) := by rw [(show zI_339 (zR zy 5) = zI_322 (zR zy 5) from by rw [← uzI_339]; exact u2_a (tne t_1 t_zy (by decide)))]; exact e_jn_337_0
                        have fr_417 : FRM (zI (zR zy 5)) (zI_345 (zR zy 5)) (zia.toInt) (zia.toInt + 5) := by rw [(k_zI_345.2.row t_1 (by decide) (by decide))]; exact fr_416
                        have fr_418 : FRM (zI (zR zy 5)) (zI_413 (zR zy 5)) (zia.toInt) (zia.toInt + 5) := by rw [(show zI_413 (zR zy 5) = zI_345 (zR zy 5) from by rw [← uzI_413]; exact u2_a (tne t_1 t_zy (by decide)))]; exact fr_417
                        exact W.zret (v := (0 : Int32)) hx hb hr rfl (fun t ht hW => ⟨⟨(0 : Int32), zI_413, rfl, ⟨h_zI_413, (show 0 ≤ (0 : Int32).toInt ∧ (0 : Int32).toInt ≤ 1 from by omega), (show FRM (zI (zR zy 5)) (zI_413 (zR zy 5)) (zia.toInt) (zia.toInt + 5) from fr_418), (show (0 : Int32).toInt = 0 ∨ (1 ≤ zA (zI_413 (zR zy 5)) (zia.toInt + 5) ∧ zA (zI_413 (zR zy 5)) (zia.toInt + 5) ≤ 12) from by omega)⟩, ⟨by rw [ht]; exact hP, va_K.moved hW.alike hK, hD⟩⟩, hS.F ht⟩) hS.2.2 dX11_readAtom_208
              refine lv_if_eq (tgt := 139) hx hb dX11_readAtom_132 (by decide) (fun c_419 => ?_) (fun c_419 => ?_)
              · have f_420 : zi_330.toInt = 0 := ic_eq (rfl) (by decide) c_419
                refine lv_iconst (v := 0) hx hb dX11_readAtom_139 (by decide) ?_
                exact jn_337 (0 : Int32) _ _ _ (by decide) e_jn_331_0 hP hD hS (lv_sub hl [2, 3, 1, 0] rfl)
              · have f_420 : ¬ (zi_330.toInt = 0) := ic_neq (rfl) (by decide) c_419
                refine lv_iconst (v := 1) hx hb dX11_readAtom_135 (by decide) ?_
                refine lv_goto (tgt := 140) hx hb dX11_readAtom_136 (by decide) ?_
                exact jn_337 (1 : Int32) _ _ _ (by decide) e_jn_331_0 hP hD hS (lv_sub hl [2, 3, 1, 0] rfl)
            refine lv_icmp_ne (tgt := 119) hx hb dX11_readAtom_112 (by decide) (fun c_421 => ?_) (fun c_421 => ?_)
            · have f_422 : zi_319.toInt ≠ (45 : Int) := ic_ne (rfl) (show (45 : Int32).toInt = 45 by decide) c_421
              refine lv_iconst (v := 0) hx hb dX11_readAtom_119 (by decide) ?_
              have fr_423 : FRM (zI (zR zy 5)) (zI_311 (zR zy 5)) (zia.toInt) (zia.toInt + 5) := by rw [← uzI_311, u2_r]; exact FRM.up e_jn_310_0 (by omega)
              have fr_424 : FRM (zI (zR zy 5)) (zI_322 (zR zy 5)) (zia.toInt) (zia.toInt + 5) := by rw [(k_zI_322.2.row t_1 (by decide) (by decide))]; exact fr_423
              exact jn_331 (0 : Int32) _ _ _ (by decide) fr_424 hP hD hS (lv_sub hl [0, 1] rfl)
            · have f_422 : ¬ (zi_319.toInt ≠ (45 : Int)) := ic_nne (rfl) (show (45 : Int32).toInt = 45 by decide) c_421
              refine lv_iconst (v := 1) hx hb dX11_readAtom_115 (by decide) ?_
              refine lv_goto (tgt := 120) hx hb dX11_readAtom_116 (by decide) ?_
              have fr_425 : FRM (zI (zR zy 5)) (zI_311 (zR zy 5)) (zia.toInt) (zia.toInt + 5) := by rw [← uzI_311, u2_r]; exact FRM.up e_jn_310_0 (by omega)
              have fr_426 : FRM (zI (zR zy 5)) (zI_322 (zR zy 5)) (zia.toInt) (zia.toInt + 5) := by rw [(k_zI_322.2.row t_1 (by decide) (by decide))]; exact fr_425
              exact jn_331 (1 : Int32) _ _ _ (by decide) fr_426 hP hD hS (lv_sub hl [0, 1] rfl)
          · have f_318 : ¬ (zi_315.toInt ≠ 0) := ic_nne (rfl) (by decide) c_317
            refine lv_iconst (v := 0) hx hb dX11_readAtom_104 (by decide) ?_
            subst hQ
            have qc_0 : (0 : Int32).toInt = 0 := by decide
            have fr_427 : FRM (zI (zR zy 5)) (zI_311 (zR zy 5)) (zia.toInt) (zia.toInt + 5) := by rw [← uzI_311, u2_r]; exact FRM.up e_jn_310_0 (by omega)
            exact W.zret (v := (0 : Int32)) hx hb hr rfl (fun t ht hW => ⟨⟨(0 : Int32), zI_311, rfl, ⟨h_zI_311, (show 0 ≤ (0 : Int32).toInt ∧ (0 : Int32).toInt ≤ 1 from by omega), (show FRM (zI (zR zy 5)) (zI_311 (zR zy 5)) (zia.toInt) (zia.toInt + 5) from fr_427), (show (0 : Int32).toInt = 0 ∨ (1 ≤ zA (zI_311 (zR zy 5)) (zia.toInt + 5) ∧ zA (zI_311 (zR zy 5)) (zia.toInt + 5) ≤ 12) from by omega)⟩, ⟨by rw [ht]; exact hP, va_K.moved hW.alike hK, hD⟩⟩, hS.F ht⟩) hS.2.2 dX11_readAtom_105
        refine lv_if_eq (tgt := 78) hx hb dX11_readAtom_71 (by decide) (fun c_428 => ?_) (fun c_428 => ?_)
        · have f_429 : zi_292.toInt = 0 := ic_eq (rfl) (by decide) c_428
          refine lv_aload_n hx hb dX11_readAtom_78 rfl (lv_at hl 0 rfl) ?_
          refine lv_bipush (v := 62) hx hb dX11_readAtom_79 (by decide) ?_
          have qc_62 : (62 : Int32).toInt = 62 := by decide
          refine hj_i (ws := (WL cy zL zT zR zI_295 zJ)) (w1 := fun (u : (Nat → Nat → Int32)) => (WL cy zL zT zR u zJ)) (va_runV (As := [.int 62]) (rest := [.int zi_291, .ref (zR zy 5)]) ⟨hx, hb, hml, hown, hts⟩ (t_X11_takes l dC dI cy H.size zL zT zR zI_295 zJ zy (62 : Int32) hs h_zI_295.1 t_zy (by decide)) (cwV 1 hts gX11_readAtom_X11_takes rfl rfl rfl (by decide +kernel) ⟨(Nat.le_of_ble_eq_true rfl), (Nat.le_of_ble_eq_true rfl)⟩) (PRE.v hP hK hD hN (ht_recv hK hP hs t_zy (by decide) rfl rfl)) rfl rfl hl.1 rfl (lv_room (Nat.le_of_ble_eq_true rfl)) dX11_readAtom_81 ⟨(Nat.le_of_ble_eq_true rfl), (Nat.le_of_ble_eq_true rfl)⟩) hP hD hS hA (fun zi_430 zI_433 H locs hw_431 hP hD hS => ?_)
          obtain ⟨k_zI_433, b_zi_430⟩ : (WM [1803] AL zT zR zI_295 zI_433) ∧ (0 ≤ zi_430.toInt ∧ zi_430.toInt ≤ 1) := hw_431
          have h_zI_433 : WM [1803, 10200] AL zT zR zI zI_433 := h_zI_295.tr k_zI_433 (by decide) (fun _ _ => trivial)
          have kr_434 : zA (zI_433 (zR zy 5)) (zia.toInt + 5) = zA (zI_295 (zR zy 5)) (zia.toInt + 5) := by rw [(k_zI_433.2.row t_1 (by decide) (by decide))]
          have kr_435 : zA (zI_433 (zR zy 5)) (zia.toInt + 3) = zA (zI_295 (zR zy 5)) (zia.toInt + 3) := by rw [(k_zI_433.2.row t_1 (by decide) (by decide))]
          refine lv_if_eq (tgt := 91) hx hb dX11_readAtom_84 (by decide) (fun c_436 => ?_) (fun c_436 => ?_)
          · have f_437 : zi_430.toInt = 0 := ic_eq (rfl) (by decide) c_436
            refine lv_iconst (v := 0) hx hb dX11_readAtom_91 (by decide) ?_
            have fr_438 : FRM (zI (zR zy 5)) (zI_12 (zR zy 5)) (zia.toInt) (zia.toInt + 5) := by rw [← uzI_12, u2_r]; exact FRM.up e_jn_11_0 (by omega)
            have fr_439 : FRM (zI (zR zy 5)) (zI_16 (zR zy 5)) (zia.toInt) (zia.toInt + 5) := by rw [← uzI_16, u2_r]; exact FRM.up fr_438 (by omega)
            have fr_440 : FRM (zI (zR zy 5)) (zI_20 (zR zy 5)) (zia.toInt) (zia.toInt + 5) := by rw [← uzI_20, u2_r]; exact FRM.up fr_439 (by omega)
            have fr_441 : FRM (zI (zR zy 5)) (zI_26 (zR zy 5)) (zia.toInt) (zia.toInt + 5) := by rw [(k_zI_26.2.row t_1 (by decide) (by decide))]; exact fr_440
            have fr_442 : FRM (zI (zR zy 5)) (zI_286 (zR zy 5)) (zia.toInt) (zia.toInt + 5) := by rw [(k_zI_286.2.row t_1 (by decide) (by decide))]; exact fr_441
            have fr_443 : FRM (zI (zR zy 5)) (zI_295 (zR zy 5)) (zia.toInt) (zia.toInt + 5) := by rw [(k_zI_295.2.row t_1 (by decide) (by decide))]; exact fr_442
            have fr_444 : FRM (zI (zR zy 5)) (zI_433 (zR zy 5)) (zia.toInt) (zia.toInt + 5) := by rw [(k_zI_433.2.row t_1 (by decide) (by decide))]; exact fr_443
            exact jn_310 (0 : Int32) zI_433 _ _ _ (by decide) h_zI_433 fr_444 hP hD hS (lv_sub hl [0, 1] rfl)
          · have f_437 : ¬ (zi_430.toInt = 0) := ic_neq (rfl) (by decide) c_436
            refine lv_iconst (v := 2) hx hb dX11_readAtom_87 (by decide) ?_
            refine lv_goto (tgt := 92) hx hb dX11_readAtom_88 (by decide) ?_
            have fr_445 : FRM (zI (zR zy 5)) (zI_12 (zR zy 5)) (zia.toInt) (zia.toInt + 5) := by rw [← uzI_12, u2_r]; exact FRM.up e_jn_11_0 (by omega)
            have fr_446 : FRM (zI (zR zy 5)) (zI_16 (zR zy 5)) (zia.toInt) (zia.toInt + 5) := by rw [← uzI_16, u2_r]; exact FRM.up fr_445 (by omega)
            have fr_447 : FRM (zI (zR zy 5)) (zI_20 (zR zy 5)) (zia.toInt) (zia.toInt + 5) := by rw [← uzI_20, u2_r]; exact FRM.up fr_446 (by omega)
            have fr_448 : FRM (zI (zR zy 5)) (zI_26 (zR zy 5)) (zia.toInt) (zia.toInt + 5) := by rw [(k_zI_26.2.row t_1 (by decide) (by decide))]; exact fr_447
            have fr_449 : FRM (zI (zR zy 5)) (zI_286 (zR zy 5)) (zia.toInt) (zia.toInt + 5) := by rw [(k_zI_286.2.row t_1 (by decide) (by decide))]; exact fr_448
            have fr_450 : FRM (zI (zR zy 5)) (zI_295 (zR zy 5)) (zia.toInt) (zia.toInt + 5) := by rw [(k_zI_295.2.row t_1 (by decide) (by decide))]; exact fr_449
            have fr_451 : FRM (zI (zR zy 5)) (zI_433 (zR zy 5)) (zia.toInt) (zia.toInt + 5) := by rw [(k_zI_433.2.row t_1 (by decide) (by decide))]; exact fr_450
            exact jn_310 (2 : Int32) zI_433 _ _ _ (by decide) h_zI_433 fr_451 hP hD hS (lv_sub hl [0, 1] rfl)
        · have f_429 : ¬ (zi_292.toInt = 0) := ic_neq (rfl) (by decide) c_428
          refine lv_iconst (v := 1) hx hb dX11_readAtom_74 (by decide) ?_
          refine lv_goto (tgt := 92) hx hb dX11_readAtom_75 (by decide) ?_
          have fr_452 : FRM (zI (zR zy 5)) (zI_12 (zR zy 5)) (zia.toInt) (zia.toInt + 5) := by rw [← uzI_12, u2_r]; exact FRM.up e_jn_11_0 (by omega)
          have fr_453 : FRM (zI (zR zy 5)) (zI_16 (zR zy 5)) (zia.toInt) (zia.toInt + 5) := by rw [← uzI_16, u2_r]; exact FRM.up fr_452 (by omega)
          have fr_454 : FRM (zI (zR zy 5)) (zI_20 (zR zy 5)) (zia.toInt) (zia.toInt + 5) := by rw [← uzI_20, u2_r]; exact FRM.up fr_453 (by omega)
          have fr_455 : FRM (zI (zR zy 5)) (zI_26 (zR zy 5)) (zia.toInt) (zia.toInt + 5) := by rw [(k_zI_26.2.row t_1 (by decide) (by decide))]; exact fr_454
          have fr_456 : FRM (zI (zR zy 5)) (zI_286 (zR zy 5)) (zia.toInt) (zia.toInt + 5) := by rw [(k_zI_286.2.row t_1 (by decide) (by decide))]; exact fr_455
          have fr_457 : FRM (zI (zR zy 5)) (zI_295 (zR zy 5)) (zia.toInt) (zia.toInt + 5) := by rw [(k_zI_295.2.row t_1 (by decide) (by decide))]; exact fr_456
          exact jn_310 (1 : Int32) zI_295 _ _ _ (by decide) h_zI_295 fr_457 hP hD hS (lv_sub hl [0, 1] rfl)
      · have f_290 : ¬ (zi_283.toInt ≠ 0) := ic_nne (rfl) (by decide) c_289
        refine lv_iconst (v := 0) hx hb dX11_readAtom_56 (by decide) ?_
        subst hQ
        have qc_0 : (0 : Int32).toInt = 0 := by decide
        have fr_458 : FRM (zI (zR zy 5)) (zI_12 (zR zy 5)) (zia.toInt) (zia.toInt + 5) := by rw [← uzI_12, u2_r]; exact FRM.up e_jn_11_0 (by omega)
        have fr_459 : FRM (zI (zR zy 5)) (zI_16 (zR zy 5)) (zia.toInt) (zia.toInt + 5) := by rw [← uzI_16, u2_r]; exact FRM.up fr_458 (by omega)
        have fr_460 : FRM (zI (zR zy 5)) (zI_20 (zR zy 5)) (zia.toInt) (zia.toInt + 5) := by rw [← uzI_20, u2_r]; exact FRM.up fr_459 (by omega)
        have fr_461 : FRM (zI (zR zy 5)) (zI_26 (zR zy 5)) (zia.toInt) (zia.toInt + 5) := by rw [(k_zI_26.2.row t_1 (by decide) (by decide))]; exact fr_460
        have fr_462 : FRM (zI (zR zy 5)) (zI_286 (zR zy 5)) (zia.toInt) (zia.toInt + 5) := by rw [(k_zI_286.2.row t_1 (by decide) (by decide))]; exact fr_461
        exact W.zret (v := (0 : Int32)) hx hb hr rfl (fun t ht hW => ⟨⟨(0 : Int32), zI_286, rfl, ⟨h_zI_286, (show 0 ≤ (0 : Int32).toInt ∧ (0 : Int32).toInt ≤ 1 from by omega), (show FRM (zI (zR zy 5)) (zI_286 (zR zy 5)) (zia.toInt) (zia.toInt + 5) from fr_462), (show (0 : Int32).toInt = 0 ∨ (1 ≤ zA (zI_286 (zR zy 5)) (zia.toInt + 5) ∧ zA (zI_286 (zR zy 5)) (zia.toInt + 5) ≤ 12) from by omega)⟩, ⟨by rw [ht]; exact hP, va_K.moved hW.alike hK, hD⟩⟩, hS.F ht⟩) hS.2.2 dX11_readAtom_57
  refine lv_if_eq (tgt := 18) hx hb dX11_readAtom_11 (by decide) (fun c_463 => ?_) (fun c_463 => ?_)
  · have f_464 : zi_2.toInt = 0 := ic_eq (rfl) (by decide) c_463
    refine lv_iconst (v := 0) hx hb dX11_readAtom_18 (by decide) ?_
    have fr_465 : FRM (zI (zR zy 5)) (zI_5 (zR zy 5)) (zia.toInt) (zia.toInt + 5) := by rw [(k_zI_5.2.row t_1 (by decide) (by decide))]; exact FRM.rf
    exact jn_11 (0 : Int32) _ _ _ (by decide) fr_465 hP hD hS (lv_sub hl [0, 1] rfl)
  · have f_464 : ¬ (zi_2.toInt = 0) := ic_neq (rfl) (by decide) c_463
    refine lv_iconst (v := 1) hx hb dX11_readAtom_14 (by decide) ?_
    refine lv_goto (tgt := 19) hx hb dX11_readAtom_15 (by decide) ?_
    have fr_466 : FRM (zI (zR zy 5)) (zI_5 (zR zy 5)) (zia.toInt) (zia.toInt + 5) := by rw [(k_zI_5.2.row t_1 (by decide) (by decide))]; exact FRM.rf
    exact jn_11 (1 : Int32) _ _ _ (by decide) fr_466 hP hD hS (lv_sub hl [0, 1] rfl)
set_option maxHeartbeats 8000000 in
set_option maxRecDepth 100000 in
theorem t_X11_readClaim (l : Launch) (dC : Nat → ClassId) (dI : Nat → Nat → Nat) (cy : Nat → ClassId) (sz : Nat) (zL : List Nat) (zT : Nat → Nat) (zR : Nat → Nat → Nat) (zI : Nat → Nat → Int32) (zJ : Nat → Nat → Int64) (zy : Nat) (hs : SKP zL zT zR) (hw : WT zT zR zI) (t_zy : zT zy = 18) : Met l yX11_readClaim wsX11_readClaim ({ frames := 3, cells := 0, slots := 0, locals := 73 } : Room) (va_Pc [.ref zy] (PRE dC dI cy (WL cy zL zT zR zI zJ) sz)) (va_Qi (fun (r : Int32) (u : (Nat → Nat → Int32)) => (WM [1803, 10200] AL zT zR zI u) ∧ (0 ≤ r.toInt ∧ r.toInt ≤ 1) ∧ (r.toInt = 0 ∨ ((1 ≤ zA (u (zR zy 5)) (0) ∧ zA (u (zR zy 5)) (0) ≤ 2) ∧ (1 ≤ zA (u (zR zy 5)) (7) ∧ zA (u (zR zy 5)) (7) ≤ 12) ∧ (zA (u (zR zy 5)) (0) = 2 → 1 ≤ zA (u (zR zy 5)) (13) ∧ zA (u (zR zy 5)) (13) ≤ 12)))) (fun u t => POST dC dI cy (va_A (WL cy zL zT zR zI zJ) sz) (WL cy zL zT zR u zJ) t) (va_A (WL cy zL zT zR zI zJ) sz)) 0 0 (va_A (WL cy zL zT zR zI zJ) sz) := by
  refine Met.ofW (cc := cX11_readClaim) (maxL := 2) (ret := (some .boolean)) (by decide) rfl ?_
  intro p e s m args below meth c s₁ B hml hv
  obtain ⟨rfl, hsz, hP, hK, hD0, hN⟩ := hv
  have hx := B.exec
  have hb := B.bytes
  have hr := B.returns
  have hts := atoms_spec (ws := wsX11_readClaim) B.pre
  have hown : s.vm.findClass RX11 = some m.cls := findClass_of_methodNamed B.named
  have hlocks := B.notSynchronized
  subst hsz
  have hD := hD0.self (sz := s.heap.size)
  generalize hAe : va_A (WL cy zL zT zR zI zJ) s.heap.size = A at hD ⊢
  have hA : ∀ q : Nat, s.heap.size ≤ q → A q := fun q h => by rw [← hAe]; exact Or.inr h
  have hS : va_S A s.heap s.heap [] := va_S.rf
  have hP : va_P (dC, dI) vwCl (WL cy zL zT zR zI zJ) s.heap := hP
  have hl := lv_entry ([.ref zy] : List Value) (n := 2) (Nat.le_of_ble_eq_true rfl)
  rw [lg_entry_eq]
  generalize (lg_sl ([.ref zy] : List Value) ++ List.replicate (2 - (lg_sl ([.ref zy] : List Value)).length) Slot.unset).toArray = ls at hl ⊢
  have hl : lv_has ls 2 [(0, .ref zy)] := hl
  refine w_q (fun Q hQ => ?_)
  have h_zI : WM [1803, 10200] AL zT zR zI zI := WM.rf hw
  refine lv_aload_n hx hb dX11_readClaim_0 rfl (lv_at hl 0 rfl) ?_
  refine lv_iconst (v := 0) hx hb dX11_readClaim_1 (by decide) ?_
  refine ht_puti (v := (0 : Int32)) (ty := .int) (C := RX11) (T := TX11) (N := 28) hx hb hts (by decide +kernel) tyX11 tyX11_ok nmX11 hown hK hP hD hS hs t_zy (by decide) rfl rfl 3 (by decide) (hts (.fieldLink RX11 116 "DripStoneModel" "at" "I") (by decide +kernel)) (fun _ h9 => h9) rfl (by decide +kernel) rfl rfl rfl dX11_readClaim_2 (fun H locs hP hD hS => ?_)
  have h_zI_1 : WM [1803, 10200] AL zT zR zI (u2 zI zy 3 (0 : Int32)) := h_zI.put hs t_zy rfl (by decide) (by decide) (fun h => absurd h (by decide)) (by decide) trivial
  generalize uzI_1 : u2 zI zy 3 (0 : Int32) = zI_1 at hP hD h_zI_1
  have t_2 : zT (zR zy 5) = 102 := sk_f hs t_zy (by decide) rfl (by decide)
  have kr_3 : zA (zI_1 (zR zy 5)) (0) = zA (zI (zR zy 5)) (0) := by rw [(show zI_1 (zR zy 5) = zI (zR zy 5) from by rw [← uzI_1]; exact u2_a (tne t_2 t_zy (by decide)))]
  have kr_4 : zA (zI_1 (zR zy 5)) (7) = zA (zI (zR zy 5)) (7) := by rw [(show zI_1 (zR zy 5) = zI (zR zy 5) from by rw [← uzI_1]; exact u2_a (tne t_2 t_zy (by decide)))]
  have kr_5 : zA (zI_1 (zR zy 5)) (13) = zA (zI (zR zy 5)) (13) := by rw [(show zI_1 (zR zy 5) = zI (zR zy 5) from by rw [← uzI_1]; exact u2_a (tne t_2 t_zy (by decide)))]
  refine lv_aload_n hx hb dX11_readClaim_5 rfl (lv_at hl 0 rfl) ?_
  refine ht_getr (C := RX11) (T := TX11) (N := 28) hx hb hts (by decide +kernel) hown hK hP hs t_zy (by decide) rfl rfl 5 (by decide) (hts (.fieldLink RX11 16 "DripStoneModel" "read" "[I") (by decide +kernel)) (fun _ h9 => h9) rfl dX11_readClaim_6 ?_
  refine lv_iconst (v := 0) hx hb dX11_readClaim_9 (by decide) ?_
  refine lv_iconst (v := 1) hx hb dX11_readClaim_10 (by decide) ?_
  refine ht_iast (v := (1 : Int32)) (n := 66) (q := 0) hx hb hK hP hD hS hs t_2 (by decide) rfl rfl ⟨by decide, by decide⟩ dX11_readClaim_11 (fun H locs hP hD hS => ?_)
  have h_zI_6 : WM [1803, 10200] AL zT zR zI (u2 zI_1 (zR zy 5) (0 : Int32).toNatClampNeg (1 : Int32)) := h_zI_1.putA hs t_2 rfl (rgF _) (by decide) (fun h => absurd h (by decide)) (by decide) trivial
  generalize uzI_6 : u2 zI_1 (zR zy 5) (0 : Int32).toNatClampNeg (1 : Int32) = zI_6 at hP hD h_zI_6
  have qc_0 : (0 : Int32).toInt = 0 := by decide
  have kr_7 : zA (zI_6 (zR zy 5)) (0) = (1 : Int) := by rw [← uzI_6, u2_r]; exact (zu_s (by omega)).trans (by decide)
  have kr_8 : zA (zI_6 (zR zy 5)) (7) = zA (zI_1 (zR zy 5)) (7) := by rw [← uzI_6, u2_r]; exact zu_n (by omega) (by omega) (by omega)
  have kr_9 : zA (zI_6 (zR zy 5)) (13) = zA (zI_1 (zR zy 5)) (13) := by rw [← uzI_6, u2_r]; exact zu_n (by omega) (by omega) (by omega)
  refine lv_aload_n hx hb dX11_readClaim_12 rfl (lv_at hl 0 rfl) ?_
  refine ht_getr (C := RX11) (T := TX11) (N := 28) hx hb hts (by decide +kernel) hown hK hP hs t_zy (by decide) rfl rfl 5 (by decide) (hts (.fieldLink RX11 16 "DripStoneModel" "read" "[I") (by decide +kernel)) (fun _ h9 => h9) rfl dX11_readClaim_13 ?_
  refine lv_iconst (v := 1) hx hb dX11_readClaim_16 (by decide) ?_
  refine lv_iconst (v := 0) hx hb dX11_readClaim_17 (by decide) ?_
  refine ht_iast (v := (0 : Int32)) (n := 66) (q := 0) hx hb hK hP hD hS hs t_2 (by decide) rfl rfl ⟨by decide, by decide⟩ dX11_readClaim_18 (fun H locs hP hD hS => ?_)
  have h_zI_10 : WM [1803, 10200] AL zT zR zI (u2 zI_6 (zR zy 5) (1 : Int32).toNatClampNeg (0 : Int32)) := h_zI_6.putA hs t_2 rfl (rgF _) (by decide) (fun h => absurd h (by decide)) (by decide) trivial
  generalize uzI_10 : u2 zI_6 (zR zy 5) (1 : Int32).toNatClampNeg (0 : Int32) = zI_10 at hP hD h_zI_10
  have qc_1 : (1 : Int32).toInt = 1 := by decide
  have kr_11 : zA (zI_10 (zR zy 5)) (0) = zA (zI_6 (zR zy 5)) (0) := by rw [← uzI_10, u2_r]; exact zu_n (by omega) (by omega) (by omega)
  have kr_12 : zA (zI_10 (zR zy 5)) (7) = zA (zI_6 (zR zy 5)) (7) := by rw [← uzI_10, u2_r]; exact zu_n (by omega) (by omega) (by omega)
  have kr_13 : zA (zI_10 (zR zy 5)) (13) = zA (zI_6 (zR zy 5)) (13) := by rw [← uzI_10, u2_r]; exact zu_n (by omega) (by omega) (by omega)
  refine lv_aload_n hx hb dX11_readClaim_19 rfl (lv_at hl 0 rfl) ?_
  refine lv_iconst (v := 2) hx hb dX11_readClaim_20 (by decide) ?_
  have qc_2 : (2 : Int32).toInt = 2 := by decide
  refine hj_i (ws := (WL cy zL zT zR zI_10 zJ)) (w1 := fun (u : (Nat → Nat → Int32)) => (WL cy zL zT zR u zJ)) (va_runV (As := [.int 2]) (rest := []) ⟨hx, hb, hml, hown, hts⟩ (t_X11_readAtom l dC dI cy H.size zL zT zR zI_10 zJ zy (2 : Int32) hs h_zI_10.1 t_zy (by decide)) (cwV 1 hts gX11_readClaim_X11_readAtom rfl rfl rfl (by decide +kernel) ⟨(Nat.le_of_ble_eq_true rfl), (Nat.le_of_ble_eq_true rfl)⟩) (PRE.v hP hK hD hN (ht_recv hK hP hs t_zy (by decide) rfl rfl)) rfl rfl hl.1 rfl (lv_room (Nat.le_of_ble_eq_true rfl)) dX11_readClaim_21 ⟨(Nat.le_of_ble_eq_true rfl), (Nat.le_of_ble_eq_true rfl)⟩) hP hD hS hA (fun zi_14 zI_17 H locs hw_15 hP hD hS => ?_)
  obtain ⟨k_zI_17, b_zi_14, ps_18, ps_19⟩ : (WM [1803, 10200] AL zT zR zI_10 zI_17) ∧ (0 ≤ zi_14.toInt ∧ zi_14.toInt ≤ 1) ∧ (FRM (zI_10 (zR zy 5)) (zI_17 (zR zy 5)) ((2 : Int32).toInt) ((2 : Int32).toInt + 5)) ∧ (zi_14.toInt = 0 ∨ (1 ≤ zA (zI_17 (zR zy 5)) ((2 : Int32).toInt + 5) ∧ zA (zI_17 (zR zy 5)) ((2 : Int32).toInt + 5) ≤ 12)) := hw_15
  have h_zI_17 : WM [1803, 10200] AL zT zR zI zI_17 := h_zI_10.tr k_zI_17 (by decide) (fun _ _ => trivial)
  have kr_20 : zA (zI_17 (zR zy 5)) (0) = zA (zI_10 (zR zy 5)) (0) := ps_18 (0) (by omega) (by omega)
  have kr_21 : zA (zI_17 (zR zy 5)) (7) = zA (zI_10 (zR zy 5)) (7) := ps_18 (7) (by omega) (by omega)
  have kr_22 : zA (zI_17 (zR zy 5)) (13) = zA (zI_10 (zR zy 5)) (13) := ps_18 (13) (by omega) (by omega)
  refine lv_if_ne (tgt := 29) hx hb dX11_readClaim_24 (by decide) (fun c_23 => ?_) (fun c_23 => ?_)
  · have f_24 : zi_14.toInt ≠ 0 := ic_ne (rfl) (by decide) c_23
    refine lv_aload_n hx hb dX11_readClaim_29 rfl (lv_at hl 0 rfl) ?_
    refine hj_i (ws := (WL cy zL zT zR zI_17 zJ)) (w1 := fun (u : (Nat → Nat → Int32)) => (WL cy zL zT zR u zJ)) (va_runV (As := []) (rest := []) ⟨hx, hb, hml, hown, hts⟩ (t_X11_nextByte l dC dI cy H.size zL zT zR zI_17 zJ zy hs h_zI_17.1 t_zy) (cwV 0 hts gX11_readClaim_X11_nextByte rfl rfl rfl (by decide +kernel) ⟨(Nat.le_of_ble_eq_true rfl), (Nat.le_of_ble_eq_true rfl)⟩) (PRE.v hP hK hD hN (ht_recv hK hP hs t_zy (by decide) rfl rfl)) rfl rfl hl.1 rfl (lv_room (Nat.le_of_ble_eq_true rfl)) dX11_readClaim_30 ⟨(Nat.le_of_ble_eq_true rfl), (Nat.le_of_ble_eq_true rfl)⟩) hP hD hS hA (fun zi_25 zI_28 H locs hw_26 hP hD hS => ?_)
    obtain ⟨k_zI_28, b_zi_25, ps_29⟩ : (WM [1803] AL zT zR zI_17 zI_28) ∧ ((-1) ≤ zi_25.toInt ∧ zi_25.toInt ≤ 255) ∧ (zi_25.toInt = -1 ∨ (zI_28 zy 3).toInt ≤ 79) := hw_26
    have h_zI_28 : WM [1803, 10200] AL zT zR zI zI_28 := h_zI_17.tr k_zI_28 (by decide) (fun _ _ => trivial)
    obtain ⟨zi_30, ezi_30⟩ : ∃ y : Int32, y = zI_28 zy 3 := ⟨_, rfl⟩
    have tzi_30 : 0 ≤ zi_30.toInt ∧ zi_30.toInt ≤ 80 := by rw [ezi_30]; exact h_zI_28.at t_zy _ rfl
    have lzi_30 : (zI_28 zy 3).toInt = zi_30.toInt := by rw [ezi_30]
    have lk_31 : (zI_28 zy 3).toInt = zi_30.toInt := congrArg Int32.toInt ezi_30.symm
    have kr_32 : zA (zI_28 (zR zy 5)) (0) = zA (zI_17 (zR zy 5)) (0) := by rw [(k_zI_28.2.row t_2 (by decide) (by decide))]
    have kr_33 : zA (zI_28 (zR zy 5)) (7) = zA (zI_17 (zR zy 5)) (7) := by rw [(k_zI_28.2.row t_2 (by decide) (by decide))]
    have kr_34 : zA (zI_28 (zR zy 5)) (13) = zA (zI_17 (zR zy 5)) (13) := by rw [(k_zI_28.2.row t_2 (by decide) (by decide))]
    refine lv_istore_n (lv' := [(1, .int zi_25), (0, .ref zy)]) hx hb dX11_readClaim_33 rfl hl (by decide) rfl (fun ls hl => ?_)
    refine lv_iload_n hx hb dX11_readClaim_34 rfl (lv_at hl 0 rfl) ?_
    refine lv_bipush (v := 38) hx hb dX11_readClaim_35 (by decide) ?_
    refine lv_icmp_eq (tgt := 46) hx hb dX11_readClaim_37 (by decide) (fun c_35 => ?_) (fun c_35 => ?_)
    · have f_36 : zi_25.toInt = (38 : Int) := ic_eq (rfl) (show (38 : Int32).toInt = 38 by decide) c_35
      refine lv_aload_n hx hb dX11_readClaim_46 rfl (lv_at hl 1 rfl) ?_
      refine lv_dup hx hb dX11_readClaim_47 rfl ?_
      refine ht_geti (C := RX11) (T := TX11) (N := 28) hx hb hts (by decide +kernel) hown hK hP hs t_zy (by decide) rfl rfl 3 (by decide) (hts (.fieldLink RX11 116 "DripStoneModel" "at" "I") (by decide +kernel)) (fun _ h9 => h9) rfl dX11_readClaim_48 ?_
      refine lv_topi (fun zi_37 ezi_37 => ?_)
      obtain rfl : zi_30 = zi_37 := (ezi_37.trans ezi_30.symm).symm
      refine lv_iconst (v := 1) hx hb dX11_readClaim_51 (by decide) ?_
      refine lv_iadd hx hb dX11_readClaim_52 ?_
      refine lv_topi (fun zi_38 ezi_38 => ?_)
      have tzi_38 : zi_38.toInt = zi_30.toInt + (1 : Int) := by rw [ezi_38]; exact tiadd (rfl) (show (1 : Int32).toInt = 1 by decide) (by omega) (by omega)
      refine ht_puti (v := zi_38) (ty := .int) (C := RX11) (T := TX11) (N := 28) hx hb hts (by decide +kernel) tyX11 tyX11_ok nmX11 hown hK hP hD hS hs t_zy (by decide) rfl rfl 3 (by decide) (hts (.fieldLink RX11 116 "DripStoneModel" "at" "I") (by decide +kernel)) (fun _ h9 => h9) rfl (by decide +kernel) rfl rfl rfl dX11_readClaim_53 (fun H locs hP hD hS => ?_)
      have h_zI_39 : WM [1803, 10200] AL zT zR zI (u2 zI_28 zy 3 zi_38) := h_zI_28.put hs t_zy rfl (by omega) (by decide) (fun h => absurd h (by decide)) (by decide) trivial
      generalize uzI_39 : u2 zI_28 zy 3 zi_38 = zI_39 at hP hD h_zI_39
      have kr_40 : zA (zI_39 (zR zy 5)) (0) = zA (zI_28 (zR zy 5)) (0) := by rw [(show zI_39 (zR zy 5) = zI_28 (zR zy 5) from by rw [← uzI_39]; exact u2_a (tne t_2 t_zy (by decide)))]
      have kr_41 : zA (zI_39 (zR zy 5)) (7) = zA (zI_28 (zR zy 5)) (7) := by rw [(show zI_39 (zR zy 5) = zI_28 (zR zy 5) from by rw [← uzI_39]; exact u2_a (tne t_2 t_zy (by decide)))]
      have kr_42 : zA (zI_39 (zR zy 5)) (13) = zA (zI_28 (zR zy 5)) (13) := by rw [(show zI_39 (zR zy 5) = zI_28 (zR zy 5) from by rw [← uzI_39]; exact u2_a (tne t_2 t_zy (by decide)))]
      refine lv_aload_n hx hb dX11_readClaim_56 rfl (lv_at hl 1 rfl) ?_
      refine ht_getr (C := RX11) (T := TX11) (N := 28) hx hb hts (by decide +kernel) hown hK hP hs t_zy (by decide) rfl rfl 5 (by decide) (hts (.fieldLink RX11 16 "DripStoneModel" "read" "[I") (by decide +kernel)) (fun _ h9 => h9) rfl dX11_readClaim_57 ?_
      refine lv_iconst (v := 0) hx hb dX11_readClaim_60 (by decide) ?_
      refine lv_iconst (v := 2) hx hb dX11_readClaim_61 (by decide) ?_
      refine ht_iast (v := (2 : Int32)) (n := 66) (q := 0) hx hb hK hP hD hS hs t_2 (by decide) rfl rfl ⟨by decide, by decide⟩ dX11_readClaim_62 (fun H locs hP hD hS => ?_)
      have h_zI_43 : WM [1803, 10200] AL zT zR zI (u2 zI_39 (zR zy 5) (0 : Int32).toNatClampNeg (2 : Int32)) := h_zI_39.putA hs t_2 rfl (rgF _) (by decide) (fun h => absurd h (by decide)) (by decide) trivial
      generalize uzI_43 : u2 zI_39 (zR zy 5) (0 : Int32).toNatClampNeg (2 : Int32) = zI_43 at hP hD h_zI_43
      have kr_44 : zA (zI_43 (zR zy 5)) (0) = (2 : Int) := by rw [← uzI_43, u2_r]; exact (zu_s (by omega)).trans (by decide)
      have kr_45 : zA (zI_43 (zR zy 5)) (7) = zA (zI_39 (zR zy 5)) (7) := by rw [← uzI_43, u2_r]; exact zu_n (by omega) (by omega) (by omega)
      have kr_46 : zA (zI_43 (zR zy 5)) (13) = zA (zI_39 (zR zy 5)) (13) := by rw [← uzI_43, u2_r]; exact zu_n (by omega) (by omega) (by omega)
      refine lv_aload_n hx hb dX11_readClaim_63 rfl (lv_at hl 1 rfl) ?_
      refine ht_getr (C := RX11) (T := TX11) (N := 28) hx hb hts (by decide +kernel) hown hK hP hs t_zy (by decide) rfl rfl 5 (by decide) (hts (.fieldLink RX11 16 "DripStoneModel" "read" "[I") (by decide +kernel)) (fun _ h9 => h9) rfl dX11_readClaim_64 ?_
      refine lv_iconst (v := 1) hx hb dX11_readClaim_67 (by decide) ?_
      refine lv_iload_n hx hb dX11_readClaim_68 rfl (lv_at hl 0 rfl) ?_
      refine lv_bipush (v := 38) hx hb dX11_readClaim_69 (by decide) ?_
      refine lv_icmp_ne (tgt := 78) hx hb dX11_readClaim_71 (by decide) (fun c_47 => ?_) (fun c_47 => ?_)
      · have f_48 : zi_25.toInt ≠ (38 : Int) := ic_ne (rfl) (show (38 : Int32).toInt = 38 by decide) c_47
        exfalso; omega
      · have f_48 : ¬ (zi_25.toInt ≠ (38 : Int)) := ic_nne (rfl) (show (38 : Int32).toInt = 38 by decide) c_47
        refine lv_iconst (v := 1) hx hb dX11_readClaim_74 (by decide) ?_
        refine lv_goto (tgt := 79) hx hb dX11_readClaim_75 (by decide) ?_
        refine ht_iast (v := (1 : Int32)) (n := 66) (q := 0) hx hb hK hP hD hS hs t_2 (by decide) rfl rfl ⟨by decide, by decide⟩ dX11_readClaim_79 (fun H locs hP hD hS => ?_)
        have h_zI_49 : WM [1803, 10200] AL zT zR zI (u2 zI_43 (zR zy 5) (1 : Int32).toNatClampNeg (1 : Int32)) := h_zI_43.putA hs t_2 rfl (rgF _) (by decide) (fun h => absurd h (by decide)) (by decide) trivial
        generalize uzI_49 : u2 zI_43 (zR zy 5) (1 : Int32).toNatClampNeg (1 : Int32) = zI_49 at hP hD h_zI_49
        have kr_50 : zA (zI_49 (zR zy 5)) (0) = zA (zI_43 (zR zy 5)) (0) := by rw [← uzI_49, u2_r]; exact zu_n (by omega) (by omega) (by omega)
        have kr_51 : zA (zI_49 (zR zy 5)) (7) = zA (zI_43 (zR zy 5)) (7) := by rw [← uzI_49, u2_r]; exact zu_n (by omega) (by omega) (by omega)
        have kr_52 : zA (zI_49 (zR zy 5)) (13) = zA (zI_43 (zR zy 5)) (13) := by rw [← uzI_49, u2_r]; exact zu_n (by omega) (by omega) (by omega)
        refine lv_aload_n hx hb dX11_readClaim_80 rfl (lv_at hl 1 rfl) ?_
        refine lv_bipush (v := 8) hx hb dX11_readClaim_81 (by decide) ?_
        have qc_8 : (8 : Int32).toInt = 8 := by decide
        refine hj_i (ws := (WL cy zL zT zR zI_49 zJ)) (w1 := fun (u : (Nat → Nat → Int32)) => (WL cy zL zT zR u zJ)) (va_runV (As := [.int 8]) (rest := []) ⟨hx, hb, hml, hown, hts⟩ (t_X11_readAtom l dC dI cy H.size zL zT zR zI_49 zJ zy (8 : Int32) hs h_zI_49.1 t_zy (by decide)) (cwV 1 hts gX11_readClaim_X11_readAtom rfl rfl rfl (by decide +kernel) ⟨(Nat.le_of_ble_eq_true rfl), (Nat.le_of_ble_eq_true rfl)⟩) (PRE.v hP hK hD hN (ht_recv hK hP hs t_zy (by decide) rfl rfl)) rfl rfl hl.1 rfl (lv_room (Nat.le_of_ble_eq_true rfl)) dX11_readClaim_83 ⟨(Nat.le_of_ble_eq_true rfl), (Nat.le_of_ble_eq_true rfl)⟩) hP hD hS hA (fun zi_53 zI_56 H locs hw_54 hP hD hS => ?_)
        obtain ⟨k_zI_56, b_zi_53, ps_57, ps_58⟩ : (WM [1803, 10200] AL zT zR zI_49 zI_56) ∧ (0 ≤ zi_53.toInt ∧ zi_53.toInt ≤ 1) ∧ (FRM (zI_49 (zR zy 5)) (zI_56 (zR zy 5)) ((8 : Int32).toInt) ((8 : Int32).toInt + 5)) ∧ (zi_53.toInt = 0 ∨ (1 ≤ zA (zI_56 (zR zy 5)) ((8 : Int32).toInt + 5) ∧ zA (zI_56 (zR zy 5)) ((8 : Int32).toInt + 5) ≤ 12)) := hw_54
        have h_zI_56 : WM [1803, 10200] AL zT zR zI zI_56 := h_zI_49.tr k_zI_56 (by decide) (fun _ _ => trivial)
        have kr_59 : zA (zI_56 (zR zy 5)) (0) = zA (zI_49 (zR zy 5)) (0) := ps_57 (0) (by omega) (by omega)
        have kr_60 : zA (zI_56 (zR zy 5)) (7) = zA (zI_49 (zR zy 5)) (7) := ps_57 (7) (by omega) (by omega)
        have kr_61 : zA (zI_56 (zR zy 5)) (13) = zA (zI_49 (zR zy 5)) (13) := ps_57 (13) (by omega) (by omega)
        refine lv_if_ne (tgt := 91) hx hb dX11_readClaim_86 (by decide) (fun c_62 => ?_) (fun c_62 => ?_)
        · have f_63 : zi_53.toInt ≠ 0 := ic_ne (rfl) (by decide) c_62
          refine lv_aload_n hx hb dX11_readClaim_91 rfl (lv_at hl 1 rfl) ?_
          refine hj_i (ws := (WL cy zL zT zR zI_56 zJ)) (w1 := fun (u : (Nat → Nat → Int32)) => (WL cy zL zT zR u zJ)) (va_runV (As := []) (rest := []) ⟨hx, hb, hml, hown, hts⟩ (t_X11_nextByte l dC dI cy H.size zL zT zR zI_56 zJ zy hs h_zI_56.1 t_zy) (cwV 0 hts gX11_readClaim_X11_nextByte rfl rfl rfl (by decide +kernel) ⟨(Nat.le_of_ble_eq_true rfl), (Nat.le_of_ble_eq_true rfl)⟩) (PRE.v hP hK hD hN (ht_recv hK hP hs t_zy (by decide) rfl rfl)) rfl rfl hl.1 rfl (lv_room (Nat.le_of_ble_eq_true rfl)) dX11_readClaim_92 ⟨(Nat.le_of_ble_eq_true rfl), (Nat.le_of_ble_eq_true rfl)⟩) hP hD hS hA (fun zi_64 zI_67 H locs hw_65 hP hD hS => ?_)
          obtain ⟨k_zI_67, b_zi_64, ps_68⟩ : (WM [1803] AL zT zR zI_56 zI_67) ∧ ((-1) ≤ zi_64.toInt ∧ zi_64.toInt ≤ 255) ∧ (zi_64.toInt = -1 ∨ (zI_67 zy 3).toInt ≤ 79) := hw_65
          have h_zI_67 : WM [1803, 10200] AL zT zR zI zI_67 := h_zI_56.tr k_zI_67 (by decide) (fun _ _ => trivial)
          obtain ⟨zi_69, ezi_69⟩ : ∃ y : Int32, y = zI_67 zy 3 := ⟨_, rfl⟩
          have tzi_69 : 0 ≤ zi_69.toInt ∧ zi_69.toInt ≤ 80 := by rw [ezi_69]; exact h_zI_67.at t_zy _ rfl
          have lzi_69 : (zI_67 zy 3).toInt = zi_69.toInt := by rw [ezi_69]
          have lk_70 : (zI_67 zy 3).toInt = zi_69.toInt := congrArg Int32.toInt ezi_69.symm
          have kr_71 : zA (zI_67 (zR zy 5)) (0) = zA (zI_56 (zR zy 5)) (0) := by rw [(k_zI_67.2.row t_2 (by decide) (by decide))]
          have kr_72 : zA (zI_67 (zR zy 5)) (7) = zA (zI_56 (zR zy 5)) (7) := by rw [(k_zI_67.2.row t_2 (by decide) (by decide))]
          have kr_73 : zA (zI_67 (zR zy 5)) (13) = zA (zI_56 (zR zy 5)) (13) := by rw [(k_zI_67.2.row t_2 (by decide) (by decide))]
          refine lv_if_ge (tgt := 102) hx hb dX11_readClaim_95 (by decide) (fun c_74 => ?_) (fun c_74 => ?_)
          · have f_75 : zi_64.toInt ≥ 0 := ic_ge (rfl) (by decide) c_74
            refine lv_iconst (v := 0) hx hb dX11_readClaim_102 (by decide) ?_
            subst hQ
            exact W.zret (v := (0 : Int32)) hx hb hr rfl (fun t ht hW => ⟨⟨(0 : Int32), zI_67, rfl, ⟨h_zI_67, (show 0 ≤ (0 : Int32).toInt ∧ (0 : Int32).toInt ≤ 1 from by omega), (show (0 : Int32).toInt = 0 ∨ ((1 ≤ zA (zI_67 (zR zy 5)) (0) ∧ zA (zI_67 (zR zy 5)) (0) ≤ 2) ∧ (1 ≤ zA (zI_67 (zR zy 5)) (7) ∧ zA (zI_67 (zR zy 5)) (7) ≤ 12) ∧ (zA (zI_67 (zR zy 5)) (0) = 2 → 1 ≤ zA (zI_67 (zR zy 5)) (13) ∧ zA (zI_67 (zR zy 5)) (13) ≤ 12)) from by omega)⟩, ⟨by rw [ht]; exact hP, va_K.moved hW.alike hK, hD⟩⟩, hS.F ht⟩) hS.2.2 dX11_readClaim_103
          · have f_75 : ¬ (zi_64.toInt ≥ 0) := ic_nge (rfl) (by decide) c_74
            refine lv_iconst (v := 1) hx hb dX11_readClaim_98 (by decide) ?_
            refine lv_goto (tgt := 103) hx hb dX11_readClaim_99 (by decide) ?_
            subst hQ
            exact W.zret (v := (1 : Int32)) hx hb hr rfl (fun t ht hW => ⟨⟨(1 : Int32), zI_67, rfl, ⟨h_zI_67, (show 0 ≤ (1 : Int32).toInt ∧ (1 : Int32).toInt ≤ 1 from by omega), (show (1 : Int32).toInt = 0 ∨ ((1 ≤ zA (zI_67 (zR zy 5)) (0) ∧ zA (zI_67 (zR zy 5)) (0) ≤ 2) ∧ (1 ≤ zA (zI_67 (zR zy 5)) (7) ∧ zA (zI_67 (zR zy 5)) (7) ≤ 12) ∧ (zA (zI_67 (zR zy 5)) (0) = 2 → 1 ≤ zA (zI_67 (zR zy 5)) (13) ∧ zA (zI_67 (zR zy 5)) (13) ≤ 12)) from by omega)⟩, ⟨by rw [ht]; exact hP, va_K.moved hW.alike hK, hD⟩⟩, hS.F ht⟩) hS.2.2 dX11_readClaim_103
        · have f_63 : ¬ (zi_53.toInt ≠ 0) := ic_nne (rfl) (by decide) c_62
          refine lv_iconst (v := 0) hx hb dX11_readClaim_89 (by decide) ?_
          subst hQ
          exact W.zret (v := (0 : Int32)) hx hb hr rfl (fun t ht hW => ⟨⟨(0 : Int32), zI_56, rfl, ⟨h_zI_56, (show 0 ≤ (0 : Int32).toInt ∧ (0 : Int32).toInt ≤ 1 from by omega), (show (0 : Int32).toInt = 0 ∨ ((1 ≤ zA (zI_56 (zR zy 5)) (0) ∧ zA (zI_56 (zR zy 5)) (0) ≤ 2) ∧ (1 ≤ zA (zI_56 (zR zy 5)) (7) ∧ zA (zI_56 (zR zy 5)) (7) ≤ 12) ∧ (zA (zI_56 (zR zy 5)) (0) = 2 → 1 ≤ zA (zI_56 (zR zy 5)) (13) ∧ zA (zI_56 (zR zy 5)) (13) ≤ 12)) from by omega)⟩, ⟨by rw [ht]; exact hP, va_K.moved hW.alike hK, hD⟩⟩, hS.F ht⟩) hS.2.2 dX11_readClaim_90
    · have f_36 : ¬ (zi_25.toInt = (38 : Int)) := ic_neq (rfl) (show (38 : Int32).toInt = 38 by decide) c_35
      refine lv_iload_n hx hb dX11_readClaim_40 rfl (lv_at hl 0 rfl) ?_
      refine lv_bipush (v := 124) hx hb dX11_readClaim_41 (by decide) ?_
      refine lv_icmp_ne (tgt := 91) hx hb dX11_readClaim_43 (by decide) (fun c_76 => ?_) (fun c_76 => ?_)
      · have f_77 : zi_25.toInt ≠ (124 : Int) := ic_ne (rfl) (show (124 : Int32).toInt = 124 by decide) c_76
        refine lv_aload_n hx hb dX11_readClaim_91 rfl (lv_at hl 1 rfl) ?_
        refine hj_i (ws := (WL cy zL zT zR zI_28 zJ)) (w1 := fun (u : (Nat → Nat → Int32)) => (WL cy zL zT zR u zJ)) (va_runV (As := []) (rest := []) ⟨hx, hb, hml, hown, hts⟩ (t_X11_nextByte l dC dI cy H.size zL zT zR zI_28 zJ zy hs h_zI_28.1 t_zy) (cwV 0 hts gX11_readClaim_X11_nextByte rfl rfl rfl (by decide +kernel) ⟨(Nat.le_of_ble_eq_true rfl), (Nat.le_of_ble_eq_true rfl)⟩) (PRE.v hP hK hD hN (ht_recv hK hP hs t_zy (by decide) rfl rfl)) rfl rfl hl.1 rfl (lv_room (Nat.le_of_ble_eq_true rfl)) dX11_readClaim_92 ⟨(Nat.le_of_ble_eq_true rfl), (Nat.le_of_ble_eq_true rfl)⟩) hP hD hS hA (fun zi_78 zI_81 H locs hw_79 hP hD hS => ?_)
        obtain ⟨k_zI_81, b_zi_78, ps_82⟩ : (WM [1803] AL zT zR zI_28 zI_81) ∧ ((-1) ≤ zi_78.toInt ∧ zi_78.toInt ≤ 255) ∧ (zi_78.toInt = -1 ∨ (zI_81 zy 3).toInt ≤ 79) := hw_79
        have h_zI_81 : WM [1803, 10200] AL zT zR zI zI_81 := h_zI_28.tr k_zI_81 (by decide) (fun _ _ => trivial)
        obtain ⟨zi_83, ezi_83⟩ : ∃ y : Int32, y = zI_81 zy 3 := ⟨_, rfl⟩
        have tzi_83 : 0 ≤ zi_83.toInt ∧ zi_83.toInt ≤ 80 := by rw [ezi_83]; exact h_zI_81.at t_zy _ rfl
        have lzi_83 : (zI_81 zy 3).toInt = zi_83.toInt := by rw [ezi_83]
        have lk_84 : (zI_81 zy 3).toInt = zi_83.toInt := congrArg Int32.toInt ezi_83.symm
        have kr_85 : zA (zI_81 (zR zy 5)) (0) = zA (zI_28 (zR zy 5)) (0) := by rw [(k_zI_81.2.row t_2 (by decide) (by decide))]
        have kr_86 : zA (zI_81 (zR zy 5)) (7) = zA (zI_28 (zR zy 5)) (7) := by rw [(k_zI_81.2.row t_2 (by decide) (by decide))]
        have kr_87 : zA (zI_81 (zR zy 5)) (13) = zA (zI_28 (zR zy 5)) (13) := by rw [(k_zI_81.2.row t_2 (by decide) (by decide))]
        refine lv_if_ge (tgt := 102) hx hb dX11_readClaim_95 (by decide) (fun c_88 => ?_) (fun c_88 => ?_)
        · have f_89 : zi_78.toInt ≥ 0 := ic_ge (rfl) (by decide) c_88
          refine lv_iconst (v := 0) hx hb dX11_readClaim_102 (by decide) ?_
          subst hQ
          exact W.zret (v := (0 : Int32)) hx hb hr rfl (fun t ht hW => ⟨⟨(0 : Int32), zI_81, rfl, ⟨h_zI_81, (show 0 ≤ (0 : Int32).toInt ∧ (0 : Int32).toInt ≤ 1 from by omega), (show (0 : Int32).toInt = 0 ∨ ((1 ≤ zA (zI_81 (zR zy 5)) (0) ∧ zA (zI_81 (zR zy 5)) (0) ≤ 2) ∧ (1 ≤ zA (zI_81 (zR zy 5)) (7) ∧ zA (zI_81 (zR zy 5)) (7) ≤ 12) ∧ (zA (zI_81 (zR zy 5)) (0) = 2 → 1 ≤ zA (zI_81 (zR zy 5)) (13) ∧ zA (zI_81 (zR zy 5)) (13) ≤ 12)) from by omega)⟩, ⟨by rw [ht]; exact hP, va_K.moved hW.alike hK, hD⟩⟩, hS.F ht⟩) hS.2.2 dX11_readClaim_103
        · have f_89 : ¬ (zi_78.toInt ≥ 0) := ic_nge (rfl) (by decide) c_88
          refine lv_iconst (v := 1) hx hb dX11_readClaim_98 (by decide) ?_
          refine lv_goto (tgt := 103) hx hb dX11_readClaim_99 (by decide) ?_
          subst hQ
          exact W.zret (v := (1 : Int32)) hx hb hr rfl (fun t ht hW => ⟨⟨(1 : Int32), zI_81, rfl, ⟨h_zI_81, (show 0 ≤ (1 : Int32).toInt ∧ (1 : Int32).toInt ≤ 1 from by omega), (show (1 : Int32).toInt = 0 ∨ ((1 ≤ zA (zI_81 (zR zy 5)) (0) ∧ zA (zI_81 (zR zy 5)) (0) ≤ 2) ∧ (1 ≤ zA (zI_81 (zR zy 5)) (7) ∧ zA (zI_81 (zR zy 5)) (7) ≤ 12) ∧ (zA (zI_81 (zR zy 5)) (0) = 2 → 1 ≤ zA (zI_81 (zR zy 5)) (13) ∧ zA (zI_81 (zR zy 5)) (13) ≤ 12)) from by omega)⟩, ⟨by rw [ht]; exact hP, va_K.moved hW.alike hK, hD⟩⟩, hS.F ht⟩) hS.2.2 dX11_readClaim_103
      · have f_77 : ¬ (zi_25.toInt ≠ (124 : Int)) := ic_nne (rfl) (show (124 : Int32).toInt = 124 by decide) c_76
        refine lv_aload_n hx hb dX11_readClaim_46 rfl (lv_at hl 1 rfl) ?_
        refine lv_dup hx hb dX11_readClaim_47 rfl ?_
        refine ht_geti (C := RX11) (T := TX11) (N := 28) hx hb hts (by decide +kernel) hown hK hP hs t_zy (by decide) rfl rfl 3 (by decide) (hts (.fieldLink RX11 116 "DripStoneModel" "at" "I") (by decide +kernel)) (fun _ h9 => h9) rfl dX11_readClaim_48 ?_
        refine lv_topi (fun zi_90 ezi_90 => ?_)
        obtain rfl : zi_30 = zi_90 := (ezi_90.trans ezi_30.symm).symm
        refine lv_iconst (v := 1) hx hb dX11_readClaim_51 (by decide) ?_
        refine lv_iadd hx hb dX11_readClaim_52 ?_
        refine lv_topi (fun zi_91 ezi_91 => ?_)
        have tzi_91 : zi_91.toInt = zi_30.toInt + (1 : Int) := by rw [ezi_91]; exact tiadd (rfl) (show (1 : Int32).toInt = 1 by decide) (by omega) (by omega)
        refine ht_puti (v := zi_91) (ty := .int) (C := RX11) (T := TX11) (N := 28) hx hb hts (by decide +kernel) tyX11 tyX11_ok nmX11 hown hK hP hD hS hs t_zy (by decide) rfl rfl 3 (by decide) (hts (.fieldLink RX11 116 "DripStoneModel" "at" "I") (by decide +kernel)) (fun _ h9 => h9) rfl (by decide +kernel) rfl rfl rfl dX11_readClaim_53 (fun H locs hP hD hS => ?_)
        have h_zI_92 : WM [1803, 10200] AL zT zR zI (u2 zI_28 zy 3 zi_91) := h_zI_28.put hs t_zy rfl (by omega) (by decide) (fun h => absurd h (by decide)) (by decide) trivial
        generalize uzI_92 : u2 zI_28 zy 3 zi_91 = zI_92 at hP hD h_zI_92
        have kr_93 : zA (zI_92 (zR zy 5)) (0) = zA (zI_28 (zR zy 5)) (0) := by rw [(show zI_92 (zR zy 5) = zI_28 (zR zy 5) from by rw [← uzI_92]; exact u2_a (tne t_2 t_zy (by decide)))]
        have kr_94 : zA (zI_92 (zR zy 5)) (7) = zA (zI_28 (zR zy 5)) (7) := by rw [(show zI_92 (zR zy 5) = zI_28 (zR zy 5) from by rw [← uzI_92]; exact u2_a (tne t_2 t_zy (by decide)))]
        have kr_95 : zA (zI_92 (zR zy 5)) (13) = zA (zI_28 (zR zy 5)) (13) := by rw [(show zI_92 (zR zy 5) = zI_28 (zR zy 5) from by rw [← uzI_92]; exact u2_a (tne t_2 t_zy (by decide)))]
        refine lv_aload_n hx hb dX11_readClaim_56 rfl (lv_at hl 1 rfl) ?_
        refine ht_getr (C := RX11) (T := TX11) (N := 28) hx hb hts (by decide +kernel) hown hK hP hs t_zy (by decide) rfl rfl 5 (by decide) (hts (.fieldLink RX11 16 "DripStoneModel" "read" "[I") (by decide +kernel)) (fun _ h9 => h9) rfl dX11_readClaim_57 ?_
        refine lv_iconst (v := 0) hx hb dX11_readClaim_60 (by decide) ?_
        refine lv_iconst (v := 2) hx hb dX11_readClaim_61 (by decide) ?_
        refine ht_iast (v := (2 : Int32)) (n := 66) (q := 0) hx hb hK hP hD hS hs t_2 (by decide) rfl rfl ⟨by decide, by decide⟩ dX11_readClaim_62 (fun H locs hP hD hS => ?_)
        have h_zI_96 : WM [1803, 10200] AL zT zR zI (u2 zI_92 (zR zy 5) (0 : Int32).toNatClampNeg (2 : Int32)) := h_zI_92.putA hs t_2 rfl (rgF _) (by decide) (fun h => absurd h (by decide)) (by decide) trivial
        generalize uzI_96 : u2 zI_92 (zR zy 5) (0 : Int32).toNatClampNeg (2 : Int32) = zI_96 at hP hD h_zI_96
        have kr_97 : zA (zI_96 (zR zy 5)) (0) = (2 : Int) := by rw [← uzI_96, u2_r]; exact (zu_s (by omega)).trans (by decide)
        have kr_98 : zA (zI_96 (zR zy 5)) (7) = zA (zI_92 (zR zy 5)) (7) := by rw [← uzI_96, u2_r]; exact zu_n (by omega) (by omega) (by omega)
        have kr_99 : zA (zI_96 (zR zy 5)) (13) = zA (zI_92 (zR zy 5)) (13) := by rw [← uzI_96, u2_r]; exact zu_n (by omega) (by omega) (by omega)
        refine lv_aload_n hx hb dX11_readClaim_63 rfl (lv_at hl 1 rfl) ?_
        refine ht_getr (C := RX11) (T := TX11) (N := 28) hx hb hts (by decide +kernel) hown hK hP hs t_zy (by decide) rfl rfl 5 (by decide) (hts (.fieldLink RX11 16 "DripStoneModel" "read" "[I") (by decide +kernel)) (fun _ h9 => h9) rfl dX11_readClaim_64 ?_
        refine lv_iconst (v := 1) hx hb dX11_readClaim_67 (by decide) ?_
        refine lv_iload_n hx hb dX11_readClaim_68 rfl (lv_at hl 0 rfl) ?_
        refine lv_bipush (v := 38) hx hb dX11_readClaim_69 (by decide) ?_
        refine lv_icmp_ne (tgt := 78) hx hb dX11_readClaim_71 (by decide) (fun c_100 => ?_) (fun c_100 => ?_)
        · have f_101 : zi_25.toInt ≠ (38 : Int) := ic_ne (rfl) (show (38 : Int32).toInt = 38 by decide) c_100
          refine lv_iconst (v := 0) hx hb dX11_readClaim_78 (by decide) ?_
          refine ht_iast (v := (0 : Int32)) (n := 66) (q := 0) hx hb hK hP hD hS hs t_2 (by decide) rfl rfl ⟨by decide, by decide⟩ dX11_readClaim_79 (fun H locs hP hD hS => ?_)
          have h_zI_102 : WM [1803, 10200] AL zT zR zI (u2 zI_96 (zR zy 5) (1 : Int32).toNatClampNeg (0 : Int32)) := h_zI_96.putA hs t_2 rfl (rgF _) (by decide) (fun h => absurd h (by decide)) (by decide) trivial
          generalize uzI_102 : u2 zI_96 (zR zy 5) (1 : Int32).toNatClampNeg (0 : Int32) = zI_102 at hP hD h_zI_102
          have kr_103 : zA (zI_102 (zR zy 5)) (0) = zA (zI_96 (zR zy 5)) (0) := by rw [← uzI_102, u2_r]; exact zu_n (by omega) (by omega) (by omega)
          have kr_104 : zA (zI_102 (zR zy 5)) (7) = zA (zI_96 (zR zy 5)) (7) := by rw [← uzI_102, u2_r]; exact zu_n (by omega) (by omega) (by omega)
          have kr_105 : zA (zI_102 (zR zy 5)) (13) = zA (zI_96 (zR zy 5)) (13) := by rw [← uzI_102, u2_r]; exact zu_n (by omega) (by omega) (by omega)
          refine lv_aload_n hx hb dX11_readClaim_80 rfl (lv_at hl 1 rfl) ?_
          refine lv_bipush (v := 8) hx hb dX11_readClaim_81 (by decide) ?_
          have qc_8 : (8 : Int32).toInt = 8 := by decide
          refine hj_i (ws := (WL cy zL zT zR zI_102 zJ)) (w1 := fun (u : (Nat → Nat → Int32)) => (WL cy zL zT zR u zJ)) (va_runV (As := [.int 8]) (rest := []) ⟨hx, hb, hml, hown, hts⟩ (t_X11_readAtom l dC dI cy H.size zL zT zR zI_102 zJ zy (8 : Int32) hs h_zI_102.1 t_zy (by decide)) (cwV 1 hts gX11_readClaim_X11_readAtom rfl rfl rfl (by decide +kernel) ⟨(Nat.le_of_ble_eq_true rfl), (Nat.le_of_ble_eq_true rfl)⟩) (PRE.v hP hK hD hN (ht_recv hK hP hs t_zy (by decide) rfl rfl)) rfl rfl hl.1 rfl (lv_room (Nat.le_of_ble_eq_true rfl)) dX11_readClaim_83 ⟨(Nat.le_of_ble_eq_true rfl), (Nat.le_of_ble_eq_true rfl)⟩) hP hD hS hA (fun zi_106 zI_109 H locs hw_107 hP hD hS => ?_)
          obtain ⟨k_zI_109, b_zi_106, ps_110, ps_111⟩ : (WM [1803, 10200] AL zT zR zI_102 zI_109) ∧ (0 ≤ zi_106.toInt ∧ zi_106.toInt ≤ 1) ∧ (FRM (zI_102 (zR zy 5)) (zI_109 (zR zy 5)) ((8 : Int32).toInt) ((8 : Int32).toInt + 5)) ∧ (zi_106.toInt = 0 ∨ (1 ≤ zA (zI_109 (zR zy 5)) ((8 : Int32).toInt + 5) ∧ zA (zI_109 (zR zy 5)) ((8 : Int32).toInt + 5) ≤ 12)) := hw_107
          have h_zI_109 : WM [1803, 10200] AL zT zR zI zI_109 := h_zI_102.tr k_zI_109 (by decide) (fun _ _ => trivial)
          have kr_112 : zA (zI_109 (zR zy 5)) (0) = zA (zI_102 (zR zy 5)) (0) := ps_110 (0) (by omega) (by omega)
          have kr_113 : zA (zI_109 (zR zy 5)) (7) = zA (zI_102 (zR zy 5)) (7) := ps_110 (7) (by omega) (by omega)
          have kr_114 : zA (zI_109 (zR zy 5)) (13) = zA (zI_102 (zR zy 5)) (13) := ps_110 (13) (by omega) (by omega)
          refine lv_if_ne (tgt := 91) hx hb dX11_readClaim_86 (by decide) (fun c_115 => ?_) (fun c_115 => ?_)
          · have f_116 : zi_106.toInt ≠ 0 := ic_ne (rfl) (by decide) c_115
            refine lv_aload_n hx hb dX11_readClaim_91 rfl (lv_at hl 1 rfl) ?_
            refine hj_i (ws := (WL cy zL zT zR zI_109 zJ)) (w1 := fun (u : (Nat → Nat → Int32)) => (WL cy zL zT zR u zJ)) (va_runV (As := []) (rest := []) ⟨hx, hb, hml, hown, hts⟩ (t_X11_nextByte l dC dI cy H.size zL zT zR zI_109 zJ zy hs h_zI_109.1 t_zy) (cwV 0 hts gX11_readClaim_X11_nextByte rfl rfl rfl (by decide +kernel) ⟨(Nat.le_of_ble_eq_true rfl), (Nat.le_of_ble_eq_true rfl)⟩) (PRE.v hP hK hD hN (ht_recv hK hP hs t_zy (by decide) rfl rfl)) rfl rfl hl.1 rfl (lv_room (Nat.le_of_ble_eq_true rfl)) dX11_readClaim_92 ⟨(Nat.le_of_ble_eq_true rfl), (Nat.le_of_ble_eq_true rfl)⟩) hP hD hS hA (fun zi_117 zI_120 H locs hw_118 hP hD hS => ?_)
            obtain ⟨k_zI_120, b_zi_117, ps_121⟩ : (WM [1803] AL zT zR zI_109 zI_120) ∧ ((-1) ≤ zi_117.toInt ∧ zi_117.toInt ≤ 255) ∧ (zi_117.toInt = -1 ∨ (zI_120 zy 3).toInt ≤ 79) := hw_118
            have h_zI_120 : WM [1803, 10200] AL zT zR zI zI_120 := h_zI_109.tr k_zI_120 (by decide) (fun _ _ => trivial)
            obtain ⟨zi_122, ezi_122⟩ : ∃ y : Int32, y = zI_120 zy 3 := ⟨_, rfl⟩
            have tzi_122 : 0 ≤ zi_122.toInt ∧ zi_122.toInt ≤ 80 := by rw [ezi_122]; exact h_zI_120.at t_zy _ rfl
            have lzi_122 : (zI_120 zy 3).toInt = zi_122.toInt := by rw [ezi_122]
            have lk_123 : (zI_120 zy 3).toInt = zi_122.toInt := congrArg Int32.toInt ezi_122.symm
            have kr_124 : zA (zI_120 (zR zy 5)) (0) = zA (zI_109 (zR zy 5)) (0) := by rw [(k_zI_120.2.row t_2 (by decide) (by decide))]
            have kr_125 : zA (zI_120 (zR zy 5)) (7) = zA (zI_109 (zR zy 5)) (7) := by rw [(k_zI_120.2.row t_2 (by decide) (by decide))]
            have kr_126 : zA (zI_120 (zR zy 5)) (13) = zA (zI_109 (zR zy 5)) (13) := by rw [(k_zI_120.2.row t_2 (by decide) (by decide))]
            refine lv_if_ge (tgt := 102) hx hb dX11_readClaim_95 (by decide) (fun c_127 => ?_) (fun c_127 => ?_)
            · have f_128 : zi_117.toInt ≥ 0 := ic_ge (rfl) (by decide) c_127
              refine lv_iconst (v := 0) hx hb dX11_readClaim_102 (by decide) ?_
              subst hQ
              exact W.zret (v := (0 : Int32)) hx hb hr rfl (fun t ht hW => ⟨⟨(0 : Int32), zI_120, rfl, ⟨h_zI_120, (show 0 ≤ (0 : Int32).toInt ∧ (0 : Int32).toInt ≤ 1 from by omega), (show (0 : Int32).toInt = 0 ∨ ((1 ≤ zA (zI_120 (zR zy 5)) (0) ∧ zA (zI_120 (zR zy 5)) (0) ≤ 2) ∧ (1 ≤ zA (zI_120 (zR zy 5)) (7) ∧ zA (zI_120 (zR zy 5)) (7) ≤ 12) ∧ (zA (zI_120 (zR zy 5)) (0) = 2 → 1 ≤ zA (zI_120 (zR zy 5)) (13) ∧ zA (zI_120 (zR zy 5)) (13) ≤ 12)) from by omega)⟩, ⟨by rw [ht]; exact hP, va_K.moved hW.alike hK, hD⟩⟩, hS.F ht⟩) hS.2.2 dX11_readClaim_103
            · have f_128 : ¬ (zi_117.toInt ≥ 0) := ic_nge (rfl) (by decide) c_127
              refine lv_iconst (v := 1) hx hb dX11_readClaim_98 (by decide) ?_
              refine lv_goto (tgt := 103) hx hb dX11_readClaim_99 (by decide) ?_
              subst hQ
              exact W.zret (v := (1 : Int32)) hx hb hr rfl (fun t ht hW => ⟨⟨(1 : Int32), zI_120, rfl, ⟨h_zI_120, (show 0 ≤ (1 : Int32).toInt ∧ (1 : Int32).toInt ≤ 1 from by omega), (show (1 : Int32).toInt = 0 ∨ ((1 ≤ zA (zI_120 (zR zy 5)) (0) ∧ zA (zI_120 (zR zy 5)) (0) ≤ 2) ∧ (1 ≤ zA (zI_120 (zR zy 5)) (7) ∧ zA (zI_120 (zR zy 5)) (7) ≤ 12) ∧ (zA (zI_120 (zR zy 5)) (0) = 2 → 1 ≤ zA (zI_120 (zR zy 5)) (13) ∧ zA (zI_120 (zR zy 5)) (13) ≤ 12)) from by omega)⟩, ⟨by rw [ht]; exact hP, va_K.moved hW.alike hK, hD⟩⟩, hS.F ht⟩) hS.2.2 dX11_readClaim_103
          · have f_116 : ¬ (zi_106.toInt ≠ 0) := ic_nne (rfl) (by decide) c_115
            refine lv_iconst (v := 0) hx hb dX11_readClaim_89 (by decide) ?_
            subst hQ
            exact W.zret (v := (0 : Int32)) hx hb hr rfl (fun t ht hW => ⟨⟨(0 : Int32), zI_109, rfl, ⟨h_zI_109, (show 0 ≤ (0 : Int32).toInt ∧ (0 : Int32).toInt ≤ 1 from by omega), (show (0 : Int32).toInt = 0 ∨ ((1 ≤ zA (zI_109 (zR zy 5)) (0) ∧ zA (zI_109 (zR zy 5)) (0) ≤ 2) ∧ (1 ≤ zA (zI_109 (zR zy 5)) (7) ∧ zA (zI_109 (zR zy 5)) (7) ≤ 12) ∧ (zA (zI_109 (zR zy 5)) (0) = 2 → 1 ≤ zA (zI_109 (zR zy 5)) (13) ∧ zA (zI_109 (zR zy 5)) (13) ≤ 12)) from by omega)⟩, ⟨by rw [ht]; exact hP, va_K.moved hW.alike hK, hD⟩⟩, hS.F ht⟩) hS.2.2 dX11_readClaim_90
        · have f_101 : ¬ (zi_25.toInt ≠ (38 : Int)) := ic_nne (rfl) (show (38 : Int32).toInt = 38 by decide) c_100
          exfalso; omega
  · have f_24 : ¬ (zi_14.toInt ≠ 0) := ic_nne (rfl) (by decide) c_23
    refine lv_iconst (v := 0) hx hb dX11_readClaim_27 (by decide) ?_
    subst hQ
    exact W.zret (v := (0 : Int32)) hx hb hr rfl (fun t ht hW => ⟨⟨(0 : Int32), zI_17, rfl, ⟨h_zI_17, (show 0 ≤ (0 : Int32).toInt ∧ (0 : Int32).toInt ≤ 1 from by omega), (show (0 : Int32).toInt = 0 ∨ ((1 ≤ zA (zI_17 (zR zy 5)) (0) ∧ zA (zI_17 (zR zy 5)) (0) ≤ 2) ∧ (1 ≤ zA (zI_17 (zR zy 5)) (7) ∧ zA (zI_17 (zR zy 5)) (7) ≤ 12) ∧ (zA (zI_17 (zR zy 5)) (0) = 2 → 1 ≤ zA (zI_17 (zR zy 5)) (13) ∧ zA (zI_17 (zR zy 5)) (13) ≤ 12)) from by omega)⟩, ⟨by rw [ht]; exact hP, va_K.moved hW.alike hK, hD⟩⟩, hS.F ht⟩) hS.2.2 dX11_readClaim_28
