set_option maxHeartbeats 8000000 in
set_option maxRecDepth 100000 in
theorem t_X9_goForward (l : Launch) (dC : Nat → ClassId) (dI : Nat → Nat → Nat) (cy : Nat → ClassId) (sz : Nat) (zL : List Nat) (zT : Nat → Nat) (zR : Nat → Nat → Nat) (zI : Nat → Nat → Int32) (zJ : Nat → Nat → Int64) (zw : Nat) (hs : SKP zL zT zR) (hw : WT zT zR zI) (t_zw : zT zw = 10) : Met l yX9_goForward wsX9_goForward ({ frames := 2, cells := 0, slots := 0, locals := 61 } : Room) (va_Pc [.ref zw] (PRE dC dI cy (WL cy zL zT zR zI zJ) sz)) (va_Qv (fun (u : (Nat → Nat → Int64)) => True) (fun u t => POST dC dI cy (va_A (WL cy zL zT zR zI zJ) sz) (WL cy zL zT zR zI u) t) (va_A (WL cy zL zT zR zI zJ) sz)) 0 0 (va_A (WL cy zL zT zR zI zJ) sz) := by
  refine Met.ofW (cc := cX9_goForward) (maxL := 2) (ret := none) (by decide) rfl ?_
  intro p e s m args below meth c s₁ B hml hv
  obtain ⟨rfl, hsz, hP, hK, hD0, hN⟩ := hv
  have hx := B.exec
  have hb := B.bytes
  have hr := B.returns
  have hts := atoms_spec (ws := wsX9_goForward) B.pre
  have hown : s.vm.findClass RX9 = some m.cls := findClass_of_methodNamed B.named
  have hlocks := B.notSynchronized
  subst hsz
  have hD := hD0.self (sz := s.heap.size)
  generalize hAe : va_A (WL cy zL zT zR zI zJ) s.heap.size = A at hD ⊢
  have hA : ∀ q : Nat, s.heap.size ≤ q → A q := fun q h => by rw [← hAe]; exact Or.inr h
  have hS : va_S A s.heap s.heap [] := va_S.rf
  have hP : va_P (dC, dI) vwCl (WL cy zL zT zR zI zJ) s.heap := hP
  have hl := lv_entry ([.ref zw] : List Value) (n := 2) (Nat.le_of_ble_eq_true rfl)
  rw [lg_entry_eq]
  generalize (lg_sl ([.ref zw] : List Value) ++ List.replicate (2 - (lg_sl ([.ref zw] : List Value)).length) Slot.unset).toArray = ls at hl ⊢
  have hl : lv_has ls 2 [(0, .ref zw)] := hl
  refine w_q (fun Q hQ => ?_)
  have h_zI : WM [] AL zT zR zI zI := WM.rf hw
  refine lv_aload_n hx hb dX9_goForward_0 rfl (lv_at hl 0 rfl) ?_
  refine lv_lconst (v := 0) hx hb dX9_goForward_1 (by decide) ?_
  refine ht_putl (v := (0 : Int64)) (ty := .long) (C := RX9) (T := TX9) (N := 16) hx hb hts (by decide +kernel) tyX9 tyX9_ok nmX9 hown hK hP hD hS hs t_zw (by decide) rfl rfl 15 (by decide) (hts (.fieldLink RX9 121 "DripStone$Ways" "total" "J") (by decide +kernel)) (fun _ h9 => h9) rfl (by decide +kernel) rfl rfl rfl dX9_goForward_2 (fun H locs hP hD hS => ?_)
  generalize uzJ_1 : u2 zJ zw 15 (0 : Int64) = zJ_1 at hP hD
  refine lv_aload_n hx hb dX9_goForward_5 rfl (lv_at hl 0 rfl) ?_
  refine ht_geti (C := RX9) (T := TX9) (N := 16) hx hb hts (by decide +kernel) hown hK hP hs t_zw (by decide) rfl rfl 14 (by decide) (hts (.fieldLink RX9 81 "DripStone$Ways" "places" "I") (by decide +kernel)) (fun _ h9 => h9) rfl dX9_goForward_6 ?_
  refine lv_topi (fun zi_2 ezi_2 => ?_)
  have tzi_2 : 0 ≤ zi_2.toInt ∧ zi_2.toInt ≤ 12 := by rw [ezi_2]; exact h_zI.at t_zw _ rfl
  have lzi_2 : (zI zw 14).toInt = zi_2.toInt := by rw [ezi_2]
  refine lv_if_ne (tgt := 13) hx hb dX9_goForward_9 (by decide) (fun c_3 => ?_) (fun c_3 => ?_)
  · have f_4 : zi_2.toInt ≠ 0 := ic_ne (rfl) (by decide) c_3
    refine lv_aload_n hx hb dX9_goForward_13 rfl (lv_at hl 0 rfl) ?_
    refine ht_getr (C := RX9) (T := TX9) (N := 16) hx hb hts (by decide +kernel) hown hK hP hs t_zw (by decide) rfl rfl 7 (by decide) (hts (.fieldLink RX9 35 "DripStone$Ways" "fore" "[[J") (by decide +kernel)) (fun _ h9 => h9) rfl dX9_goForward_14 ?_
    have t_5 : zT (zR zw 7) = 65 := sk_f hs t_zw (by decide) rfl (by decide)
    refine lv_iconst (v := 0) hx hb dX9_goForward_17 (by decide) ?_
    refine ht_aaldA (n := 12) (q := 8) hx hb hK hP hs t_5 (by decide) rfl rfl ⟨by decide, by decide⟩ dX9_goForward_18 ?_
    have t_6 : zT (zR (zR zw 7) (0 : Int32).toNatClampNeg) = 50 := sk_a (n := 12) hs t_5 rfl rfl (by decide) (by decide)
    refine lv_lconst (v := 0) hx hb dX9_goForward_19 (by decide) ?_
    refine hj_v (ws := (WL cy zL zT zR zI zJ_1)) (w1 := fun (u : (Nat → Nat → Int64)) => (WL cy zL zT zR zI u)) (va_runS (As := [.ref (zR (zR zw 7) (0 : Int32).toNatClampNeg), .long 0]) (rest := []) ⟨hx, hb, hml, hown, hts⟩ (t_fill_50 l dC dI cy H.size zL zT zR zI zJ_1 (zR (zR zw 7) (0 : Int32).toNatClampNeg) (0 : Int64) hs h_zI.1 t_6) (va_cwS 2 hts gX9_goForward_J7_fill_d0a16 rfl rfl rfl (by decide +kernel) ⟨(Nat.le_of_ble_eq_true rfl), (Nat.le_of_ble_eq_true rfl)⟩) (PRE.s hP hK hD hN) rfl rfl hl.1 rfl (lv_room (Nat.le_of_ble_eq_true rfl)) dX9_goForward_20 ⟨(Nat.le_of_ble_eq_true rfl), (Nat.le_of_ble_eq_true rfl)⟩) hP hD hS hA (fun zJ_10 H locs hw_8 hP hD hS => ?_)
    refine lv_aload_n hx hb dX9_goForward_23 rfl (lv_at hl 0 rfl) ?_
    refine lv_aload_n hx hb dX9_goForward_24 rfl (lv_at hl 0 rfl) ?_
    refine ht_getr (C := RX9) (T := TX9) (N := 16) hx hb hts (by decide +kernel) hown hK hP hs t_zw (by decide) rfl rfl 7 (by decide) (hts (.fieldLink RX9 35 "DripStone$Ways" "fore" "[[J") (by decide +kernel)) (fun _ h9 => h9) rfl dX9_goForward_25 ?_
    refine lv_iconst (v := 0) hx hb dX9_goForward_28 (by decide) ?_
    refine ht_aaldA (n := 12) (q := 8) hx hb hK hP hs t_5 (by decide) rfl rfl ⟨by decide, by decide⟩ dX9_goForward_29 ?_
    refine lv_aload_n hx hb dX9_goForward_30 rfl (lv_at hl 0 rfl) ?_
    refine ht_getr (C := RX9) (T := TX9) (N := 16) hx hb hts (by decide +kernel) hown hK hP hs t_zw (by decide) rfl rfl 10 (by decide) (hts (.fieldLink RX9 45 "DripStone$Ways" "unmarked" "[I") (by decide +kernel)) (fun _ h9 => h9) rfl dX9_goForward_31 ?_
    have t_11 : zT (zR zw 10) = 43 := sk_f hs t_zw (by decide) rfl (by decide)
    refine hj_v (ws := (WL cy zL zT zR zI zJ_10)) (w1 := fun (u : (Nat → Nat → Int64)) => (WL cy zL zT zR zI u)) (va_runV (As := [.ref (zR (zR zw 7) (0 : Int32).toNatClampNeg), .ref (zR zw 10)]) (rest := []) ⟨hx, hb, hml, hown, hts⟩ (t_X9_start_a l dC dI cy H.size zL zT zR zI zJ_10 zw (zR (zR zw 7) (0 : Int32).toNatClampNeg) (zR zw 10) hs h_zI.1 t_zw t_6 t_11) (cwV 2 hts gX9_goForward_X9_start rfl rfl rfl (by decide +kernel) ⟨(Nat.le_of_ble_eq_true rfl), (Nat.le_of_ble_eq_true rfl)⟩) (PRE.v hP hK hD hN (ht_recv hK hP hs t_zw (by decide) rfl rfl)) rfl rfl hl.1 rfl (lv_room (Nat.le_of_ble_eq_true rfl)) dX9_goForward_34 ⟨(Nat.le_of_ble_eq_true rfl), (Nat.le_of_ble_eq_true rfl)⟩) hP hD hS hA (fun zJ_15 H locs hw_13 hP hD hS => ?_)
    refine lv_iconst (v := 1) hx hb dX9_goForward_37 (by decide) ?_
    refine lv_istore_n (lv' := [(1, .int 1), (0, .ref zw)]) hx hb dX9_goForward_38 rfl hl (by decide) rfl (fun ls hl => ?_)
    have lp_100 : ∀ (n : Nat) (zi_82 : Int32) (zJ_83 : Nat → Nat → Int64) (H : Heap) (locs : List Loc) (ls : Array Slot), (12 - zi_82.toInt).toNat = n → (1 ≤ zi_82.toInt ∧ zi_82.toInt ≤ 12) → va_P (dC, dI) vwCl (WL cy zL zT zR zI zJ_83) H → va_D A (WL cy zL zT zR zI zJ_83) → va_S A s.heap H locs → lv_has ls 2 [(0, .ref zw), (1, .int zi_82)] → W p l e ({ frames := 2, cells := 0, slots := 0, locals := 61 } : Room) s m ([.ref zw] : List Value).toArray below meth c H locs 0 0 Q (F0 m 39 ls []) := by
      intro n
      induction n using Nat.strongRecOn with
      | _ n ih_100 =>
        intro zi_82 zJ_83 H locs ls hn b_zi_82 hP hD hS hl
        refine lv_iload_n hx hb dX9_goForward_39 rfl (lv_at hl 1 rfl) ?_
        refine lv_aload_n hx hb dX9_goForward_40 rfl (lv_at hl 0 rfl) ?_
        refine ht_geti (C := RX9) (T := TX9) (N := 16) hx hb hts (by decide +kernel) hown hK hP hs t_zw (by decide) rfl rfl 14 (by decide) (hts (.fieldLink RX9 81 "DripStone$Ways" "places" "I") (by decide +kernel)) (fun _ h9 => h9) rfl dX9_goForward_41 ?_
        refine lv_topi (fun zi_101 ezi_101 => ?_)
        obtain rfl : zi_2 = zi_101 := (ezi_101.trans ezi_2.symm).symm
        refine lv_icmp_ge (tgt := 86) hx hb dX9_goForward_44 (by decide) (fun c_102 => ?_) (fun c_102 => ?_)
        · have f_103 : zi_82.toInt ≥ zi_2.toInt := ic_ge (rfl) (rfl) c_102
          refine lv_iconst (v := 0) hx hb dX9_goForward_86 (by decide) ?_
          refine lv_istore_n (lv' := [(1, .int 0), (0, .ref zw)]) hx hb dX9_goForward_87 rfl hl (by decide) rfl (fun ls hl => ?_)
          have lp_158 : ∀ (n : Nat) (zi_146 : Int32) (zJ_147 : Nat → Nat → Int64) (H : Heap) (locs : List Loc) (ls : Array Slot), (96 - zi_146.toInt).toNat = n → (0 ≤ zi_146.toInt ∧ zi_146.toInt ≤ 96) → va_P (dC, dI) vwCl (WL cy zL zT zR zI zJ_147) H → va_D A (WL cy zL zT zR zI zJ_147) → va_S A s.heap H locs → lv_has ls 2 [(0, .ref zw), (1, .int zi_146)] → W p l e ({ frames := 2, cells := 0, slots := 0, locals := 61 } : Room) s m ([.ref zw] : List Value).toArray below meth c H locs 0 0 Q (F0 m 88 ls []) := by
            intro n
            induction n using Nat.strongRecOn with
            | _ n ih_158 =>
              intro zi_146 zJ_147 H locs ls hn b_zi_146 hP hD hS hl
              refine lv_iload_n hx hb dX9_goForward_88 rfl (lv_at hl 1 rfl) ?_
              refine lv_bipush (v := 96) hx hb dX9_goForward_89 (by decide) ?_
              refine lv_icmp_ge (tgt := 122) hx hb dX9_goForward_91 (by decide) (fun c_159 => ?_) (fun c_159 => ?_)
              · have f_160 : zi_146.toInt ≥ (96 : Int) := ic_ge (rfl) (show (96 : Int32).toInt = 96 by decide) c_159
                subst hQ
                exact W.vret hx hb hr (fun t ht hW => ⟨⟨zJ_147, rfl, trivial, ⟨by rw [ht]; exact hP, va_K.moved hW.alike hK, hD⟩⟩, hS.F ht⟩) hS.2.2 dX9_goForward_122
              · have f_160 : ¬ (zi_146.toInt ≥ (96 : Int)) := ic_nge (rfl) (show (96 : Int32).toInt = 96 by decide) c_159
                refine lv_aload_n hx hb dX9_goForward_94 rfl (lv_at hl 0 rfl) ?_
                refine lv_dup hx hb dX9_goForward_95 rfl ?_
                refine ht_getl (C := RX9) (T := TX9) (N := 16) hx hb hts (by decide +kernel) hown hK hP hs t_zw (by decide) rfl rfl 15 (by decide) (hts (.fieldLink RX9 121 "DripStone$Ways" "total" "J") (by decide +kernel)) (fun _ h9 => h9) rfl dX9_goForward_96 ?_
                refine lv_topl (fun zj_161 ezj_161 => ?_)
                refine lv_aload_n hx hb dX9_goForward_99 rfl (lv_at hl 0 rfl) ?_
                refine ht_getr (C := RX9) (T := TX9) (N := 16) hx hb hts (by decide +kernel) hown hK hP hs t_zw (by decide) rfl rfl 7 (by decide) (hts (.fieldLink RX9 35 "DripStone$Ways" "fore" "[[J") (by decide +kernel)) (fun _ h9 => h9) rfl dX9_goForward_100 ?_
                refine lv_aload_n hx hb dX9_goForward_103 rfl (lv_at hl 0 rfl) ?_
                refine ht_geti (C := RX9) (T := TX9) (N := 16) hx hb hts (by decide +kernel) hown hK hP hs t_zw (by decide) rfl rfl 14 (by decide) (hts (.fieldLink RX9 81 "DripStone$Ways" "places" "I") (by decide +kernel)) (fun _ h9 => h9) rfl dX9_goForward_104 ?_
                refine lv_topi (fun zi_162 ezi_162 => ?_)
                obtain rfl : zi_2 = zi_162 := (ezi_162.trans ezi_2.symm).symm
                refine lv_iconst (v := 1) hx hb dX9_goForward_107 (by decide) ?_
                refine lv_isub hx hb dX9_goForward_108 ?_
                refine lv_topi (fun zi_163 ezi_163 => ?_)
                have tzi_163 : zi_163.toInt = zi_2.toInt - (1 : Int) := by rw [ezi_163]; exact tisub (rfl) (show (1 : Int32).toInt = 1 by decide) (by omega) (by omega)
                refine ht_aaldA (n := 12) (q := 8) hx hb hK hP hs t_5 (by decide) rfl rfl ⟨by omega, by omega⟩ dX9_goForward_109 ?_
                have t_164 : zT (zR (zR zw 7) zi_163.toNatClampNeg) = 50 := sk_a (n := 12) hs t_5 rfl rfl (by decide) (cl_lt (by omega) (by omega))
                refine lv_iload_n hx hb dX9_goForward_110 rfl (lv_at hl 1 rfl) ?_
                refine ht_lald (n := 96) (q := 1) hx hb hK hP hs t_164 (by decide) rfl rfl ⟨by omega, by omega⟩ dX9_goForward_111 ?_
                refine lv_topl (fun zj_165 ezj_165 => ?_)
                refine lv_ladd hx hb dX9_goForward_112 ?_
                refine lv_topl (fun zj_166 ezj_166 => ?_)
                refine ht_putl (v := zj_166) (ty := .long) (C := RX9) (T := TX9) (N := 16) hx hb hts (by decide +kernel) tyX9 tyX9_ok nmX9 hown hK hP hD hS hs t_zw (by decide) rfl rfl 15 (by decide) (hts (.fieldLink RX9 121 "DripStone$Ways" "total" "J") (by decide +kernel)) (fun _ h9 => h9) rfl (by decide +kernel) rfl rfl rfl dX9_goForward_113 (fun H locs hP hD hS => ?_)
                generalize uzJ_167 : u2 zJ_147 zw 15 zj_166 = zJ_167 at hP hD
                obtain ⟨zi_168, ezi_168⟩ : ∃ y : Int32, y = zi_146 + 1 := ⟨_, rfl⟩
                have tzi_168 : zi_168.toInt = zi_146.toInt + 1 := by rw [ezi_168]; exact tadd rfl (show (1 : Int32).toInt = 1 by decide) (by omega) (by omega)
                refine lv_iinc (v := zi_168) (lv' := [(1, .int zi_168), (0, .ref zw)]) hx hb dX9_goForward_116 hl (k := 1) rfl (by rw [ezi_168]; rfl) (by decide) rfl (fun ls hl => ?_)
                refine lv_goto (tgt := 88) hx hb dX9_goForward_119 (by decide) ?_
                exact ih_158 (96 - zi_168.toInt).toNat (by omega) zi_168 zJ_167 _ _ _ rfl (by omega) hP hD hS (lv_sub hl [1, 0] rfl)
          exact lp_158 _ (0 : Int32) zJ_83 _ _ _ rfl (by decide) hP hD hS (lv_sub hl [1, 0] rfl)
        · have f_103 : ¬ (zi_82.toInt ≥ zi_2.toInt) := ic_nge (rfl) (rfl) c_102
          refine lv_aload_n hx hb dX9_goForward_47 rfl (lv_at hl 0 rfl) ?_
          refine ht_getr (C := RX9) (T := TX9) (N := 16) hx hb hts (by decide +kernel) hown hK hP hs t_zw (by decide) rfl rfl 7 (by decide) (hts (.fieldLink RX9 35 "DripStone$Ways" "fore" "[[J") (by decide +kernel)) (fun _ h9 => h9) rfl dX9_goForward_48 ?_
          refine lv_iload_n hx hb dX9_goForward_51 rfl (lv_at hl 1 rfl) ?_
          refine ht_aaldA (n := 12) (q := 8) hx hb hK hP hs t_5 (by decide) rfl rfl ⟨by omega, by omega⟩ dX9_goForward_52 ?_
          have t_169 : zT (zR (zR zw 7) zi_82.toNatClampNeg) = 50 := sk_a (n := 12) hs t_5 rfl rfl (by decide) (cl_lt (by omega) (by omega))
          refine lv_lconst (v := 0) hx hb dX9_goForward_53 (by decide) ?_
          refine hj_v (ws := (WL cy zL zT zR zI zJ_83)) (w1 := fun (u : (Nat → Nat → Int64)) => (WL cy zL zT zR zI u)) (va_runS (As := [.ref (zR (zR zw 7) zi_82.toNatClampNeg), .long 0]) (rest := []) ⟨hx, hb, hml, hown, hts⟩ (t_fill_50 l dC dI cy H.size zL zT zR zI zJ_83 (zR (zR zw 7) zi_82.toNatClampNeg) (0 : Int64) hs h_zI.1 t_169) (va_cwS 2 hts gX9_goForward_J7_fill_d0a16 rfl rfl rfl (by decide +kernel) ⟨(Nat.le_of_ble_eq_true rfl), (Nat.le_of_ble_eq_true rfl)⟩) (PRE.s hP hK hD hN) rfl rfl hl.1 rfl (lv_room (Nat.le_of_ble_eq_true rfl)) dX9_goForward_54 ⟨(Nat.le_of_ble_eq_true rfl), (Nat.le_of_ble_eq_true rfl)⟩) hP hD hS hA (fun zJ_173 H locs hw_171 hP hD hS => ?_)
          refine lv_aload_n hx hb dX9_goForward_57 rfl (lv_at hl 0 rfl) ?_
          refine lv_aload_n hx hb dX9_goForward_58 rfl (lv_at hl 0 rfl) ?_
          refine ht_getr (C := RX9) (T := TX9) (N := 16) hx hb hts (by decide +kernel) hown hK hP hs t_zw (by decide) rfl rfl 7 (by decide) (hts (.fieldLink RX9 35 "DripStone$Ways" "fore" "[[J") (by decide +kernel)) (fun _ h9 => h9) rfl dX9_goForward_59 ?_
          refine lv_iload_n hx hb dX9_goForward_62 rfl (lv_at hl 1 rfl) ?_
          refine lv_iconst (v := 1) hx hb dX9_goForward_63 (by decide) ?_
          refine lv_isub hx hb dX9_goForward_64 ?_
          refine lv_topi (fun zi_174 ezi_174 => ?_)
          have tzi_174 : zi_174.toInt = zi_82.toInt - (1 : Int) := by rw [ezi_174]; exact tisub (rfl) (show (1 : Int32).toInt = 1 by decide) (by omega) (by omega)
          refine ht_aaldA (n := 12) (q := 8) hx hb hK hP hs t_5 (by decide) rfl rfl ⟨by omega, by omega⟩ dX9_goForward_65 ?_
          have t_175 : zT (zR (zR zw 7) zi_174.toNatClampNeg) = 50 := sk_a (n := 12) hs t_5 rfl rfl (by decide) (cl_lt (by omega) (by omega))
          refine lv_aload_n hx hb dX9_goForward_66 rfl (lv_at hl 0 rfl) ?_
          refine ht_getr (C := RX9) (T := TX9) (N := 16) hx hb hts (by decide +kernel) hown hK hP hs t_zw (by decide) rfl rfl 7 (by decide) (hts (.fieldLink RX9 35 "DripStone$Ways" "fore" "[[J") (by decide +kernel)) (fun _ h9 => h9) rfl dX9_goForward_67 ?_
          refine lv_iload_n hx hb dX9_goForward_70 rfl (lv_at hl 1 rfl) ?_
          refine ht_aaldA (n := 12) (q := 8) hx hb hK hP hs t_5 (by decide) rfl rfl ⟨by omega, by omega⟩ dX9_goForward_71 ?_
          refine lv_iload_n hx hb dX9_goForward_72 rfl (lv_at hl 1 rfl) ?_
          refine lv_aload_n hx hb dX9_goForward_73 rfl (lv_at hl 0 rfl) ?_
          refine ht_getr (C := RX9) (T := TX9) (N := 16) hx hb hts (by decide +kernel) hown hK hP hs t_zw (by decide) rfl rfl 10 (by decide) (hts (.fieldLink RX9 45 "DripStone$Ways" "unmarked" "[I") (by decide +kernel)) (fun _ h9 => h9) rfl dX9_goForward_74 ?_
          have lk_176 : (zI zw 14).toInt = zi_2.toInt := congrArg Int32.toInt ezi_2.symm
          refine hj_v (ws := (WL cy zL zT zR zI zJ_173)) (w1 := fun (u : (Nat → Nat → Int64)) => (WL cy zL zT zR zI u)) (va_runV (As := [.ref (zR (zR zw 7) zi_174.toNatClampNeg), .ref (zR (zR zw 7) zi_82.toNatClampNeg), .int zi_82, .ref (zR zw 10)]) (rest := []) ⟨hx, hb, hml, hown, hts⟩ (t_X9_advance_a l dC dI cy H.size zL zT zR zI zJ_173 zw (zR (zR zw 7) zi_174.toNatClampNeg) (zR (zR zw 7) zi_82.toNatClampNeg) zi_82 (zR zw 10) hs h_zI.1 t_zw t_175 t_169 t_11 (by omega) (by omega)) (cwV 4 hts gX9_goForward_X9_advance rfl rfl rfl (by decide +kernel) ⟨(Nat.le_of_ble_eq_true rfl), (Nat.le_of_ble_eq_true rfl)⟩) (PRE.v hP hK hD hN (ht_recv hK hP hs t_zw (by decide) rfl rfl)) rfl rfl hl.1 rfl (lv_room (Nat.le_of_ble_eq_true rfl)) dX9_goForward_77 ⟨(Nat.le_of_ble_eq_true rfl), (Nat.le_of_ble_eq_true rfl)⟩) hP hD hS hA (fun zJ_180 H locs hw_178 hP hD hS => ?_)
          obtain ⟨zi_181, ezi_181⟩ : ∃ y : Int32, y = zi_82 + 1 := ⟨_, rfl⟩
          have tzi_181 : zi_181.toInt = zi_82.toInt + 1 := by rw [ezi_181]; exact tadd rfl (show (1 : Int32).toInt = 1 by decide) (by omega) (by omega)
          refine lv_iinc (v := zi_181) (lv' := [(1, .int zi_181), (0, .ref zw)]) hx hb dX9_goForward_80 hl (k := 1) rfl (by rw [ezi_181]; rfl) (by decide) rfl (fun ls hl => ?_)
          refine lv_goto (tgt := 39) hx hb dX9_goForward_83 (by decide) ?_
          exact ih_100 (12 - zi_181.toInt).toNat (by omega) zi_181 zJ_180 _ _ _ rfl (by omega) hP hD hS (lv_sub hl [1, 0] rfl)
    exact lp_100 _ (1 : Int32) zJ_15 _ _ _ rfl (by decide) hP hD hS (lv_sub hl [1, 0] rfl)
  · have f_4 : ¬ (zi_2.toInt ≠ 0) := ic_nne (rfl) (by decide) c_3
    subst hQ
    exact W.vret hx hb hr (fun t ht hW => ⟨⟨zJ_1, rfl, trivial, ⟨by rw [ht]; exact hP, va_K.moved hW.alike hK, hD⟩⟩, hS.F ht⟩) hS.2.2 dX9_goForward_12
set_option maxHeartbeats 8000000 in
set_option maxRecDepth 100000 in
theorem t_X9_goBack (l : Launch) (dC : Nat → ClassId) (dI : Nat → Nat → Nat) (cy : Nat → ClassId) (sz : Nat) (zL : List Nat) (zT : Nat → Nat) (zR : Nat → Nat → Nat) (zI : Nat → Nat → Int32) (zJ : Nat → Nat → Int64) (zw : Nat) (hs : SKP zL zT zR) (hw : WT zT zR zI) (t_zw : zT zw = 10) : Met l yX9_goBack wsX9_goBack ({ frames := 3, cells := 0, slots := 0, locals := 78 } : Room) (va_Pc [.ref zw] (PRE dC dI cy (WL cy zL zT zR zI zJ) sz)) (va_Qv (fun (u : (Nat → Nat → Int64)) => True) (fun u t => POST dC dI cy (va_A (WL cy zL zT zR zI zJ) sz) (WL cy zL zT zR zI u) t) (va_A (WL cy zL zT zR zI zJ) sz)) 0 0 (va_A (WL cy zL zT zR zI zJ) sz) := by
  refine Met.ofW (cc := cX9_goBack) (maxL := 2) (ret := none) (by decide) rfl ?_
  intro p e s m args below meth c s₁ B hml hv
  obtain ⟨rfl, hsz, hP, hK, hD0, hN⟩ := hv
  have hx := B.exec
  have hb := B.bytes
  have hr := B.returns
  have hts := atoms_spec (ws := wsX9_goBack) B.pre
  have hown : s.vm.findClass RX9 = some m.cls := findClass_of_methodNamed B.named
  have hlocks := B.notSynchronized
  subst hsz
  have hD := hD0.self (sz := s.heap.size)
  generalize hAe : va_A (WL cy zL zT zR zI zJ) s.heap.size = A at hD ⊢
  have hA : ∀ q : Nat, s.heap.size ≤ q → A q := fun q h => by rw [← hAe]; exact Or.inr h
  have hS : va_S A s.heap s.heap [] := va_S.rf
  have hP : va_P (dC, dI) vwCl (WL cy zL zT zR zI zJ) s.heap := hP
  have hl := lv_entry ([.ref zw] : List Value) (n := 2) (Nat.le_of_ble_eq_true rfl)
  rw [lg_entry_eq]
  generalize (lg_sl ([.ref zw] : List Value) ++ List.replicate (2 - (lg_sl ([.ref zw] : List Value)).length) Slot.unset).toArray = ls at hl ⊢
  have hl : lv_has ls 2 [(0, .ref zw)] := hl
  refine w_q (fun Q hQ => ?_)
  have h_zI : WM [] AL zT zR zI zI := WM.rf hw
  refine lv_aload_n hx hb dX9_goBack_0 rfl (lv_at hl 0 rfl) ?_
  refine ht_geti (C := RX9) (T := TX9) (N := 16) hx hb hts (by decide +kernel) hown hK hP hs t_zw (by decide) rfl rfl 14 (by decide) (hts (.fieldLink RX9 81 "DripStone$Ways" "places" "I") (by decide +kernel)) (fun _ h9 => h9) rfl dX9_goBack_1 ?_
  refine lv_topi (fun zi_1 ezi_1 => ?_)
  have tzi_1 : 0 ≤ zi_1.toInt ∧ zi_1.toInt ≤ 12 := by rw [ezi_1]; exact h_zI.at t_zw _ rfl
  have jn_13 : ∀ (zJ_12 : Nat → Nat → Int64) (H : Heap) (locs : List Loc) (ls : Array Slot), va_P (dC, dI) vwCl (WL cy zL zT zR zI zJ_12) H → va_D A (WL cy zL zT zR zI zJ_12) → va_S A s.heap H locs → lv_has ls 2 [(0, .ref zw)] → W p l e ({ frames := 3, cells := 0, slots := 0, locals := 78 } : Room) s m ([.ref zw] : List Value).toArray below meth c H locs 0 0 Q (F0 m 22 ls []) := by
    intro zJ_12 H locs ls  hP hD hS hl
    refine lv_aload_n hx hb dX9_goBack_22 rfl (lv_at hl 0 rfl) ?_
    refine ht_geti (C := RX9) (T := TX9) (N := 16) hx hb hts (by decide +kernel) hown hK hP hs t_zw (by decide) rfl rfl 14 (by decide) (hts (.fieldLink RX9 81 "DripStone$Ways" "places" "I") (by decide +kernel)) (fun _ h9 => h9) rfl dX9_goBack_23 ?_
    refine lv_topi (fun zi_14 ezi_14 => ?_)
    obtain rfl : zi_1 = zi_14 := (ezi_14.trans ezi_1.symm).symm
    refine lv_iconst (v := 1) hx hb dX9_goBack_26 (by decide) ?_
    refine lv_isub hx hb dX9_goBack_27 ?_
    refine lv_topi (fun zi_15 ezi_15 => ?_)
    have tzi_15 : zi_15.toInt = zi_1.toInt - (1 : Int) := by rw [ezi_15]; exact tisub (rfl) (show (1 : Int32).toInt = 1 by decide) (by omega) (by omega)
    refine lv_istore_n (lv' := [(1, .int zi_15), (0, .ref zw)]) hx hb dX9_goBack_28 rfl hl (by decide) rfl (fun ls hl => ?_)
    have lp_51 : ∀ (n : Nat) (zi_27 : Int32) (zJ_28 : Nat → Nat → Int64) (H : Heap) (locs : List Loc) (ls : Array Slot), (zi_27.toInt + 1).toNat = n → ((-1) ≤ zi_27.toInt ∧ zi_27.toInt ≤ 11) → va_P (dC, dI) vwCl (WL cy zL zT zR zI zJ_28) H → va_D A (WL cy zL zT zR zI zJ_28) → va_S A s.heap H locs → lv_has ls 2 [(0, .ref zw), (1, .int zi_27)] → W p l e ({ frames := 3, cells := 0, slots := 0, locals := 78 } : Room) s m ([.ref zw] : List Value).toArray below meth c H locs 0 0 Q (F0 m 29 ls []) := by
      intro n
      induction n using Nat.strongRecOn with
      | _ n ih_51 =>
        intro zi_27 zJ_28 H locs ls hn b_zi_27 hP hD hS hl
        refine lv_iload_n hx hb dX9_goBack_29 rfl (lv_at hl 1 rfl) ?_
        refine lv_if_le (tgt := 58) hx hb dX9_goBack_30 (by decide) (fun c_52 => ?_) (fun c_52 => ?_)
        · have f_53 : zi_27.toInt ≤ 0 := ic_le (rfl) (by decide) c_52
          subst hQ
          exact W.vret hx hb hr (fun t ht hW => ⟨⟨zJ_28, rfl, trivial, ⟨by rw [ht]; exact hP, va_K.moved hW.alike hK, hD⟩⟩, hS.F ht⟩) hS.2.2 dX9_goBack_58
        · have f_53 : ¬ (zi_27.toInt ≤ 0) := ic_nle (rfl) (by decide) c_52
          refine lv_aload_n hx hb dX9_goBack_33 rfl (lv_at hl 0 rfl) ?_
          refine lv_aload_n hx hb dX9_goBack_34 rfl (lv_at hl 0 rfl) ?_
          refine ht_getr (C := RX9) (T := TX9) (N := 16) hx hb hts (by decide +kernel) hown hK hP hs t_zw (by decide) rfl rfl 8 (by decide) (hts (.fieldLink RX9 38 "DripStone$Ways" "back" "[[J") (by decide +kernel)) (fun _ h9 => h9) rfl dX9_goBack_35 ?_
          have t_54 : zT (zR zw 8) = 65 := sk_f hs t_zw (by decide) rfl (by decide)
          refine lv_iload_n hx hb dX9_goBack_38 rfl (lv_at hl 1 rfl) ?_
          refine ht_aaldA (n := 12) (q := 8) hx hb hK hP hs t_54 (by decide) rfl rfl ⟨by omega, by omega⟩ dX9_goBack_39 ?_
          have t_55 : zT (zR (zR zw 8) zi_27.toNatClampNeg) = 50 := sk_a (n := 12) hs t_54 rfl rfl (by decide) (cl_lt (by omega) (by omega))
          refine lv_aload_n hx hb dX9_goBack_40 rfl (lv_at hl 0 rfl) ?_
          refine ht_getr (C := RX9) (T := TX9) (N := 16) hx hb hts (by decide +kernel) hown hK hP hs t_zw (by decide) rfl rfl 8 (by decide) (hts (.fieldLink RX9 38 "DripStone$Ways" "back" "[[J") (by decide +kernel)) (fun _ h9 => h9) rfl dX9_goBack_41 ?_
          refine lv_iload_n hx hb dX9_goBack_44 rfl (lv_at hl 1 rfl) ?_
          refine lv_iconst (v := 1) hx hb dX9_goBack_45 (by decide) ?_
          refine lv_isub hx hb dX9_goBack_46 ?_
          refine lv_topi (fun zi_56 ezi_56 => ?_)
          have tzi_56 : zi_56.toInt = zi_27.toInt - (1 : Int) := by rw [ezi_56]; exact tisub (rfl) (show (1 : Int32).toInt = 1 by decide) (by omega) (by omega)
          refine ht_aaldA (n := 12) (q := 8) hx hb hK hP hs t_54 (by decide) rfl rfl ⟨by omega, by omega⟩ dX9_goBack_47 ?_
          have t_57 : zT (zR (zR zw 8) zi_56.toNatClampNeg) = 50 := sk_a (n := 12) hs t_54 rfl rfl (by decide) (cl_lt (by omega) (by omega))
          refine lv_iload_n hx hb dX9_goBack_48 rfl (lv_at hl 1 rfl) ?_
          refine hj_v (ws := (WL cy zL zT zR zI zJ_28)) (w1 := fun (u : (Nat → Nat → Int64)) => (WL cy zL zT zR zI u)) (va_runV (As := [.ref (zR (zR zw 8) zi_27.toNatClampNeg), .ref (zR (zR zw 8) zi_56.toNatClampNeg), .int zi_27]) (rest := []) ⟨hx, hb, hml, hown, hts⟩ (t_X9_retreat l dC dI cy H.size zL zT zR zI zJ_28 zw (zR (zR zw 8) zi_27.toNatClampNeg) (zR (zR zw 8) zi_56.toNatClampNeg) zi_27 hs h_zI.1 t_zw t_55 t_57 (by omega)) (cwV 3 hts gX9_goBack_X9_retreat rfl rfl rfl (by decide +kernel) ⟨(Nat.le_of_ble_eq_true rfl), (Nat.le_of_ble_eq_true rfl)⟩) (PRE.v hP hK hD hN (ht_recv hK hP hs t_zw (by decide) rfl rfl)) rfl rfl hl.1 rfl (lv_room (Nat.le_of_ble_eq_true rfl)) dX9_goBack_49 ⟨(Nat.le_of_ble_eq_true rfl), (Nat.le_of_ble_eq_true rfl)⟩) hP hD hS hA (fun zJ_61 H locs hw_59 hP hD hS => ?_)
          obtain ⟨zi_62, ezi_62⟩ : ∃ y : Int32, y = zi_27 + (-1) := ⟨_, rfl⟩
          have tzi_62 : zi_62.toInt = zi_27.toInt + (-1) := by rw [ezi_62]; exact tadd rfl (show ((-1) : Int32).toInt = -1 by decide) (by omega) (by omega)
          refine lv_iinc (v := zi_62) (lv' := [(1, .int zi_62), (0, .ref zw)]) hx hb dX9_goBack_52 hl (k := 1) rfl (by rw [ezi_62]; rfl) (by decide) rfl (fun ls hl => ?_)
          refine lv_goto (tgt := 29) hx hb dX9_goBack_55 (by decide) ?_
          exact ih_51 (zi_62.toInt + 1).toNat (by omega) zi_62 zJ_61 _ _ _ rfl (by omega) hP hD hS (lv_sub hl [1, 0] rfl)
    exact lp_51 _ zi_15 zJ_12 _ _ _ rfl (by omega) hP hD hS (lv_sub hl [1, 0] rfl)
  refine lv_if_le (tgt := 22) hx hb dX9_goBack_4 (by decide) (fun c_63 => ?_) (fun c_63 => ?_)
  · have f_64 : zi_1.toInt ≤ 0 := ic_le (rfl) (by decide) c_63
    exact jn_13 zJ _ _ _  hP hD hS (lv_sub hl [0] rfl)
  · have f_64 : ¬ (zi_1.toInt ≤ 0) := ic_nle (rfl) (by decide) c_63
    refine lv_aload_n hx hb dX9_goBack_7 rfl (lv_at hl 0 rfl) ?_
    refine ht_getr (C := RX9) (T := TX9) (N := 16) hx hb hts (by decide +kernel) hown hK hP hs t_zw (by decide) rfl rfl 8 (by decide) (hts (.fieldLink RX9 38 "DripStone$Ways" "back" "[[J") (by decide +kernel)) (fun _ h9 => h9) rfl dX9_goBack_8 ?_
    have t_65 : zT (zR zw 8) = 65 := sk_f hs t_zw (by decide) rfl (by decide)
    refine lv_aload_n hx hb dX9_goBack_11 rfl (lv_at hl 0 rfl) ?_
    refine ht_geti (C := RX9) (T := TX9) (N := 16) hx hb hts (by decide +kernel) hown hK hP hs t_zw (by decide) rfl rfl 14 (by decide) (hts (.fieldLink RX9 81 "DripStone$Ways" "places" "I") (by decide +kernel)) (fun _ h9 => h9) rfl dX9_goBack_12 ?_
    refine lv_topi (fun zi_66 ezi_66 => ?_)
    obtain rfl : zi_1 = zi_66 := (ezi_66.trans ezi_1.symm).symm
    refine lv_iconst (v := 1) hx hb dX9_goBack_15 (by decide) ?_
    refine lv_isub hx hb dX9_goBack_16 ?_
    refine lv_topi (fun zi_67 ezi_67 => ?_)
    have tzi_67 : zi_67.toInt = zi_1.toInt - (1 : Int) := by rw [ezi_67]; exact tisub (rfl) (show (1 : Int32).toInt = 1 by decide) (by omega) (by omega)
    refine ht_aaldA (n := 12) (q := 8) hx hb hK hP hs t_65 (by decide) rfl rfl ⟨by omega, by omega⟩ dX9_goBack_17 ?_
    have t_68 : zT (zR (zR zw 8) zi_67.toNatClampNeg) = 50 := sk_a (n := 12) hs t_65 rfl rfl (by decide) (cl_lt (by omega) (by omega))
    refine lv_lconst (v := 1) hx hb dX9_goBack_18 (by decide) ?_
    refine hj_v (ws := (WL cy zL zT zR zI zJ)) (w1 := fun (u : (Nat → Nat → Int64)) => (WL cy zL zT zR zI u)) (va_runS (As := [.ref (zR (zR zw 8) zi_67.toNatClampNeg), .long 1]) (rest := []) ⟨hx, hb, hml, hown, hts⟩ (t_fill_50 l dC dI cy s.heap.size zL zT zR zI zJ (zR (zR zw 8) zi_67.toNatClampNeg) (1 : Int64) hs h_zI.1 t_68) (va_cwS 2 hts gX9_goBack_J7_fill_d0a16 rfl rfl rfl (by decide +kernel) ⟨(Nat.le_of_ble_eq_true rfl), (Nat.le_of_ble_eq_true rfl)⟩) (PRE.s hP hK hD hN) rfl rfl hl.1 rfl (lv_room (Nat.le_of_ble_eq_true rfl)) dX9_goBack_19 ⟨(Nat.le_of_ble_eq_true rfl), (Nat.le_of_ble_eq_true rfl)⟩) hP hD hS hA (fun zJ_72 H locs hw_70 hP hD hS => ?_)
    exact jn_13 zJ_72 _ _ _  hP hD hS (lv_sub hl [0] rfl)
set_option maxHeartbeats 8000000 in
set_option maxRecDepth 100000 in
theorem t_X9_meeting (l : Launch) (dC : Nat → ClassId) (dI : Nat → Nat → Nat) (cy : Nat → ClassId) (sz : Nat) (zL : List Nat) (zT : Nat → Nat) (zR : Nat → Nat → Nat) (zI : Nat → Nat → Int32) (zJ : Nat → Nat → Int64) (zw : Nat) (zx1 : Nat) (zip : Int32) (ziy : Int32) (hs : SKP zL zT zR) (hw : WT zT zR zI) (t_zw : zT zw = 10) (t_zx1 : zT zx1 = 50) (b_zip : 0 ≤ zip.toInt ∧ zip.toInt ≤ 11) (b_ziy : 0 ≤ ziy.toInt ∧ ziy.toInt ≤ 23) : Met l yX9_meeting wsX9_meeting ({ frames := 0, cells := 0, slots := 0, locals := 0 } : Room) (va_Pc [.ref zw, .ref zx1, .int zip, .int ziy] (PRE dC dI cy (WL cy zL zT zR zI zJ) sz)) (va_Ql (fun (r : Int64) (u : Unit) => True) (fun u t => POST dC dI cy (va_A (WL cy zL zT zR zI zJ) sz) (WL cy zL zT zR zI zJ) t) (va_A (WL cy zL zT zR zI zJ) sz)) 0 0 (va_A (WL cy zL zT zR zI zJ) sz) := by
  refine Met.ofW (cc := cX9_meeting) (maxL := 7) (ret := (some .long)) (by decide) rfl ?_
  intro p e s m args below meth c s₁ B hml hv
  obtain ⟨rfl, hsz, hP, hK, hD0, hN⟩ := hv
  have hx := B.exec
  have hb := B.bytes
  have hr := B.returns
  have hts := atoms_spec (ws := wsX9_meeting) B.pre
  have hown : s.vm.findClass RX9 = some m.cls := findClass_of_methodNamed B.named
  have hlocks := B.notSynchronized
  subst hsz
  have hD := hD0.self (sz := s.heap.size)
  generalize hAe : va_A (WL cy zL zT zR zI zJ) s.heap.size = A at hD ⊢
  have hA : ∀ q : Nat, s.heap.size ≤ q → A q := fun q h => by rw [← hAe]; exact Or.inr h
  have hS : va_S A s.heap s.heap [] := va_S.rf
  have hP : va_P (dC, dI) vwCl (WL cy zL zT zR zI zJ) s.heap := hP
  have hl := lv_entry ([.ref zw, .ref zx1, .int zip, .int ziy] : List Value) (n := 7) (Nat.le_of_ble_eq_true rfl)
  rw [lg_entry_eq]
  generalize (lg_sl ([.ref zw, .ref zx1, .int zip, .int ziy] : List Value) ++ List.replicate (7 - (lg_sl ([.ref zw, .ref zx1, .int zip, .int ziy] : List Value)).length) Slot.unset).toArray = ls at hl ⊢
  have hl : lv_has ls 7 [(0, .ref zw), (1, .ref zx1), (2, .int zip), (3, .int ziy)] := hl
  refine w_q (fun Q hQ => ?_)
  have h_zI : WM [] AL zT zR zI zI := WM.rf hw
  refine lv_lconst (v := 0) hx hb dX9_meeting_0 (by decide) ?_
  refine lv_lstore (lv' := [(4, .long 0), (0, .ref zw), (1, .ref zx1), (2, .int zip), (3, .int ziy)]) hx hb dX9_meeting_1 hl (by decide) rfl (fun ls hl => ?_)
  refine lv_iconst (v := 0) hx hb dX9_meeting_3 (by decide) ?_
  refine lv_istore (lv' := [(6, .int 0), (4, .long 0), (0, .ref zw), (1, .ref zx1), (2, .int zip), (3, .int ziy)]) hx hb dX9_meeting_4 hl (by decide) rfl (fun ls hl => ?_)
  have lp_76 : ∀ (n : Nat) (zj_60 : Int64) (zi_61 : Int32) (H : Heap) (locs : List Loc) (ls : Array Slot), (4 - zi_61.toInt).toNat = n → (0 ≤ zi_61.toInt ∧ zi_61.toInt ≤ 4) → va_P (dC, dI) vwCl (WL cy zL zT zR zI zJ) H → va_D A (WL cy zL zT zR zI zJ) → va_S A s.heap H locs → lv_has ls 7 [(0, .ref zw), (1, .ref zx1), (2, .int zip), (3, .int ziy), (4, .long zj_60), (6, .int zi_61)] → W p l e ({ frames := 0, cells := 0, slots := 0, locals := 0 } : Room) s m ([.ref zw, .ref zx1, .int zip, .int ziy] : List Value).toArray below meth c H locs 0 0 Q (F0 m 6 ls []) := by
    intro n
    induction n using Nat.strongRecOn with
    | _ n ih_76 =>
      intro zj_60 zi_61 H locs ls hn b_zi_61 hP hD hS hl
      refine lv_iload hx hb dX9_meeting_6 (lv_at hl 5 rfl) ?_
      refine lv_aload_n hx hb dX9_meeting_8 rfl (lv_at hl 0 rfl) ?_
      refine ht_geti (C := RX9) (T := TX9) (N := 16) hx hb hts (by decide +kernel) hown hK hP hs t_zw (by decide) rfl rfl 13 (by decide) (hts (.fieldLink RX9 60 "DripStone$Ways" "most" "I") (by decide +kernel)) (fun _ h9 => h9) rfl dX9_meeting_9 ?_
      refine lv_topi (fun zi_77 ezi_77 => ?_)
      have tzi_77 : 0 ≤ zi_77.toInt ∧ zi_77.toInt ≤ 4 := by rw [ezi_77]; exact h_zI.at t_zw _ rfl
      refine lv_icmp_ge (tgt := 48) hx hb dX9_meeting_12 (by decide) (fun c_78 => ?_) (fun c_78 => ?_)
      · have f_79 : zi_61.toInt ≥ zi_77.toInt := ic_ge (rfl) (rfl) c_78
        refine lv_lload hx hb dX9_meeting_48 (lv_at hl 4 rfl) ?_
        subst hQ
        exact W.lret (v := zj_60) hx hb hr (fun t ht hW => ⟨⟨zj_60, (), rfl, trivial, ⟨by rw [ht]; exact hP, va_K.moved hW.alike hK, hD⟩⟩, hS.F ht⟩) hS.2.2 dX9_meeting_50
      · have f_79 : ¬ (zi_61.toInt ≥ zi_77.toInt) := ic_nge (rfl) (rfl) c_78
        refine lv_lload hx hb dX9_meeting_15 (lv_at hl 4 rfl) ?_
        refine lv_aload_n hx hb dX9_meeting_17 rfl (lv_at hl 1 rfl) ?_
        refine lv_iload_n hx hb dX9_meeting_18 rfl (lv_at hl 3 rfl) ?_
        refine lv_iconst (v := 4) hx hb dX9_meeting_19 (by decide) ?_
        refine lv_imul hx hb dX9_meeting_20 ?_
        refine lv_topi (fun zi_80 ezi_80 => ?_)
        have tzi_80 : zi_80.toInt = ziy.toInt * (4 : Int) := by rw [ezi_80]; exact timul (rfl) (show (4 : Int32).toInt = 4 by decide) (by omega) (by omega)
        refine lv_iload hx hb dX9_meeting_21 (lv_at hl 5 rfl) ?_
        refine lv_iadd hx hb dX9_meeting_23 ?_
        refine lv_topi (fun zi_81 ezi_81 => ?_)
        have tzi_81 : zi_81.toInt = zi_80.toInt + zi_61.toInt := by rw [ezi_81]; exact tiadd (rfl) (rfl) (by omega) (by omega)
        refine ht_lald (n := 96) (q := 1) hx hb hK hP hs t_zx1 (by decide) rfl rfl ⟨by omega, by omega⟩ dX9_meeting_24 ?_
        refine lv_topl (fun zj_82 ezj_82 => ?_)
        refine lv_aload_n hx hb dX9_meeting_25 rfl (lv_at hl 0 rfl) ?_
        refine ht_getr (C := RX9) (T := TX9) (N := 16) hx hb hts (by decide +kernel) hown hK hP hs t_zw (by decide) rfl rfl 8 (by decide) (hts (.fieldLink RX9 38 "DripStone$Ways" "back" "[[J") (by decide +kernel)) (fun _ h9 => h9) rfl dX9_meeting_26 ?_
        have t_83 : zT (zR zw 8) = 65 := sk_f hs t_zw (by decide) rfl (by decide)
        refine lv_iload_n hx hb dX9_meeting_29 rfl (lv_at hl 2 rfl) ?_
        refine ht_aaldA (n := 12) (q := 8) hx hb hK hP hs t_83 (by decide) rfl rfl ⟨by omega, by omega⟩ dX9_meeting_30 ?_
        have t_84 : zT (zR (zR zw 8) zip.toNatClampNeg) = 50 := sk_a (n := 12) hs t_83 rfl rfl (by decide) (cl_lt (by omega) (by omega))
        refine lv_iload_n hx hb dX9_meeting_31 rfl (lv_at hl 3 rfl) ?_
        refine lv_iconst (v := 4) hx hb dX9_meeting_32 (by decide) ?_
        refine lv_imul hx hb dX9_meeting_33 ?_
        refine lv_topi (fun zi_85 ezi_85 => ?_)
        have tzi_85 : zi_85.toInt = ziy.toInt * (4 : Int) := by rw [ezi_85]; exact timul (rfl) (show (4 : Int32).toInt = 4 by decide) (by omega) (by omega)
        refine lv_iload hx hb dX9_meeting_34 (lv_at hl 5 rfl) ?_
        refine lv_iadd hx hb dX9_meeting_36 ?_
        refine lv_topi (fun zi_86 ezi_86 => ?_)
        have tzi_86 : zi_86.toInt = zi_85.toInt + zi_61.toInt := by rw [ezi_86]; exact tiadd (rfl) (rfl) (by omega) (by omega)
        refine ht_lald (n := 96) (q := 1) hx hb hK hP hs t_84 (by decide) rfl rfl ⟨by omega, by omega⟩ dX9_meeting_37 ?_
        refine lv_topl (fun zj_87 ezj_87 => ?_)
        refine lv_lmul hx hb dX9_meeting_38 ?_
        refine lv_topl (fun zj_88 ezj_88 => ?_)
        refine lv_ladd hx hb dX9_meeting_39 ?_
        refine lv_topl (fun zj_89 ezj_89 => ?_)
        refine lv_lstore (lv' := [(4, .long zj_89), (0, .ref zw), (1, .ref zx1), (2, .int zip), (3, .int ziy), (6, .int zi_61)]) hx hb dX9_meeting_40 hl (by decide) rfl (fun ls hl => ?_)
        obtain ⟨zi_90, ezi_90⟩ : ∃ y : Int32, y = zi_61 + 1 := ⟨_, rfl⟩
        have tzi_90 : zi_90.toInt = zi_61.toInt + 1 := by rw [ezi_90]; exact tadd rfl (show (1 : Int32).toInt = 1 by decide) (by omega) (by omega)
        refine lv_iinc (v := zi_90) (lv' := [(6, .int zi_90), (4, .long zj_89), (0, .ref zw), (1, .ref zx1), (2, .int zip), (3, .int ziy)]) hx hb dX9_meeting_42 hl (k := 5) rfl (by rw [ezi_90]; rfl) (by decide) rfl (fun ls hl => ?_)
        refine lv_goto (tgt := 6) hx hb dX9_meeting_45 (by decide) ?_
        exact ih_76 (4 - zi_90.toInt).toNat (by omega) zj_89 zi_90 _ _ _ rfl (by omega) hP hD hS (lv_sub hl [2, 3, 4, 5, 1, 0] rfl)
  exact lp_76 _ (0 : Int64) (0 : Int32) _ _ _ rfl (by decide) hP hD hS (lv_sub hl [2, 3, 4, 5, 1, 0] rfl)
set_option maxHeartbeats 8000000 in
set_option maxRecDepth 100000 in
theorem t_X9_tally (l : Launch) (dC : Nat → ClassId) (dI : Nat → Nat → Nat) (cy : Nat → ClassId) (sz : Nat) (zL : List Nat) (zT : Nat → Nat) (zR : Nat → Nat → Nat) (zI : Nat → Nat → Int32) (zJ : Nat → Nat → Int64) (zw : Nat) (zip : Int32) (ziy : Int32) (hs : SKP zL zT zR) (hw : WT zT zR zI) (t_zw : zT zw = 10) (b_zip : 0 ≤ zip.toInt ∧ zip.toInt ≤ 11) (b_ziy : 0 ≤ ziy.toInt ∧ ziy.toInt ≤ 23) : Met l yX9_tally wsX9_tally ({ frames := 1, cells := 0, slots := 0, locals := 26 } : Room) (va_Pc [.ref zw, .int zip, .int ziy] (PRE dC dI cy (WL cy zL zT zR zI zJ) sz)) (va_Ql (fun (r : Int64) (u : Unit) => True) (fun u t => POST dC dI cy (va_A (WL cy zL zT zR zI zJ) sz) (WL cy zL zT zR zI zJ) t) (va_A (WL cy zL zT zR zI zJ) sz)) 0 0 (va_A (WL cy zL zT zR zI zJ) sz) := by
  refine Met.ofW (cc := cX9_tally) (maxL := 3) (ret := (some .long)) (by decide) rfl ?_
  intro p e s m args below meth c s₁ B hml hv
  obtain ⟨rfl, hsz, hP, hK, hD0, hN⟩ := hv
  have hx := B.exec
  have hb := B.bytes
  have hr := B.returns
  have hts := atoms_spec (ws := wsX9_tally) B.pre
  have hown : s.vm.findClass RX9 = some m.cls := findClass_of_methodNamed B.named
  have hlocks := B.notSynchronized
  subst hsz
  have hD := hD0.self (sz := s.heap.size)
  generalize hAe : va_A (WL cy zL zT zR zI zJ) s.heap.size = A at hD ⊢
  have hA : ∀ q : Nat, s.heap.size ≤ q → A q := fun q h => by rw [← hAe]; exact Or.inr h
  have hS : va_S A s.heap s.heap [] := va_S.rf
  have hP : va_P (dC, dI) vwCl (WL cy zL zT zR zI zJ) s.heap := hP
  have hl := lv_entry ([.ref zw, .int zip, .int ziy] : List Value) (n := 3) (Nat.le_of_ble_eq_true rfl)
  rw [lg_entry_eq]
  generalize (lg_sl ([.ref zw, .int zip, .int ziy] : List Value) ++ List.replicate (3 - (lg_sl ([.ref zw, .int zip, .int ziy] : List Value)).length) Slot.unset).toArray = ls at hl ⊢
  have hl : lv_has ls 3 [(0, .ref zw), (1, .int zip), (2, .int ziy)] := hl
  refine w_q (fun Q hQ => ?_)
  have h_zI : WM [] AL zT zR zI zI := WM.rf hw
  refine lv_aload_n hx hb dX9_tally_0 rfl (lv_at hl 0 rfl) ?_
  refine lv_aload_n hx hb dX9_tally_1 rfl (lv_at hl 0 rfl) ?_
  refine ht_getr (C := RX9) (T := TX9) (N := 16) hx hb hts (by decide +kernel) hown hK hP hs t_zw (by decide) rfl rfl 7 (by decide) (hts (.fieldLink RX9 35 "DripStone$Ways" "fore" "[[J") (by decide +kernel)) (fun _ h9 => h9) rfl dX9_tally_2 ?_
  have t_1 : zT (zR zw 7) = 65 := sk_f hs t_zw (by decide) rfl (by decide)
  refine lv_iload_n hx hb dX9_tally_5 rfl (lv_at hl 1 rfl) ?_
  refine ht_aaldA (n := 12) (q := 8) hx hb hK hP hs t_1 (by decide) rfl rfl ⟨by omega, by omega⟩ dX9_tally_6 ?_
  have t_2 : zT (zR (zR zw 7) zip.toNatClampNeg) = 50 := sk_a (n := 12) hs t_1 rfl rfl (by decide) (cl_lt (by omega) (by omega))
  refine lv_iload_n hx hb dX9_tally_7 rfl (lv_at hl 1 rfl) ?_
  refine lv_iload_n hx hb dX9_tally_8 rfl (lv_at hl 2 rfl) ?_
  refine hj_l (ws := (WL cy zL zT zR zI zJ)) (w1 := fun (u : Unit) => (WL cy zL zT zR zI zJ)) (va_runV (As := [.ref (zR (zR zw 7) zip.toNatClampNeg), .int zip, .int ziy]) (rest := []) ⟨hx, hb, hml, hown, hts⟩ (t_X9_meeting l dC dI cy s.heap.size zL zT zR zI zJ zw (zR (zR zw 7) zip.toNatClampNeg) zip ziy hs h_zI.1 t_zw t_2 (by omega) (by omega)) (cwV 3 hts gX9_tally_X9_meeting rfl rfl rfl (by decide +kernel) ⟨(Nat.le_of_ble_eq_true rfl), (Nat.le_of_ble_eq_true rfl)⟩) (PRE.v hP hK hD hN (ht_recv hK hP hs t_zw (by decide) rfl rfl)) rfl rfl hl.1 rfl (lv_room (Nat.le_of_ble_eq_true rfl)) dX9_tally_9 ⟨(Nat.le_of_ble_eq_true rfl), (Nat.le_of_ble_eq_true rfl)⟩) hP hD hS hA (fun zj_3 u_5 H locs hw_4 hP hD hS => ?_)
  subst hQ
  exact W.lret (v := zj_3) hx hb hr (fun t ht hW => ⟨⟨zj_3, (), rfl, trivial, ⟨by rw [ht]; exact hP, va_K.moved hW.alike hK, hD⟩⟩, hS.F ht⟩) hS.2.2 dX9_tally_12
set_option maxHeartbeats 8000000 in
set_option maxRecDepth 100000 in
theorem t_X9_worst (l : Launch) (dC : Nat → ClassId) (dI : Nat → Nat → Nat) (cy : Nat → ClassId) (sz : Nat) (zL : List Nat) (zT : Nat → Nat) (zR : Nat → Nat → Nat) (zI : Nat → Nat → Int32) (zJ : Nat → Nat → Int64) (zw : Nat) (zip : Int32) (hs : SKP zL zT zR) (hw : WT zT zR zI) (t_zw : zT zw = 10) (b_zip : 0 ≤ zip.toInt ∧ zip.toInt ≤ 11) : Met l yX9_worst wsX9_worst ({ frames := 2, cells := 0, slots := 0, locals := 48 } : Room) (va_Pc [.ref zw, .int zip] (PRE dC dI cy (WL cy zL zT zR zI zJ) sz)) (va_Ql (fun (r : Int64) (u : Unit) => True) (fun u t => POST dC dI cy (va_A (WL cy zL zT zR zI zJ) sz) (WL cy zL zT zR zI zJ) t) (va_A (WL cy zL zT zR zI zJ) sz)) 0 0 (va_A (WL cy zL zT zR zI zJ) sz) := by
  refine Met.ofW (cc := cX9_worst) (maxL := 5) (ret := (some .long)) (by decide) rfl ?_
  intro p e s m args below meth c s₁ B hml hv
  obtain ⟨rfl, hsz, hP, hK, hD0, hN⟩ := hv
  have hx := B.exec
  have hb := B.bytes
  have hr := B.returns
  have hts := atoms_spec (ws := wsX9_worst) B.pre
  have hown : s.vm.findClass RX9 = some m.cls := findClass_of_methodNamed B.named
  have hlocks := B.notSynchronized
  subst hsz
  have hD := hD0.self (sz := s.heap.size)
  generalize hAe : va_A (WL cy zL zT zR zI zJ) s.heap.size = A at hD ⊢
  have hA : ∀ q : Nat, s.heap.size ≤ q → A q := fun q h => by rw [← hAe]; exact Or.inr h
  have hS : va_S A s.heap s.heap [] := va_S.rf
  have hP : va_P (dC, dI) vwCl (WL cy zL zT zR zI zJ) s.heap := hP
  have hl := lv_entry ([.ref zw, .int zip] : List Value) (n := 5) (Nat.le_of_ble_eq_true rfl)
  rw [lg_entry_eq]
  generalize (lg_sl ([.ref zw, .int zip] : List Value) ++ List.replicate (5 - (lg_sl ([.ref zw, .int zip] : List Value)).length) Slot.unset).toArray = ls at hl ⊢
  have hl : lv_has ls 5 [(0, .ref zw), (1, .int zip)] := hl
  refine w_q (fun Q hQ => ?_)
  have h_zI : WM [] AL zT zR zI zI := WM.rf hw
  refine lv_lconst (v := 0) hx hb dX9_worst_0 (by decide) ?_
  refine lv_lstore_n (lv' := [(2, .long 0), (0, .ref zw), (1, .int zip)]) hx hb dX9_worst_1 rfl hl (by decide) rfl (fun ls hl => ?_)
  refine lv_iconst (v := 0) hx hb dX9_worst_2 (by decide) ?_
  refine lv_istore (lv' := [(4, .int 0), (2, .long 0), (0, .ref zw), (1, .int zip)]) hx hb dX9_worst_3 hl (by decide) rfl (fun ls hl => ?_)
  have lp_40 : ∀ (n : Nat) (zj_31 : Int64) (zi_32 : Int32) (H : Heap) (locs : List Loc) (ls : Array Slot), (24 - zi_32.toInt).toNat = n → (0 ≤ zi_32.toInt ∧ zi_32.toInt ≤ 24) → va_P (dC, dI) vwCl (WL cy zL zT zR zI zJ) H → va_D A (WL cy zL zT zR zI zJ) → va_S A s.heap H locs → lv_has ls 5 [(0, .ref zw), (1, .int zip), (2, .long zj_31), (4, .int zi_32)] → W p l e ({ frames := 2, cells := 0, slots := 0, locals := 48 } : Room) s m ([.ref zw, .int zip] : List Value).toArray below meth c H locs 0 0 Q (F0 m 5 ls []) := by
    intro n
    induction n using Nat.strongRecOn with
    | _ n ih_40 =>
      intro zj_31 zi_32 H locs ls hn b_zi_32 hP hD hS hl
      refine lv_iload hx hb dX9_worst_5 (lv_at hl 3 rfl) ?_
      refine lv_bipush (v := 24) hx hb dX9_worst_7 (by decide) ?_
      refine lv_icmp_ge (tgt := 30) hx hb dX9_worst_9 (by decide) (fun c_41 => ?_) (fun c_41 => ?_)
      · have f_42 : zi_32.toInt ≥ (24 : Int) := ic_ge (rfl) (show (24 : Int32).toInt = 24 by decide) c_41
        refine lv_lload_n hx hb dX9_worst_30 rfl (lv_at hl 2 rfl) ?_
        subst hQ
        exact W.lret (v := zj_31) hx hb hr (fun t ht hW => ⟨⟨zj_31, (), rfl, trivial, ⟨by rw [ht]; exact hP, va_K.moved hW.alike hK, hD⟩⟩, hS.F ht⟩) hS.2.2 dX9_worst_31
      · have f_42 : ¬ (zi_32.toInt ≥ (24 : Int)) := ic_nge (rfl) (show (24 : Int32).toInt = 24 by decide) c_41
        refine lv_lload_n hx hb dX9_worst_12 rfl (lv_at hl 2 rfl) ?_
        refine lv_aload_n hx hb dX9_worst_13 rfl (lv_at hl 0 rfl) ?_
        refine lv_iload_n hx hb dX9_worst_14 rfl (lv_at hl 1 rfl) ?_
        refine lv_iload hx hb dX9_worst_15 (lv_at hl 3 rfl) ?_
        refine hj_l (ws := (WL cy zL zT zR zI zJ)) (w1 := fun (u : Unit) => (WL cy zL zT zR zI zJ)) (va_runV (As := [.int zip, .int zi_32]) (rest := [.long zj_31]) ⟨hx, hb, hml, hown, hts⟩ (t_X9_tally l dC dI cy H.size zL zT zR zI zJ zw zip zi_32 hs h_zI.1 t_zw (by omega) (by omega)) (cwV 2 hts gX9_worst_X9_tally rfl rfl rfl (by decide +kernel) ⟨(Nat.le_of_ble_eq_true rfl), (Nat.le_of_ble_eq_true rfl)⟩) (PRE.v hP hK hD hN (ht_recv hK hP hs t_zw (by decide) rfl rfl)) rfl rfl hl.1 rfl (lv_room (Nat.le_of_ble_eq_true rfl)) dX9_worst_17 ⟨(Nat.le_of_ble_eq_true rfl), (Nat.le_of_ble_eq_true rfl)⟩) hP hD hS hA (fun zj_43 u_45 H locs hw_44 hP hD hS => ?_)
        refine va_mmax_long hx hb (by rw [hml]; exact hl.1.symm) hown (hts (.methodLink RX9 165 Lib.MathLoose.max_long.x) (by decide +kernel)) (hts (.static Lib.MathLoose.max_long.x) (by decide +kernel)) (hts (.initialized "java/lang/Math") (by decide +kernel)) (hts (.code Lib.MathLoose.max_long.x Lib.MathLoose.max_long.code 4 (some .long)) (by decide +kernel)) (Nat.le_of_ble_eq_true rfl) (Nat.le_of_ble_eq_true rfl) (Nat.le_of_ble_eq_true rfl) (Nat.le_of_ble_eq_true rfl) dX9_worst_20 ?_
        refine lv_topl (fun zj_46 ezj_46 => ?_)
        refine lv_lstore_n (lv' := [(2, .long zj_46), (0, .ref zw), (1, .int zip), (4, .int zi_32)]) hx hb dX9_worst_23 rfl hl (by decide) rfl (fun ls hl => ?_)
        obtain ⟨zi_47, ezi_47⟩ : ∃ y : Int32, y = zi_32 + 1 := ⟨_, rfl⟩
        have tzi_47 : zi_47.toInt = zi_32.toInt + 1 := by rw [ezi_47]; exact tadd rfl (show (1 : Int32).toInt = 1 by decide) (by omega) (by omega)
        refine lv_iinc (v := zi_47) (lv' := [(4, .int zi_47), (2, .long zj_46), (0, .ref zw), (1, .int zip)]) hx hb dX9_worst_24 hl (k := 3) rfl (by rw [ezi_47]; rfl) (by decide) rfl (fun ls hl => ?_)
        refine lv_goto (tgt := 5) hx hb dX9_worst_27 (by decide) ?_
        exact ih_40 (24 - zi_47.toInt).toNat (by omega) zj_46 zi_47 _ _ _ rfl (by omega) hP hD hS (lv_sub hl [2, 3, 1, 0] rfl)
  exact lp_40 _ (0 : Int64) (0 : Int32) _ _ _ rfl (by decide) hP hD hS (lv_sub hl [2, 3, 1, 0] rfl)
set_option maxHeartbeats 8000000 in
set_option maxRecDepth 100000 in
theorem t_X9_endOf (l : Launch) (dC : Nat → ClassId) (dI : Nat → Nat → Nat) (cy : Nat → ClassId) (sz : Nat) (zL : List Nat) (zT : Nat → Nat) (zR : Nat → Nat → Nat) (zI : Nat → Nat → Int32) (zJ : Nat → Nat → Int64) (zw : Nat) (zip : Int32) (zia : Int32) (hs : SKP zL zT zR) (hw : WT zT zR zI) (t_zw : zT zw = 10) (b_zip : 0 ≤ zip.toInt ∧ zip.toInt ≤ 11) : Met l yX9_endOf wsX9_endOf ({ frames := 2, cells := 0, slots := 0, locals := 48 } : Room) (va_Pc [.ref zw, .int zip, .int zia] (PRE dC dI cy (WL cy zL zT zR zI zJ) sz)) (va_Qi (fun (r : Int32) (u : Unit) => (0 ≤ r.toInt ∧ r.toInt ≤ 23)) (fun u t => POST dC dI cy (va_A (WL cy zL zT zR zI zJ) sz) (WL cy zL zT zR zI zJ) t) (va_A (WL cy zL zT zR zI zJ) sz)) 0 0 (va_A (WL cy zL zT zR zI zJ) sz) := by
  refine Met.ofW (cc := cX9_endOf) (maxL := 6) (ret := (some .int)) (by decide) rfl ?_
  intro p e s m args below meth c s₁ B hml hv
  obtain ⟨rfl, hsz, hP, hK, hD0, hN⟩ := hv
  have hx := B.exec
  have hb := B.bytes
  have hr := B.returns
  have hts := atoms_spec (ws := wsX9_endOf) B.pre
  have hown : s.vm.findClass RX9 = some m.cls := findClass_of_methodNamed B.named
  have hlocks := B.notSynchronized
  subst hsz
  have hD := hD0.self (sz := s.heap.size)
  generalize hAe : va_A (WL cy zL zT zR zI zJ) s.heap.size = A at hD ⊢
  have hA : ∀ q : Nat, s.heap.size ≤ q → A q := fun q h => by rw [← hAe]; exact Or.inr h
  have hS : va_S A s.heap s.heap [] := va_S.rf
  have hP : va_P (dC, dI) vwCl (WL cy zL zT zR zI zJ) s.heap := hP
  have hl := lv_entry ([.ref zw, .int zip, .int zia] : List Value) (n := 6) (Nat.le_of_ble_eq_true rfl)
  rw [lg_entry_eq]
  generalize (lg_sl ([.ref zw, .int zip, .int zia] : List Value) ++ List.replicate (6 - (lg_sl ([.ref zw, .int zip, .int zia] : List Value)).length) Slot.unset).toArray = ls at hl ⊢
  have hl : lv_has ls 6 [(0, .ref zw), (1, .int zip), (2, .int zia)] := hl
  refine w_q (fun Q hQ => ?_)
  have h_zI : WM [] AL zT zR zI zI := WM.rf hw
  refine lv_iconst (v := 0) hx hb dX9_endOf_0 (by decide) ?_
  refine lv_istore_n (lv' := [(3, .int 0), (0, .ref zw), (1, .int zip), (2, .int zia)]) hx hb dX9_endOf_1 rfl hl (by decide) rfl (fun ls hl => ?_)
  refine lv_iconst (v := 0) hx hb dX9_endOf_2 (by decide) ?_
  refine lv_istore (lv' := [(4, .int 0), (3, .int 0), (0, .ref zw), (1, .int zip), (2, .int zia)]) hx hb dX9_endOf_3 hl (by decide) rfl (fun ls hl => ?_)
  have lp_100 : ∀ (n : Nat) (zi_79 : Int32) (zi_80 : Int32) (H : Heap) (locs : List Loc) (ls : Array Slot), (24 - zi_80.toInt).toNat = n → (0 ≤ zi_79.toInt ∧ zi_79.toInt ≤ 23) → (0 ≤ zi_80.toInt ∧ zi_80.toInt ≤ 24) → va_P (dC, dI) vwCl (WL cy zL zT zR zI zJ) H → va_D A (WL cy zL zT zR zI zJ) → va_S A s.heap H locs → lv_has ls 6 [(0, .ref zw), (1, .int zip), (2, .int zia), (3, .int zi_79), (4, .int zi_80)] → W p l e ({ frames := 2, cells := 0, slots := 0, locals := 48 } : Room) s m ([.ref zw, .int zip, .int zia] : List Value).toArray below meth c H locs 0 0 Q (F0 m 5 ls []) := by
    intro n
    induction n using Nat.strongRecOn with
    | _ n ih_100 =>
      intro zi_79 zi_80 H locs ls hn b_zi_79 b_zi_80 hP hD hS hl
      refine lv_iload hx hb dX9_endOf_5 (lv_at hl 4 rfl) ?_
      refine lv_bipush (v := 24) hx hb dX9_endOf_7 (by decide) ?_
      refine lv_icmp_ge (tgt := 49) hx hb dX9_endOf_9 (by decide) (fun c_101 => ?_) (fun c_101 => ?_)
      · have f_102 : zi_80.toInt ≥ (24 : Int) := ic_ge (rfl) (show (24 : Int32).toInt = 24 by decide) c_101
        refine lv_iload_n hx hb dX9_endOf_49 rfl (lv_at hl 3 rfl) ?_
        subst hQ
        exact W.iret (v := zi_79) hx hb hr (fun t ht hW => ⟨⟨zi_79, (), rfl, (show 0 ≤ zi_79.toInt ∧ zi_79.toInt ≤ 23 from by omega), ⟨by rw [ht]; exact hP, va_K.moved hW.alike hK, hD⟩⟩, hS.F ht⟩) hS.2.2 dX9_endOf_50
      · have f_102 : ¬ (zi_80.toInt ≥ (24 : Int)) := ic_nge (rfl) (show (24 : Int32).toInt = 24 by decide) c_101
        refine lv_iload_n hx hb dX9_endOf_12 rfl (lv_at hl 2 rfl) ?_
        have jn_107 : ∀ (zi_106 : Int32) (H : Heap) (locs : List Loc) (ls : Array Slot), (0 ≤ zi_106.toInt ∧ zi_106.toInt ≤ 23) → va_P (dC, dI) vwCl (WL cy zL zT zR zI zJ) H → va_D A (WL cy zL zT zR zI zJ) → va_S A s.heap H locs → lv_has ls 6 [(0, .ref zw), (1, .int zip), (2, .int zia), (3, .int zi_79), (4, .int zi_80)] → W p l e ({ frames := 2, cells := 0, slots := 0, locals := 48 } : Room) s m ([.ref zw, .int zip, .int zia] : List Value).toArray below meth c H locs 0 0 Q (F0 m 26 ls [.int zi_106]) := by
          intro zi_106 H locs ls b_zi_106 hP hD hS hl
          refine lv_istore (lv' := [(5, .int zi_106), (0, .ref zw), (1, .int zip), (2, .int zia), (3, .int zi_79), (4, .int zi_80)]) hx hb dX9_endOf_26 hl (by decide) rfl (fun ls hl => ?_)
          refine lv_aload_n hx hb dX9_endOf_28 rfl (lv_at hl 1 rfl) ?_
          refine lv_iload_n hx hb dX9_endOf_29 rfl (lv_at hl 2 rfl) ?_
          refine lv_iload hx hb dX9_endOf_30 (lv_at hl 0 rfl) ?_
          refine hj_l (ws := (WL cy zL zT zR zI zJ)) (w1 := fun (u : Unit) => (WL cy zL zT zR zI zJ)) (va_runV (As := [.int zip, .int zi_106]) (rest := []) ⟨hx, hb, hml, hown, hts⟩ (t_X9_tally l dC dI cy H.size zL zT zR zI zJ zw zip zi_106 hs h_zI.1 t_zw (by omega) (by omega)) (cwV 2 hts gX9_endOf_X9_tally rfl rfl rfl (by decide +kernel) ⟨(Nat.le_of_ble_eq_true rfl), (Nat.le_of_ble_eq_true rfl)⟩) (PRE.v hP hK hD hN (ht_recv hK hP hs t_zw (by decide) rfl rfl)) rfl rfl hl.1 rfl (lv_room (Nat.le_of_ble_eq_true rfl)) dX9_endOf_32 ⟨(Nat.le_of_ble_eq_true rfl), (Nat.le_of_ble_eq_true rfl)⟩) hP hD hS hA (fun zj_108 u_110 H locs hw_109 hP hD hS => ?_)
          refine lv_lconst (v := 0) hx hb dX9_endOf_35 (by decide) ?_
          refine W.lcmp hx hb dX9_endOf_36 ?_
          refine lv_topi (fun zi_111 ezi_111 => ?_)
          have jn_115 : ∀ (zi_114 : Int32) (H : Heap) (locs : List Loc) (ls : Array Slot), (0 ≤ zi_114.toInt ∧ zi_114.toInt ≤ 23) → va_P (dC, dI) vwCl (WL cy zL zT zR zI zJ) H → va_D A (WL cy zL zT zR zI zJ) → va_S A s.heap H locs → lv_has ls 6 [(0, .ref zw), (1, .int zip), (2, .int zia), (3, .int zi_114), (4, .int zi_80), (5, .int zi_106)] → W p l e ({ frames := 2, cells := 0, slots := 0, locals := 48 } : Room) s m ([.ref zw, .int zip, .int zia] : List Value).toArray below meth c H locs 0 0 Q (F0 m 43 ls []) := by
            intro zi_114 H locs ls b_zi_114 hP hD hS hl
            obtain ⟨zi_116, ezi_116⟩ : ∃ y : Int32, y = zi_80 + 1 := ⟨_, rfl⟩
            have tzi_116 : zi_116.toInt = zi_80.toInt + 1 := by rw [ezi_116]; exact tadd rfl (show (1 : Int32).toInt = 1 by decide) (by omega) (by omega)
            refine lv_iinc (v := zi_116) (lv' := [(4, .int zi_116), (0, .ref zw), (1, .int zip), (2, .int zia), (3, .int zi_114), (5, .int zi_106)]) hx hb dX9_endOf_43 hl (k := 4) rfl (by rw [ezi_116]; rfl) (by decide) rfl (fun ls hl => ?_)
            refine lv_goto (tgt := 5) hx hb dX9_endOf_46 (by decide) ?_
            exact ih_100 (24 - zi_116.toInt).toNat (by omega) zi_114 zi_116 _ _ _ rfl (by omega) (by omega) hP hD hS (lv_sub hl [1, 2, 3, 4, 0] rfl)
          refine lv_if_le (tgt := 43) hx hb dX9_endOf_37 (by decide) (fun c_117 => ?_) (fun c_117 => ?_)
          · have f_118 : ¬ (zj_108.toInt > (0 : Int)) := lk_le ezi_111 (rfl) (show (0 : Int64).toInt = 0 by decide) c_117
            exact jn_115 zi_79 _ _ _ (by omega) hP hD hS (lv_sub hl [1, 2, 3, 4, 5, 0] rfl)
          · have f_118 : zj_108.toInt > (0 : Int) := lk_nle ezi_111 (rfl) (show (0 : Int64).toInt = 0 by decide) c_117
            refine lv_iload hx hb dX9_endOf_40 (lv_at hl 0 rfl) ?_
            refine lv_istore_n (lv' := [(3, .int zi_106), (5, .int zi_106), (0, .ref zw), (1, .int zip), (2, .int zia), (4, .int zi_80)]) hx hb dX9_endOf_42 rfl hl (by decide) rfl (fun ls hl => ?_)
            exact jn_115 zi_106 _ _ _ (by omega) hP hD hS (lv_sub hl [2, 3, 4, 0, 5, 1] rfl)
        refine lv_if_ne (tgt := 24) hx hb dX9_endOf_13 (by decide) (fun c_119 => ?_) (fun c_119 => ?_)
        · have f_120 : zia.toInt ≠ 0 := ic_ne (rfl) (by decide) c_119
          refine lv_iload hx hb dX9_endOf_24 (lv_at hl 4 rfl) ?_
          exact jn_107 zi_80 _ _ _ (by omega) hP hD hS (lv_sub hl [0, 1, 2, 3, 4] rfl)
        · have f_120 : ¬ (zia.toInt ≠ 0) := ic_nne (rfl) (by decide) c_119
          refine lv_bipush (v := 23) hx hb dX9_endOf_16 (by decide) ?_
          refine lv_iload hx hb dX9_endOf_18 (lv_at hl 4 rfl) ?_
          refine lv_isub hx hb dX9_endOf_20 ?_
          refine lv_topi (fun zi_121 ezi_121 => ?_)
          have tzi_121 : zi_121.toInt = (23 : Int) - zi_80.toInt := by rw [ezi_121]; exact tisub (show (23 : Int32).toInt = 23 by decide) (rfl) (by omega) (by omega)
          refine lv_goto (tgt := 26) hx hb dX9_endOf_21 (by decide) ?_
          exact jn_107 zi_121 _ _ _ (by omega) hP hD hS (lv_sub hl [0, 1, 2, 3, 4] rfl)
  exact lp_100 _ (0 : Int32) (0 : Int32) _ _ _ rfl (by decide) (by decide) hP hD hS (lv_sub hl [2, 3, 4, 1, 0] rfl)
set_option maxHeartbeats 8000000 in
set_option maxRecDepth 100000 in
theorem t_X9_measureFrom (l : Launch) (dC : Nat → ClassId) (dI : Nat → Nat → Nat) (cy : Nat → ClassId) (sz : Nat) (zL : List Nat) (zT : Nat → Nat) (zR : Nat → Nat → Nat) (zI : Nat → Nat → Int32) (zJ : Nat → Nat → Int64) (zw : Nat) (zia : Int32) (zib : Int32) (ziy : Int32) (hs : SKP zL zT zR) (hw : WT zT zR zI) (t_zw : zT zw = 10) (b_zia : 0 ≤ zia.toInt ∧ zia.toInt ≤ 11) (b_zib : 0 ≤ zib.toInt ∧ zib.toInt ≤ 11) (b_ziy : 0 ≤ ziy.toInt ∧ ziy.toInt ≤ 23) (hx1 : zib.toInt < (zI zw 14).toInt) : Met l yX9_measureFrom wsX9_measureFrom ({ frames := 2, cells := 0, slots := 0, locals := 61 } : Room) (va_Pc [.ref zw, .int zia, .int zib, .int ziy] (PRE dC dI cy (WL cy zL zT zR zI zJ) sz)) (va_Qv (fun (u : (Nat → Nat → Int64)) => True) (fun u t => POST dC dI cy (va_A (WL cy zL zT zR zI zJ) sz) (WL cy zL zT zR zI u) t) (va_A (WL cy zL zT zR zI zJ) sz)) 0 0 (va_A (WL cy zL zT zR zI zJ) sz) := by
  refine Met.ofW (cc := cX9_measureFrom) (maxL := 8) (ret := none) (by decide) rfl ?_
  intro p e s m args below meth c s₁ B hml hv
  obtain ⟨rfl, hsz, hP, hK, hD0, hN⟩ := hv
  have hx := B.exec
  have hb := B.bytes
  have hr := B.returns
  have hts := atoms_spec (ws := wsX9_measureFrom) B.pre
  have hown : s.vm.findClass RX9 = some m.cls := findClass_of_methodNamed B.named
  have hlocks := B.notSynchronized
  subst hsz
  have hD := hD0.self (sz := s.heap.size)
  generalize hAe : va_A (WL cy zL zT zR zI zJ) s.heap.size = A at hD ⊢
  have hA : ∀ q : Nat, s.heap.size ≤ q → A q := fun q h => by rw [← hAe]; exact Or.inr h
  have hS : va_S A s.heap s.heap [] := va_S.rf
  have hP : va_P (dC, dI) vwCl (WL cy zL zT zR zI zJ) s.heap := hP
  have hl := lv_entry ([.ref zw, .int zia, .int zib, .int ziy] : List Value) (n := 8) (Nat.le_of_ble_eq_true rfl)
  rw [lg_entry_eq]
  generalize (lg_sl ([.ref zw, .int zia, .int zib, .int ziy] : List Value) ++ List.replicate (8 - (lg_sl ([.ref zw, .int zia, .int zib, .int ziy] : List Value)).length) Slot.unset).toArray = ls at hl ⊢
  have hl : lv_has ls 8 [(0, .ref zw), (1, .int zia), (2, .int zib), (3, .int ziy)] := hl
  refine w_q (fun Q hQ => ?_)
  have h_zI : WM [] AL zT zR zI zI := WM.rf hw
  refine lv_aload_n hx hb dX9_measureFrom_0 rfl (lv_at hl 0 rfl) ?_
  refine ht_getr (C := RX9) (T := TX9) (N := 16) hx hb hts (by decide +kernel) hown hK hP hs t_zw (by decide) rfl rfl 11 (by decide) (hts (.fieldLink RX9 48 "DripStone$Ways" "here" "[J") (by decide +kernel)) (fun _ h9 => h9) rfl dX9_measureFrom_1 ?_
  have t_1 : zT (zR zw 11) = 50 := sk_f hs t_zw (by decide) rfl (by decide)
  refine lv_astore (lv' := [(4, .ref (zR zw 11)), (0, .ref zw), (1, .int zia), (2, .int zib), (3, .int ziy)]) hx hb dX9_measureFrom_4 hl (by decide) rfl (fun ls hl => ?_)
  refine lv_aload_n hx hb dX9_measureFrom_6 rfl (lv_at hl 1 rfl) ?_
  refine ht_getr (C := RX9) (T := TX9) (N := 16) hx hb hts (by decide +kernel) hown hK hP hs t_zw (by decide) rfl rfl 12 (by decide) (hts (.fieldLink RX9 51 "DripStone$Ways" "there" "[J") (by decide +kernel)) (fun _ h9 => h9) rfl dX9_measureFrom_7 ?_
  have t_2 : zT (zR zw 12) = 50 := sk_f hs t_zw (by decide) rfl (by decide)
  refine lv_astore (lv' := [(5, .ref (zR zw 12)), (4, .ref (zR zw 11)), (0, .ref zw), (1, .int zia), (2, .int zib), (3, .int ziy)]) hx hb dX9_measureFrom_10 hl (by decide) rfl (fun ls hl => ?_)
  refine lv_aload hx hb dX9_measureFrom_12 (lv_at hl 1 rfl) ?_
  refine lv_lconst (v := 0) hx hb dX9_measureFrom_14 (by decide) ?_
  refine hj_v (ws := (WL cy zL zT zR zI zJ)) (w1 := fun (u : (Nat → Nat → Int64)) => (WL cy zL zT zR zI u)) (va_runS (As := [.ref (zR zw 11), .long 0]) (rest := []) ⟨hx, hb, hml, hown, hts⟩ (t_fill_50 l dC dI cy s.heap.size zL zT zR zI zJ (zR zw 11) (0 : Int64) hs h_zI.1 t_1) (va_cwS 2 hts gX9_measureFrom_J7_fill_d0a16 rfl rfl rfl (by decide +kernel) ⟨(Nat.le_of_ble_eq_true rfl), (Nat.le_of_ble_eq_true rfl)⟩) (PRE.s hP hK hD hN) rfl rfl hl.1 rfl (lv_room (Nat.le_of_ble_eq_true rfl)) dX9_measureFrom_15 ⟨(Nat.le_of_ble_eq_true rfl), (Nat.le_of_ble_eq_true rfl)⟩) hP hD hS hA (fun zJ_6 H locs hw_4 hP hD hS => ?_)
  refine lv_iconst (v := 0) hx hb dX9_measureFrom_18 (by decide) ?_
  refine lv_istore (lv' := [(6, .int 0), (5, .ref (zR zw 12)), (4, .ref (zR zw 11)), (0, .ref zw), (1, .int zia), (2, .int zib), (3, .int ziy)]) hx hb dX9_measureFrom_19 hl (by decide) rfl (fun ls hl => ?_)
  have lp_72 : ∀ (n : Nat) (zi_58 : Int32) (zJ_59 : Nat → Nat → Int64) (H : Heap) (locs : List Loc) (ls : Array Slot), (4 - zi_58.toInt).toNat = n → (0 ≤ zi_58.toInt ∧ zi_58.toInt ≤ 4) → va_P (dC, dI) vwCl (WL cy zL zT zR zI zJ_59) H → va_D A (WL cy zL zT zR zI zJ_59) → va_S A s.heap H locs → lv_has ls 8 [(0, .ref zw), (1, .int zia), (2, .int zib), (3, .int ziy), (4, .ref (zR zw 11)), (5, .ref (zR zw 12)), (6, .int zi_58)] → W p l e ({ frames := 2, cells := 0, slots := 0, locals := 61 } : Room) s m ([.ref zw, .int zia, .int zib, .int ziy] : List Value).toArray below meth c H locs 0 0 Q (F0 m 21 ls []) := by
    intro n
    induction n using Nat.strongRecOn with
    | _ n ih_72 =>
      intro zi_58 zJ_59 H locs ls hn b_zi_58 hP hD hS hl
      refine lv_iload hx hb dX9_measureFrom_21 (lv_at hl 6 rfl) ?_
      refine lv_aload_n hx hb dX9_measureFrom_23 rfl (lv_at hl 0 rfl) ?_
      refine ht_geti (C := RX9) (T := TX9) (N := 16) hx hb hts (by decide +kernel) hown hK hP hs t_zw (by decide) rfl rfl 13 (by decide) (hts (.fieldLink RX9 60 "DripStone$Ways" "most" "I") (by decide +kernel)) (fun _ h9 => h9) rfl dX9_measureFrom_24 ?_
      refine lv_topi (fun zi_73 ezi_73 => ?_)
      have tzi_73 : 0 ≤ zi_73.toInt ∧ zi_73.toInt ≤ 4 := by rw [ezi_73]; exact h_zI.at t_zw _ rfl
      refine lv_icmp_ge (tgt := 58) hx hb dX9_measureFrom_27 (by decide) (fun c_74 => ?_) (fun c_74 => ?_)
      · have f_75 : zi_58.toInt ≥ zi_73.toInt := ic_ge (rfl) (rfl) c_74
        refine lv_iload_n hx hb dX9_measureFrom_58 rfl (lv_at hl 1 rfl) ?_
        refine lv_iconst (v := 1) hx hb dX9_measureFrom_59 (by decide) ?_
        refine lv_iadd hx hb dX9_measureFrom_60 ?_
        refine lv_topi (fun zi_76 ezi_76 => ?_)
        have tzi_76 : zi_76.toInt = zia.toInt + (1 : Int) := by rw [ezi_76]; exact tiadd (rfl) (show (1 : Int32).toInt = 1 by decide) (by omega) (by omega)
        refine lv_istore (lv' := [(6, .int zi_76), (0, .ref zw), (1, .int zia), (2, .int zib), (3, .int ziy), (4, .ref (zR zw 11)), (5, .ref (zR zw 12))]) hx hb dX9_measureFrom_61 hl (by decide) rfl (fun ls hl => ?_)
        have lp_117 : ∀ (n : Nat) (zb_89 : Nat) (zb_90 : Nat) (zi_91 : Int32) (zJ_92 : Nat → Nat → Int64) (H : Heap) (locs : List Loc) (ls : Array Slot), (zib.toInt - zi_91.toInt + 1).toNat = n → (zT zb_89 = 50) → (zT zb_90 = 50) → (1 ≤ zi_91.toInt ∧ zi_91.toInt ≤ 12) → va_P (dC, dI) vwCl (WL cy zL zT zR zI zJ_92) H → va_D A (WL cy zL zT zR zI zJ_92) → va_S A s.heap H locs → lv_has ls 8 [(0, .ref zw), (1, .int zia), (2, .int zib), (3, .int ziy), (4, .ref zb_89), (5, .ref zb_90), (6, .int zi_91)] → W p l e ({ frames := 2, cells := 0, slots := 0, locals := 61 } : Room) s m ([.ref zw, .int zia, .int zib, .int ziy] : List Value).toArray below meth c H locs 0 0 Q (F0 m 63 ls []) := by
          intro n
          induction n using Nat.strongRecOn with
          | _ n ih_117 =>
            intro zb_89 zb_90 zi_91 zJ_92 H locs ls hn t_zb_89 t_zb_90 b_zi_91 hP hD hS hl
            refine lv_iload hx hb dX9_measureFrom_63 (lv_at hl 6 rfl) ?_
            refine lv_iload_n hx hb dX9_measureFrom_65 rfl (lv_at hl 2 rfl) ?_
            refine lv_icmp_gt (tgt := 107) hx hb dX9_measureFrom_66 (by decide) (fun c_118 => ?_) (fun c_118 => ?_)
            · have f_119 : zi_91.toInt > zib.toInt := ic_gt (rfl) (rfl) c_118
              refine lv_iload_n hx hb dX9_measureFrom_107 rfl (lv_at hl 3 rfl) ?_
              refine lv_istore (lv' := [(6, .int ziy), (0, .ref zw), (1, .int zia), (2, .int zib), (3, .int ziy), (4, .ref zb_89), (5, .ref zb_90)]) hx hb dX9_measureFrom_108 hl (by decide) rfl (fun ls hl => ?_)
              have lp_155 : ∀ (n : Nat) (zi_131 : Int32) (zJ_132 : Nat → Nat → Int64) (H : Heap) (locs : List Loc) (ls : Array Slot), (24 - zi_131.toInt).toNat = n → (0 ≤ zi_131.toInt ∧ zi_131.toInt ≤ 24) → (ziy.toInt ≤ zi_131.toInt) → va_P (dC, dI) vwCl (WL cy zL zT zR zI zJ_132) H → va_D A (WL cy zL zT zR zI zJ_132) → va_S A s.heap H locs → lv_has ls 8 [(0, .ref zw), (1, .int zia), (2, .int zib), (3, .int ziy), (4, .ref zb_89), (5, .ref zb_90), (6, .int zi_131)] → W p l e ({ frames := 2, cells := 0, slots := 0, locals := 61 } : Room) s m ([.ref zw, .int zia, .int zib, .int ziy] : List Value).toArray below meth c H locs 0 0 Q (F0 m 110 ls []) := by
                intro n
                induction n using Nat.strongRecOn with
                | _ n ih_155 =>
                  intro zi_131 zJ_132 H locs ls hn b_zi_131 e_lp_155_0 hP hD hS hl
                  refine lv_iload hx hb dX9_measureFrom_110 (lv_at hl 6 rfl) ?_
                  refine lv_bipush (v := 24) hx hb dX9_measureFrom_112 (by decide) ?_
                  refine lv_icmp_ge (tgt := 144) hx hb dX9_measureFrom_114 (by decide) (fun c_156 => ?_) (fun c_156 => ?_)
                  · have f_157 : zi_131.toInt ≥ (24 : Int) := ic_ge (rfl) (show (24 : Int32).toInt = 24 by decide) c_156
                    subst hQ
                    exact W.vret hx hb hr (fun t ht hW => ⟨⟨zJ_132, rfl, trivial, ⟨by rw [ht]; exact hP, va_K.moved hW.alike hK, hD⟩⟩, hS.F ht⟩) hS.2.2 dX9_measureFrom_144
                  · have f_157 : ¬ (zi_131.toInt ≥ (24 : Int)) := ic_nge (rfl) (show (24 : Int32).toInt = 24 by decide) c_156
                    refine lv_aload_n hx hb dX9_measureFrom_117 rfl (lv_at hl 0 rfl) ?_
                    refine ht_getr (C := RX9) (T := TX9) (N := 16) hx hb hts (by decide +kernel) hown hK hP hs t_zw (by decide) rfl rfl 9 (by decide) (hts (.fieldLink RX9 41 "DripStone$Ways" "distances" "[J") (by decide +kernel)) (fun _ h9 => h9) rfl dX9_measureFrom_118 ?_
                    have t_158 : zT (zR zw 9) = 51 := sk_f hs t_zw (by decide) rfl (by decide)
                    refine lv_iload hx hb dX9_measureFrom_121 (lv_at hl 6 rfl) ?_
                    refine lv_iload_n hx hb dX9_measureFrom_123 rfl (lv_at hl 3 rfl) ?_
                    refine lv_isub hx hb dX9_measureFrom_124 ?_
                    refine lv_topi (fun zi_159 ezi_159 => ?_)
                    have tzi_159 : zi_159.toInt = zi_131.toInt - ziy.toInt := by rw [ezi_159]; exact tisub (rfl) (rfl) (by omega) (by omega)
                    refine lv_dup2_11 hx hb dX9_measureFrom_125 rfl rfl ?_
                    refine ht_lald (n := 24) (q := 1) hx hb hK hP hs t_158 (by decide) rfl rfl ⟨by omega, by omega⟩ dX9_measureFrom_126 ?_
                    refine lv_topl (fun zj_160 ezj_160 => ?_)
                    refine lv_aload_n hx hb dX9_measureFrom_127 rfl (lv_at hl 0 rfl) ?_
                    refine lv_aload hx hb dX9_measureFrom_128 (lv_at hl 4 rfl) ?_
                    refine lv_iload_n hx hb dX9_measureFrom_130 rfl (lv_at hl 2 rfl) ?_
                    refine lv_iload hx hb dX9_measureFrom_131 (lv_at hl 6 rfl) ?_
                    refine hj_l (ws := (WL cy zL zT zR zI zJ_132)) (w1 := fun (u : Unit) => (WL cy zL zT zR zI zJ_132)) (va_runV (As := [.ref zb_89, .int zib, .int zi_131]) (rest := [.long zj_160, .int zi_159, .ref (zR zw 9)]) ⟨hx, hb, hml, hown, hts⟩ (t_X9_meeting l dC dI cy H.size zL zT zR zI zJ_132 zw zb_89 zib zi_131 hs h_zI.1 t_zw t_zb_89 (by omega) (by omega)) (cwV 3 hts gX9_measureFrom_X9_meeting rfl rfl rfl (by decide +kernel) ⟨(Nat.le_of_ble_eq_true rfl), (Nat.le_of_ble_eq_true rfl)⟩) (PRE.v hP hK hD hN (ht_recv hK hP hs t_zw (by decide) rfl rfl)) rfl rfl hl.1 rfl (lv_room (Nat.le_of_ble_eq_true rfl)) dX9_measureFrom_133 ⟨(Nat.le_of_ble_eq_true rfl), (Nat.le_of_ble_eq_true rfl)⟩) hP hD hS hA (fun zj_161 u_163 H locs hw_162 hP hD hS => ?_)
                    refine lv_ladd hx hb dX9_measureFrom_136 ?_
                    refine lv_topl (fun zj_164 ezj_164 => ?_)
                    refine ht_last (v := zj_164) (n := 24) (q := 1) hx hb hK hP hD hS hs t_158 (by decide) rfl rfl ⟨by omega, by omega⟩ dX9_measureFrom_137 (fun H locs hP hD hS => ?_)
                    generalize uzJ_165 : u2 zJ_132 (zR zw 9) zi_159.toNatClampNeg zj_164 = zJ_165 at hP hD
                    obtain ⟨zi_166, ezi_166⟩ : ∃ y : Int32, y = zi_131 + 1 := ⟨_, rfl⟩
                    have tzi_166 : zi_166.toInt = zi_131.toInt + 1 := by rw [ezi_166]; exact tadd rfl (show (1 : Int32).toInt = 1 by decide) (by omega) (by omega)
                    refine lv_iinc (v := zi_166) (lv' := [(6, .int zi_166), (0, .ref zw), (1, .int zia), (2, .int zib), (3, .int ziy), (4, .ref zb_89), (5, .ref zb_90)]) hx hb dX9_measureFrom_138 hl (k := 6) rfl (by rw [ezi_166]; rfl) (by decide) rfl (fun ls hl => ?_)
                    refine lv_goto (tgt := 110) hx hb dX9_measureFrom_141 (by decide) ?_
                    exact ih_155 (24 - zi_166.toInt).toNat (by omega) zi_166 zJ_165 _ _ _ rfl (by omega) (by omega) hP hD hS (lv_sub hl [1, 2, 3, 4, 5, 6, 0] rfl)
              exact lp_155 _ ziy zJ_92 _ _ _ rfl (by omega) (by omega) hP hD hS (lv_sub hl [1, 2, 3, 4, 5, 6, 0] rfl)
            · have f_119 : ¬ (zi_91.toInt > zib.toInt) := ic_ngt (rfl) (rfl) c_118
              refine lv_aload hx hb dX9_measureFrom_69 (lv_at hl 5 rfl) ?_
              refine lv_lconst (v := 0) hx hb dX9_measureFrom_71 (by decide) ?_
              refine hj_v (ws := (WL cy zL zT zR zI zJ_92)) (w1 := fun (u : (Nat → Nat → Int64)) => (WL cy zL zT zR zI u)) (va_runS (As := [.ref zb_90, .long 0]) (rest := []) ⟨hx, hb, hml, hown, hts⟩ (t_fill_50 l dC dI cy H.size zL zT zR zI zJ_92 zb_90 (0 : Int64) hs h_zI.1 t_zb_90) (va_cwS 2 hts gX9_measureFrom_J7_fill_d0a16 rfl rfl rfl (by decide +kernel) ⟨(Nat.le_of_ble_eq_true rfl), (Nat.le_of_ble_eq_true rfl)⟩) (PRE.s hP hK hD hN) rfl rfl hl.1 rfl (lv_room (Nat.le_of_ble_eq_true rfl)) dX9_measureFrom_72 ⟨(Nat.le_of_ble_eq_true rfl), (Nat.le_of_ble_eq_true rfl)⟩) hP hD hS hA (fun zJ_170 H locs hw_168 hP hD hS => ?_)
              refine lv_aload_n hx hb dX9_measureFrom_75 rfl (lv_at hl 0 rfl) ?_
              refine lv_aload hx hb dX9_measureFrom_76 (lv_at hl 4 rfl) ?_
              refine lv_aload hx hb dX9_measureFrom_78 (lv_at hl 5 rfl) ?_
              refine lv_iload hx hb dX9_measureFrom_80 (lv_at hl 6 rfl) ?_
              refine lv_aload_n hx hb dX9_measureFrom_82 rfl (lv_at hl 0 rfl) ?_
              refine ht_getr (C := RX9) (T := TX9) (N := 16) hx hb hts (by decide +kernel) hown hK hP hs t_zw (by decide) rfl rfl 10 (by decide) (hts (.fieldLink RX9 45 "DripStone$Ways" "unmarked" "[I") (by decide +kernel)) (fun _ h9 => h9) rfl dX9_measureFrom_83 ?_
              have t_171 : zT (zR zw 10) = 43 := sk_f hs t_zw (by decide) rfl (by decide)
              refine hj_v (ws := (WL cy zL zT zR zI zJ_170)) (w1 := fun (u : (Nat → Nat → Int64)) => (WL cy zL zT zR zI u)) (va_runV (As := [.ref zb_89, .ref zb_90, .int zi_91, .ref (zR zw 10)]) (rest := []) ⟨hx, hb, hml, hown, hts⟩ (t_X9_advance_a l dC dI cy H.size zL zT zR zI zJ_170 zw zb_89 zb_90 zi_91 (zR zw 10) hs h_zI.1 t_zw t_zb_89 t_zb_90 t_171 (by omega) (by omega)) (cwV 4 hts gX9_measureFrom_X9_advance rfl rfl rfl (by decide +kernel) ⟨(Nat.le_of_ble_eq_true rfl), (Nat.le_of_ble_eq_true rfl)⟩) (PRE.v hP hK hD hN (ht_recv hK hP hs t_zw (by decide) rfl rfl)) rfl rfl hl.1 rfl (lv_room (Nat.le_of_ble_eq_true rfl)) dX9_measureFrom_86 ⟨(Nat.le_of_ble_eq_true rfl), (Nat.le_of_ble_eq_true rfl)⟩) hP hD hS hA (fun zJ_175 H locs hw_173 hP hD hS => ?_)
              refine lv_aload hx hb dX9_measureFrom_89 (lv_at hl 4 rfl) ?_
              refine lv_astore (lv' := [(7, .ref zb_89), (0, .ref zw), (1, .int zia), (2, .int zib), (3, .int ziy), (4, .ref zb_89), (5, .ref zb_90), (6, .int zi_91)]) hx hb dX9_measureFrom_91 hl (by decide) rfl (fun ls hl => ?_)
              refine lv_aload hx hb dX9_measureFrom_93 (lv_at hl 6 rfl) ?_
              refine lv_astore (lv' := [(4, .ref zb_90), (7, .ref zb_89), (0, .ref zw), (1, .int zia), (2, .int zib), (3, .int ziy), (5, .ref zb_90), (6, .int zi_91)]) hx hb dX9_measureFrom_95 hl (by decide) rfl (fun ls hl => ?_)
              refine lv_aload hx hb dX9_measureFrom_97 (lv_at hl 1 rfl) ?_
              refine lv_astore (lv' := [(5, .ref zb_89), (4, .ref zb_90), (7, .ref zb_89), (0, .ref zw), (1, .int zia), (2, .int zib), (3, .int ziy), (6, .int zi_91)]) hx hb dX9_measureFrom_99 hl (by decide) rfl (fun ls hl => ?_)
              obtain ⟨zi_176, ezi_176⟩ : ∃ y : Int32, y = zi_91 + 1 := ⟨_, rfl⟩
              have tzi_176 : zi_176.toInt = zi_91.toInt + 1 := by rw [ezi_176]; exact tadd rfl (show (1 : Int32).toInt = 1 by decide) (by omega) (by omega)
              refine lv_iinc (v := zi_176) (lv' := [(6, .int zi_176), (5, .ref zb_89), (4, .ref zb_90), (7, .ref zb_89), (0, .ref zw), (1, .int zia), (2, .int zib), (3, .int ziy)]) hx hb dX9_measureFrom_101 hl (k := 7) rfl (by rw [ezi_176]; rfl) (by decide) rfl (fun ls hl => ?_)
              refine lv_goto (tgt := 63) hx hb dX9_measureFrom_104 (by decide) ?_
              exact ih_117 (zib.toInt - zi_176.toInt + 1).toNat (by omega) zb_90 zb_89 zi_176 zJ_175 _ _ _ rfl t_zb_90 t_zb_89 (by omega) hP hD hS (lv_sub hl [4, 5, 6, 7, 2, 1, 0] rfl)
        exact lp_117 _ (zR zw 11) (zR zw 12) zi_76 zJ_59 _ _ _ rfl t_1 t_2 (by omega) hP hD hS (lv_sub hl [1, 2, 3, 4, 5, 6, 0] rfl)
      · have f_75 : ¬ (zi_58.toInt ≥ zi_73.toInt) := ic_nge (rfl) (rfl) c_74
        refine lv_aload hx hb dX9_measureFrom_30 (lv_at hl 4 rfl) ?_
        refine lv_iload_n hx hb dX9_measureFrom_32 rfl (lv_at hl 3 rfl) ?_
        refine lv_iconst (v := 4) hx hb dX9_measureFrom_33 (by decide) ?_
        refine lv_imul hx hb dX9_measureFrom_34 ?_
        refine lv_topi (fun zi_177 ezi_177 => ?_)
        have tzi_177 : zi_177.toInt = ziy.toInt * (4 : Int) := by rw [ezi_177]; exact timul (rfl) (show (4 : Int32).toInt = 4 by decide) (by omega) (by omega)
        refine lv_iload hx hb dX9_measureFrom_35 (lv_at hl 6 rfl) ?_
        refine lv_iadd hx hb dX9_measureFrom_37 ?_
        refine lv_topi (fun zi_178 ezi_178 => ?_)
        have tzi_178 : zi_178.toInt = zi_177.toInt + zi_58.toInt := by rw [ezi_178]; exact tiadd (rfl) (rfl) (by omega) (by omega)
        refine lv_aload_n hx hb dX9_measureFrom_38 rfl (lv_at hl 0 rfl) ?_
        refine ht_getr (C := RX9) (T := TX9) (N := 16) hx hb hts (by decide +kernel) hown hK hP hs t_zw (by decide) rfl rfl 7 (by decide) (hts (.fieldLink RX9 35 "DripStone$Ways" "fore" "[[J") (by decide +kernel)) (fun _ h9 => h9) rfl dX9_measureFrom_39 ?_
        have t_179 : zT (zR zw 7) = 65 := sk_f hs t_zw (by decide) rfl (by decide)
        refine lv_iload_n hx hb dX9_measureFrom_42 rfl (lv_at hl 1 rfl) ?_
        refine ht_aaldA (n := 12) (q := 8) hx hb hK hP hs t_179 (by decide) rfl rfl ⟨by omega, by omega⟩ dX9_measureFrom_43 ?_
        have t_180 : zT (zR (zR zw 7) zia.toNatClampNeg) = 50 := sk_a (n := 12) hs t_179 rfl rfl (by decide) (cl_lt (by omega) (by omega))
        refine lv_iload_n hx hb dX9_measureFrom_44 rfl (lv_at hl 3 rfl) ?_
        refine lv_iconst (v := 4) hx hb dX9_measureFrom_45 (by decide) ?_
        refine lv_imul hx hb dX9_measureFrom_46 ?_
        refine lv_topi (fun zi_181 ezi_181 => ?_)
        have tzi_181 : zi_181.toInt = ziy.toInt * (4 : Int) := by rw [ezi_181]; exact timul (rfl) (show (4 : Int32).toInt = 4 by decide) (by omega) (by omega)
        refine lv_iload hx hb dX9_measureFrom_47 (lv_at hl 6 rfl) ?_
        refine lv_iadd hx hb dX9_measureFrom_49 ?_
        refine lv_topi (fun zi_182 ezi_182 => ?_)
        have tzi_182 : zi_182.toInt = zi_181.toInt + zi_58.toInt := by rw [ezi_182]; exact tiadd (rfl) (rfl) (by omega) (by omega)
        refine ht_lald (n := 96) (q := 1) hx hb hK hP hs t_180 (by decide) rfl rfl ⟨by omega, by omega⟩ dX9_measureFrom_50 ?_
        refine lv_topl (fun zj_183 ezj_183 => ?_)
        refine ht_last (v := zj_183) (n := 96) (q := 1) hx hb hK hP hD hS hs t_1 (by decide) rfl rfl ⟨by omega, by omega⟩ dX9_measureFrom_51 (fun H locs hP hD hS => ?_)
        generalize uzJ_184 : u2 zJ_59 (zR zw 11) zi_178.toNatClampNeg zj_183 = zJ_184 at hP hD
        obtain ⟨zi_185, ezi_185⟩ : ∃ y : Int32, y = zi_58 + 1 := ⟨_, rfl⟩
        have tzi_185 : zi_185.toInt = zi_58.toInt + 1 := by rw [ezi_185]; exact tadd rfl (show (1 : Int32).toInt = 1 by decide) (by omega) (by omega)
        refine lv_iinc (v := zi_185) (lv' := [(6, .int zi_185), (0, .ref zw), (1, .int zia), (2, .int zib), (3, .int ziy), (4, .ref (zR zw 11)), (5, .ref (zR zw 12))]) hx hb dX9_measureFrom_52 hl (k := 6) rfl (by rw [ezi_185]; rfl) (by decide) rfl (fun ls hl => ?_)
        refine lv_goto (tgt := 21) hx hb dX9_measureFrom_55 (by decide) ?_
        exact ih_72 (4 - zi_185.toInt).toNat (by omega) zi_185 zJ_184 _ _ _ rfl (by omega) hP hD hS (lv_sub hl [1, 2, 3, 4, 5, 6, 0] rfl)
  exact lp_72 _ (0 : Int32) zJ_6 _ _ _ rfl (by decide) hP hD hS (lv_sub hl [3, 4, 5, 6, 2, 1, 0] rfl)
set_option maxHeartbeats 8000000 in
set_option maxRecDepth 100000 in
theorem t_X9_measure (l : Launch) (dC : Nat → ClassId) (dI : Nat → Nat → Nat) (cy : Nat → ClassId) (sz : Nat) (zL : List Nat) (zT : Nat → Nat) (zR : Nat → Nat → Nat) (zI : Nat → Nat → Int32) (zJ : Nat → Nat → Int64) (zw : Nat) (zia : Int32) (zib : Int32) (hs : SKP zL zT zR) (hw : WT zT zR zI) (t_zw : zT zw = 10) (b_zia : 0 ≤ zia.toInt ∧ zia.toInt ≤ 11) (b_zib : 0 ≤ zib.toInt ∧ zib.toInt ≤ 11) (hx1 : zib.toInt < (zI zw 14).toInt) : Met l yX9_measure wsX9_measure ({ frames := 3, cells := 0, slots := 0, locals := 88 } : Room) (va_Pc [.ref zw, .int zia, .int zib] (PRE dC dI cy (WL cy zL zT zR zI zJ) sz)) (va_Qv (fun (u : (Nat → Nat → Int64)) => True) (fun u t => POST dC dI cy (va_A (WL cy zL zT zR zI zJ) sz) (WL cy zL zT zR zI u) t) (va_A (WL cy zL zT zR zI zJ) sz)) 0 0 (va_A (WL cy zL zT zR zI zJ) sz) := by
  refine Met.ofW (cc := cX9_measure) (maxL := 4) (ret := none) (by decide) rfl ?_
  intro p e s m args below meth c s₁ B hml hv
  obtain ⟨rfl, hsz, hP, hK, hD0, hN⟩ := hv
  have hx := B.exec
  have hb := B.bytes
  have hr := B.returns
  have hts := atoms_spec (ws := wsX9_measure) B.pre
  have hown : s.vm.findClass RX9 = some m.cls := findClass_of_methodNamed B.named
  have hlocks := B.notSynchronized
  subst hsz
  have hD := hD0.self (sz := s.heap.size)
  generalize hAe : va_A (WL cy zL zT zR zI zJ) s.heap.size = A at hD ⊢
  have hA : ∀ q : Nat, s.heap.size ≤ q → A q := fun q h => by rw [← hAe]; exact Or.inr h
  have hS : va_S A s.heap s.heap [] := va_S.rf
  have hP : va_P (dC, dI) vwCl (WL cy zL zT zR zI zJ) s.heap := hP
  have hl := lv_entry ([.ref zw, .int zia, .int zib] : List Value) (n := 4) (Nat.le_of_ble_eq_true rfl)
  rw [lg_entry_eq]
  generalize (lg_sl ([.ref zw, .int zia, .int zib] : List Value) ++ List.replicate (4 - (lg_sl ([.ref zw, .int zia, .int zib] : List Value)).length) Slot.unset).toArray = ls at hl ⊢
  have hl : lv_has ls 4 [(0, .ref zw), (1, .int zia), (2, .int zib)] := hl
  refine w_q (fun Q hQ => ?_)
  have h_zI : WM [] AL zT zR zI zI := WM.rf hw
  refine lv_aload_n hx hb dX9_measure_0 rfl (lv_at hl 0 rfl) ?_
  refine ht_getr (C := RX9) (T := TX9) (N := 16) hx hb hts (by decide +kernel) hown hK hP hs t_zw (by decide) rfl rfl 9 (by decide) (hts (.fieldLink RX9 41 "DripStone$Ways" "distances" "[J") (by decide +kernel)) (fun _ h9 => h9) rfl dX9_measure_1 ?_
  have t_1 : zT (zR zw 9) = 51 := sk_f hs t_zw (by decide) rfl (by decide)
  refine lv_lconst (v := 0) hx hb dX9_measure_4 (by decide) ?_
  refine hj_v (ws := (WL cy zL zT zR zI zJ)) (w1 := fun (u : (Nat → Nat → Int64)) => (WL cy zL zT zR zI u)) (va_runS (As := [.ref (zR zw 9), .long 0]) (rest := []) ⟨hx, hb, hml, hown, hts⟩ (t_fill_51 l dC dI cy s.heap.size zL zT zR zI zJ (zR zw 9) (0 : Int64) hs h_zI.1 t_1) (va_cwS 2 hts gX9_measure_J7_fill_d0a16 rfl rfl rfl (by decide +kernel) ⟨(Nat.le_of_ble_eq_true rfl), (Nat.le_of_ble_eq_true rfl)⟩) (PRE.s hP hK hD hN) rfl rfl hl.1 rfl (lv_room (Nat.le_of_ble_eq_true rfl)) dX9_measure_5 ⟨(Nat.le_of_ble_eq_true rfl), (Nat.le_of_ble_eq_true rfl)⟩) hP hD hS hA (fun zJ_5 H locs hw_3 hP hD hS => ?_)
  refine lv_aload_n hx hb dX9_measure_8 rfl (lv_at hl 0 rfl) ?_
  refine ht_getr (C := RX9) (T := TX9) (N := 16) hx hb hts (by decide +kernel) hown hK hP hs t_zw (by decide) rfl rfl 2 (by decide) (hts (.fieldLink RX9 18 "DripStone$Ways" "earliest" "[I") (by decide +kernel)) (fun _ h9 => h9) rfl dX9_measure_9 ?_
  have t_6 : zT (zR zw 2) = 39 := sk_f hs t_zw (by decide) rfl (by decide)
  refine lv_iload_n hx hb dX9_measure_12 rfl (lv_at hl 1 rfl) ?_
  refine ht_iald (n := 12) (q := 0) hx hb hK hP hs t_6 (by decide) rfl rfl ⟨by omega, by omega⟩ dX9_measure_13 ?_
  refine lv_topi (fun zi_7 ezi_7 => ?_)
  have tzi_7 : 0 ≤ zi_7.toInt ∧ zi_7.toInt ≤ 23 := by rw [ezi_7]; exact h_zI.at t_6 _ rfl
  refine lv_istore_n (lv' := [(3, .int zi_7), (0, .ref zw), (1, .int zia), (2, .int zib)]) hx hb dX9_measure_14 rfl hl (by decide) rfl (fun ls hl => ?_)
  have lp_37 : ∀ (n : Nat) (zi_17 : Int32) (zJ_18 : Nat → Nat → Int64) (H : Heap) (locs : List Loc) (ls : Array Slot), (24 - zi_17.toInt).toNat = n → (0 ≤ zi_17.toInt ∧ zi_17.toInt ≤ 24) → va_P (dC, dI) vwCl (WL cy zL zT zR zI zJ_18) H → va_D A (WL cy zL zT zR zI zJ_18) → va_S A s.heap H locs → lv_has ls 4 [(0, .ref zw), (1, .int zia), (2, .int zib), (3, .int zi_17)] → W p l e ({ frames := 3, cells := 0, slots := 0, locals := 88 } : Room) s m ([.ref zw, .int zia, .int zib] : List Value).toArray below meth c H locs 0 0 Q (F0 m 15 ls []) := by
    intro n
    induction n using Nat.strongRecOn with
    | _ n ih_37 =>
      intro zi_17 zJ_18 H locs ls hn b_zi_17 hP hD hS hl
      refine lv_iload_n hx hb dX9_measure_15 rfl (lv_at hl 3 rfl) ?_
      refine lv_aload_n hx hb dX9_measure_16 rfl (lv_at hl 0 rfl) ?_
      refine ht_getr (C := RX9) (T := TX9) (N := 16) hx hb hts (by decide +kernel) hown hK hP hs t_zw (by decide) rfl rfl 3 (by decide) (hts (.fieldLink RX9 21 "DripStone$Ways" "latest" "[I") (by decide +kernel)) (fun _ h9 => h9) rfl dX9_measure_17 ?_
      have t_38 : zT (zR zw 3) = 39 := sk_f hs t_zw (by decide) rfl (by decide)
      refine lv_iload_n hx hb dX9_measure_20 rfl (lv_at hl 1 rfl) ?_
      refine ht_iald (n := 12) (q := 0) hx hb hK hP hs t_38 (by decide) rfl rfl ⟨by omega, by omega⟩ dX9_measure_21 ?_
      refine lv_topi (fun zi_39 ezi_39 => ?_)
      have tzi_39 : 0 ≤ zi_39.toInt ∧ zi_39.toInt ≤ 23 := by rw [ezi_39]; exact h_zI.at t_38 _ rfl
      refine lv_icmp_gt (tgt := 38) hx hb dX9_measure_22 (by decide) (fun c_40 => ?_) (fun c_40 => ?_)
      · have f_41 : zi_17.toInt > zi_39.toInt := ic_gt (rfl) (rfl) c_40
        subst hQ
        exact W.vret hx hb hr (fun t ht hW => ⟨⟨zJ_18, rfl, trivial, ⟨by rw [ht]; exact hP, va_K.moved hW.alike hK, hD⟩⟩, hS.F ht⟩) hS.2.2 dX9_measure_38
      · have f_41 : ¬ (zi_17.toInt > zi_39.toInt) := ic_ngt (rfl) (rfl) c_40
        refine lv_aload_n hx hb dX9_measure_25 rfl (lv_at hl 0 rfl) ?_
        refine lv_iload_n hx hb dX9_measure_26 rfl (lv_at hl 1 rfl) ?_
        refine lv_iload_n hx hb dX9_measure_27 rfl (lv_at hl 2 rfl) ?_
        refine lv_iload_n hx hb dX9_measure_28 rfl (lv_at hl 3 rfl) ?_
        refine hj_v (ws := (WL cy zL zT zR zI zJ_18)) (w1 := fun (u : (Nat → Nat → Int64)) => (WL cy zL zT zR zI u)) (va_runV (As := [.int zia, .int zib, .int zi_17]) (rest := []) ⟨hx, hb, hml, hown, hts⟩ (t_X9_measureFrom l dC dI cy H.size zL zT zR zI zJ_18 zw zia zib zi_17 hs h_zI.1 t_zw (by omega) (by omega) (by omega) (by omega)) (cwV 3 hts gX9_measure_X9_measureFrom rfl rfl rfl (by decide +kernel) ⟨(Nat.le_of_ble_eq_true rfl), (Nat.le_of_ble_eq_true rfl)⟩) (PRE.v hP hK hD hN (ht_recv hK hP hs t_zw (by decide) rfl rfl)) rfl rfl hl.1 rfl (lv_room (Nat.le_of_ble_eq_true rfl)) dX9_measure_29 ⟨(Nat.le_of_ble_eq_true rfl), (Nat.le_of_ble_eq_true rfl)⟩) hP hD hS hA (fun zJ_45 H locs hw_43 hP hD hS => ?_)
        obtain ⟨zi_46, ezi_46⟩ : ∃ y : Int32, y = zi_17 + 1 := ⟨_, rfl⟩
        have tzi_46 : zi_46.toInt = zi_17.toInt + 1 := by rw [ezi_46]; exact tadd rfl (show (1 : Int32).toInt = 1 by decide) (by omega) (by omega)
        refine lv_iinc (v := zi_46) (lv' := [(3, .int zi_46), (0, .ref zw), (1, .int zia), (2, .int zib)]) hx hb dX9_measure_32 hl (k := 3) rfl (by rw [ezi_46]; rfl) (by decide) rfl (fun ls hl => ?_)
        refine lv_goto (tgt := 15) hx hb dX9_measure_35 (by decide) ?_
        exact ih_37 (24 - zi_46.toInt).toNat (by omega) zi_46 zJ_45 _ _ _ rfl (by omega) hP hD hS (lv_sub hl [1, 2, 3, 0] rfl)
  exact lp_37 _ zi_7 zJ_5 _ _ _ rfl (by omega) hP hD hS (lv_sub hl [1, 2, 3, 0] rfl)
set_option maxHeartbeats 8000000 in
set_option maxRecDepth 100000 in
theorem t_X9_distanceEnd (l : Launch) (dC : Nat → ClassId) (dI : Nat → Nat → Nat) (cy : Nat → ClassId) (sz : Nat) (zL : List Nat) (zT : Nat → Nat) (zR : Nat → Nat → Nat) (zI : Nat → Nat → Int32) (zJ : Nat → Nat → Int64) (zw : Nat) (zia : Int32) (hs : SKP zL zT zR) (hw : WT zT zR zI) (t_zw : zT zw = 10) : Met l yX9_distanceEnd wsX9_distanceEnd ({ frames := 0, cells := 0, slots := 0, locals := 0 } : Room) (va_Pc [.ref zw, .int zia] (PRE dC dI cy (WL cy zL zT zR zI zJ) sz)) (va_Qi (fun (r : Int32) (u : Unit) => (0 ≤ r.toInt ∧ r.toInt ≤ 23)) (fun u t => POST dC dI cy (va_A (WL cy zL zT zR zI zJ) sz) (WL cy zL zT zR zI zJ) t) (va_A (WL cy zL zT zR zI zJ) sz)) 0 0 (va_A (WL cy zL zT zR zI zJ) sz) := by
  refine Met.ofW (cc := cX9_distanceEnd) (maxL := 5) (ret := (some .int)) (by decide) rfl ?_
  intro p e s m args below meth c s₁ B hml hv
  obtain ⟨rfl, hsz, hP, hK, hD0, hN⟩ := hv
  have hx := B.exec
  have hb := B.bytes
  have hr := B.returns
  have hts := atoms_spec (ws := wsX9_distanceEnd) B.pre
  have hown : s.vm.findClass RX9 = some m.cls := findClass_of_methodNamed B.named
  have hlocks := B.notSynchronized
  subst hsz
  have hD := hD0.self (sz := s.heap.size)
  generalize hAe : va_A (WL cy zL zT zR zI zJ) s.heap.size = A at hD ⊢
  have hA : ∀ q : Nat, s.heap.size ≤ q → A q := fun q h => by rw [← hAe]; exact Or.inr h
  have hS : va_S A s.heap s.heap [] := va_S.rf
  have hP : va_P (dC, dI) vwCl (WL cy zL zT zR zI zJ) s.heap := hP
  have hl := lv_entry ([.ref zw, .int zia] : List Value) (n := 5) (Nat.le_of_ble_eq_true rfl)
  rw [lg_entry_eq]
  generalize (lg_sl ([.ref zw, .int zia] : List Value) ++ List.replicate (5 - (lg_sl ([.ref zw, .int zia] : List Value)).length) Slot.unset).toArray = ls at hl ⊢
  have hl : lv_has ls 5 [(0, .ref zw), (1, .int zia)] := hl
  refine w_q (fun Q hQ => ?_)
  have h_zI : WM [] AL zT zR zI zI := WM.rf hw
  refine lv_iconst (v := 0) hx hb dX9_distanceEnd_0 (by decide) ?_
  refine lv_istore_n (lv' := [(2, .int 0), (0, .ref zw), (1, .int zia)]) hx hb dX9_distanceEnd_1 rfl hl (by decide) rfl (fun ls hl => ?_)
  refine lv_iconst (v := 0) hx hb dX9_distanceEnd_2 (by decide) ?_
  refine lv_istore_n (lv' := [(3, .int 0), (2, .int 0), (0, .ref zw), (1, .int zia)]) hx hb dX9_distanceEnd_3 rfl hl (by decide) rfl (fun ls hl => ?_)
  have lp_95 : ∀ (n : Nat) (zi_75 : Int32) (zi_76 : Int32) (H : Heap) (locs : List Loc) (ls : Array Slot), (24 - zi_76.toInt).toNat = n → (0 ≤ zi_75.toInt ∧ zi_75.toInt ≤ 23) → (0 ≤ zi_76.toInt ∧ zi_76.toInt ≤ 24) → va_P (dC, dI) vwCl (WL cy zL zT zR zI zJ) H → va_D A (WL cy zL zT zR zI zJ) → va_S A s.heap H locs → lv_has ls 5 [(0, .ref zw), (1, .int zia), (2, .int zi_75), (3, .int zi_76)] → W p l e ({ frames := 0, cells := 0, slots := 0, locals := 0 } : Room) s m ([.ref zw, .int zia] : List Value).toArray below meth c H locs 0 0 Q (F0 m 4 ls []) := by
    intro n
    induction n using Nat.strongRecOn with
    | _ n ih_95 =>
      intro zi_75 zi_76 H locs ls hn b_zi_75 b_zi_76 hP hD hS hl
      refine lv_iload_n hx hb dX9_distanceEnd_4 rfl (lv_at hl 3 rfl) ?_
      refine lv_bipush (v := 24) hx hb dX9_distanceEnd_5 (by decide) ?_
      refine lv_icmp_ge (tgt := 45) hx hb dX9_distanceEnd_7 (by decide) (fun c_96 => ?_) (fun c_96 => ?_)
      · have f_97 : zi_76.toInt ≥ (24 : Int) := ic_ge (rfl) (show (24 : Int32).toInt = 24 by decide) c_96
        refine lv_iload_n hx hb dX9_distanceEnd_45 rfl (lv_at hl 2 rfl) ?_
        subst hQ
        exact W.iret (v := zi_75) hx hb hr (fun t ht hW => ⟨⟨zi_75, (), rfl, (show 0 ≤ zi_75.toInt ∧ zi_75.toInt ≤ 23 from by omega), ⟨by rw [ht]; exact hP, va_K.moved hW.alike hK, hD⟩⟩, hS.F ht⟩) hS.2.2 dX9_distanceEnd_46
      · have f_97 : ¬ (zi_76.toInt ≥ (24 : Int)) := ic_nge (rfl) (show (24 : Int32).toInt = 24 by decide) c_96
        refine lv_iload_n hx hb dX9_distanceEnd_10 rfl (lv_at hl 1 rfl) ?_
        have jn_102 : ∀ (zi_101 : Int32) (H : Heap) (locs : List Loc) (ls : Array Slot), (0 ≤ zi_101.toInt ∧ zi_101.toInt ≤ 23) → va_P (dC, dI) vwCl (WL cy zL zT zR zI zJ) H → va_D A (WL cy zL zT zR zI zJ) → va_S A s.heap H locs → lv_has ls 5 [(0, .ref zw), (1, .int zia), (2, .int zi_75), (3, .int zi_76)] → W p l e ({ frames := 0, cells := 0, slots := 0, locals := 0 } : Room) s m ([.ref zw, .int zia] : List Value).toArray below meth c H locs 0 0 Q (F0 m 22 ls [.int zi_101]) := by
          intro zi_101 H locs ls b_zi_101 hP hD hS hl
          refine lv_istore (lv' := [(4, .int zi_101), (0, .ref zw), (1, .int zia), (2, .int zi_75), (3, .int zi_76)]) hx hb dX9_distanceEnd_22 hl (by decide) rfl (fun ls hl => ?_)
          refine lv_aload_n hx hb dX9_distanceEnd_24 rfl (lv_at hl 1 rfl) ?_
          refine ht_getr (C := RX9) (T := TX9) (N := 16) hx hb hts (by decide +kernel) hown hK hP hs t_zw (by decide) rfl rfl 9 (by decide) (hts (.fieldLink RX9 41 "DripStone$Ways" "distances" "[J") (by decide +kernel)) (fun _ h9 => h9) rfl dX9_distanceEnd_25 ?_
          have t_103 : zT (zR zw 9) = 51 := sk_f hs t_zw (by decide) rfl (by decide)
          refine lv_iload hx hb dX9_distanceEnd_28 (lv_at hl 0 rfl) ?_
          refine ht_lald (n := 24) (q := 1) hx hb hK hP hs t_103 (by decide) rfl rfl ⟨by omega, by omega⟩ dX9_distanceEnd_30 ?_
          refine lv_topl (fun zj_104 ezj_104 => ?_)
          refine lv_lconst (v := 0) hx hb dX9_distanceEnd_31 (by decide) ?_
          refine W.lcmp hx hb dX9_distanceEnd_32 ?_
          refine lv_topi (fun zi_105 ezi_105 => ?_)
          have jn_109 : ∀ (zi_108 : Int32) (H : Heap) (locs : List Loc) (ls : Array Slot), (0 ≤ zi_108.toInt ∧ zi_108.toInt ≤ 23) → va_P (dC, dI) vwCl (WL cy zL zT zR zI zJ) H → va_D A (WL cy zL zT zR zI zJ) → va_S A s.heap H locs → lv_has ls 5 [(0, .ref zw), (1, .int zia), (2, .int zi_108), (3, .int zi_76), (4, .int zi_101)] → W p l e ({ frames := 0, cells := 0, slots := 0, locals := 0 } : Room) s m ([.ref zw, .int zia] : List Value).toArray below meth c H locs 0 0 Q (F0 m 39 ls []) := by
            intro zi_108 H locs ls b_zi_108 hP hD hS hl
            obtain ⟨zi_110, ezi_110⟩ : ∃ y : Int32, y = zi_76 + 1 := ⟨_, rfl⟩
            have tzi_110 : zi_110.toInt = zi_76.toInt + 1 := by rw [ezi_110]; exact tadd rfl (show (1 : Int32).toInt = 1 by decide) (by omega) (by omega)
            refine lv_iinc (v := zi_110) (lv' := [(3, .int zi_110), (0, .ref zw), (1, .int zia), (2, .int zi_108), (4, .int zi_101)]) hx hb dX9_distanceEnd_39 hl (k := 3) rfl (by rw [ezi_110]; rfl) (by decide) rfl (fun ls hl => ?_)
            refine lv_goto (tgt := 4) hx hb dX9_distanceEnd_42 (by decide) ?_
            exact ih_95 (24 - zi_110.toInt).toNat (by omega) zi_108 zi_110 _ _ _ rfl (by omega) (by omega) hP hD hS (lv_sub hl [1, 2, 3, 0] rfl)
          refine lv_if_le (tgt := 39) hx hb dX9_distanceEnd_33 (by decide) (fun c_111 => ?_) (fun c_111 => ?_)
          · have f_112 : ¬ (zj_104.toInt > (0 : Int)) := lk_le ezi_105 (rfl) (show (0 : Int64).toInt = 0 by decide) c_111
            exact jn_109 zi_75 _ _ _ (by omega) hP hD hS (lv_sub hl [1, 2, 3, 4, 0] rfl)
          · have f_112 : zj_104.toInt > (0 : Int) := lk_nle ezi_105 (rfl) (show (0 : Int64).toInt = 0 by decide) c_111
            refine lv_iload hx hb dX9_distanceEnd_36 (lv_at hl 0 rfl) ?_
            refine lv_istore_n (lv' := [(2, .int zi_101), (4, .int zi_101), (0, .ref zw), (1, .int zia), (3, .int zi_76)]) hx hb dX9_distanceEnd_38 rfl hl (by decide) rfl (fun ls hl => ?_)
            exact jn_109 zi_101 _ _ _ (by omega) hP hD hS (lv_sub hl [2, 3, 0, 4, 1] rfl)
        refine lv_if_ne (tgt := 21) hx hb dX9_distanceEnd_11 (by decide) (fun c_113 => ?_) (fun c_113 => ?_)
        · have f_114 : zia.toInt ≠ 0 := ic_ne (rfl) (by decide) c_113
          refine lv_iload_n hx hb dX9_distanceEnd_21 rfl (lv_at hl 3 rfl) ?_
          exact jn_102 zi_76 _ _ _ (by omega) hP hD hS (lv_sub hl [0, 1, 2, 3] rfl)
        · have f_114 : ¬ (zia.toInt ≠ 0) := ic_nne (rfl) (by decide) c_113
          refine lv_bipush (v := 23) hx hb dX9_distanceEnd_14 (by decide) ?_
          refine lv_iload_n hx hb dX9_distanceEnd_16 rfl (lv_at hl 3 rfl) ?_
          refine lv_isub hx hb dX9_distanceEnd_17 ?_
          refine lv_topi (fun zi_115 ezi_115 => ?_)
          have tzi_115 : zi_115.toInt = (23 : Int) - zi_76.toInt := by rw [ezi_115]; exact tisub (show (23 : Int32).toInt = 23 by decide) (rfl) (by omega) (by omega)
          refine lv_goto (tgt := 22) hx hb dX9_distanceEnd_18 (by decide) ?_
          exact jn_102 zi_115 _ _ _ (by omega) hP hD hS (lv_sub hl [0, 1, 2, 3] rfl)
  exact lp_95 _ (0 : Int32) (0 : Int32) _ _ _ rfl (by decide) (by decide) hP hD hS (lv_sub hl [2, 3, 1, 0] rfl)
set_option maxHeartbeats 8000000 in
set_option maxRecDepth 100000 in
theorem t_X9_follows (l : Launch) (dC : Nat → ClassId) (dI : Nat → Nat → Nat) (cy : Nat → ClassId) (sz : Nat) (zL : List Nat) (zT : Nat → Nat) (zR : Nat → Nat → Nat) (zI : Nat → Nat → Int32) (zJ : Nat → Nat → Int64) (zw : Nat) (zia : Int32) (zib : Int32) (ziy : Int32) (zip : Int32) (hs : SKP zL zT zR) (hw : WT zT zR zI) (t_zw : zT zw = 10) (b_zip : 0 ≤ zip.toInt ∧ zip.toInt ≤ 11) : Met l yX9_follows wsX9_follows ({ frames := 1, cells := 0, slots := 0, locals := 30 } : Room) (va_Pc [.ref zw, .int zia, .int zib, .int ziy, .int zip] (PRE dC dI cy (WL cy zL zT zR zI zJ) sz)) (va_Qi (fun (r : Int32) (u : Unit) => (0 ≤ r.toInt ∧ r.toInt ≤ 1)) (fun u t => POST dC dI cy (va_A (WL cy zL zT zR zI zJ) sz) (WL cy zL zT zR zI zJ) t) (va_A (WL cy zL zT zR zI zJ) sz)) 0 0 (va_A (WL cy zL zT zR zI zJ) sz) := by
  refine Met.ofW (cc := cX9_follows) (maxL := 5) (ret := (some .boolean)) (by decide) rfl ?_
  intro p e s m args below meth c s₁ B hml hv
  obtain ⟨rfl, hsz, hP, hK, hD0, hN⟩ := hv
  have hx := B.exec
  have hb := B.bytes
  have hr := B.returns
  have hts := atoms_spec (ws := wsX9_follows) B.pre
  have hown : s.vm.findClass RX9 = some m.cls := findClass_of_methodNamed B.named
  have hlocks := B.notSynchronized
  subst hsz
  have hD := hD0.self (sz := s.heap.size)
  generalize hAe : va_A (WL cy zL zT zR zI zJ) s.heap.size = A at hD ⊢
  have hA : ∀ q : Nat, s.heap.size ≤ q → A q := fun q h => by rw [← hAe]; exact Or.inr h
  have hS : va_S A s.heap s.heap [] := va_S.rf
  have hP : va_P (dC, dI) vwCl (WL cy zL zT zR zI zJ) s.heap := hP
  have hl := lv_entry ([.ref zw, .int zia, .int zib, .int ziy, .int zip] : List Value) (n := 5) (Nat.le_of_ble_eq_true rfl)
  rw [lg_entry_eq]
  generalize (lg_sl ([.ref zw, .int zia, .int zib, .int ziy, .int zip] : List Value) ++ List.replicate (5 - (lg_sl ([.ref zw, .int zia, .int zib, .int ziy, .int zip] : List Value)).length) Slot.unset).toArray = ls at hl ⊢
  have hl : lv_has ls 5 [(0, .ref zw), (1, .int zia), (2, .int zib), (3, .int ziy), (4, .int zip)] := hl
  refine w_q (fun Q hQ => ?_)
  have h_zI : WM [] AL zT zR zI zI := WM.rf hw
  refine lv_iload_n hx hb dX9_follows_0 rfl (lv_at hl 3 rfl) ?_
  refine lv_iload_n hx hb dX9_follows_1 rfl (lv_at hl 1 rfl) ?_
  refine lv_icmp_ne (tgt := 29) hx hb dX9_follows_2 (by decide) (fun c_1 => ?_) (fun c_1 => ?_)
  · have f_2 : ziy.toInt ≠ zia.toInt := ic_ne (rfl) (rfl) c_1
    refine lv_iload_n hx hb dX9_follows_29 rfl (lv_at hl 3 rfl) ?_
    refine lv_iload_n hx hb dX9_follows_30 rfl (lv_at hl 1 rfl) ?_
    refine lv_isub hx hb dX9_follows_31 ?_
    refine lv_topi (fun zi_3 ezi_3 => ?_)
    refine lv_iconst (v := 1) hx hb dX9_follows_32 (by decide) ?_
    refine lv_aload_n hx hb dX9_follows_33 rfl (lv_at hl 0 rfl) ?_
    refine ht_getr (C := RX9) (T := TX9) (N := 16) hx hb hts (by decide +kernel) hown hK hP hs t_zw (by decide) rfl rfl 4 (by decide) (hts (.fieldLink RX9 24 "DripStone$Ways" "least" "[I") (by decide +kernel)) (fun _ h9 => h9) rfl dX9_follows_34 ?_
    have t_4 : zT (zR zw 4) = 40 := sk_f hs t_zw (by decide) rfl (by decide)
    refine lv_iload hx hb dX9_follows_37 (lv_at hl 4 rfl) ?_
    refine ht_iald (n := 12) (q := 0) hx hb hK hP hs t_4 (by decide) rfl rfl ⟨by omega, by omega⟩ dX9_follows_39 ?_
    refine lv_topi (fun zi_5 ezi_5 => ?_)
    have tzi_5 : 0 ≤ zi_5.toInt ∧ zi_5.toInt ≤ 20 := by rw [ezi_5]; exact h_zI.at t_4 _ rfl
    refine va_mmax hx hb (by rw [hml]; exact hl.1.symm) hown (hts (.methodLink RX9 102 Lib.Math.max.name) (by decide +kernel)) (hts (.static Lib.Math.max.name) (by decide +kernel)) (hts (.initialized "java/lang/Math") (by decide +kernel)) (hts (.code Lib.Math.max.name Lib.Math.max.code 2 (some .int)) (by decide +kernel)) (Nat.le_of_ble_eq_true rfl) (Nat.le_of_ble_eq_true rfl) (Nat.le_of_ble_eq_true rfl) (Nat.le_of_ble_eq_true rfl) dX9_follows_40 ?_
    refine lv_topi (fun zi_6 ezi_6 => ?_)
    have tzi_6 : ((1 : Int) < zi_5.toInt → zi_6.toInt = zi_5.toInt) ∧ (¬ (1 : Int) < zi_5.toInt → zi_6.toInt = (1 : Int)) := mx_s ezi_6 (show (1 : Int32).toInt = 1 by decide) (rfl)
    refine lv_aload_n hx hb dX9_follows_43 rfl (lv_at hl 0 rfl) ?_
    refine ht_getr (C := RX9) (T := TX9) (N := 16) hx hb hts (by decide +kernel) hown hK hP hs t_zw (by decide) rfl rfl 5 (by decide) (hts (.fieldLink RX9 27 "DripStone$Ways" "furthest" "[I") (by decide +kernel)) (fun _ h9 => h9) rfl dX9_follows_44 ?_
    have t_7 : zT (zR zw 5) = 39 := sk_f hs t_zw (by decide) rfl (by decide)
    refine lv_iload hx hb dX9_follows_47 (lv_at hl 4 rfl) ?_
    refine ht_iald (n := 12) (q := 0) hx hb hK hP hs t_7 (by decide) rfl rfl ⟨by omega, by omega⟩ dX9_follows_49 ?_
    refine lv_topi (fun zi_8 ezi_8 => ?_)
    have tzi_8 : 0 ≤ zi_8.toInt ∧ zi_8.toInt ≤ 23 := by rw [ezi_8]; exact h_zI.at t_7 _ rfl
    refine hj0_i (ws := (WL cy zL zT zR zI zJ)) (va_runSN (As := [.int zi_3, .int zi_6, .int zi_8]) (rest := []) ⟨hx, hb, hml, hown, hts⟩ (c_X10_isWithin l dC dI cy s.heap.size zi_3 zi_6 zi_8 zi_6.toInt zi_8.toInt (by first | rfl | decide | omega | exact Int32.toInt_toInt64 _) (by first | rfl | decide | omega | exact Int32.toInt_toInt64 _)) ⟨va_cnB 3 hts ggX9_follows_X10_isWithin rfl rfl rfl (n0_23 hN) (hts (.initialized RX10) (by decide +kernel)) (by decide +kernel) ⟨(Nat.le_of_ble_eq_true rfl), (Nat.le_of_ble_eq_true rfl)⟩, hts (.static yX10_isWithin) (by decide +kernel), trivial⟩ (PRE.s (hP.sub [] rfl) hK (hD.sub [] (by decide) rfl) hN) rfl rfl hl.1 rfl (lv_room (Nat.le_of_ble_eq_true rfl)) dX9_follows_50 ⟨(Nat.le_of_ble_eq_true rfl), (Nat.le_of_ble_eq_true rfl)⟩) hP hD hS hA (fun zi_9 u_11 H locs hw_10 hP hD hS => ?_)
    have hw_10 : zi_9 = if zi_6.toInt ≤ zi_3.toInt ∧ zi_3.toInt ≤ zi_8.toInt then 1 else 0 := hw_10
    have b_zi_9 : 0 ≤ zi_9.toInt ∧ zi_9.toInt ≤ 1 := bz_b hw_10
    refine lv_if_eq (tgt := 71) hx hb dX9_follows_53 (by decide) (fun c_12 => ?_) (fun c_12 => ?_)
    · have f_13 : ¬ (zi_6.toInt ≤ zi_3.toInt ∧ zi_3.toInt ≤ zi_8.toInt) := bz_0 hw_10 c_12
      refine lv_iconst (v := 0) hx hb dX9_follows_71 (by decide) ?_
      subst hQ
      have qc_0 : (0 : Int32).toInt = 0 := by decide
      exact W.zret (v := (0 : Int32)) hx hb hr rfl (fun t ht hW => ⟨⟨(0 : Int32), (), rfl, (show 0 ≤ (0 : Int32).toInt ∧ (0 : Int32).toInt ≤ 1 from by omega), ⟨by rw [ht]; exact hP, va_K.moved hW.alike hK, hD⟩⟩, hS.F ht⟩) hS.2.2 dX9_follows_72
    · have f_13 : zi_6.toInt ≤ zi_3.toInt ∧ zi_3.toInt ≤ zi_8.toInt := bz_1 hw_10 c_12
      refine lv_iload_n hx hb dX9_follows_56 rfl (lv_at hl 2 rfl) ?_
      refine lv_aload_n hx hb dX9_follows_57 rfl (lv_at hl 0 rfl) ?_
      refine ht_getr (C := RX9) (T := TX9) (N := 16) hx hb hts (by decide +kernel) hown hK hP hs t_zw (by decide) rfl rfl 6 (by decide) (hts (.fieldLink RX9 30 "DripStone$Ways" "needed" "[I") (by decide +kernel)) (fun _ h9 => h9) rfl dX9_follows_58 ?_
      have t_14 : zT (zR zw 6) = 42 := sk_f hs t_zw (by decide) rfl (by decide)
      refine lv_iload hx hb dX9_follows_61 (lv_at hl 4 rfl) ?_
      refine ht_iald (n := 12) (q := 0) hx hb hK hP hs t_14 (by decide) rfl rfl ⟨by omega, by omega⟩ dX9_follows_63 ?_
      refine lv_topi (fun zi_15 ezi_15 => ?_)
      have tzi_15 : 0 ≤ zi_15.toInt ∧ zi_15.toInt ≤ 20 := by rw [ezi_15]; exact h_zI.at t_14 _ rfl
      refine lv_icmp_lt (tgt := 71) hx hb dX9_follows_64 (by decide) (fun c_16 => ?_) (fun c_16 => ?_)
      · have f_17 : zib.toInt < zi_15.toInt := ic_lt (rfl) (rfl) c_16
        refine lv_iconst (v := 0) hx hb dX9_follows_71 (by decide) ?_
        subst hQ
        have qc_0 : (0 : Int32).toInt = 0 := by decide
        exact W.zret (v := (0 : Int32)) hx hb hr rfl (fun t ht hW => ⟨⟨(0 : Int32), (), rfl, (show 0 ≤ (0 : Int32).toInt ∧ (0 : Int32).toInt ≤ 1 from by omega), ⟨by rw [ht]; exact hP, va_K.moved hW.alike hK, hD⟩⟩, hS.F ht⟩) hS.2.2 dX9_follows_72
      · have f_17 : ¬ (zib.toInt < zi_15.toInt) := ic_nlt (rfl) (rfl) c_16
        refine lv_iconst (v := 1) hx hb dX9_follows_67 (by decide) ?_
        refine lv_goto (tgt := 72) hx hb dX9_follows_68 (by decide) ?_
        subst hQ
        have qc_1 : (1 : Int32).toInt = 1 := by decide
        exact W.zret (v := (1 : Int32)) hx hb hr rfl (fun t ht hW => ⟨⟨(1 : Int32), (), rfl, (show 0 ≤ (1 : Int32).toInt ∧ (1 : Int32).toInt ≤ 1 from by omega), ⟨by rw [ht]; exact hP, va_K.moved hW.alike hK, hD⟩⟩, hS.F ht⟩) hS.2.2 dX9_follows_72
  · have f_2 : ¬ (ziy.toInt ≠ zia.toInt) := ic_nne (rfl) (rfl) c_1
    refine lv_aload_n hx hb dX9_follows_5 rfl (lv_at hl 0 rfl) ?_
    refine ht_getr (C := RX9) (T := TX9) (N := 16) hx hb hts (by decide +kernel) hown hK hP hs t_zw (by decide) rfl rfl 4 (by decide) (hts (.fieldLink RX9 24 "DripStone$Ways" "least" "[I") (by decide +kernel)) (fun _ h9 => h9) rfl dX9_follows_6 ?_
    have t_18 : zT (zR zw 4) = 40 := sk_f hs t_zw (by decide) rfl (by decide)
    refine lv_iload hx hb dX9_follows_9 (lv_at hl 4 rfl) ?_
    refine ht_iald (n := 12) (q := 0) hx hb hK hP hs t_18 (by decide) rfl rfl ⟨by omega, by omega⟩ dX9_follows_11 ?_
    refine lv_topi (fun zi_19 ezi_19 => ?_)
    have tzi_19 : 0 ≤ zi_19.toInt ∧ zi_19.toInt ≤ 20 := by rw [ezi_19]; exact h_zI.at t_18 _ rfl
    refine lv_if_ne (tgt := 27) hx hb dX9_follows_12 (by decide) (fun c_20 => ?_) (fun c_20 => ?_)
    · have f_21 : zi_19.toInt ≠ 0 := ic_ne (rfl) (by decide) c_20
      refine lv_iconst (v := 0) hx hb dX9_follows_27 (by decide) ?_
      subst hQ
      have qc_0 : (0 : Int32).toInt = 0 := by decide
      exact W.zret (v := (0 : Int32)) hx hb hr rfl (fun t ht hW => ⟨⟨(0 : Int32), (), rfl, (show 0 ≤ (0 : Int32).toInt ∧ (0 : Int32).toInt ≤ 1 from by omega), ⟨by rw [ht]; exact hP, va_K.moved hW.alike hK, hD⟩⟩, hS.F ht⟩) hS.2.2 dX9_follows_28
    · have f_21 : ¬ (zi_19.toInt ≠ 0) := ic_nne (rfl) (by decide) c_20
      refine lv_iload_n hx hb dX9_follows_15 rfl (lv_at hl 2 rfl) ?_
      refine lv_aload_n hx hb dX9_follows_16 rfl (lv_at hl 0 rfl) ?_
      refine ht_geti (C := RX9) (T := TX9) (N := 16) hx hb hts (by decide +kernel) hown hK hP hs t_zw (by decide) rfl rfl 13 (by decide) (hts (.fieldLink RX9 60 "DripStone$Ways" "most" "I") (by decide +kernel)) (fun _ h9 => h9) rfl dX9_follows_17 ?_
      refine lv_topi (fun zi_22 ezi_22 => ?_)
      have tzi_22 : 0 ≤ zi_22.toInt ∧ zi_22.toInt ≤ 4 := by rw [ezi_22]; exact h_zI.at t_zw _ rfl
      refine lv_icmp_ge (tgt := 27) hx hb dX9_follows_20 (by decide) (fun c_23 => ?_) (fun c_23 => ?_)
      · have f_24 : zib.toInt ≥ zi_22.toInt := ic_ge (rfl) (rfl) c_23
        refine lv_iconst (v := 0) hx hb dX9_follows_27 (by decide) ?_
        subst hQ
        have qc_0 : (0 : Int32).toInt = 0 := by decide
        exact W.zret (v := (0 : Int32)) hx hb hr rfl (fun t ht hW => ⟨⟨(0 : Int32), (), rfl, (show 0 ≤ (0 : Int32).toInt ∧ (0 : Int32).toInt ≤ 1 from by omega), ⟨by rw [ht]; exact hP, va_K.moved hW.alike hK, hD⟩⟩, hS.F ht⟩) hS.2.2 dX9_follows_28
      · have f_24 : ¬ (zib.toInt ≥ zi_22.toInt) := ic_nge (rfl) (rfl) c_23
        refine lv_iconst (v := 1) hx hb dX9_follows_23 (by decide) ?_
        refine lv_goto (tgt := 28) hx hb dX9_follows_24 (by decide) ?_
        subst hQ
        have qc_1 : (1 : Int32).toInt = 1 := by decide
        exact W.zret (v := (1 : Int32)) hx hb hr rfl (fun t ht hW => ⟨⟨(1 : Int32), (), rfl, (show 0 ≤ (1 : Int32).toInt ∧ (1 : Int32).toInt ≤ 1 from by omega), ⟨by rw [ht]; exact hP, va_K.moved hW.alike hK, hD⟩⟩, hS.F ht⟩) hS.2.2 dX9_follows_28
set_option maxHeartbeats 8000000 in
set_option maxRecDepth 100000 in
theorem t_X9_firstWrong (l : Launch) (dC : Nat → ClassId) (dI : Nat → Nat → Nat) (cy : Nat → ClassId) (sz : Nat) (zL : List Nat) (zT : Nat → Nat) (zR : Nat → Nat → Nat) (zI : Nat → Nat → Int32) (zJ : Nat → Nat → Int64) (zw : Nat) (zx4 : Nat) (zif : Int32) (hs : SKP zL zT zR) (hw : WT zT zR zI) (t_zw : zT zw = 10) (t_zx4 : zT zx4 = 36) (b_zif : 0 ≤ zif.toInt ∧ zif.toInt ≤ 24) (hx1 : zif.toInt + (zI zw 14).toInt ≤ 24) : Met l yX9_firstWrong wsX9_firstWrong ({ frames := 2, cells := 0, slots := 0, locals := 54 } : Room) (va_Pc [.ref zw, .ref zx4, .int zif] (PRE dC dI cy (WL cy zL zT zR zI zJ) sz)) (va_Qi (fun (r : Int32) (u : Unit) => ((-1) ≤ r.toInt ∧ r.toInt ≤ 11)) (fun u t => POST dC dI cy (va_A (WL cy zL zT zR zI zJ) sz) (WL cy zL zT zR zI zJ) t) (va_A (WL cy zL zT zR zI zJ) sz)) 0 0 (va_A (WL cy zL zT zR zI zJ) sz) := by
  refine Met.ofW (cc := cX9_firstWrong) (maxL := 6) (ret := (some .int)) (by decide) rfl ?_
  intro p e s m args below meth c s₁ B hml hv
  obtain ⟨rfl, hsz, hP, hK, hD0, hN⟩ := hv
  have hx := B.exec
  have hb := B.bytes
  have hr := B.returns
  have hts := atoms_spec (ws := wsX9_firstWrong) B.pre
  have hown : s.vm.findClass RX9 = some m.cls := findClass_of_methodNamed B.named
  have hlocks := B.notSynchronized
  subst hsz
  have hD := hD0.self (sz := s.heap.size)
  generalize hAe : va_A (WL cy zL zT zR zI zJ) s.heap.size = A at hD ⊢
  have hA : ∀ q : Nat, s.heap.size ≤ q → A q := fun q h => by rw [← hAe]; exact Or.inr h
  have hS : va_S A s.heap s.heap [] := va_S.rf
  have hP : va_P (dC, dI) vwCl (WL cy zL zT zR zI zJ) s.heap := hP
  have hl := lv_entry ([.ref zw, .ref zx4, .int zif] : List Value) (n := 6) (Nat.le_of_ble_eq_true rfl)
  rw [lg_entry_eq]
  generalize (lg_sl ([.ref zw, .ref zx4, .int zif] : List Value) ++ List.replicate (6 - (lg_sl ([.ref zw, .ref zx4, .int zif] : List Value)).length) Slot.unset).toArray = ls at hl ⊢
  have hl : lv_has ls 6 [(0, .ref zw), (1, .ref zx4), (2, .int zif)] := hl
  refine w_q (fun Q hQ => ?_)
  have h_zI : WM [] AL zT zR zI zI := WM.rf hw
  refine lv_iconst (v := 0) hx hb dX9_firstWrong_0 (by decide) ?_
  refine lv_istore_n (lv' := [(3, .int 0), (0, .ref zw), (1, .ref zx4), (2, .int zif)]) hx hb dX9_firstWrong_1 rfl hl (by decide) rfl (fun ls hl => ?_)
  refine lv_iconst (v := 0) hx hb dX9_firstWrong_2 (by decide) ?_
  refine lv_istore (lv' := [(4, .int 0), (3, .int 0), (0, .ref zw), (1, .ref zx4), (2, .int zif)]) hx hb dX9_firstWrong_3 hl (by decide) rfl (fun ls hl => ?_)
  have lp_1296 : ∀ (n : Nat) (zi_259 : Int32) (zi_260 : Int32) (H : Heap) (locs : List Loc) (ls : Array Slot), (12 - zi_260.toInt).toNat = n → (0 ≤ zi_260.toInt ∧ zi_260.toInt ≤ 12) → va_P (dC, dI) vwCl (WL cy zL zT zR zI zJ) H → va_D A (WL cy zL zT zR zI zJ) → va_S A s.heap H locs → lv_has ls 6 [(0, .ref zw), (1, .ref zx4), (2, .int zif), (3, .int zi_259), (4, .int zi_260)] → W p l e ({ frames := 2, cells := 0, slots := 0, locals := 54 } : Room) s m ([.ref zw, .ref zx4, .int zif] : List Value).toArray below meth c H locs 0 0 Q (F0 m 5 ls []) := by
    intro n
    induction n using Nat.strongRecOn with
    | _ n ih_1296 =>
      intro zi_259 zi_260 H locs ls hn b_zi_260 hP hD hS hl
      refine lv_iload hx hb dX9_firstWrong_5 (lv_at hl 4 rfl) ?_
      refine lv_aload_n hx hb dX9_firstWrong_7 rfl (lv_at hl 0 rfl) ?_
      refine ht_geti (C := RX9) (T := TX9) (N := 16) hx hb hts (by decide +kernel) hown hK hP hs t_zw (by decide) rfl rfl 14 (by decide) (hts (.fieldLink RX9 81 "DripStone$Ways" "places" "I") (by decide +kernel)) (fun _ h9 => h9) rfl dX9_firstWrong_8 ?_
      refine lv_topi (fun zi_1297 ezi_1297 => ?_)
      have tzi_1297 : 0 ≤ zi_1297.toInt ∧ zi_1297.toInt ≤ 12 := by rw [ezi_1297]; exact h_zI.at t_zw _ rfl
      have lzi_1297 : (zI zw 14).toInt = zi_1297.toInt := by rw [ezi_1297]
      refine lv_icmp_ge (tgt := 107) hx hb dX9_firstWrong_11 (by decide) (fun c_1298 => ?_) (fun c_1298 => ?_)
      · have f_1299 : zi_260.toInt ≥ zi_1297.toInt := ic_ge (rfl) (rfl) c_1298
        refine lv_iconst (v := (-1)) hx hb dX9_firstWrong_107 (by decide) ?_
        subst hQ
        have qc_m1 : (-1 : Int32).toInt = -1 := by decide
        exact W.iret (v := (-1 : Int32)) hx hb hr (fun t ht hW => ⟨⟨(-1 : Int32), (), rfl, (show (-1) ≤ (-1 : Int32).toInt ∧ (-1 : Int32).toInt ≤ 11 from by omega), ⟨by rw [ht]; exact hP, va_K.moved hW.alike hK, hD⟩⟩, hS.F ht⟩) hS.2.2 dX9_firstWrong_108
      · have f_1299 : ¬ (zi_260.toInt ≥ zi_1297.toInt) := ic_nge (rfl) (rfl) c_1298
        refine lv_aload_n hx hb dX9_firstWrong_14 rfl (lv_at hl 1 rfl) ?_
        refine lv_iload_n hx hb dX9_firstWrong_15 rfl (lv_at hl 2 rfl) ?_
        refine lv_iload hx hb dX9_firstWrong_16 (lv_at hl 4 rfl) ?_
        refine lv_iadd hx hb dX9_firstWrong_18 ?_
        refine lv_topi (fun zi_1300 ezi_1300 => ?_)
        have tzi_1300 : zi_1300.toInt = zif.toInt + zi_260.toInt := by rw [ezi_1300]; exact tiadd (rfl) (rfl) (by omega) (by omega)
        refine ht_iald (n := 24) (q := 0) hx hb hK hP hs t_zx4 (by decide) rfl rfl ⟨by omega, by omega⟩ dX9_firstWrong_19 ?_
        refine lv_topi (fun zi_1301 ezi_1301 => ?_)
        refine lv_istore (lv' := [(5, .int zi_1301), (0, .ref zw), (1, .ref zx4), (2, .int zif), (3, .int zi_259), (4, .int zi_260)]) hx hb dX9_firstWrong_20 hl (by decide) rfl (fun ls hl => ?_)
        refine lv_iload hx hb dX9_firstWrong_22 (lv_at hl 0 rfl) ?_
        refine lv_aload_n hx hb dX9_firstWrong_24 rfl (lv_at hl 1 rfl) ?_
        refine ht_getr (C := RX9) (T := TX9) (N := 16) hx hb hts (by decide +kernel) hown hK hP hs t_zw (by decide) rfl rfl 2 (by decide) (hts (.fieldLink RX9 18 "DripStone$Ways" "earliest" "[I") (by decide +kernel)) (fun _ h9 => h9) rfl dX9_firstWrong_25 ?_
        have t_1302 : zT (zR zw 2) = 39 := sk_f hs t_zw (by decide) rfl (by decide)
        refine lv_iload hx hb dX9_firstWrong_28 (lv_at hl 5 rfl) ?_
        refine ht_iald (n := 12) (q := 0) hx hb hK hP hs t_1302 (by decide) rfl rfl ⟨by omega, by omega⟩ dX9_firstWrong_30 ?_
        refine lv_topi (fun zi_1303 ezi_1303 => ?_)
        have tzi_1303 : 0 ≤ zi_1303.toInt ∧ zi_1303.toInt ≤ 23 := by rw [ezi_1303]; exact h_zI.at t_1302 _ rfl
        refine lv_aload_n hx hb dX9_firstWrong_31 rfl (lv_at hl 1 rfl) ?_
        refine ht_getr (C := RX9) (T := TX9) (N := 16) hx hb hts (by decide +kernel) hown hK hP hs t_zw (by decide) rfl rfl 3 (by decide) (hts (.fieldLink RX9 21 "DripStone$Ways" "latest" "[I") (by decide +kernel)) (fun _ h9 => h9) rfl dX9_firstWrong_32 ?_
        have t_1304 : zT (zR zw 3) = 39 := sk_f hs t_zw (by decide) rfl (by decide)
        refine lv_iload hx hb dX9_firstWrong_35 (lv_at hl 5 rfl) ?_
        refine ht_iald (n := 12) (q := 0) hx hb hK hP hs t_1304 (by decide) rfl rfl ⟨by omega, by omega⟩ dX9_firstWrong_37 ?_
        refine lv_topi (fun zi_1305 ezi_1305 => ?_)
        have tzi_1305 : 0 ≤ zi_1305.toInt ∧ zi_1305.toInt ≤ 23 := by rw [ezi_1305]; exact h_zI.at t_1304 _ rfl
        refine hj0_i (ws := (WL cy zL zT zR zI zJ)) (va_runSN (As := [.int zi_1301, .int zi_1303, .int zi_1305]) (rest := []) ⟨hx, hb, hml, hown, hts⟩ (c_X10_isWithin l dC dI cy H.size zi_1301 zi_1303 zi_1305 zi_1303.toInt zi_1305.toInt (by first | rfl | decide | omega | exact Int32.toInt_toInt64 _) (by first | rfl | decide | omega | exact Int32.toInt_toInt64 _)) ⟨va_cnB 3 hts ggX9_firstWrong_X10_isWithin rfl rfl rfl (n0_23 hN) (hts (.initialized RX10) (by decide +kernel)) (by decide +kernel) ⟨(Nat.le_of_ble_eq_true rfl), (Nat.le_of_ble_eq_true rfl)⟩, hts (.static yX10_isWithin) (by decide +kernel), trivial⟩ (PRE.s (hP.sub [] rfl) hK (hD.sub [] (by decide) rfl) hN) rfl rfl hl.1 rfl (lv_room (Nat.le_of_ble_eq_true rfl)) dX9_firstWrong_38 ⟨(Nat.le_of_ble_eq_true rfl), (Nat.le_of_ble_eq_true rfl)⟩) hP hD hS hA (fun zi_1306 u_1308 H locs hw_1307 hP hD hS => ?_)
        have hw_1307 : zi_1306 = if zi_1303.toInt ≤ zi_1301.toInt ∧ zi_1301.toInt ≤ zi_1305.toInt then 1 else 0 := hw_1307
        have b_zi_1306 : 0 ≤ zi_1306.toInt ∧ zi_1306.toInt ≤ 1 := bz_b hw_1307
        refine lv_if_ne (tgt := 47) hx hb dX9_firstWrong_41 (by decide) (fun c_1309 => ?_) (fun c_1309 => ?_)
        · have f_1310 : zi_1303.toInt ≤ zi_1301.toInt ∧ zi_1301.toInt ≤ zi_1305.toInt := bz_1 hw_1307 c_1309
          refine lv_iload hx hb dX9_firstWrong_47 (lv_at hl 5 rfl) ?_
          have jn_1321 : ∀  (H : Heap) (locs : List Loc) (ls : Array Slot), va_P (dC, dI) vwCl (WL cy zL zT zR zI zJ) H → va_D A (WL cy zL zT zR zI zJ) → va_S A s.heap H locs → lv_has ls 6 [(0, .ref zw), (1, .ref zx4), (2, .int zif), (3, .int zi_259), (4, .int zi_260), (5, .int zi_1301)] → W p l e ({ frames := 2, cells := 0, slots := 0, locals := 54 } : Room) s m ([.ref zw, .ref zx4, .int zif] : List Value).toArray below meth c H locs 0 0 Q (F0 m 75 ls []) := by
            intro  H locs ls  hP hD hS hl
            refine lv_iload hx hb dX9_firstWrong_75 (lv_at hl 4 rfl) ?_
            have jn_1334 : ∀  (H : Heap) (locs : List Loc) (ls : Array Slot), va_P (dC, dI) vwCl (WL cy zL zT zR zI zJ) H → va_D A (WL cy zL zT zR zI zJ) → va_S A s.heap H locs → lv_has ls 6 [(0, .ref zw), (1, .ref zx4), (2, .int zif), (3, .int zi_259), (4, .int zi_260), (5, .int zi_1301)] → W p l e ({ frames := 2, cells := 0, slots := 0, locals := 54 } : Room) s m ([.ref zw, .ref zx4, .int zif] : List Value).toArray below meth c H locs 0 0 Q (F0 m 99 ls []) := by
              intro  H locs ls  hP hD hS hl
              refine lv_iconst (v := 1) hx hb dX9_firstWrong_99 (by decide) ?_
              refine lv_istore_n (lv' := [(3, .int 1), (0, .ref zw), (1, .ref zx4), (2, .int zif), (4, .int zi_260), (5, .int zi_1301)]) hx hb dX9_firstWrong_100 rfl hl (by decide) rfl (fun ls hl => ?_)
              obtain ⟨zi_1335, ezi_1335⟩ : ∃ y : Int32, y = zi_260 + 1 := ⟨_, rfl⟩
              have tzi_1335 : zi_1335.toInt = zi_260.toInt + 1 := by rw [ezi_1335]; exact tadd rfl (show (1 : Int32).toInt = 1 by decide) (by omega) (by omega)
              refine lv_iinc (v := zi_1335) (lv' := [(4, .int zi_1335), (3, .int 1), (0, .ref zw), (1, .ref zx4), (2, .int zif), (5, .int zi_1301)]) hx hb dX9_firstWrong_101 hl (k := 4) rfl (by rw [ezi_1335]; rfl) (by decide) rfl (fun ls hl => ?_)
              refine lv_goto (tgt := 5) hx hb dX9_firstWrong_104 (by decide) ?_
              exact ih_1296 (12 - zi_1335.toInt).toNat (by omega) (1 : Int32) zi_1335 _ _ _ rfl (by omega) hP hD hS (lv_sub hl [2, 3, 4, 1, 0] rfl)
            refine lv_if_le (tgt := 99) hx hb dX9_firstWrong_77 (by decide) (fun c_1336 => ?_) (fun c_1336 => ?_)
            · have f_1337 : zi_260.toInt ≤ 0 := ic_le (rfl) (by decide) c_1336
              exact jn_1334  _ _ _  hP hD hS (lv_sub hl [0, 1, 2, 3, 4, 5] rfl)
            · have f_1337 : ¬ (zi_260.toInt ≤ 0) := ic_nle (rfl) (by decide) c_1336
              refine lv_aload_n hx hb dX9_firstWrong_80 rfl (lv_at hl 1 rfl) ?_
              refine lv_iload_n hx hb dX9_firstWrong_81 rfl (lv_at hl 2 rfl) ?_
              refine lv_iload hx hb dX9_firstWrong_82 (lv_at hl 4 rfl) ?_
              refine lv_iadd hx hb dX9_firstWrong_84 ?_
              refine lv_topi (fun zi_1338 ezi_1338 => ?_)
              have tzi_1338 : zi_1338.toInt = zif.toInt + zi_260.toInt := by rw [ezi_1338]; exact tiadd (rfl) (rfl) (by omega) (by omega)
              refine lv_iconst (v := 1) hx hb dX9_firstWrong_85 (by decide) ?_
              refine lv_isub hx hb dX9_firstWrong_86 ?_
              refine lv_topi (fun zi_1339 ezi_1339 => ?_)
              have tzi_1339 : zi_1339.toInt = zi_1338.toInt - (1 : Int) := by rw [ezi_1339]; exact tisub (rfl) (show (1 : Int32).toInt = 1 by decide) (by omega) (by omega)
              refine ht_iald (n := 24) (q := 0) hx hb hK hP hs t_zx4 (by decide) rfl rfl ⟨by omega, by omega⟩ dX9_firstWrong_87 ?_
              refine lv_topi (fun zi_1340 ezi_1340 => ?_)
              refine lv_iload hx hb dX9_firstWrong_88 (lv_at hl 5 rfl) ?_
              refine lv_icmp_ne (tgt := 99) hx hb dX9_firstWrong_90 (by decide) (fun c_1344 => ?_) (fun c_1344 => ?_)
              · have f_1345 : zi_1340.toInt ≠ zi_1301.toInt := ic_ne (rfl) (rfl) c_1344
                exact jn_1334  _ _ _  hP hD hS (lv_sub hl [0, 1, 2, 3, 4, 5] rfl)
              · have f_1345 : ¬ (zi_1340.toInt ≠ zi_1301.toInt) := ic_nne (rfl) (rfl) c_1344
                refine lv_iload_n hx hb dX9_firstWrong_93 rfl (lv_at hl 3 rfl) ?_
                refine lv_iconst (v := 1) hx hb dX9_firstWrong_94 (by decide) ?_
                refine lv_iadd hx hb dX9_firstWrong_95 ?_
                refine lv_topi (fun zi_1346 ezi_1346 => ?_)
                refine lv_goto (tgt := 100) hx hb dX9_firstWrong_96 (by decide) ?_
                refine lv_istore_n (lv' := [(3, .int zi_1346), (0, .ref zw), (1, .ref zx4), (2, .int zif), (4, .int zi_260), (5, .int zi_1301)]) hx hb dX9_firstWrong_100 rfl hl (by decide) rfl (fun ls hl => ?_)
                obtain ⟨zi_1347, ezi_1347⟩ : ∃ y : Int32, y = zi_260 + 1 := ⟨_, rfl⟩
                have tzi_1347 : zi_1347.toInt = zi_260.toInt + 1 := by rw [ezi_1347]; exact tadd rfl (show (1 : Int32).toInt = 1 by decide) (by omega) (by omega)
                refine lv_iinc (v := zi_1347) (lv' := [(4, .int zi_1347), (3, .int zi_1346), (0, .ref zw), (1, .ref zx4), (2, .int zif), (5, .int zi_1301)]) hx hb dX9_firstWrong_101 hl (k := 4) rfl (by rw [ezi_1347]; rfl) (by decide) rfl (fun ls hl => ?_)
                refine lv_goto (tgt := 5) hx hb dX9_firstWrong_104 (by decide) ?_
                exact ih_1296 (12 - zi_1347.toInt).toNat (by omega) zi_1346 zi_1347 _ _ _ rfl (by omega) hP hD hS (lv_sub hl [2, 3, 4, 1, 0] rfl)
          refine lv_if_le (tgt := 75) hx hb dX9_firstWrong_49 (by decide) (fun c_1348 => ?_) (fun c_1348 => ?_)
          · have f_1349 : zi_260.toInt ≤ 0 := ic_le (rfl) (by decide) c_1348
            exact jn_1321  _ _ _  hP hD hS (lv_sub hl [1, 2, 3, 4, 5, 0] rfl)
          · have f_1349 : ¬ (zi_260.toInt ≤ 0) := ic_nle (rfl) (by decide) c_1348
            refine lv_aload_n hx hb dX9_firstWrong_52 rfl (lv_at hl 1 rfl) ?_
            refine lv_aload_n hx hb dX9_firstWrong_53 rfl (lv_at hl 2 rfl) ?_
            refine lv_iload_n hx hb dX9_firstWrong_54 rfl (lv_at hl 3 rfl) ?_
            refine lv_iload hx hb dX9_firstWrong_55 (lv_at hl 5 rfl) ?_
            refine lv_iadd hx hb dX9_firstWrong_57 ?_
            refine lv_topi (fun zi_1350 ezi_1350 => ?_)
            have tzi_1350 : zi_1350.toInt = zif.toInt + zi_260.toInt := by rw [ezi_1350]; exact tiadd (rfl) (rfl) (by omega) (by omega)
            refine lv_iconst (v := 1) hx hb dX9_firstWrong_58 (by decide) ?_
            refine lv_isub hx hb dX9_firstWrong_59 ?_
            refine lv_topi (fun zi_1351 ezi_1351 => ?_)
            have tzi_1351 : zi_1351.toInt = zi_1350.toInt - (1 : Int) := by rw [ezi_1351]; exact tisub (rfl) (show (1 : Int32).toInt = 1 by decide) (by omega) (by omega)
            refine ht_iald (n := 24) (q := 0) hx hb hK hP hs t_zx4 (by decide) rfl rfl ⟨by omega, by omega⟩ dX9_firstWrong_60 ?_
            refine lv_topi (fun zi_1352 ezi_1352 => ?_)
            refine lv_iload_n hx hb dX9_firstWrong_61 rfl (lv_at hl 4 rfl) ?_
            refine lv_iload hx hb dX9_firstWrong_62 (lv_at hl 0 rfl) ?_
            refine lv_iload hx hb dX9_firstWrong_64 (lv_at hl 5 rfl) ?_
            refine hj_i (ws := (WL cy zL zT zR zI zJ)) (w1 := fun (u : Unit) => (WL cy zL zT zR zI zJ)) (va_runV (As := [.int zi_1352, .int zi_259, .int zi_1301, .int zi_260]) (rest := []) ⟨hx, hb, hml, hown, hts⟩ (t_X9_follows l dC dI cy H.size zL zT zR zI zJ zw zi_1352 zi_259 zi_1301 zi_260 hs h_zI.1 t_zw (by omega)) (cwV 4 hts gX9_firstWrong_X9_follows rfl rfl rfl (by decide +kernel) ⟨(Nat.le_of_ble_eq_true rfl), (Nat.le_of_ble_eq_true rfl)⟩) (PRE.v hP hK hD hN (ht_recv hK hP hs t_zw (by decide) rfl rfl)) rfl rfl hl.1 rfl (lv_room (Nat.le_of_ble_eq_true rfl)) dX9_firstWrong_66 ⟨(Nat.le_of_ble_eq_true rfl), (Nat.le_of_ble_eq_true rfl)⟩) hP hD hS hA (fun zi_1353 u_1355 H locs hw_1354 hP hD hS => ?_)
            have b_zi_1353 : 0 ≤ zi_1353.toInt ∧ zi_1353.toInt ≤ 1 := hw_1354
            refine lv_if_ne (tgt := 75) hx hb dX9_firstWrong_69 (by decide) (fun c_1356 => ?_) (fun c_1356 => ?_)
            · have f_1357 : zi_1353.toInt ≠ 0 := ic_ne (rfl) (by decide) c_1356
              exact jn_1321  _ _ _  hP hD hS (lv_sub hl [1, 2, 3, 4, 5, 0] rfl)
            · have f_1357 : ¬ (zi_1353.toInt ≠ 0) := ic_nne (rfl) (by decide) c_1356
              refine lv_iload hx hb dX9_firstWrong_72 (lv_at hl 5 rfl) ?_
              subst hQ
              exact W.iret (v := zi_260) hx hb hr (fun t ht hW => ⟨⟨zi_260, (), rfl, (show (-1) ≤ zi_260.toInt ∧ zi_260.toInt ≤ 11 from by omega), ⟨by rw [ht]; exact hP, va_K.moved hW.alike hK, hD⟩⟩, hS.F ht⟩) hS.2.2 dX9_firstWrong_74
        · have f_1310 : ¬ (zi_1303.toInt ≤ zi_1301.toInt ∧ zi_1301.toInt ≤ zi_1305.toInt) := bz_0 hw_1307 c_1309
          refine lv_iload hx hb dX9_firstWrong_44 (lv_at hl 5 rfl) ?_
          subst hQ
          exact W.iret (v := zi_260) hx hb hr (fun t ht hW => ⟨⟨zi_260, (), rfl, (show (-1) ≤ zi_260.toInt ∧ zi_260.toInt ≤ 11 from by omega), ⟨by rw [ht]; exact hP, va_K.moved hW.alike hK, hD⟩⟩, hS.F ht⟩) hS.2.2 dX9_firstWrong_46
  exact lp_1296 _ (0 : Int32) (0 : Int32) _ _ _ rfl (by decide) hP hD hS (lv_sub hl [2, 3, 4, 1, 0] rfl)
