set_option maxHeartbeats 8000000 in
set_option maxRecDepth 100000 in
theorem t_X5_markOf (l : Launch) (dC : Nat → ClassId) (dI : Nat → Nat → Nat) (cy : Nat → ClassId) (sz : Nat) (zL : List Nat) (zT : Nat → Nat) (zR : Nat → Nat → Nat) (zI : Nat → Nat → Int32) (zJ : Nat → Nat → Int64) (zk : Nat) (zia : Int32) (zib : Int32) (hs : SKP zL zT zR) (hw : WT zT zR zI) (t_zk : zT zk = 6) (b_zia : 0 ≤ zia.toInt ∧ zia.toInt ≤ 12) (b_zib : 0 ≤ zib.toInt ∧ zib.toInt ≤ 12) : Met l yX5_markOf wsX5_markOf ({ frames := 0, cells := 0, slots := 0, locals := 0 } : Room) (va_Pc [.ref zk, .int zia, .int zib] (PRE dC dI cy (WL cy zL zT zR zI zJ) sz)) (va_Qi (fun (r : Int32) (u : Unit) => (0 ≤ r.toInt ∧ r.toInt ≤ 168)) (fun u t => POST dC dI cy (va_A (WL cy zL zT zR zI zJ) sz) (WL cy zL zT zR zI zJ) t) (va_A (WL cy zL zT zR zI zJ) sz)) 0 0 (va_A (WL cy zL zT zR zI zJ) sz) := by
  refine Met.ofW (cc := cX5_markOf) (maxL := 3) (ret := (some .int)) (by decide) rfl ?_
  intro p e s m args below meth c s₁ B hml hv
  obtain ⟨rfl, hsz, hP, hK, hD0, hN⟩ := hv
  have hx := B.exec
  have hb := B.bytes
  have hr := B.returns
  have hts := atoms_spec (ws := wsX5_markOf) B.pre
  have hown : s.vm.findClass RX5 = some m.cls := findClass_of_methodNamed B.named
  have hlocks := B.notSynchronized
  subst hsz
  have hD := hD0.self (sz := s.heap.size)
  generalize hAe : va_A (WL cy zL zT zR zI zJ) s.heap.size = A at hD ⊢
  have hA : ∀ q : Nat, s.heap.size ≤ q → A q := fun q h => by rw [← hAe]; exact Or.inr h
  have hS : va_S A s.heap s.heap [] := va_S.rf
  have hP : va_P (dC, dI) vwCl (WL cy zL zT zR zI zJ) s.heap := hP
  have hl := lv_entry ([.ref zk, .int zia, .int zib] : List Value) (n := 3) (Nat.le_of_ble_eq_true rfl)
  rw [lg_entry_eq]
  generalize (lg_sl ([.ref zk, .int zia, .int zib] : List Value) ++ List.replicate (3 - (lg_sl ([.ref zk, .int zia, .int zib] : List Value)).length) Slot.unset).toArray = ls at hl ⊢
  have hl : lv_has ls 3 [(0, .ref zk), (1, .int zia), (2, .int zib)] := hl
  refine w_q (fun Q hQ => ?_)
  have h_zI : WM [] AL zT zR zI zI := WM.rf hw
  refine lv_iload_n hx hb dX5_markOf_0 rfl (lv_at hl 1 rfl) ?_
  refine lv_aload_n hx hb dX5_markOf_1 rfl (lv_at hl 0 rfl) ?_
  refine ht_geti (C := RX5) (T := TX5) (N := 9) hx hb hts (by decide +kernel) hown hK hP hs t_zk (by decide) rfl rfl 8 (by decide) (hts (.fieldLink RX5 48 "DripStone$Marks" "goal1" "I") (by decide +kernel)) (fun _ h9 => h9) rfl dX5_markOf_2 ?_
  refine lv_topi (fun zi_1 ezi_1 => ?_)
  have tzi_1 : (-1) ≤ zi_1.toInt ∧ zi_1.toInt ≤ 12 := by rw [ezi_1]; exact h_zI.at t_zk _ rfl
  refine lv_iconst (v := 1) hx hb dX5_markOf_5 (by decide) ?_
  refine lv_iadd hx hb dX5_markOf_6 ?_
  refine lv_topi (fun zi_2 ezi_2 => ?_)
  have tzi_2 : zi_2.toInt = zi_1.toInt + (1 : Int) := by rw [ezi_2]; exact tiadd (rfl) (show (1 : Int32).toInt = 1 by decide) (by omega) (by omega)
  refine lv_imul hx hb dX5_markOf_7 ?_
  refine lv_topi (fun zi_3 ezi_3 => ?_)
  have tzi_3 : 0 ≤ zi_3.toInt ∧ zi_3.toInt ≤ 156 := by rw [ezi_3]; exact mulb (B := 12) (D := 13) (by omega) (by omega) (by decide) (by decide)
  refine lv_iload_n hx hb dX5_markOf_8 rfl (lv_at hl 2 rfl) ?_
  refine lv_iadd hx hb dX5_markOf_9 ?_
  refine lv_topi (fun zi_4 ezi_4 => ?_)
  have tzi_4 : zi_4.toInt = zi_3.toInt + zib.toInt := by rw [ezi_4]; exact tiadd (rfl) (rfl) (by omega) (by omega)
  subst hQ
  exact W.iret (v := zi_4) hx hb hr (fun t ht hW => ⟨⟨zi_4, (), rfl, (show 0 ≤ zi_4.toInt ∧ zi_4.toInt ≤ 168 from by omega), ⟨by rw [ht]; exact hP, va_K.moved hW.alike hK, hD⟩⟩, hS.F ht⟩) hS.2.2 dX5_markOf_10
set_option maxHeartbeats 8000000 in
set_option maxRecDepth 100000 in
theorem t_X5_goalOf (l : Launch) (dC : Nat → ClassId) (dI : Nat → Nat → Nat) (cy : Nat → ClassId) (sz : Nat) (zL : List Nat) (zT : Nat → Nat) (zR : Nat → Nat → Nat) (zI : Nat → Nat → Int32) (zJ : Nat → Nat → Int64) (zia : Int32) (zw : Nat) (zc : Nat) (zm : Nat) (hs : SKP zL zT zR) (hw : WT zT zR zI) (t_zw : zT zw = 10) (t_zc : zT zc = 1) (t_zm : zT zm = 2) (b_zia : 0 ≤ zia.toInt ∧ zia.toInt ≤ 1) : Met l yX5_goalOf wsX5_goalOf ({ frames := 2, cells := 0, slots := 0, locals := 46 } : Room) (va_Pc [.int zia, .ref zw, .ref zc, .ref zm] (PRE dC dI cy (WL cy zL zT zR zI zJ) sz)) (va_Qi (fun (r : Int32) (u : Unit) => ((-1) ≤ r.toInt ∧ r.toInt ≤ 12)) (fun u t => POST dC dI cy (va_A (WL cy zL zT zR zI zJ) sz) (WL cy zL zT zR zI zJ) t) (va_A (WL cy zL zT zR zI zJ) sz)) 0 0 (va_A (WL cy zL zT zR zI zJ) sz) := by
  refine Met.ofW (cc := cX5_goalOf) (maxL := 7) (ret := (some .int)) (by decide) rfl ?_
  intro p e s m args below meth c s₁ B hml hv
  obtain ⟨rfl, hsz, hP, hK, hD0, hN⟩ := hv
  have hx := B.exec
  have hb := B.bytes
  have hr := B.returns
  have hts := atoms_spec (ws := wsX5_goalOf) B.pre
  have hown : s.vm.findClass RX5 = some m.cls := findClass_of_methodNamed B.named
  have hlocks := B.notSynchronized
  subst hsz
  have hD := hD0.self (sz := s.heap.size)
  generalize hAe : va_A (WL cy zL zT zR zI zJ) s.heap.size = A at hD ⊢
  have hA : ∀ q : Nat, s.heap.size ≤ q → A q := fun q h => by rw [← hAe]; exact Or.inr h
  have hS : va_S A s.heap s.heap [] := va_S.rf
  have hP : va_P (dC, dI) vwCl (WL cy zL zT zR zI zJ) s.heap := hP
  have hl := lv_entry ([.int zia, .ref zw, .ref zc, .ref zm] : List Value) (n := 7) (Nat.le_of_ble_eq_true rfl)
  rw [lg_entry_eq]
  generalize (lg_sl ([.int zia, .ref zw, .ref zc, .ref zm] : List Value) ++ List.replicate (7 - (lg_sl ([.int zia, .ref zw, .ref zc, .ref zm] : List Value)).length) Slot.unset).toArray = ls at hl ⊢
  have hl : lv_has ls 7 [(0, .int zia), (1, .ref zw), (2, .ref zc), (3, .ref zm)] := hl
  refine w_q (fun Q hQ => ?_)
  have h_zI : WM [] AL zT zR zI zI := WM.rf hw
  refine lv_aload_n hx hb dX5_goalOf_0 rfl (lv_at hl 3 rfl) ?_
  refine ht_getr (C := RX1) (T := TX1) (N := 8) hx hb hts (by decide +kernel) hown hK hP hs t_zm (by decide) rfl rfl 3 (by decide) (hts (.fieldLink RX5 89 "DripStone$Claim" "lasts" "[I") (by decide +kernel)) (fun _ h9 => h9) rfl dX5_goalOf_1 ?_
  have t_1 : zT (zR zm 3) = 31 := sk_f hs t_zm (by decide) rfl (by decide)
  refine lv_iload_n hx hb dX5_goalOf_4 rfl (lv_at hl 0 rfl) ?_
  refine ht_iald (n := 2) (q := 0) hx hb hK hP hs t_1 (by decide) rfl rfl ⟨by omega, by omega⟩ dX5_goalOf_5 ?_
  refine lv_topi (fun zi_2 ezi_2 => ?_)
  refine lv_aload_n hx hb dX5_goalOf_6 rfl (lv_at hl 3 rfl) ?_
  refine ht_getr (C := RX1) (T := TX1) (N := 8) hx hb hts (by decide +kernel) hown hK hP hs t_zm (by decide) rfl rfl 2 (by decide) (hts (.fieldLink RX5 86 "DripStone$Claim" "firsts" "[I") (by decide +kernel)) (fun _ h9 => h9) rfl dX5_goalOf_7 ?_
  have t_3 : zT (zR zm 2) = 31 := sk_f hs t_zm (by decide) rfl (by decide)
  refine lv_iload_n hx hb dX5_goalOf_10 rfl (lv_at hl 0 rfl) ?_
  refine ht_iald (n := 2) (q := 0) hx hb hK hP hs t_3 (by decide) rfl rfl ⟨by omega, by omega⟩ dX5_goalOf_11 ?_
  refine lv_topi (fun zi_4 ezi_4 => ?_)
  refine lv_isub hx hb dX5_goalOf_12 ?_
  refine lv_topi (fun zi_5 ezi_5 => ?_)
  refine lv_iconst (v := 1) hx hb dX5_goalOf_13 (by decide) ?_
  refine lv_iadd hx hb dX5_goalOf_14 ?_
  refine lv_topi (fun zi_6 ezi_6 => ?_)
  refine lv_aload_n hx hb dX5_goalOf_15 rfl (lv_at hl 1 rfl) ?_
  refine ht_geti (C := RX9) (T := TX9) (N := 16) hx hb hts (by decide +kernel) hown hK hP hs t_zw (by decide) rfl rfl 13 (by decide) (hts (.fieldLink RX5 96 "DripStone$Ways" "most" "I") (by decide +kernel)) (fun _ h9 => h9) rfl dX5_goalOf_16 ?_
  refine lv_topi (fun zi_7 ezi_7 => ?_)
  have tzi_7 : 0 ≤ zi_7.toInt ∧ zi_7.toInt ≤ 4 := by rw [ezi_7]; exact h_zI.at t_zw _ rfl
  refine lv_imul hx hb dX5_goalOf_19 ?_
  refine lv_topi (fun zi_8 ezi_8 => ?_)
  refine lv_istore (lv' := [(4, .int zi_8), (0, .int zia), (1, .ref zw), (2, .ref zc), (3, .ref zm)]) hx hb dX5_goalOf_20 hl (by decide) rfl (fun ls hl => ?_)
  refine lv_iconst (v := 0) hx hb dX5_goalOf_22 (by decide) ?_
  refine lv_istore (lv' := [(5, .int 0), (4, .int zi_8), (0, .int zia), (1, .ref zw), (2, .ref zc), (3, .ref zm)]) hx hb dX5_goalOf_23 hl (by decide) rfl (fun ls hl => ?_)
  refine lv_iconst (v := 0) hx hb dX5_goalOf_25 (by decide) ?_
  refine lv_istore (lv' := [(6, .int 0), (5, .int 0), (4, .int zi_8), (0, .int zia), (1, .ref zw), (2, .ref zc), (3, .ref zm)]) hx hb dX5_goalOf_26 hl (by decide) rfl (fun ls hl => ?_)
  have lp_378 : ∀ (n : Nat) (zi_89 : Int32) (zi_90 : Int32) (H : Heap) (locs : List Loc) (ls : Array Slot), (12 - zi_90.toInt).toNat = n → (0 ≤ zi_90.toInt ∧ zi_90.toInt ≤ 12) → va_P (dC, dI) vwCl (WL cy zL zT zR zI zJ) H → va_D A (WL cy zL zT zR zI zJ) → va_S A s.heap H locs → lv_has ls 7 [(0, .int zia), (1, .ref zw), (2, .ref zc), (3, .ref zm), (4, .int zi_8), (5, .int zi_89), (6, .int zi_90)] → W p l e ({ frames := 2, cells := 0, slots := 0, locals := 46 } : Room) s m ([.int zia, .ref zw, .ref zc, .ref zm] : List Value).toArray below meth c H locs 0 0 Q (F0 m 28 ls []) := by
    intro n
    induction n using Nat.strongRecOn with
    | _ n ih_378 =>
      intro zi_89 zi_90 H locs ls hn b_zi_90 hP hD hS hl
      refine lv_iload hx hb dX5_goalOf_28 (lv_at hl 6 rfl) ?_
      refine lv_aload_n hx hb dX5_goalOf_30 rfl (lv_at hl 1 rfl) ?_
      refine ht_geti (C := RX9) (T := TX9) (N := 16) hx hb hts (by decide +kernel) hown hK hP hs t_zw (by decide) rfl rfl 14 (by decide) (hts (.fieldLink RX5 35 "DripStone$Ways" "places" "I") (by decide +kernel)) (fun _ h9 => h9) rfl dX5_goalOf_31 ?_
      refine lv_topi (fun zi_379 ezi_379 => ?_)
      have tzi_379 : 0 ≤ zi_379.toInt ∧ zi_379.toInt ≤ 12 := by rw [ezi_379]; exact h_zI.at t_zw _ rfl
      refine lv_icmp_ge (tgt := 69) hx hb dX5_goalOf_34 (by decide) (fun c_380 => ?_) (fun c_380 => ?_)
      · have f_381 : zi_90.toInt ≥ zi_379.toInt := ic_ge (rfl) (rfl) c_380
        refine lv_iload_n hx hb dX5_goalOf_69 rfl (lv_at hl 0 rfl) ?_
        refine lv_aload_n hx hb dX5_goalOf_70 rfl (lv_at hl 3 rfl) ?_
        refine ht_geti (C := RX1) (T := TX1) (N := 8) hx hb hts (by decide +kernel) hown hK hP hs t_zm (by decide) rfl rfl 6 (by decide) (hts (.fieldLink RX5 99 "DripStone$Claim" "atoms" "I") (by decide +kernel)) (fun _ h9 => h9) rfl dX5_goalOf_71 ?_
        refine lv_topi (fun zi_382 ezi_382 => ?_)
        have tzi_382 : 0 ≤ zi_382.toInt ∧ zi_382.toInt ≤ 2 := by rw [ezi_382]; exact h_zI.at t_zm _ rfl
        have jn_394 : ∀  (H : Heap) (locs : List Loc) (ls : Array Slot), va_P (dC, dI) vwCl (WL cy zL zT zR zI zJ) H → va_D A (WL cy zL zT zR zI zJ) → va_S A s.heap H locs → lv_has ls 7 [(0, .int zia), (1, .ref zw), (2, .ref zc), (3, .ref zm), (4, .int zi_8), (5, .int zi_89), (6, .int zi_90)] → W p l e ({ frames := 2, cells := 0, slots := 0, locals := 46 } : Room) s m ([.int zia, .ref zw, .ref zc, .ref zm] : List Value).toArray below meth c H locs 0 0 Q (F0 m 97 ls []) := by
          intro  H locs ls  hP hD hS hl
          refine lv_iconst (v := 0) hx hb dX5_goalOf_97 (by decide) ?_
          refine lv_istore (lv' := [(6, .int 0), (0, .int zia), (1, .ref zw), (2, .ref zc), (3, .ref zm), (4, .int zi_8), (5, .int zi_89)]) hx hb dX5_goalOf_98 hl (by decide) rfl (fun ls hl => ?_)
          refine lv_iload hx hb dX5_goalOf_100 (lv_at hl 0 rfl) ?_
          refine lv_if_eq (tgt := 114) hx hb dX5_goalOf_102 (by decide) (fun c_395 => ?_) (fun c_395 => absurd (by decide) c_395)
          refine lv_iconst (v := 0) hx hb dX5_goalOf_114 (by decide) ?_
          subst hQ
          have qc_0 : (0 : Int32).toInt = 0 := by decide
          exact W.iret (v := (0 : Int32)) hx hb hr (fun t ht hW => ⟨⟨(0 : Int32), (), rfl, (show (-1) ≤ (0 : Int32).toInt ∧ (0 : Int32).toInt ≤ 12 from by omega), ⟨by rw [ht]; exact hP, va_K.moved hW.alike hK, hD⟩⟩, hS.F ht⟩) hS.2.2 dX5_goalOf_115
        refine lv_icmp_ge (tgt := 97) hx hb dX5_goalOf_74 (by decide) (fun c_396 => ?_) (fun c_396 => ?_)
        · have f_397 : zia.toInt ≥ zi_382.toInt := ic_ge (rfl) (rfl) c_396
          exact jn_394  _ _ _  hP hD hS (lv_sub hl [0, 1, 2, 3, 4, 5, 6] rfl)
        · have f_397 : ¬ (zia.toInt ≥ zi_382.toInt) := ic_nge (rfl) (rfl) c_396
          refine lv_aload_n hx hb dX5_goalOf_77 rfl (lv_at hl 3 rfl) ?_
          refine ht_getr (C := RX1) (T := TX1) (N := 8) hx hb hts (by decide +kernel) hown hK hP hs t_zm (by decide) rfl rfl 4 (by decide) (hts (.fieldLink RX5 102 "DripStone$Claim" "goals" "[I") (by decide +kernel)) (fun _ h9 => h9) rfl dX5_goalOf_78 ?_
          have t_398 : zT (zR zm 4) = 32 := sk_f hs t_zm (by decide) rfl (by decide)
          refine lv_iload_n hx hb dX5_goalOf_81 rfl (lv_at hl 0 rfl) ?_
          refine ht_iald (n := 2) (q := 0) hx hb hK hP hs t_398 (by decide) rfl rfl ⟨by omega, by omega⟩ dX5_goalOf_82 ?_
          refine lv_topi (fun zi_399 ezi_399 => ?_)
          have tzi_399 : (-1) ≤ zi_399.toInt ∧ zi_399.toInt ≤ 12 := by rw [ezi_399]; exact h_zI.at t_398 _ rfl
          refine lv_iload hx hb dX5_goalOf_83 (lv_at hl 4 rfl) ?_
          refine lv_iload hx hb dX5_goalOf_85 (lv_at hl 5 rfl) ?_
          refine va_mmin hx hb (by rw [hml]; exact hl.1.symm) hown (hts (.methodLink RX5 105 Lib.Math.min.name) (by decide +kernel)) (hts (.static Lib.Math.min.name) (by decide +kernel)) (hts (.initialized "java/lang/Math") (by decide +kernel)) (hts (.code Lib.Math.min.name Lib.Math.min.code 2 (some .int)) (by decide +kernel)) (Nat.le_of_ble_eq_true rfl) (Nat.le_of_ble_eq_true rfl) (Nat.le_of_ble_eq_true rfl) (Nat.le_of_ble_eq_true rfl) dX5_goalOf_87 ?_
          refine lv_topi (fun zi_400 ezi_400 => ?_)
          have tzi_400 : (zi_89.toInt < zi_8.toInt → zi_400.toInt = zi_89.toInt) ∧ (¬ zi_89.toInt < zi_8.toInt → zi_400.toInt = zi_8.toInt) := mn_s ezi_400 (rfl) (rfl)
          refine lv_icmp_gt (tgt := 97) hx hb dX5_goalOf_90 (by decide) (fun c_403 => ?_) (fun c_403 => ?_)
          · have f_404 : zi_399.toInt > zi_400.toInt := ic_gt (rfl) (rfl) c_403
            exact jn_394  _ _ _  hP hD hS (lv_sub hl [0, 1, 2, 3, 4, 5, 6] rfl)
          · have f_404 : ¬ (zi_399.toInt > zi_400.toInt) := ic_ngt (rfl) (rfl) c_403
            refine lv_iconst (v := 1) hx hb dX5_goalOf_93 (by decide) ?_
            refine lv_goto (tgt := 98) hx hb dX5_goalOf_94 (by decide) ?_
            refine lv_istore (lv' := [(6, .int 1), (0, .int zia), (1, .ref zw), (2, .ref zc), (3, .ref zm), (4, .int zi_8), (5, .int zi_89)]) hx hb dX5_goalOf_98 hl (by decide) rfl (fun ls hl => ?_)
            refine lv_iload hx hb dX5_goalOf_100 (lv_at hl 0 rfl) ?_
            refine lv_if_eq (tgt := 114) hx hb dX5_goalOf_102 (by decide) (fun c_405 => absurd c_405 (by decide)) (fun c_405 => ?_)
            refine lv_aload_n hx hb dX5_goalOf_105 rfl (lv_at hl 4 rfl) ?_
            refine ht_getr (C := RX1) (T := TX1) (N := 8) hx hb hts (by decide +kernel) hown hK hP hs t_zm (by decide) rfl rfl 4 (by decide) (hts (.fieldLink RX5 102 "DripStone$Claim" "goals" "[I") (by decide +kernel)) (fun _ h9 => h9) rfl dX5_goalOf_106 ?_
            refine lv_iload_n hx hb dX5_goalOf_109 rfl (lv_at hl 1 rfl) ?_
            refine ht_iald (n := 2) (q := 0) hx hb hK hP hs t_398 (by decide) rfl rfl ⟨by omega, by omega⟩ dX5_goalOf_110 ?_
            refine lv_topi (fun zi_406 ezi_406 => ?_)
            obtain rfl : zi_399 = zi_406 := (ezi_406.trans ezi_399.symm).symm
            refine lv_goto (tgt := 115) hx hb dX5_goalOf_111 (by decide) ?_
            subst hQ
            exact W.iret (v := zi_399) hx hb hr (fun t ht hW => ⟨⟨zi_399, (), rfl, (show (-1) ≤ zi_399.toInt ∧ zi_399.toInt ≤ 12 from by omega), ⟨by rw [ht]; exact hP, va_K.moved hW.alike hK, hD⟩⟩, hS.F ht⟩) hS.2.2 dX5_goalOf_115
      · have f_381 : ¬ (zi_90.toInt ≥ zi_379.toInt) := ic_nge (rfl) (rfl) c_380
        refine lv_iload hx hb dX5_goalOf_37 (lv_at hl 5 rfl) ?_
        refine lv_aload_n hx hb dX5_goalOf_39 rfl (lv_at hl 3 rfl) ?_
        refine lv_iload_n hx hb dX5_goalOf_40 rfl (lv_at hl 0 rfl) ?_
        refine lv_aload_n hx hb dX5_goalOf_41 rfl (lv_at hl 2 rfl) ?_
        refine lv_aload_n hx hb dX5_goalOf_42 rfl (lv_at hl 1 rfl) ?_
        refine ht_getr (C := RX9) (T := TX9) (N := 16) hx hb hts (by decide +kernel) hown hK hP hs t_zw (by decide) rfl rfl 0 (by decide) (hts (.fieldLink RX5 77 "DripStone$Ways" "things" "[I") (by decide +kernel)) (fun _ h9 => h9) rfl dX5_goalOf_43 ?_
        have t_407 : zT (zR zw 0) = 37 := sk_f hs t_zw (by decide) rfl (by decide)
        refine lv_iload hx hb dX5_goalOf_46 (lv_at hl 6 rfl) ?_
        refine ht_iald (n := 12) (q := 0) hx hb hK hP hs t_407 (by decide) rfl rfl ⟨by omega, by omega⟩ dX5_goalOf_48 ?_
        refine lv_topi (fun zi_408 ezi_408 => ?_)
        have tzi_408 : 0 ≤ zi_408.toInt ∧ zi_408.toInt ≤ 11 := by rw [ezi_408]; exact h_zI.at t_407 _ rfl
        refine hj_i (ws := (WL cy zL zT zR zI zJ)) (w1 := fun (u : Unit) => (WL cy zL zT zR zI zJ)) (va_runV (As := [.int zia, .ref zc, .int zi_408]) (rest := [.int zi_89]) ⟨hx, hb, hml, hown, hts⟩ (t_X1_counts l dC dI cy H.size zL zT zR zI zJ zm zia zc zi_408 hs h_zI.1 t_zm t_zc (by omega) (by omega)) (cwV 3 hts gX5_goalOf_X1_counts rfl rfl rfl (by decide +kernel) ⟨(Nat.le_of_ble_eq_true rfl), (Nat.le_of_ble_eq_true rfl)⟩) (PRE.v hP hK hD hN (ht_recv hK hP hs t_zm (by decide) rfl rfl)) rfl rfl hl.1 rfl (lv_room (Nat.le_of_ble_eq_true rfl)) dX5_goalOf_49 ⟨(Nat.le_of_ble_eq_true rfl), (Nat.le_of_ble_eq_true rfl)⟩) hP hD hS hA (fun zi_409 u_411 H locs hw_410 hP hD hS => ?_)
        have b_zi_409 : 0 ≤ zi_409.toInt ∧ zi_409.toInt ≤ 1 := hw_410
        have jn_415 : ∀ (zi_414 : Int32) (H : Heap) (locs : List Loc) (ls : Array Slot), (0 ≤ zi_414.toInt ∧ zi_414.toInt ≤ 1) → va_P (dC, dI) vwCl (WL cy zL zT zR zI zJ) H → va_D A (WL cy zL zT zR zI zJ) → va_S A s.heap H locs → lv_has ls 7 [(0, .int zia), (1, .ref zw), (2, .ref zc), (3, .ref zm), (4, .int zi_8), (5, .int zi_89), (6, .int zi_90)] → W p l e ({ frames := 2, cells := 0, slots := 0, locals := 46 } : Room) s m ([.int zia, .ref zw, .ref zc, .ref zm] : List Value).toArray below meth c H locs 0 0 Q (F0 m 60 ls [.int zi_414, .int zi_89]) := by
          intro zi_414 H locs ls b_zi_414 hP hD hS hl
          refine lv_iadd hx hb dX5_goalOf_60 ?_
          refine lv_topi (fun zi_416 ezi_416 => ?_)
          refine lv_istore (lv' := [(5, .int zi_416), (0, .int zia), (1, .ref zw), (2, .ref zc), (3, .ref zm), (4, .int zi_8), (6, .int zi_90)]) hx hb dX5_goalOf_61 hl (by decide) rfl (fun ls hl => ?_)
          obtain ⟨zi_417, ezi_417⟩ : ∃ y : Int32, y = zi_90 + 1 := ⟨_, rfl⟩
          have tzi_417 : zi_417.toInt = zi_90.toInt + 1 := by rw [ezi_417]; exact tadd rfl (show (1 : Int32).toInt = 1 by decide) (by omega) (by omega)
          refine lv_iinc (v := zi_417) (lv' := [(6, .int zi_417), (5, .int zi_416), (0, .int zia), (1, .ref zw), (2, .ref zc), (3, .ref zm), (4, .int zi_8)]) hx hb dX5_goalOf_63 hl (k := 6) rfl (by rw [ezi_417]; rfl) (by decide) rfl (fun ls hl => ?_)
          refine lv_goto (tgt := 28) hx hb dX5_goalOf_66 (by decide) ?_
          exact ih_378 (12 - zi_417.toInt).toNat (by omega) zi_416 zi_417 _ _ _ rfl (by omega) hP hD hS (lv_sub hl [2, 3, 4, 5, 6, 1, 0] rfl)
        refine lv_if_eq (tgt := 59) hx hb dX5_goalOf_52 (by decide) (fun c_418 => ?_) (fun c_418 => ?_)
        · have f_419 : zi_409.toInt = 0 := ic_eq (rfl) (by decide) c_418
          refine lv_iconst (v := 0) hx hb dX5_goalOf_59 (by decide) ?_
          exact jn_415 (0 : Int32) _ _ _ (by decide) hP hD hS (lv_sub hl [0, 1, 2, 3, 4, 5, 6] rfl)
        · have f_419 : ¬ (zi_409.toInt = 0) := ic_neq (rfl) (by decide) c_418
          refine lv_iconst (v := 1) hx hb dX5_goalOf_55 (by decide) ?_
          refine lv_goto (tgt := 60) hx hb dX5_goalOf_56 (by decide) ?_
          exact jn_415 (1 : Int32) _ _ _ (by decide) hP hD hS (lv_sub hl [0, 1, 2, 3, 4, 5, 6] rfl)
  exact lp_378 _ (0 : Int32) (0 : Int32) _ _ _ rfl (by decide) hP hD hS (lv_sub hl [3, 4, 5, 6, 2, 1, 0] rfl)
set_option maxHeartbeats 8000000 in
set_option maxRecDepth 100000 in
theorem t_X5_ask (l : Launch) (dC : Nat → ClassId) (dI : Nat → Nat → Nat) (cy : Nat → ClassId) (sz : Nat) (zL : List Nat) (zT : Nat → Nat) (zR : Nat → Nat → Nat) (zI : Nat → Nat → Int32) (zJ : Nat → Nat → Int64) (zk : Nat) (zw : Nat) (zc : Nat) (zm : Nat) (zis : Int32) (hs : SKP zL zT zR) (hw : WT zT zR zI) (t_zk : zT zk = 6) (t_zw : zT zw = 10) (t_zc : zT zc = 1) (t_zm : zT zm = 2) : Met l yX5_ask wsX5_ask ({ frames := 3, cells := 0, slots := 0, locals := 72 } : Room) (va_Pc [.ref zk, .ref zw, .ref zc, .ref zm, .int zis] (PRE dC dI cy (WL cy zL zT zR zI zJ) sz)) (va_Qv (fun (u : (Nat → Nat → Int32)) => (WM [607, 608, 4500, 4600] AL zT zR zI u)) (fun u t => POST dC dI cy (va_A (WL cy zL zT zR zI zJ) sz) (WL cy zL zT zR u zJ) t) (va_A (WL cy zL zT zR zI zJ) sz)) 0 0 (va_A (WL cy zL zT zR zI zJ) sz) := by
  refine Met.ofW (cc := cX5_ask) (maxL := 6) (ret := none) (by decide) rfl ?_
  intro p e s m args below meth c s₁ B hml hv
  obtain ⟨rfl, hsz, hP, hK, hD0, hN⟩ := hv
  have hx := B.exec
  have hb := B.bytes
  have hr := B.returns
  have hts := atoms_spec (ws := wsX5_ask) B.pre
  have hown : s.vm.findClass RX5 = some m.cls := findClass_of_methodNamed B.named
  have hlocks := B.notSynchronized
  subst hsz
  have hD := hD0.self (sz := s.heap.size)
  generalize hAe : va_A (WL cy zL zT zR zI zJ) s.heap.size = A at hD ⊢
  have hA : ∀ q : Nat, s.heap.size ≤ q → A q := fun q h => by rw [← hAe]; exact Or.inr h
  have hS : va_S A s.heap s.heap [] := va_S.rf
  have hP : va_P (dC, dI) vwCl (WL cy zL zT zR zI zJ) s.heap := hP
  have hl := lv_entry ([.ref zk, .ref zw, .ref zc, .ref zm, .int zis] : List Value) (n := 6) (Nat.le_of_ble_eq_true rfl)
  rw [lg_entry_eq]
  generalize (lg_sl ([.ref zk, .ref zw, .ref zc, .ref zm, .int zis] : List Value) ++ List.replicate (6 - (lg_sl ([.ref zk, .ref zw, .ref zc, .ref zm, .int zis] : List Value)).length) Slot.unset).toArray = ls at hl ⊢
  have hl : lv_has ls 6 [(0, .ref zk), (1, .ref zw), (2, .ref zc), (3, .ref zm), (4, .int zis)] := hl
  refine w_q (fun Q hQ => ?_)
  have h_zI : WM [607, 608, 4500, 4600] AL zT zR zI zI := WM.rf hw
  refine lv_aload_n hx hb dX5_ask_0 rfl (lv_at hl 0 rfl) ?_
  refine lv_iconst (v := 0) hx hb dX5_ask_1 (by decide) ?_
  refine lv_aload_n hx hb dX5_ask_2 rfl (lv_at hl 1 rfl) ?_
  refine lv_aload_n hx hb dX5_ask_3 rfl (lv_at hl 2 rfl) ?_
  refine lv_aload_n hx hb dX5_ask_4 rfl (lv_at hl 3 rfl) ?_
  have qc_0 : (0 : Int32).toInt = 0 := by decide
  refine hj_i (ws := (WL cy zL zT zR zI zJ)) (w1 := fun (u : Unit) => (WL cy zL zT zR zI zJ)) (va_runS (As := [.int 0, .ref zw, .ref zc, .ref zm]) (rest := [.ref zk]) ⟨hx, hb, hml, hown, hts⟩ (t_X5_goalOf l dC dI cy s.heap.size zL zT zR zI zJ (0 : Int32) zw zc zm hs h_zI.1 t_zw t_zc t_zm (by decide)) (va_cwS 4 hts gX5_ask_X5_goalOf rfl rfl rfl (by decide +kernel) ⟨(Nat.le_of_ble_eq_true rfl), (Nat.le_of_ble_eq_true rfl)⟩) (PRE.s hP hK hD hN) rfl rfl hl.1 rfl (lv_room (Nat.le_of_ble_eq_true rfl)) dX5_ask_5 ⟨(Nat.le_of_ble_eq_true rfl), (Nat.le_of_ble_eq_true rfl)⟩) hP hD hS hA (fun zi_1 u_3 H locs hw_2 hP hD hS => ?_)
  have b_zi_1 : (-1) ≤ zi_1.toInt ∧ zi_1.toInt ≤ 12 := hw_2
  refine ht_puti (v := zi_1) (ty := .int) (C := RX5) (T := TX5) (N := 9) hx hb hts (by decide +kernel) tyX5 tyX5_ok nmX5 hown hK hP hD hS hs t_zk (by decide) rfl rfl 7 (by decide) (hts (.fieldLink RX5 45 "DripStone$Marks" "goal0" "I") (by decide +kernel)) (fun _ h9 => h9) rfl (by decide +kernel) rfl rfl rfl dX5_ask_8 (fun H locs hP hD hS => ?_)
  have h_zI_4 : WM [607, 608, 4500, 4600] AL zT zR zI (u2 zI zk 7 zi_1) := h_zI.put hs t_zk rfl (by omega) (by decide) (fun h => absurd h (by decide)) (by decide) trivial
  generalize uzI_4 : u2 zI zk 7 zi_1 = zI_4 at hP hD h_zI_4
  refine lv_aload_n hx hb dX5_ask_11 rfl (lv_at hl 0 rfl) ?_
  refine lv_iconst (v := 1) hx hb dX5_ask_12 (by decide) ?_
  refine lv_aload_n hx hb dX5_ask_13 rfl (lv_at hl 1 rfl) ?_
  refine lv_aload_n hx hb dX5_ask_14 rfl (lv_at hl 2 rfl) ?_
  refine lv_aload_n hx hb dX5_ask_15 rfl (lv_at hl 3 rfl) ?_
  have qc_1 : (1 : Int32).toInt = 1 := by decide
  refine hj_i (ws := (WL cy zL zT zR zI_4 zJ)) (w1 := fun (u : Unit) => (WL cy zL zT zR zI_4 zJ)) (va_runS (As := [.int 1, .ref zw, .ref zc, .ref zm]) (rest := [.ref zk]) ⟨hx, hb, hml, hown, hts⟩ (t_X5_goalOf l dC dI cy H.size zL zT zR zI_4 zJ (1 : Int32) zw zc zm hs h_zI_4.1 t_zw t_zc t_zm (by decide)) (va_cwS 4 hts gX5_ask_X5_goalOf rfl rfl rfl (by decide +kernel) ⟨(Nat.le_of_ble_eq_true rfl), (Nat.le_of_ble_eq_true rfl)⟩) (PRE.s hP hK hD hN) rfl rfl hl.1 rfl (lv_room (Nat.le_of_ble_eq_true rfl)) dX5_ask_16 ⟨(Nat.le_of_ble_eq_true rfl), (Nat.le_of_ble_eq_true rfl)⟩) hP hD hS hA (fun zi_5 u_7 H locs hw_6 hP hD hS => ?_)
  have b_zi_5 : (-1) ≤ zi_5.toInt ∧ zi_5.toInt ≤ 12 := hw_6
  refine ht_puti (v := zi_5) (ty := .int) (C := RX5) (T := TX5) (N := 9) hx hb hts (by decide +kernel) tyX5 tyX5_ok nmX5 hown hK hP hD hS hs t_zk (by decide) rfl rfl 8 (by decide) (hts (.fieldLink RX5 48 "DripStone$Marks" "goal1" "I") (by decide +kernel)) (fun _ h9 => h9) rfl (by decide +kernel) rfl rfl rfl dX5_ask_19 (fun H locs hP hD hS => ?_)
  have h_zI_8 : WM [607, 608, 4500, 4600] AL zT zR zI (u2 zI_4 zk 8 zi_5) := h_zI_4.put hs t_zk rfl (by omega) (by decide) (fun h => absurd h (by decide)) (by decide) trivial
  generalize uzI_8 : u2 zI_4 zk 8 zi_5 = zI_8 at hP hD h_zI_8
  refine lv_iconst (v := 0) hx hb dX5_ask_22 (by decide) ?_
  refine lv_istore (lv' := [(5, .int 0), (0, .ref zk), (1, .ref zw), (2, .ref zc), (3, .ref zm), (4, .int zis)]) hx hb dX5_ask_23 hl (by decide) rfl (fun ls hl => ?_)
  have lp_99 : ∀ (n : Nat) (zi_80 : Int32) (zI_81 : Nat → Nat → Int32) (H : Heap) (locs : List Loc) (ls : Array Slot), (12 - zi_80.toInt).toNat = n → (0 ≤ zi_80.toInt ∧ zi_80.toInt ≤ 12) → (WM [607, 608, 4500, 4600] AL zT zR zI zI_81) → va_P (dC, dI) vwCl (WL cy zL zT zR zI_81 zJ) H → va_D A (WL cy zL zT zR zI_81 zJ) → va_S A s.heap H locs → lv_has ls 6 [(0, .ref zk), (1, .ref zw), (2, .ref zc), (3, .ref zm), (4, .int zis), (5, .int zi_80)] → W p l e ({ frames := 3, cells := 0, slots := 0, locals := 72 } : Room) s m ([.ref zk, .ref zw, .ref zc, .ref zm, .int zis] : List Value).toArray below meth c H locs 0 0 Q (F0 m 25 ls []) := by
    intro n
    induction n using Nat.strongRecOn with
    | _ n ih_99 =>
      intro zi_80 zI_81 H locs ls hn b_zi_80 h_zI_81 hP hD hS hl
      refine lv_iload hx hb dX5_ask_25 (lv_at hl 5 rfl) ?_
      refine lv_aload_n hx hb dX5_ask_27 rfl (lv_at hl 1 rfl) ?_
      refine ht_geti (C := RX9) (T := TX9) (N := 16) hx hb hts (by decide +kernel) hown hK hP hs t_zw (by decide) rfl rfl 14 (by decide) (hts (.fieldLink RX5 35 "DripStone$Ways" "places" "I") (by decide +kernel)) (fun _ h9 => h9) rfl dX5_ask_28 ?_
      refine lv_topi (fun zi_100 ezi_100 => ?_)
      have tzi_100 : 0 ≤ zi_100.toInt ∧ zi_100.toInt ≤ 12 := by rw [ezi_100]; exact h_zI_81.at t_zw _ rfl
      refine lv_icmp_ge (tgt := 80) hx hb dX5_ask_31 (by decide) (fun c_101 => ?_) (fun c_101 => ?_)
      · have f_102 : zi_80.toInt ≥ zi_100.toInt := ic_ge (rfl) (rfl) c_101
        refine lv_iconst (v := 0) hx hb dX5_ask_80 (by decide) ?_
        refine lv_istore (lv' := [(5, .int 0), (0, .ref zk), (1, .ref zw), (2, .ref zc), (3, .ref zm), (4, .int zis)]) hx hb dX5_ask_81 hl (by decide) rfl (fun ls hl => ?_)
        have lp_212 : ∀ (n : Nat) (zi_189 : Int32) (zI_190 : Nat → Nat → Int32) (H : Heap) (locs : List Loc) (ls : Array Slot), (24 - zi_189.toInt).toNat = n → (0 ≤ zi_189.toInt ∧ zi_189.toInt ≤ 24) → (WM [607, 608, 4500, 4600] AL zT zR zI zI_190) → va_P (dC, dI) vwCl (WL cy zL zT zR zI_190 zJ) H → va_D A (WL cy zL zT zR zI_190 zJ) → va_S A s.heap H locs → lv_has ls 6 [(0, .ref zk), (1, .ref zw), (2, .ref zc), (3, .ref zm), (4, .int zis), (5, .int zi_189)] → W p l e ({ frames := 3, cells := 0, slots := 0, locals := 72 } : Room) s m ([.ref zk, .ref zw, .ref zc, .ref zm, .int zis] : List Value).toArray below meth c H locs 0 0 Q (F0 m 83 ls []) := by
          intro n
          induction n using Nat.strongRecOn with
          | _ n ih_212 =>
            intro zi_189 zI_190 H locs ls hn b_zi_189 h_zI_190 hP hD hS hl
            refine lv_iload hx hb dX5_ask_83 (lv_at hl 5 rfl) ?_
            refine lv_bipush (v := 24) hx hb dX5_ask_85 (by decide) ?_
            refine lv_icmp_ge (tgt := 150) hx hb dX5_ask_87 (by decide) (fun c_213 => ?_) (fun c_213 => ?_)
            · have f_214 : zi_189.toInt ≥ (24 : Int) := ic_ge (rfl) (show (24 : Int32).toInt = 24 by decide) c_213
              subst hQ
              exact W.vret hx hb hr (fun t ht hW => ⟨⟨zI_190, rfl, h_zI_190, ⟨by rw [ht]; exact hP, va_K.moved hW.alike hK, hD⟩⟩, hS.F ht⟩) hS.2.2 dX5_ask_150
            · have f_214 : ¬ (zi_189.toInt ≥ (24 : Int)) := ic_nge (rfl) (show (24 : Int32).toInt = 24 by decide) c_213
              refine lv_aload_n hx hb dX5_ask_90 rfl (lv_at hl 0 rfl) ?_
              refine ht_getr (C := RX5) (T := TX5) (N := 9) hx hb hts (by decide +kernel) hown hK hP hs t_zk (by decide) rfl rfl 2 (by decide) (hts (.fieldLink RX5 18 "DripStone$Marks" "years0" "[Z") (by decide +kernel)) (fun _ h9 => h9) rfl dX5_ask_91 ?_
              have t_215 : zT (zR zk 2) = 46 := sk_f hs t_zk (by decide) rfl (by decide)
              refine lv_iload hx hb dX5_ask_94 (lv_at hl 5 rfl) ?_
              refine lv_iload hx hb dX5_ask_96 (lv_at hl 5 rfl) ?_
              refine lv_iload hx hb dX5_ask_98 (lv_at hl 4 rfl) ?_
              refine lv_isub hx hb dX5_ask_100 ?_
              refine lv_topi (fun zi_216 ezi_216 => ?_)
              refine lv_aload_n hx hb dX5_ask_101 rfl (lv_at hl 3 rfl) ?_
              refine ht_getr (C := RX1) (T := TX1) (N := 8) hx hb hts (by decide +kernel) hown hK hP hs t_zm (by decide) rfl rfl 2 (by decide) (hts (.fieldLink RX5 86 "DripStone$Claim" "firsts" "[I") (by decide +kernel)) (fun _ h9 => h9) rfl dX5_ask_102 ?_
              have t_217 : zT (zR zm 2) = 31 := sk_f hs t_zm (by decide) rfl (by decide)
              refine lv_iconst (v := 0) hx hb dX5_ask_105 (by decide) ?_
              refine ht_iald (n := 2) (q := 0) hx hb hK hP hs t_217 (by decide) rfl rfl ⟨by decide, by decide⟩ dX5_ask_106 ?_
              refine lv_topi (fun zi_218 ezi_218 => ?_)
              refine lv_aload_n hx hb dX5_ask_107 rfl (lv_at hl 3 rfl) ?_
              refine ht_getr (C := RX1) (T := TX1) (N := 8) hx hb hts (by decide +kernel) hown hK hP hs t_zm (by decide) rfl rfl 3 (by decide) (hts (.fieldLink RX5 89 "DripStone$Claim" "lasts" "[I") (by decide +kernel)) (fun _ h9 => h9) rfl dX5_ask_108 ?_
              have t_219 : zT (zR zm 3) = 31 := sk_f hs t_zm (by decide) rfl (by decide)
              refine lv_iconst (v := 0) hx hb dX5_ask_111 (by decide) ?_
              refine ht_iald (n := 2) (q := 0) hx hb hK hP hs t_219 (by decide) rfl rfl ⟨by decide, by decide⟩ dX5_ask_112 ?_
              refine lv_topi (fun zi_220 ezi_220 => ?_)
              refine hj0_i (ws := (WL cy zL zT zR zI_190 zJ)) (va_runSN (As := [.int zi_216, .int zi_218, .int zi_220]) (rest := [.int zi_189, .ref (zR zk 2)]) ⟨hx, hb, hml, hown, hts⟩ (c_X10_isWithin l dC dI cy H.size zi_216 zi_218 zi_220 zi_218.toInt zi_220.toInt (by first | rfl | decide | omega | exact Int32.toInt_toInt64 _) (by first | rfl | decide | omega | exact Int32.toInt_toInt64 _)) ⟨va_cnB 3 hts ggX5_ask_X10_isWithin rfl rfl rfl (n0_22 hN) (hts (.initialized RX10) (by decide +kernel)) (by decide +kernel) ⟨(Nat.le_of_ble_eq_true rfl), (Nat.le_of_ble_eq_true rfl)⟩, hts (.static yX10_isWithin) (by decide +kernel), trivial⟩ (PRE.s (hP.sub [] rfl) hK (hD.sub [] (by decide) rfl) hN) rfl rfl hl.1 rfl (lv_room (Nat.le_of_ble_eq_true rfl)) dX5_ask_113 ⟨(Nat.le_of_ble_eq_true rfl), (Nat.le_of_ble_eq_true rfl)⟩) hP hD hS hA (fun zi_221 u_223 H locs hw_222 hP hD hS => ?_)
              have hw_222 : zi_221 = if zi_218.toInt ≤ zi_216.toInt ∧ zi_216.toInt ≤ zi_220.toInt then 1 else 0 := hw_222
              have b_zi_221 : 0 ≤ zi_221.toInt ∧ zi_221.toInt ≤ 1 := bz_b hw_222
              refine ht_zast (v := zi_221) (n := 24) (q := 2) hx hb hK hP hD hS hs t_215 (by decide) rfl rfl ⟨by omega, by omega⟩ dX5_ask_116 (fun H locs hP hD hS => ?_)
              have h_zI_224 : WM [607, 608, 4500, 4600] AL zT zR zI (u2 zI_190 (zR zk 2) zi_189.toNatClampNeg (vp_nar .boolean zi_221)) := h_zI_190.putA hs t_215 rfl (rgF _) (by decide) (fun h => absurd h (by decide)) (by decide) trivial
              generalize uzI_224 : u2 zI_190 (zR zk 2) zi_189.toNatClampNeg (vp_nar .boolean zi_221) = zI_224 at hP hD h_zI_224
              refine lv_aload_n hx hb dX5_ask_117 rfl (lv_at hl 0 rfl) ?_
              refine ht_getr (C := RX5) (T := TX5) (N := 9) hx hb hts (by decide +kernel) hown hK hP hs t_zk (by decide) rfl rfl 3 (by decide) (hts (.fieldLink RX5 21 "DripStone$Marks" "years1" "[Z") (by decide +kernel)) (fun _ h9 => h9) rfl dX5_ask_118 ?_
              have t_225 : zT (zR zk 3) = 46 := sk_f hs t_zk (by decide) rfl (by decide)
              refine lv_iload hx hb dX5_ask_121 (lv_at hl 5 rfl) ?_
              refine lv_iload hx hb dX5_ask_123 (lv_at hl 5 rfl) ?_
              refine lv_iload hx hb dX5_ask_125 (lv_at hl 4 rfl) ?_
              refine lv_isub hx hb dX5_ask_127 ?_
              refine lv_topi (fun zi_226 ezi_226 => ?_)
              refine lv_aload_n hx hb dX5_ask_128 rfl (lv_at hl 3 rfl) ?_
              refine ht_getr (C := RX1) (T := TX1) (N := 8) hx hb hts (by decide +kernel) hown hK hP hs t_zm (by decide) rfl rfl 2 (by decide) (hts (.fieldLink RX5 86 "DripStone$Claim" "firsts" "[I") (by decide +kernel)) (fun _ h9 => h9) rfl dX5_ask_129 ?_
              refine lv_iconst (v := 1) hx hb dX5_ask_132 (by decide) ?_
              refine ht_iald (n := 2) (q := 0) hx hb hK hP hs t_217 (by decide) rfl rfl ⟨by decide, by decide⟩ dX5_ask_133 ?_
              refine lv_topi (fun zi_227 ezi_227 => ?_)
              refine lv_aload_n hx hb dX5_ask_134 rfl (lv_at hl 3 rfl) ?_
              refine ht_getr (C := RX1) (T := TX1) (N := 8) hx hb hts (by decide +kernel) hown hK hP hs t_zm (by decide) rfl rfl 3 (by decide) (hts (.fieldLink RX5 89 "DripStone$Claim" "lasts" "[I") (by decide +kernel)) (fun _ h9 => h9) rfl dX5_ask_135 ?_
              refine lv_iconst (v := 1) hx hb dX5_ask_138 (by decide) ?_
              refine ht_iald (n := 2) (q := 0) hx hb hK hP hs t_219 (by decide) rfl rfl ⟨by decide, by decide⟩ dX5_ask_139 ?_
              refine lv_topi (fun zi_228 ezi_228 => ?_)
              refine hj0_i (ws := (WL cy zL zT zR zI_224 zJ)) (va_runSN (As := [.int zi_226, .int zi_227, .int zi_228]) (rest := [.int zi_189, .ref (zR zk 3)]) ⟨hx, hb, hml, hown, hts⟩ (c_X10_isWithin l dC dI cy H.size zi_226 zi_227 zi_228 zi_227.toInt zi_228.toInt (by first | rfl | decide | omega | exact Int32.toInt_toInt64 _) (by first | rfl | decide | omega | exact Int32.toInt_toInt64 _)) ⟨va_cnB 3 hts ggX5_ask_X10_isWithin rfl rfl rfl (n0_22 hN) (hts (.initialized RX10) (by decide +kernel)) (by decide +kernel) ⟨(Nat.le_of_ble_eq_true rfl), (Nat.le_of_ble_eq_true rfl)⟩, hts (.static yX10_isWithin) (by decide +kernel), trivial⟩ (PRE.s (hP.sub [] rfl) hK (hD.sub [] (by decide) rfl) hN) rfl rfl hl.1 rfl (lv_room (Nat.le_of_ble_eq_true rfl)) dX5_ask_140 ⟨(Nat.le_of_ble_eq_true rfl), (Nat.le_of_ble_eq_true rfl)⟩) hP hD hS hA (fun zi_229 u_231 H locs hw_230 hP hD hS => ?_)
              have hw_230 : zi_229 = if zi_227.toInt ≤ zi_226.toInt ∧ zi_226.toInt ≤ zi_228.toInt then 1 else 0 := hw_230
              have b_zi_229 : 0 ≤ zi_229.toInt ∧ zi_229.toInt ≤ 1 := bz_b hw_230
              refine ht_zast (v := zi_229) (n := 24) (q := 2) hx hb hK hP hD hS hs t_225 (by decide) rfl rfl ⟨by omega, by omega⟩ dX5_ask_143 (fun H locs hP hD hS => ?_)
              have h_zI_232 : WM [607, 608, 4500, 4600] AL zT zR zI (u2 zI_224 (zR zk 3) zi_189.toNatClampNeg (vp_nar .boolean zi_229)) := h_zI_224.putA hs t_225 rfl (rgF _) (by decide) (fun h => absurd h (by decide)) (by decide) trivial
              generalize uzI_232 : u2 zI_224 (zR zk 3) zi_189.toNatClampNeg (vp_nar .boolean zi_229) = zI_232 at hP hD h_zI_232
              obtain ⟨zi_233, ezi_233⟩ : ∃ y : Int32, y = zi_189 + 1 := ⟨_, rfl⟩
              have tzi_233 : zi_233.toInt = zi_189.toInt + 1 := by rw [ezi_233]; exact tadd rfl (show (1 : Int32).toInt = 1 by decide) (by omega) (by omega)
              refine lv_iinc (v := zi_233) (lv' := [(5, .int zi_233), (0, .ref zk), (1, .ref zw), (2, .ref zc), (3, .ref zm), (4, .int zis)]) hx hb dX5_ask_144 hl (k := 5) rfl (by rw [ezi_233]; rfl) (by decide) rfl (fun ls hl => ?_)
              refine lv_goto (tgt := 83) hx hb dX5_ask_147 (by decide) ?_
              exact ih_212 (24 - zi_233.toInt).toNat (by omega) zi_233 zI_232 _ _ _ rfl (by omega) h_zI_232 hP hD hS (lv_sub hl [1, 2, 3, 4, 5, 0] rfl)
        exact lp_212 _ (0 : Int32) zI_81 _ _ _ rfl (by decide) h_zI_81 hP hD hS (lv_sub hl [1, 2, 3, 4, 5, 0] rfl)
      · have f_102 : ¬ (zi_80.toInt ≥ zi_100.toInt) := ic_nge (rfl) (rfl) c_101
        refine lv_aload_n hx hb dX5_ask_34 rfl (lv_at hl 0 rfl) ?_
        refine ht_getr (C := RX5) (T := TX5) (N := 9) hx hb hts (by decide +kernel) hown hK hP hs t_zk (by decide) rfl rfl 0 (by decide) (hts (.fieldLink RX5 9 "DripStone$Marks" "places0" "[Z") (by decide +kernel)) (fun _ h9 => h9) rfl dX5_ask_35 ?_
        have t_234 : zT (zR zk 0) = 45 := sk_f hs t_zk (by decide) rfl (by decide)
        refine lv_iload hx hb dX5_ask_38 (lv_at hl 5 rfl) ?_
        refine lv_aload_n hx hb dX5_ask_40 rfl (lv_at hl 3 rfl) ?_
        refine lv_iconst (v := 0) hx hb dX5_ask_41 (by decide) ?_
        refine lv_aload_n hx hb dX5_ask_42 rfl (lv_at hl 2 rfl) ?_
        refine lv_aload_n hx hb dX5_ask_43 rfl (lv_at hl 1 rfl) ?_
        refine ht_getr (C := RX9) (T := TX9) (N := 16) hx hb hts (by decide +kernel) hown hK hP hs t_zw (by decide) rfl rfl 0 (by decide) (hts (.fieldLink RX5 77 "DripStone$Ways" "things" "[I") (by decide +kernel)) (fun _ h9 => h9) rfl dX5_ask_44 ?_
        have t_235 : zT (zR zw 0) = 37 := sk_f hs t_zw (by decide) rfl (by decide)
        refine lv_iload hx hb dX5_ask_47 (lv_at hl 5 rfl) ?_
        refine ht_iald (n := 12) (q := 0) hx hb hK hP hs t_235 (by decide) rfl rfl ⟨by omega, by omega⟩ dX5_ask_49 ?_
        refine lv_topi (fun zi_236 ezi_236 => ?_)
        have tzi_236 : 0 ≤ zi_236.toInt ∧ zi_236.toInt ≤ 11 := by rw [ezi_236]; exact h_zI_81.at t_235 _ rfl
        refine hj_i (ws := (WL cy zL zT zR zI_81 zJ)) (w1 := fun (u : Unit) => (WL cy zL zT zR zI_81 zJ)) (va_runV (As := [.int 0, .ref zc, .int zi_236]) (rest := [.int zi_80, .ref (zR zk 0)]) ⟨hx, hb, hml, hown, hts⟩ (t_X1_counts l dC dI cy H.size zL zT zR zI_81 zJ zm (0 : Int32) zc zi_236 hs h_zI_81.1 t_zm t_zc (by decide) (by omega)) (cwV 3 hts gX5_ask_X1_counts rfl rfl rfl (by decide +kernel) ⟨(Nat.le_of_ble_eq_true rfl), (Nat.le_of_ble_eq_true rfl)⟩) (PRE.v hP hK hD hN (ht_recv hK hP hs t_zm (by decide) rfl rfl)) rfl rfl hl.1 rfl (lv_room (Nat.le_of_ble_eq_true rfl)) dX5_ask_50 ⟨(Nat.le_of_ble_eq_true rfl), (Nat.le_of_ble_eq_true rfl)⟩) hP hD hS hA (fun zi_237 u_239 H locs hw_238 hP hD hS => ?_)
        have b_zi_237 : 0 ≤ zi_237.toInt ∧ zi_237.toInt ≤ 1 := hw_238
        refine ht_zast (v := zi_237) (n := 12) (q := 2) hx hb hK hP hD hS hs t_234 (by decide) rfl rfl ⟨by omega, by omega⟩ dX5_ask_53 (fun H locs hP hD hS => ?_)
        have h_zI_240 : WM [607, 608, 4500, 4600] AL zT zR zI (u2 zI_81 (zR zk 0) zi_80.toNatClampNeg (vp_nar .boolean zi_237)) := h_zI_81.putA hs t_234 rfl (rgF _) (by decide) (fun h => absurd h (by decide)) (by decide) trivial
        generalize uzI_240 : u2 zI_81 (zR zk 0) zi_80.toNatClampNeg (vp_nar .boolean zi_237) = zI_240 at hP hD h_zI_240
        refine lv_aload_n hx hb dX5_ask_54 rfl (lv_at hl 0 rfl) ?_
        refine ht_getr (C := RX5) (T := TX5) (N := 9) hx hb hts (by decide +kernel) hown hK hP hs t_zk (by decide) rfl rfl 1 (by decide) (hts (.fieldLink RX5 15 "DripStone$Marks" "places1" "[Z") (by decide +kernel)) (fun _ h9 => h9) rfl dX5_ask_55 ?_
        have t_241 : zT (zR zk 1) = 45 := sk_f hs t_zk (by decide) rfl (by decide)
        refine lv_iload hx hb dX5_ask_58 (lv_at hl 5 rfl) ?_
        refine lv_aload_n hx hb dX5_ask_60 rfl (lv_at hl 3 rfl) ?_
        refine lv_iconst (v := 1) hx hb dX5_ask_61 (by decide) ?_
        refine lv_aload_n hx hb dX5_ask_62 rfl (lv_at hl 2 rfl) ?_
        refine lv_aload_n hx hb dX5_ask_63 rfl (lv_at hl 1 rfl) ?_
        refine ht_getr (C := RX9) (T := TX9) (N := 16) hx hb hts (by decide +kernel) hown hK hP hs t_zw (by decide) rfl rfl 0 (by decide) (hts (.fieldLink RX5 77 "DripStone$Ways" "things" "[I") (by decide +kernel)) (fun _ h9 => h9) rfl dX5_ask_64 ?_
        refine lv_iload hx hb dX5_ask_67 (lv_at hl 5 rfl) ?_
        refine ht_iald (n := 12) (q := 0) hx hb hK hP hs t_235 (by decide) rfl rfl ⟨by omega, by omega⟩ dX5_ask_69 ?_
        refine lv_topi (fun zi_242 ezi_242 => ?_)
        obtain rfl : zi_236 = zi_242 := (ezi_242.trans ((show zI_240 (zR zw 0) zi_80.toNatClampNeg = zI_81 (zR zw 0) zi_80.toNatClampNeg from by rw [← uzI_240]; exact u2_n (tne t_235 t_234 (by decide))).trans ezi_236.symm)).symm
        refine hj_i (ws := (WL cy zL zT zR zI_240 zJ)) (w1 := fun (u : Unit) => (WL cy zL zT zR zI_240 zJ)) (va_runV (As := [.int 1, .ref zc, .int zi_236]) (rest := [.int zi_80, .ref (zR zk 1)]) ⟨hx, hb, hml, hown, hts⟩ (t_X1_counts l dC dI cy H.size zL zT zR zI_240 zJ zm (1 : Int32) zc zi_236 hs h_zI_240.1 t_zm t_zc (by decide) (by omega)) (cwV 3 hts gX5_ask_X1_counts rfl rfl rfl (by decide +kernel) ⟨(Nat.le_of_ble_eq_true rfl), (Nat.le_of_ble_eq_true rfl)⟩) (PRE.v hP hK hD hN (ht_recv hK hP hs t_zm (by decide) rfl rfl)) rfl rfl hl.1 rfl (lv_room (Nat.le_of_ble_eq_true rfl)) dX5_ask_70 ⟨(Nat.le_of_ble_eq_true rfl), (Nat.le_of_ble_eq_true rfl)⟩) hP hD hS hA (fun zi_243 u_245 H locs hw_244 hP hD hS => ?_)
        have b_zi_243 : 0 ≤ zi_243.toInt ∧ zi_243.toInt ≤ 1 := hw_244
        refine ht_zast (v := zi_243) (n := 12) (q := 2) hx hb hK hP hD hS hs t_241 (by decide) rfl rfl ⟨by omega, by omega⟩ dX5_ask_73 (fun H locs hP hD hS => ?_)
        have h_zI_246 : WM [607, 608, 4500, 4600] AL zT zR zI (u2 zI_240 (zR zk 1) zi_80.toNatClampNeg (vp_nar .boolean zi_243)) := h_zI_240.putA hs t_241 rfl (rgF _) (by decide) (fun h => absurd h (by decide)) (by decide) trivial
        generalize uzI_246 : u2 zI_240 (zR zk 1) zi_80.toNatClampNeg (vp_nar .boolean zi_243) = zI_246 at hP hD h_zI_246
        obtain ⟨zi_247, ezi_247⟩ : ∃ y : Int32, y = zi_80 + 1 := ⟨_, rfl⟩
        have tzi_247 : zi_247.toInt = zi_80.toInt + 1 := by rw [ezi_247]; exact tadd rfl (show (1 : Int32).toInt = 1 by decide) (by omega) (by omega)
        refine lv_iinc (v := zi_247) (lv' := [(5, .int zi_247), (0, .ref zk), (1, .ref zw), (2, .ref zc), (3, .ref zm), (4, .int zis)]) hx hb dX5_ask_74 hl (k := 5) rfl (by rw [ezi_247]; rfl) (by decide) rfl (fun ls hl => ?_)
        refine lv_goto (tgt := 25) hx hb dX5_ask_77 (by decide) ?_
        exact ih_99 (12 - zi_247.toInt).toNat (by omega) zi_247 zI_246 _ _ _ rfl (by omega) h_zI_246 hP hD hS (lv_sub hl [1, 2, 3, 4, 5, 0] rfl)
  exact lp_99 _ (0 : Int32) zI_8 _ _ _ rfl (by decide) h_zI_8 hP hD hS (lv_sub hl [1, 2, 3, 4, 5, 0] rfl)
set_option maxHeartbeats 8000000 in
set_option maxRecDepth 100000 in
theorem t_X5_tellMarks (l : Launch) (dC : Nat → ClassId) (dI : Nat → Nat → Nat) (cy : Nat → ClassId) (sz : Nat) (zL : List Nat) (zT : Nat → Nat) (zR : Nat → Nat → Nat) (zI : Nat → Nat → Int32) (zJ : Nat → Nat → Int64) (zk : Nat) (zia : Int32) (zib : Int32) (zip : Int32) (hs : SKP zL zT zR) (hw : WT zT zR zI) (t_zk : zT zk = 6) (b_zia : 0 ≤ zia.toInt ∧ zia.toInt ≤ 12) (b_zib : 0 ≤ zib.toInt ∧ zib.toInt ≤ 12) (b_zip : 0 ≤ zip.toInt ∧ zip.toInt ≤ 11) : Met l yX5_tellMarks wsX5_tellMarks ({ frames := 1, cells := 0, slots := 0, locals := 22 } : Room) (va_Pc [.ref zk, .int zia, .int zib, .int zip] (PRE dC dI cy (WL cy zL zT zR zI zJ) sz)) (va_Qv (fun (u : (Nat → Nat → Int32)) => (WM [4400] AL zT zR zI u)) (fun u t => POST dC dI cy (va_A (WL cy zL zT zR zI zJ) sz) (WL cy zL zT zR u zJ) t) (va_A (WL cy zL zT zR zI zJ) sz)) 0 0 (va_A (WL cy zL zT zR zI zJ) sz) := by
  refine Met.ofW (cc := cX5_tellMarks) (maxL := 9) (ret := none) (by decide) rfl ?_
  intro p e s m args below meth c s₁ B hml hv
  obtain ⟨rfl, hsz, hP, hK, hD0, hN⟩ := hv
  have hx := B.exec
  have hb := B.bytes
  have hr := B.returns
  have hts := atoms_spec (ws := wsX5_tellMarks) B.pre
  have hown : s.vm.findClass RX5 = some m.cls := findClass_of_methodNamed B.named
  have hlocks := B.notSynchronized
  subst hsz
  have hD := hD0.self (sz := s.heap.size)
  generalize hAe : va_A (WL cy zL zT zR zI zJ) s.heap.size = A at hD ⊢
  have hA : ∀ q : Nat, s.heap.size ≤ q → A q := fun q h => by rw [← hAe]; exact Or.inr h
  have hS : va_S A s.heap s.heap [] := va_S.rf
  have hP : va_P (dC, dI) vwCl (WL cy zL zT zR zI zJ) s.heap := hP
  have hl := lv_entry ([.ref zk, .int zia, .int zib, .int zip] : List Value) (n := 9) (Nat.le_of_ble_eq_true rfl)
  rw [lg_entry_eq]
  generalize (lg_sl ([.ref zk, .int zia, .int zib, .int zip] : List Value) ++ List.replicate (9 - (lg_sl ([.ref zk, .int zia, .int zib, .int zip] : List Value)).length) Slot.unset).toArray = ls at hl ⊢
  have hl : lv_has ls 9 [(0, .ref zk), (1, .int zia), (2, .int zib), (3, .int zip)] := hl
  refine w_q (fun Q hQ => ?_)
  have h_zI : WM [4400] AL zT zR zI zI := WM.rf hw
  refine lv_iload_n hx hb dX5_tellMarks_0 rfl (lv_at hl 1 rfl) ?_
  refine lv_aload_n hx hb dX5_tellMarks_1 rfl (lv_at hl 0 rfl) ?_
  refine ht_geti (C := RX5) (T := TX5) (N := 9) hx hb hts (by decide +kernel) hown hK hP hs t_zk (by decide) rfl rfl 7 (by decide) (hts (.fieldLink RX5 45 "DripStone$Marks" "goal0" "I") (by decide +kernel)) (fun _ h9 => h9) rfl dX5_tellMarks_2 ?_
  refine lv_topi (fun zi_1 ezi_1 => ?_)
  have tzi_1 : (-1) ≤ zi_1.toInt ∧ zi_1.toInt ≤ 12 := by rw [ezi_1]; exact h_zI.at t_zk _ rfl
  have jn_281 : ∀  (H : Heap) (locs : List Loc) (ls : Array Slot), va_P (dC, dI) vwCl (WL cy zL zT zR zI zJ) H → va_D A (WL cy zL zT zR zI zJ) → va_S A s.heap H locs → lv_has ls 9 [(0, .ref zk), (1, .int zia), (2, .int zib), (3, .int zip)] → W p l e ({ frames := 1, cells := 0, slots := 0, locals := 22 } : Room) s m ([.ref zk, .int zia, .int zib, .int zip] : List Value).toArray below meth c H locs 0 0 Q (F0 m 21 ls []) := by
    intro  H locs ls  hP hD hS hl
    refine lv_iconst (v := 0) hx hb dX5_tellMarks_21 (by decide) ?_
    refine lv_istore (lv' := [(4, .int 0), (0, .ref zk), (1, .int zia), (2, .int zib), (3, .int zip)]) hx hb dX5_tellMarks_22 hl (by decide) rfl (fun ls hl => ?_)
    refine lv_iload_n hx hb dX5_tellMarks_24 rfl (lv_at hl 3 rfl) ?_
    refine lv_aload_n hx hb dX5_tellMarks_25 rfl (lv_at hl 1 rfl) ?_
    refine ht_geti (C := RX5) (T := TX5) (N := 9) hx hb hts (by decide +kernel) hown hK hP hs t_zk (by decide) rfl rfl 8 (by decide) (hts (.fieldLink RX5 48 "DripStone$Marks" "goal1" "I") (by decide +kernel)) (fun _ h9 => h9) rfl dX5_tellMarks_26 ?_
    refine lv_topi (fun zi_282 ezi_282 => ?_)
    have tzi_282 : (-1) ≤ zi_282.toInt ∧ zi_282.toInt ≤ 12 := by rw [ezi_282]; exact h_zI.at t_zk _ rfl
    have jn_331 : ∀  (H : Heap) (locs : List Loc) (ls : Array Slot), va_P (dC, dI) vwCl (WL cy zL zT zR zI zJ) H → va_D A (WL cy zL zT zR zI zJ) → va_S A s.heap H locs → lv_has ls 9 [(0, .ref zk), (1, .int zia), (2, .int zib), (3, .int zip), (4, .int 0)] → W p l e ({ frames := 1, cells := 0, slots := 0, locals := 22 } : Room) s m ([.ref zk, .int zia, .int zib, .int zip] : List Value).toArray below meth c H locs 0 0 Q (F0 m 45 ls []) := by
      intro  H locs ls  hP hD hS hl
      refine lv_iconst (v := 0) hx hb dX5_tellMarks_45 (by decide) ?_
      refine lv_istore (lv' := [(5, .int 0), (0, .ref zk), (1, .int zia), (2, .int zib), (3, .int zip), (4, .int 0)]) hx hb dX5_tellMarks_46 hl (by decide) rfl (fun ls hl => ?_)
      refine lv_iconst (v := 0) hx hb dX5_tellMarks_48 (by decide) ?_
      refine lv_istore (lv' := [(6, .int 0), (5, .int 0), (0, .ref zk), (1, .int zia), (2, .int zib), (3, .int zip), (4, .int 0)]) hx hb dX5_tellMarks_49 hl (by decide) rfl (fun ls hl => ?_)
      have lp_346 : ∀ (n : Nat) (zi_332 : Int32) (zI_333 : Nat → Nat → Int32) (H : Heap) (locs : List Loc) (ls : Array Slot), (24 - zi_332.toInt).toNat = n → (0 ≤ zi_332.toInt ∧ zi_332.toInt ≤ 24) → (WM [4400] AL zT zR zI zI_333) → va_P (dC, dI) vwCl (WL cy zL zT zR zI_333 zJ) H → va_D A (WL cy zL zT zR zI_333 zJ) → va_S A s.heap H locs → lv_has ls 9 [(0, .ref zk), (1, .int zia), (2, .int zib), (3, .int zip), (4, .int 0), (5, .int 0), (6, .int zi_332)] → W p l e ({ frames := 1, cells := 0, slots := 0, locals := 22 } : Room) s m ([.ref zk, .int zia, .int zib, .int zip] : List Value).toArray below meth c H locs 0 0 Q (F0 m 51 ls []) := by
        intro n
        induction n using Nat.strongRecOn with
        | _ n ih_346 =>
          intro zi_332 zI_333 H locs ls hn b_zi_332 h_zI_333 hP hD hS hl
          refine lv_iload hx hb dX5_tellMarks_51 (lv_at hl 6 rfl) ?_
          refine lv_bipush (v := 24) hx hb dX5_tellMarks_53 (by decide) ?_
          refine lv_icmp_ge (tgt := 127) hx hb dX5_tellMarks_55 (by decide) (fun c_347 => ?_) (fun c_347 => ?_)
          · have f_348 : zi_332.toInt ≥ (24 : Int) := ic_ge (rfl) (show (24 : Int32).toInt = 24 by decide) c_347
            subst hQ
            exact W.vret hx hb hr (fun t ht hW => ⟨⟨zI_333, rfl, h_zI_333, ⟨by rw [ht]; exact hP, va_K.moved hW.alike hK, hD⟩⟩, hS.F ht⟩) hS.2.2 dX5_tellMarks_127
          · have f_348 : ¬ (zi_332.toInt ≥ (24 : Int)) := ic_nge (rfl) (show (24 : Int32).toInt = 24 by decide) c_347
            refine lv_iload hx hb dX5_tellMarks_58 (lv_at hl 4 rfl) ?_
            refine lv_if_eq (tgt := 77) hx hb dX5_tellMarks_60 (by decide) (fun c_349 => ?_) (fun c_349 => absurd (by decide) c_349)
            refine lv_iconst (v := 0) hx hb dX5_tellMarks_77 (by decide) ?_
            refine lv_istore (lv' := [(7, .int 0), (0, .ref zk), (1, .int zia), (2, .int zib), (3, .int zip), (4, .int 0), (5, .int 0), (6, .int zi_332)]) hx hb dX5_tellMarks_78 hl (by decide) rfl (fun ls hl => ?_)
            refine lv_iload hx hb dX5_tellMarks_80 (lv_at hl 6 rfl) ?_
            refine lv_if_eq (tgt := 99) hx hb dX5_tellMarks_82 (by decide) (fun c_350 => ?_) (fun c_350 => absurd (by decide) c_350)
            refine lv_iconst (v := 0) hx hb dX5_tellMarks_99 (by decide) ?_
            refine lv_istore (lv' := [(8, .int 0), (7, .int 0), (0, .ref zk), (1, .int zia), (2, .int zib), (3, .int zip), (4, .int 0), (5, .int 0), (6, .int zi_332)]) hx hb dX5_tellMarks_100 hl (by decide) rfl (fun ls hl => ?_)
            refine lv_aload_n hx hb dX5_tellMarks_102 rfl (lv_at hl 2 rfl) ?_
            refine ht_getr (C := RX5) (T := TX5) (N := 9) hx hb hts (by decide +kernel) hown hK hP hs t_zk (by decide) rfl rfl 4 (by decide) (hts (.fieldLink RX5 24 "DripStone$Marks" "into" "[I") (by decide +kernel)) (fun _ h9 => h9) rfl dX5_tellMarks_103 ?_
            have t_351 : zT (zR zk 4) = 44 := sk_f hs t_zk (by decide) rfl (by decide)
            refine lv_iload hx hb dX5_tellMarks_106 (lv_at hl 8 rfl) ?_
            refine lv_aload_n hx hb dX5_tellMarks_108 rfl (lv_at hl 2 rfl) ?_
            refine lv_iload_n hx hb dX5_tellMarks_109 rfl (lv_at hl 3 rfl) ?_
            refine lv_iload hx hb dX5_tellMarks_110 (lv_at hl 1 rfl) ?_
            refine lv_iadd hx hb dX5_tellMarks_112 ?_
            refine lv_topi (fun zi_352 ezi_352 => ?_)
            have tzi_352 : zi_352.toInt = zia.toInt + (0 : Int) := by rw [ezi_352]; exact tiadd (rfl) (show (0 : Int32).toInt = 0 by decide) (by omega) (by omega)
            refine lv_iload_n hx hb dX5_tellMarks_113 rfl (lv_at hl 4 rfl) ?_
            refine lv_iload hx hb dX5_tellMarks_114 (lv_at hl 0 rfl) ?_
            refine lv_iadd hx hb dX5_tellMarks_116 ?_
            refine lv_topi (fun zi_353 ezi_353 => ?_)
            have tzi_353 : zi_353.toInt = zib.toInt + (0 : Int) := by rw [ezi_353]; exact tiadd (rfl) (show (0 : Int32).toInt = 0 by decide) (by omega) (by omega)
            refine hj_i (ws := (WL cy zL zT zR zI_333 zJ)) (w1 := fun (u : Unit) => (WL cy zL zT zR zI_333 zJ)) (va_runV (As := [.int zi_352, .int zi_353]) (rest := [.int zi_332, .ref (zR zk 4)]) ⟨hx, hb, hml, hown, hts⟩ (t_X5_markOf l dC dI cy H.size zL zT zR zI_333 zJ zk zi_352 zi_353 hs h_zI_333.1 t_zk (by omega) (by omega)) (cwV 2 hts gX5_tellMarks_X5_markOf rfl rfl rfl (by decide +kernel) ⟨(Nat.le_of_ble_eq_true rfl), (Nat.le_of_ble_eq_true rfl)⟩) (PRE.v hP hK hD hN (ht_recv hK hP hs t_zk (by decide) rfl rfl)) rfl rfl hl.1 rfl (lv_room (Nat.le_of_ble_eq_true rfl)) dX5_tellMarks_117 ⟨(Nat.le_of_ble_eq_true rfl), (Nat.le_of_ble_eq_true rfl)⟩) hP hD hS hA (fun zi_354 u_356 H locs hw_355 hP hD hS => ?_)
            have b_zi_354 : 0 ≤ zi_354.toInt ∧ zi_354.toInt ≤ 168 := hw_355
            refine ht_iast (v := zi_354) (n := 24) (q := 0) hx hb hK hP hD hS hs t_351 (by decide) rfl rfl ⟨by omega, by omega⟩ dX5_tellMarks_120 (fun H locs hP hD hS => ?_)
            have h_zI_357 : WM [4400] AL zT zR zI (u2 zI_333 (zR zk 4) zi_332.toNatClampNeg zi_354) := h_zI_333.putA hs t_351 rfl (by omega) (by decide) (fun h => absurd h (by decide)) (by decide) trivial
            generalize uzI_357 : u2 zI_333 (zR zk 4) zi_332.toNatClampNeg zi_354 = zI_357 at hP hD h_zI_357
            obtain ⟨zi_358, ezi_358⟩ : ∃ y : Int32, y = zi_332 + 1 := ⟨_, rfl⟩
            have tzi_358 : zi_358.toInt = zi_332.toInt + 1 := by rw [ezi_358]; exact tadd rfl (show (1 : Int32).toInt = 1 by decide) (by omega) (by omega)
            refine lv_iinc (v := zi_358) (lv' := [(6, .int zi_358), (8, .int 0), (7, .int 0), (0, .ref zk), (1, .int zia), (2, .int zib), (3, .int zip), (4, .int 0), (5, .int 0)]) hx hb dX5_tellMarks_121 hl (k := 8) rfl (by rw [ezi_358]; rfl) (by decide) rfl (fun ls hl => ?_)
            refine lv_goto (tgt := 51) hx hb dX5_tellMarks_124 (by decide) ?_
            exact ih_346 (24 - zi_358.toInt).toNat (by omega) zi_358 zI_357 _ _ _ rfl (by omega) h_zI_357 hP hD hS (lv_sub hl [3, 4, 5, 6, 7, 8, 0] rfl)
      exact lp_346 _ (0 : Int32) zI _ _ _ rfl (by decide) h_zI hP hD hS (lv_sub hl [2, 3, 4, 5, 6, 1, 0] rfl)
    refine lv_icmp_ge (tgt := 45) hx hb dX5_tellMarks_29 (by decide) (fun c_359 => ?_) (fun c_359 => ?_)
    · have f_360 : zib.toInt ≥ zi_282.toInt := ic_ge (rfl) (rfl) c_359
      exact jn_331  _ _ _  hP hD hS (lv_sub hl [1, 2, 3, 4, 0] rfl)
    · have f_360 : ¬ (zib.toInt ≥ zi_282.toInt) := ic_nge (rfl) (rfl) c_359
      refine lv_aload_n hx hb dX5_tellMarks_32 rfl (lv_at hl 1 rfl) ?_
      refine ht_getr (C := RX5) (T := TX5) (N := 9) hx hb hts (by decide +kernel) hown hK hP hs t_zk (by decide) rfl rfl 1 (by decide) (hts (.fieldLink RX5 15 "DripStone$Marks" "places1" "[Z") (by decide +kernel)) (fun _ h9 => h9) rfl dX5_tellMarks_33 ?_
      have t_361 : zT (zR zk 1) = 45 := sk_f hs t_zk (by decide) rfl (by decide)
      refine lv_iload_n hx hb dX5_tellMarks_36 rfl (lv_at hl 4 rfl) ?_
      refine ht_zald (n := 12) (q := 2) hx hb hK hP hs t_361 (by decide) rfl rfl ⟨by omega, by omega⟩ dX5_tellMarks_37 ?_
      refine lv_topi (fun zi_362 ezi_362 => ?_)
      refine lv_if_eq (tgt := 45) hx hb dX5_tellMarks_38 (by decide) (fun c_365 => ?_) (fun c_365 => ?_)
      · have f_366 : zi_362.toInt = 0 := ic_eq (rfl) (by decide) c_365
        exact jn_331  _ _ _  hP hD hS (lv_sub hl [1, 2, 3, 4, 0] rfl)
      · have f_366 : ¬ (zi_362.toInt = 0) := ic_neq (rfl) (by decide) c_365
        refine lv_iconst (v := 1) hx hb dX5_tellMarks_41 (by decide) ?_
        refine lv_goto (tgt := 46) hx hb dX5_tellMarks_42 (by decide) ?_
        refine lv_istore (lv' := [(5, .int 1), (4, .int 0), (0, .ref zk), (1, .int zia), (2, .int zib), (3, .int zip)]) hx hb dX5_tellMarks_46 hl (by decide) rfl (fun ls hl => ?_)
        refine lv_iconst (v := 0) hx hb dX5_tellMarks_48 (by decide) ?_
        refine lv_istore (lv' := [(6, .int 0), (5, .int 1), (4, .int 0), (0, .ref zk), (1, .int zia), (2, .int zib), (3, .int zip)]) hx hb dX5_tellMarks_49 hl (by decide) rfl (fun ls hl => ?_)
        have lp_388 : ∀ (n : Nat) (zi_367 : Int32) (zI_368 : Nat → Nat → Int32) (H : Heap) (locs : List Loc) (ls : Array Slot), (24 - zi_367.toInt).toNat = n → (0 ≤ zi_367.toInt ∧ zi_367.toInt ≤ 24) → (WM [4400] AL zT zR zI zI_368) → va_P (dC, dI) vwCl (WL cy zL zT zR zI_368 zJ) H → va_D A (WL cy zL zT zR zI_368 zJ) → va_S A s.heap H locs → lv_has ls 9 [(0, .ref zk), (1, .int zia), (2, .int zib), (3, .int zip), (4, .int 0), (5, .int 1), (6, .int zi_367)] → W p l e ({ frames := 1, cells := 0, slots := 0, locals := 22 } : Room) s m ([.ref zk, .int zia, .int zib, .int zip] : List Value).toArray below meth c H locs 0 0 Q (F0 m 51 ls []) := by
          intro n
          induction n using Nat.strongRecOn with
          | _ n ih_388 =>
            intro zi_367 zI_368 H locs ls hn b_zi_367 h_zI_368 hP hD hS hl
            refine lv_iload hx hb dX5_tellMarks_51 (lv_at hl 6 rfl) ?_
            refine lv_bipush (v := 24) hx hb dX5_tellMarks_53 (by decide) ?_
            refine lv_icmp_ge (tgt := 127) hx hb dX5_tellMarks_55 (by decide) (fun c_389 => ?_) (fun c_389 => ?_)
            · have f_390 : zi_367.toInt ≥ (24 : Int) := ic_ge (rfl) (show (24 : Int32).toInt = 24 by decide) c_389
              subst hQ
              exact W.vret hx hb hr (fun t ht hW => ⟨⟨zI_368, rfl, h_zI_368, ⟨by rw [ht]; exact hP, va_K.moved hW.alike hK, hD⟩⟩, hS.F ht⟩) hS.2.2 dX5_tellMarks_127
            · have f_390 : ¬ (zi_367.toInt ≥ (24 : Int)) := ic_nge (rfl) (show (24 : Int32).toInt = 24 by decide) c_389
              refine lv_iload hx hb dX5_tellMarks_58 (lv_at hl 4 rfl) ?_
              refine lv_if_eq (tgt := 77) hx hb dX5_tellMarks_60 (by decide) (fun c_391 => ?_) (fun c_391 => absurd (by decide) c_391)
              refine lv_iconst (v := 0) hx hb dX5_tellMarks_77 (by decide) ?_
              refine lv_istore (lv' := [(7, .int 0), (0, .ref zk), (1, .int zia), (2, .int zib), (3, .int zip), (4, .int 0), (5, .int 1), (6, .int zi_367)]) hx hb dX5_tellMarks_78 hl (by decide) rfl (fun ls hl => ?_)
              refine lv_iload hx hb dX5_tellMarks_80 (lv_at hl 6 rfl) ?_
              refine lv_if_eq (tgt := 99) hx hb dX5_tellMarks_82 (by decide) (fun c_392 => absurd c_392 (by decide)) (fun c_392 => ?_)
              refine lv_aload_n hx hb dX5_tellMarks_85 rfl (lv_at hl 1 rfl) ?_
              refine ht_getr (C := RX5) (T := TX5) (N := 9) hx hb hts (by decide +kernel) hown hK hP hs t_zk (by decide) rfl rfl 3 (by decide) (hts (.fieldLink RX5 21 "DripStone$Marks" "years1" "[Z") (by decide +kernel)) (fun _ h9 => h9) rfl dX5_tellMarks_86 ?_
              have t_393 : zT (zR zk 3) = 46 := sk_f hs t_zk (by decide) rfl (by decide)
              refine lv_iload hx hb dX5_tellMarks_89 (lv_at hl 7 rfl) ?_
              refine ht_zald (n := 24) (q := 2) hx hb hK hP hs t_393 (by decide) rfl rfl ⟨by omega, by omega⟩ dX5_tellMarks_91 ?_
              refine lv_topi (fun zi_394 ezi_394 => ?_)
              have jn_398 : ∀ (zi_397 : Int32) (H : Heap) (locs : List Loc) (ls : Array Slot), (0 ≤ zi_397.toInt ∧ zi_397.toInt ≤ 1) → (zi_397.toInt = 0 ∨ zib.toInt ≤ 11) → va_P (dC, dI) vwCl (WL cy zL zT zR zI_368 zJ) H → va_D A (WL cy zL zT zR zI_368 zJ) → va_S A s.heap H locs → lv_has ls 9 [(0, .ref zk), (1, .int zia), (2, .int zib), (3, .int zip), (4, .int 0), (5, .int 1), (6, .int zi_367), (7, .int 0), (8, .int zi_397)] → W p l e ({ frames := 1, cells := 0, slots := 0, locals := 22 } : Room) s m ([.ref zk, .int zia, .int zib, .int zip] : List Value).toArray below meth c H locs 0 0 Q (F0 m 102 ls []) := by
                intro zi_397 H locs ls b_zi_397 e_jn_398_0 hP hD hS hl
                refine lv_aload_n hx hb dX5_tellMarks_102 rfl (lv_at hl 0 rfl) ?_
                refine ht_getr (C := RX5) (T := TX5) (N := 9) hx hb hts (by decide +kernel) hown hK hP hs t_zk (by decide) rfl rfl 4 (by decide) (hts (.fieldLink RX5 24 "DripStone$Marks" "into" "[I") (by decide +kernel)) (fun _ h9 => h9) rfl dX5_tellMarks_103 ?_
                have t_399 : zT (zR zk 4) = 44 := sk_f hs t_zk (by decide) rfl (by decide)
                refine lv_iload hx hb dX5_tellMarks_106 (lv_at hl 6 rfl) ?_
                refine lv_aload_n hx hb dX5_tellMarks_108 rfl (lv_at hl 0 rfl) ?_
                refine lv_iload_n hx hb dX5_tellMarks_109 rfl (lv_at hl 1 rfl) ?_
                refine lv_iload hx hb dX5_tellMarks_110 (lv_at hl 7 rfl) ?_
                refine lv_iadd hx hb dX5_tellMarks_112 ?_
                refine lv_topi (fun zi_400 ezi_400 => ?_)
                have tzi_400 : zi_400.toInt = zia.toInt + (0 : Int) := by rw [ezi_400]; exact tiadd (rfl) (show (0 : Int32).toInt = 0 by decide) (by omega) (by omega)
                refine lv_iload_n hx hb dX5_tellMarks_113 rfl (lv_at hl 2 rfl) ?_
                refine lv_iload hx hb dX5_tellMarks_114 (lv_at hl 8 rfl) ?_
                refine lv_iadd hx hb dX5_tellMarks_116 ?_
                refine lv_topi (fun zi_401 ezi_401 => ?_)
                have tzi_401 : zi_401.toInt = zib.toInt + zi_397.toInt := by rw [ezi_401]; exact tiadd (rfl) (rfl) (by omega) (by omega)
                refine hj_i (ws := (WL cy zL zT zR zI_368 zJ)) (w1 := fun (u : Unit) => (WL cy zL zT zR zI_368 zJ)) (va_runV (As := [.int zi_400, .int zi_401]) (rest := [.int zi_367, .ref (zR zk 4)]) ⟨hx, hb, hml, hown, hts⟩ (t_X5_markOf l dC dI cy H.size zL zT zR zI_368 zJ zk zi_400 zi_401 hs h_zI_368.1 t_zk (by omega) (by omega)) (cwV 2 hts gX5_tellMarks_X5_markOf rfl rfl rfl (by decide +kernel) ⟨(Nat.le_of_ble_eq_true rfl), (Nat.le_of_ble_eq_true rfl)⟩) (PRE.v hP hK hD hN (ht_recv hK hP hs t_zk (by decide) rfl rfl)) rfl rfl hl.1 rfl (lv_room (Nat.le_of_ble_eq_true rfl)) dX5_tellMarks_117 ⟨(Nat.le_of_ble_eq_true rfl), (Nat.le_of_ble_eq_true rfl)⟩) hP hD hS hA (fun zi_402 u_404 H locs hw_403 hP hD hS => ?_)
                have b_zi_402 : 0 ≤ zi_402.toInt ∧ zi_402.toInt ≤ 168 := hw_403
                refine ht_iast (v := zi_402) (n := 24) (q := 0) hx hb hK hP hD hS hs t_399 (by decide) rfl rfl ⟨by omega, by omega⟩ dX5_tellMarks_120 (fun H locs hP hD hS => ?_)
                have h_zI_405 : WM [4400] AL zT zR zI (u2 zI_368 (zR zk 4) zi_367.toNatClampNeg zi_402) := h_zI_368.putA hs t_399 rfl (by omega) (by decide) (fun h => absurd h (by decide)) (by decide) trivial
                generalize uzI_405 : u2 zI_368 (zR zk 4) zi_367.toNatClampNeg zi_402 = zI_405 at hP hD h_zI_405
                obtain ⟨zi_406, ezi_406⟩ : ∃ y : Int32, y = zi_367 + 1 := ⟨_, rfl⟩
                have tzi_406 : zi_406.toInt = zi_367.toInt + 1 := by rw [ezi_406]; exact tadd rfl (show (1 : Int32).toInt = 1 by decide) (by omega) (by omega)
                refine lv_iinc (v := zi_406) (lv' := [(6, .int zi_406), (0, .ref zk), (1, .int zia), (2, .int zib), (3, .int zip), (4, .int 0), (5, .int 1), (7, .int 0), (8, .int zi_397)]) hx hb dX5_tellMarks_121 hl (k := 6) rfl (by rw [ezi_406]; rfl) (by decide) rfl (fun ls hl => ?_)
                refine lv_goto (tgt := 51) hx hb dX5_tellMarks_124 (by decide) ?_
                exact ih_388 (24 - zi_406.toInt).toNat (by omega) zi_406 zI_405 _ _ _ rfl (by omega) h_zI_405 hP hD hS (lv_sub hl [1, 2, 3, 4, 5, 6, 0] rfl)
              refine lv_if_eq (tgt := 99) hx hb dX5_tellMarks_92 (by decide) (fun c_407 => ?_) (fun c_407 => ?_)
              · have f_408 : zi_394.toInt = 0 := ic_eq (rfl) (by decide) c_407
                refine lv_iconst (v := 0) hx hb dX5_tellMarks_99 (by decide) ?_
                refine lv_istore (lv' := [(8, .int 0), (7, .int 0), (0, .ref zk), (1, .int zia), (2, .int zib), (3, .int zip), (4, .int 0), (5, .int 1), (6, .int zi_367)]) hx hb dX5_tellMarks_100 hl (by decide) rfl (fun ls hl => ?_)
                exact jn_398 (0 : Int32) _ _ _ (by decide) (by omega) hP hD hS (lv_sub hl [2, 3, 4, 5, 6, 7, 8, 1, 0] rfl)
              · have f_408 : ¬ (zi_394.toInt = 0) := ic_neq (rfl) (by decide) c_407
                refine lv_iconst (v := 1) hx hb dX5_tellMarks_95 (by decide) ?_
                refine lv_goto (tgt := 100) hx hb dX5_tellMarks_96 (by decide) ?_
                refine lv_istore (lv' := [(8, .int 1), (7, .int 0), (0, .ref zk), (1, .int zia), (2, .int zib), (3, .int zip), (4, .int 0), (5, .int 1), (6, .int zi_367)]) hx hb dX5_tellMarks_100 hl (by decide) rfl (fun ls hl => ?_)
                exact jn_398 (1 : Int32) _ _ _ (by decide) (by omega) hP hD hS (lv_sub hl [2, 3, 4, 5, 6, 7, 8, 1, 0] rfl)
        exact lp_388 _ (0 : Int32) zI _ _ _ rfl (by decide) h_zI hP hD hS (lv_sub hl [3, 4, 5, 6, 2, 1, 0] rfl)
  refine lv_icmp_ge (tgt := 21) hx hb dX5_tellMarks_5 (by decide) (fun c_409 => ?_) (fun c_409 => ?_)
  · have f_410 : zia.toInt ≥ zi_1.toInt := ic_ge (rfl) (rfl) c_409
    exact jn_281  _ _ _  hP hD hS (lv_sub hl [0, 1, 2, 3] rfl)
  · have f_410 : ¬ (zia.toInt ≥ zi_1.toInt) := ic_nge (rfl) (rfl) c_409
    refine lv_aload_n hx hb dX5_tellMarks_8 rfl (lv_at hl 0 rfl) ?_
    refine ht_getr (C := RX5) (T := TX5) (N := 9) hx hb hts (by decide +kernel) hown hK hP hs t_zk (by decide) rfl rfl 0 (by decide) (hts (.fieldLink RX5 9 "DripStone$Marks" "places0" "[Z") (by decide +kernel)) (fun _ h9 => h9) rfl dX5_tellMarks_9 ?_
    have t_411 : zT (zR zk 0) = 45 := sk_f hs t_zk (by decide) rfl (by decide)
    refine lv_iload_n hx hb dX5_tellMarks_12 rfl (lv_at hl 3 rfl) ?_
    refine ht_zald (n := 12) (q := 2) hx hb hK hP hs t_411 (by decide) rfl rfl ⟨by omega, by omega⟩ dX5_tellMarks_13 ?_
    refine lv_topi (fun zi_412 ezi_412 => ?_)
    refine lv_if_eq (tgt := 21) hx hb dX5_tellMarks_14 (by decide) (fun c_415 => ?_) (fun c_415 => ?_)
    · have f_416 : zi_412.toInt = 0 := ic_eq (rfl) (by decide) c_415
      exact jn_281  _ _ _  hP hD hS (lv_sub hl [0, 1, 2, 3] rfl)
    · have f_416 : ¬ (zi_412.toInt = 0) := ic_neq (rfl) (by decide) c_415
      refine lv_iconst (v := 1) hx hb dX5_tellMarks_17 (by decide) ?_
      refine lv_goto (tgt := 22) hx hb dX5_tellMarks_18 (by decide) ?_
      refine lv_istore (lv' := [(4, .int 1), (0, .ref zk), (1, .int zia), (2, .int zib), (3, .int zip)]) hx hb dX5_tellMarks_22 hl (by decide) rfl (fun ls hl => ?_)
      refine lv_iload_n hx hb dX5_tellMarks_24 rfl (lv_at hl 3 rfl) ?_
      refine lv_aload_n hx hb dX5_tellMarks_25 rfl (lv_at hl 1 rfl) ?_
      refine ht_geti (C := RX5) (T := TX5) (N := 9) hx hb hts (by decide +kernel) hown hK hP hs t_zk (by decide) rfl rfl 8 (by decide) (hts (.fieldLink RX5 48 "DripStone$Marks" "goal1" "I") (by decide +kernel)) (fun _ h9 => h9) rfl dX5_tellMarks_26 ?_
      refine lv_topi (fun zi_417 ezi_417 => ?_)
      have tzi_417 : (-1) ≤ zi_417.toInt ∧ zi_417.toInt ≤ 12 := by rw [ezi_417]; exact h_zI.at t_zk _ rfl
      have jn_480 : ∀  (H : Heap) (locs : List Loc) (ls : Array Slot), va_P (dC, dI) vwCl (WL cy zL zT zR zI zJ) H → va_D A (WL cy zL zT zR zI zJ) → va_S A s.heap H locs → lv_has ls 9 [(0, .ref zk), (1, .int zia), (2, .int zib), (3, .int zip), (4, .int 1)] → W p l e ({ frames := 1, cells := 0, slots := 0, locals := 22 } : Room) s m ([.ref zk, .int zia, .int zib, .int zip] : List Value).toArray below meth c H locs 0 0 Q (F0 m 45 ls []) := by
        intro  H locs ls  hP hD hS hl
        refine lv_iconst (v := 0) hx hb dX5_tellMarks_45 (by decide) ?_
        refine lv_istore (lv' := [(5, .int 0), (0, .ref zk), (1, .int zia), (2, .int zib), (3, .int zip), (4, .int 1)]) hx hb dX5_tellMarks_46 hl (by decide) rfl (fun ls hl => ?_)
        refine lv_iconst (v := 0) hx hb dX5_tellMarks_48 (by decide) ?_
        refine lv_istore (lv' := [(6, .int 0), (5, .int 0), (0, .ref zk), (1, .int zia), (2, .int zib), (3, .int zip), (4, .int 1)]) hx hb dX5_tellMarks_49 hl (by decide) rfl (fun ls hl => ?_)
        have lp_502 : ∀ (n : Nat) (zi_481 : Int32) (zI_482 : Nat → Nat → Int32) (H : Heap) (locs : List Loc) (ls : Array Slot), (24 - zi_481.toInt).toNat = n → (0 ≤ zi_481.toInt ∧ zi_481.toInt ≤ 24) → (WM [4400] AL zT zR zI zI_482) → va_P (dC, dI) vwCl (WL cy zL zT zR zI_482 zJ) H → va_D A (WL cy zL zT zR zI_482 zJ) → va_S A s.heap H locs → lv_has ls 9 [(0, .ref zk), (1, .int zia), (2, .int zib), (3, .int zip), (4, .int 1), (5, .int 0), (6, .int zi_481)] → W p l e ({ frames := 1, cells := 0, slots := 0, locals := 22 } : Room) s m ([.ref zk, .int zia, .int zib, .int zip] : List Value).toArray below meth c H locs 0 0 Q (F0 m 51 ls []) := by
          intro n
          induction n using Nat.strongRecOn with
          | _ n ih_502 =>
            intro zi_481 zI_482 H locs ls hn b_zi_481 h_zI_482 hP hD hS hl
            refine lv_iload hx hb dX5_tellMarks_51 (lv_at hl 6 rfl) ?_
            refine lv_bipush (v := 24) hx hb dX5_tellMarks_53 (by decide) ?_
            refine lv_icmp_ge (tgt := 127) hx hb dX5_tellMarks_55 (by decide) (fun c_503 => ?_) (fun c_503 => ?_)
            · have f_504 : zi_481.toInt ≥ (24 : Int) := ic_ge (rfl) (show (24 : Int32).toInt = 24 by decide) c_503
              subst hQ
              exact W.vret hx hb hr (fun t ht hW => ⟨⟨zI_482, rfl, h_zI_482, ⟨by rw [ht]; exact hP, va_K.moved hW.alike hK, hD⟩⟩, hS.F ht⟩) hS.2.2 dX5_tellMarks_127
            · have f_504 : ¬ (zi_481.toInt ≥ (24 : Int)) := ic_nge (rfl) (show (24 : Int32).toInt = 24 by decide) c_503
              refine lv_iload hx hb dX5_tellMarks_58 (lv_at hl 4 rfl) ?_
              refine lv_if_eq (tgt := 77) hx hb dX5_tellMarks_60 (by decide) (fun c_505 => absurd c_505 (by decide)) (fun c_505 => ?_)
              refine lv_aload_n hx hb dX5_tellMarks_63 rfl (lv_at hl 0 rfl) ?_
              refine ht_getr (C := RX5) (T := TX5) (N := 9) hx hb hts (by decide +kernel) hown hK hP hs t_zk (by decide) rfl rfl 2 (by decide) (hts (.fieldLink RX5 18 "DripStone$Marks" "years0" "[Z") (by decide +kernel)) (fun _ h9 => h9) rfl dX5_tellMarks_64 ?_
              have t_506 : zT (zR zk 2) = 46 := sk_f hs t_zk (by decide) rfl (by decide)
              refine lv_iload hx hb dX5_tellMarks_67 (lv_at hl 6 rfl) ?_
              refine ht_zald (n := 24) (q := 2) hx hb hK hP hs t_506 (by decide) rfl rfl ⟨by omega, by omega⟩ dX5_tellMarks_69 ?_
              refine lv_topi (fun zi_507 ezi_507 => ?_)
              have jn_511 : ∀ (zi_510 : Int32) (H : Heap) (locs : List Loc) (ls : Array Slot), (0 ≤ zi_510.toInt ∧ zi_510.toInt ≤ 1) → (zi_510.toInt = 0 ∨ zia.toInt ≤ 11) → va_P (dC, dI) vwCl (WL cy zL zT zR zI_482 zJ) H → va_D A (WL cy zL zT zR zI_482 zJ) → va_S A s.heap H locs → lv_has ls 9 [(0, .ref zk), (1, .int zia), (2, .int zib), (3, .int zip), (4, .int 1), (5, .int 0), (6, .int zi_481), (7, .int zi_510)] → W p l e ({ frames := 1, cells := 0, slots := 0, locals := 22 } : Room) s m ([.ref zk, .int zia, .int zib, .int zip] : List Value).toArray below meth c H locs 0 0 Q (F0 m 80 ls []) := by
                intro zi_510 H locs ls b_zi_510 e_jn_511_0 hP hD hS hl
                refine lv_iload hx hb dX5_tellMarks_80 (lv_at hl 5 rfl) ?_
                refine lv_if_eq (tgt := 99) hx hb dX5_tellMarks_82 (by decide) (fun c_512 => ?_) (fun c_512 => absurd (by decide) c_512)
                refine lv_iconst (v := 0) hx hb dX5_tellMarks_99 (by decide) ?_
                refine lv_istore (lv' := [(8, .int 0), (0, .ref zk), (1, .int zia), (2, .int zib), (3, .int zip), (4, .int 1), (5, .int 0), (6, .int zi_481), (7, .int zi_510)]) hx hb dX5_tellMarks_100 hl (by decide) rfl (fun ls hl => ?_)
                refine lv_aload_n hx hb dX5_tellMarks_102 rfl (lv_at hl 1 rfl) ?_
                refine ht_getr (C := RX5) (T := TX5) (N := 9) hx hb hts (by decide +kernel) hown hK hP hs t_zk (by decide) rfl rfl 4 (by decide) (hts (.fieldLink RX5 24 "DripStone$Marks" "into" "[I") (by decide +kernel)) (fun _ h9 => h9) rfl dX5_tellMarks_103 ?_
                have t_513 : zT (zR zk 4) = 44 := sk_f hs t_zk (by decide) rfl (by decide)
                refine lv_iload hx hb dX5_tellMarks_106 (lv_at hl 7 rfl) ?_
                refine lv_aload_n hx hb dX5_tellMarks_108 rfl (lv_at hl 1 rfl) ?_
                refine lv_iload_n hx hb dX5_tellMarks_109 rfl (lv_at hl 2 rfl) ?_
                refine lv_iload hx hb dX5_tellMarks_110 (lv_at hl 8 rfl) ?_
                refine lv_iadd hx hb dX5_tellMarks_112 ?_
                refine lv_topi (fun zi_514 ezi_514 => ?_)
                have tzi_514 : zi_514.toInt = zia.toInt + zi_510.toInt := by rw [ezi_514]; exact tiadd (rfl) (rfl) (by omega) (by omega)
                refine lv_iload_n hx hb dX5_tellMarks_113 rfl (lv_at hl 3 rfl) ?_
                refine lv_iload hx hb dX5_tellMarks_114 (lv_at hl 0 rfl) ?_
                refine lv_iadd hx hb dX5_tellMarks_116 ?_
                refine lv_topi (fun zi_515 ezi_515 => ?_)
                have tzi_515 : zi_515.toInt = zib.toInt + (0 : Int) := by rw [ezi_515]; exact tiadd (rfl) (show (0 : Int32).toInt = 0 by decide) (by omega) (by omega)
                refine hj_i (ws := (WL cy zL zT zR zI_482 zJ)) (w1 := fun (u : Unit) => (WL cy zL zT zR zI_482 zJ)) (va_runV (As := [.int zi_514, .int zi_515]) (rest := [.int zi_481, .ref (zR zk 4)]) ⟨hx, hb, hml, hown, hts⟩ (t_X5_markOf l dC dI cy H.size zL zT zR zI_482 zJ zk zi_514 zi_515 hs h_zI_482.1 t_zk (by omega) (by omega)) (cwV 2 hts gX5_tellMarks_X5_markOf rfl rfl rfl (by decide +kernel) ⟨(Nat.le_of_ble_eq_true rfl), (Nat.le_of_ble_eq_true rfl)⟩) (PRE.v hP hK hD hN (ht_recv hK hP hs t_zk (by decide) rfl rfl)) rfl rfl hl.1 rfl (lv_room (Nat.le_of_ble_eq_true rfl)) dX5_tellMarks_117 ⟨(Nat.le_of_ble_eq_true rfl), (Nat.le_of_ble_eq_true rfl)⟩) hP hD hS hA (fun zi_516 u_518 H locs hw_517 hP hD hS => ?_)
                have b_zi_516 : 0 ≤ zi_516.toInt ∧ zi_516.toInt ≤ 168 := hw_517
                refine ht_iast (v := zi_516) (n := 24) (q := 0) hx hb hK hP hD hS hs t_513 (by decide) rfl rfl ⟨by omega, by omega⟩ dX5_tellMarks_120 (fun H locs hP hD hS => ?_)
                have h_zI_519 : WM [4400] AL zT zR zI (u2 zI_482 (zR zk 4) zi_481.toNatClampNeg zi_516) := h_zI_482.putA hs t_513 rfl (by omega) (by decide) (fun h => absurd h (by decide)) (by decide) trivial
                generalize uzI_519 : u2 zI_482 (zR zk 4) zi_481.toNatClampNeg zi_516 = zI_519 at hP hD h_zI_519
                obtain ⟨zi_520, ezi_520⟩ : ∃ y : Int32, y = zi_481 + 1 := ⟨_, rfl⟩
                have tzi_520 : zi_520.toInt = zi_481.toInt + 1 := by rw [ezi_520]; exact tadd rfl (show (1 : Int32).toInt = 1 by decide) (by omega) (by omega)
                refine lv_iinc (v := zi_520) (lv' := [(6, .int zi_520), (8, .int 0), (0, .ref zk), (1, .int zia), (2, .int zib), (3, .int zip), (4, .int 1), (5, .int 0), (7, .int zi_510)]) hx hb dX5_tellMarks_121 hl (k := 7) rfl (by rw [ezi_520]; rfl) (by decide) rfl (fun ls hl => ?_)
                refine lv_goto (tgt := 51) hx hb dX5_tellMarks_124 (by decide) ?_
                exact ih_502 (24 - zi_520.toInt).toNat (by omega) zi_520 zI_519 _ _ _ rfl (by omega) h_zI_519 hP hD hS (lv_sub hl [2, 3, 4, 5, 6, 7, 0] rfl)
              refine lv_if_eq (tgt := 77) hx hb dX5_tellMarks_70 (by decide) (fun c_521 => ?_) (fun c_521 => ?_)
              · have f_522 : zi_507.toInt = 0 := ic_eq (rfl) (by decide) c_521
                refine lv_iconst (v := 0) hx hb dX5_tellMarks_77 (by decide) ?_
                refine lv_istore (lv' := [(7, .int 0), (0, .ref zk), (1, .int zia), (2, .int zib), (3, .int zip), (4, .int 1), (5, .int 0), (6, .int zi_481)]) hx hb dX5_tellMarks_78 hl (by decide) rfl (fun ls hl => ?_)
                exact jn_511 (0 : Int32) _ _ _ (by decide) (by omega) hP hD hS (lv_sub hl [1, 2, 3, 4, 5, 6, 7, 0] rfl)
              · have f_522 : ¬ (zi_507.toInt = 0) := ic_neq (rfl) (by decide) c_521
                refine lv_iconst (v := 1) hx hb dX5_tellMarks_73 (by decide) ?_
                refine lv_goto (tgt := 78) hx hb dX5_tellMarks_74 (by decide) ?_
                refine lv_istore (lv' := [(7, .int 1), (0, .ref zk), (1, .int zia), (2, .int zib), (3, .int zip), (4, .int 1), (5, .int 0), (6, .int zi_481)]) hx hb dX5_tellMarks_78 hl (by decide) rfl (fun ls hl => ?_)
                exact jn_511 (1 : Int32) _ _ _ (by decide) (by omega) hP hD hS (lv_sub hl [1, 2, 3, 4, 5, 6, 7, 0] rfl)
        exact lp_502 _ (0 : Int32) zI _ _ _ rfl (by decide) h_zI hP hD hS (lv_sub hl [2, 3, 4, 5, 6, 1, 0] rfl)
      refine lv_icmp_ge (tgt := 45) hx hb dX5_tellMarks_29 (by decide) (fun c_523 => ?_) (fun c_523 => ?_)
      · have f_524 : zib.toInt ≥ zi_417.toInt := ic_ge (rfl) (rfl) c_523
        exact jn_480  _ _ _  hP hD hS (lv_sub hl [1, 2, 3, 4, 0] rfl)
      · have f_524 : ¬ (zib.toInt ≥ zi_417.toInt) := ic_nge (rfl) (rfl) c_523
        refine lv_aload_n hx hb dX5_tellMarks_32 rfl (lv_at hl 1 rfl) ?_
        refine ht_getr (C := RX5) (T := TX5) (N := 9) hx hb hts (by decide +kernel) hown hK hP hs t_zk (by decide) rfl rfl 1 (by decide) (hts (.fieldLink RX5 15 "DripStone$Marks" "places1" "[Z") (by decide +kernel)) (fun _ h9 => h9) rfl dX5_tellMarks_33 ?_
        have t_525 : zT (zR zk 1) = 45 := sk_f hs t_zk (by decide) rfl (by decide)
        refine lv_iload_n hx hb dX5_tellMarks_36 rfl (lv_at hl 4 rfl) ?_
        refine ht_zald (n := 12) (q := 2) hx hb hK hP hs t_525 (by decide) rfl rfl ⟨by omega, by omega⟩ dX5_tellMarks_37 ?_
        refine lv_topi (fun zi_526 ezi_526 => ?_)
        refine lv_if_eq (tgt := 45) hx hb dX5_tellMarks_38 (by decide) (fun c_529 => ?_) (fun c_529 => ?_)
        · have f_530 : zi_526.toInt = 0 := ic_eq (rfl) (by decide) c_529
          exact jn_480  _ _ _  hP hD hS (lv_sub hl [1, 2, 3, 4, 0] rfl)
        · have f_530 : ¬ (zi_526.toInt = 0) := ic_neq (rfl) (by decide) c_529
          refine lv_iconst (v := 1) hx hb dX5_tellMarks_41 (by decide) ?_
          refine lv_goto (tgt := 46) hx hb dX5_tellMarks_42 (by decide) ?_
          refine lv_istore (lv' := [(5, .int 1), (4, .int 1), (0, .ref zk), (1, .int zia), (2, .int zib), (3, .int zip)]) hx hb dX5_tellMarks_46 hl (by decide) rfl (fun ls hl => ?_)
          refine lv_iconst (v := 0) hx hb dX5_tellMarks_48 (by decide) ?_
          refine lv_istore (lv' := [(6, .int 0), (5, .int 1), (4, .int 1), (0, .ref zk), (1, .int zia), (2, .int zib), (3, .int zip)]) hx hb dX5_tellMarks_49 hl (by decide) rfl (fun ls hl => ?_)
          have lp_559 : ∀ (n : Nat) (zi_531 : Int32) (zI_532 : Nat → Nat → Int32) (H : Heap) (locs : List Loc) (ls : Array Slot), (24 - zi_531.toInt).toNat = n → (0 ≤ zi_531.toInt ∧ zi_531.toInt ≤ 24) → (WM [4400] AL zT zR zI zI_532) → va_P (dC, dI) vwCl (WL cy zL zT zR zI_532 zJ) H → va_D A (WL cy zL zT zR zI_532 zJ) → va_S A s.heap H locs → lv_has ls 9 [(0, .ref zk), (1, .int zia), (2, .int zib), (3, .int zip), (4, .int 1), (5, .int 1), (6, .int zi_531)] → W p l e ({ frames := 1, cells := 0, slots := 0, locals := 22 } : Room) s m ([.ref zk, .int zia, .int zib, .int zip] : List Value).toArray below meth c H locs 0 0 Q (F0 m 51 ls []) := by
            intro n
            induction n using Nat.strongRecOn with
            | _ n ih_559 =>
              intro zi_531 zI_532 H locs ls hn b_zi_531 h_zI_532 hP hD hS hl
              refine lv_iload hx hb dX5_tellMarks_51 (lv_at hl 6 rfl) ?_
              refine lv_bipush (v := 24) hx hb dX5_tellMarks_53 (by decide) ?_
              refine lv_icmp_ge (tgt := 127) hx hb dX5_tellMarks_55 (by decide) (fun c_560 => ?_) (fun c_560 => ?_)
              · have f_561 : zi_531.toInt ≥ (24 : Int) := ic_ge (rfl) (show (24 : Int32).toInt = 24 by decide) c_560
                subst hQ
                exact W.vret hx hb hr (fun t ht hW => ⟨⟨zI_532, rfl, h_zI_532, ⟨by rw [ht]; exact hP, va_K.moved hW.alike hK, hD⟩⟩, hS.F ht⟩) hS.2.2 dX5_tellMarks_127
              · have f_561 : ¬ (zi_531.toInt ≥ (24 : Int)) := ic_nge (rfl) (show (24 : Int32).toInt = 24 by decide) c_560
                refine lv_iload hx hb dX5_tellMarks_58 (lv_at hl 4 rfl) ?_
                refine lv_if_eq (tgt := 77) hx hb dX5_tellMarks_60 (by decide) (fun c_562 => absurd c_562 (by decide)) (fun c_562 => ?_)
                refine lv_aload_n hx hb dX5_tellMarks_63 rfl (lv_at hl 0 rfl) ?_
                refine ht_getr (C := RX5) (T := TX5) (N := 9) hx hb hts (by decide +kernel) hown hK hP hs t_zk (by decide) rfl rfl 2 (by decide) (hts (.fieldLink RX5 18 "DripStone$Marks" "years0" "[Z") (by decide +kernel)) (fun _ h9 => h9) rfl dX5_tellMarks_64 ?_
                have t_563 : zT (zR zk 2) = 46 := sk_f hs t_zk (by decide) rfl (by decide)
                refine lv_iload hx hb dX5_tellMarks_67 (lv_at hl 6 rfl) ?_
                refine ht_zald (n := 24) (q := 2) hx hb hK hP hs t_563 (by decide) rfl rfl ⟨by omega, by omega⟩ dX5_tellMarks_69 ?_
                refine lv_topi (fun zi_564 ezi_564 => ?_)
                have jn_568 : ∀ (zi_567 : Int32) (H : Heap) (locs : List Loc) (ls : Array Slot), (0 ≤ zi_567.toInt ∧ zi_567.toInt ≤ 1) → (zi_567.toInt = 0 ∨ zia.toInt ≤ 11) → va_P (dC, dI) vwCl (WL cy zL zT zR zI_532 zJ) H → va_D A (WL cy zL zT zR zI_532 zJ) → va_S A s.heap H locs → lv_has ls 9 [(0, .ref zk), (1, .int zia), (2, .int zib), (3, .int zip), (4, .int 1), (5, .int 1), (6, .int zi_531), (7, .int zi_567)] → W p l e ({ frames := 1, cells := 0, slots := 0, locals := 22 } : Room) s m ([.ref zk, .int zia, .int zib, .int zip] : List Value).toArray below meth c H locs 0 0 Q (F0 m 80 ls []) := by
                  intro zi_567 H locs ls b_zi_567 e_jn_568_0 hP hD hS hl
                  refine lv_iload hx hb dX5_tellMarks_80 (lv_at hl 5 rfl) ?_
                  refine lv_if_eq (tgt := 99) hx hb dX5_tellMarks_82 (by decide) (fun c_569 => absurd c_569 (by decide)) (fun c_569 => ?_)
                  refine lv_aload_n hx hb dX5_tellMarks_85 rfl (lv_at hl 0 rfl) ?_
                  refine ht_getr (C := RX5) (T := TX5) (N := 9) hx hb hts (by decide +kernel) hown hK hP hs t_zk (by decide) rfl rfl 3 (by decide) (hts (.fieldLink RX5 21 "DripStone$Marks" "years1" "[Z") (by decide +kernel)) (fun _ h9 => h9) rfl dX5_tellMarks_86 ?_
                  have t_570 : zT (zR zk 3) = 46 := sk_f hs t_zk (by decide) rfl (by decide)
                  refine lv_iload hx hb dX5_tellMarks_89 (lv_at hl 6 rfl) ?_
                  refine ht_zald (n := 24) (q := 2) hx hb hK hP hs t_570 (by decide) rfl rfl ⟨by omega, by omega⟩ dX5_tellMarks_91 ?_
                  refine lv_topi (fun zi_571 ezi_571 => ?_)
                  have jn_575 : ∀ (zi_574 : Int32) (H : Heap) (locs : List Loc) (ls : Array Slot), (0 ≤ zi_574.toInt ∧ zi_574.toInt ≤ 1) → (zi_574.toInt = 0 ∨ zib.toInt ≤ 11) → va_P (dC, dI) vwCl (WL cy zL zT zR zI_532 zJ) H → va_D A (WL cy zL zT zR zI_532 zJ) → va_S A s.heap H locs → lv_has ls 9 [(0, .ref zk), (1, .int zia), (2, .int zib), (3, .int zip), (4, .int 1), (5, .int 1), (6, .int zi_531), (7, .int zi_567), (8, .int zi_574)] → W p l e ({ frames := 1, cells := 0, slots := 0, locals := 22 } : Room) s m ([.ref zk, .int zia, .int zib, .int zip] : List Value).toArray below meth c H locs 0 0 Q (F0 m 102 ls []) := by
                    intro zi_574 H locs ls b_zi_574 e_jn_575_0 hP hD hS hl
                    refine lv_aload_n hx hb dX5_tellMarks_102 rfl (lv_at hl 0 rfl) ?_
                    refine ht_getr (C := RX5) (T := TX5) (N := 9) hx hb hts (by decide +kernel) hown hK hP hs t_zk (by decide) rfl rfl 4 (by decide) (hts (.fieldLink RX5 24 "DripStone$Marks" "into" "[I") (by decide +kernel)) (fun _ h9 => h9) rfl dX5_tellMarks_103 ?_
                    have t_576 : zT (zR zk 4) = 44 := sk_f hs t_zk (by decide) rfl (by decide)
                    refine lv_iload hx hb dX5_tellMarks_106 (lv_at hl 6 rfl) ?_
                    refine lv_aload_n hx hb dX5_tellMarks_108 rfl (lv_at hl 0 rfl) ?_
                    refine lv_iload_n hx hb dX5_tellMarks_109 rfl (lv_at hl 1 rfl) ?_
                    refine lv_iload hx hb dX5_tellMarks_110 (lv_at hl 7 rfl) ?_
                    refine lv_iadd hx hb dX5_tellMarks_112 ?_
                    refine lv_topi (fun zi_577 ezi_577 => ?_)
                    have tzi_577 : zi_577.toInt = zia.toInt + zi_567.toInt := by rw [ezi_577]; exact tiadd (rfl) (rfl) (by omega) (by omega)
                    refine lv_iload_n hx hb dX5_tellMarks_113 rfl (lv_at hl 2 rfl) ?_
                    refine lv_iload hx hb dX5_tellMarks_114 (lv_at hl 8 rfl) ?_
                    refine lv_iadd hx hb dX5_tellMarks_116 ?_
                    refine lv_topi (fun zi_578 ezi_578 => ?_)
                    have tzi_578 : zi_578.toInt = zib.toInt + zi_574.toInt := by rw [ezi_578]; exact tiadd (rfl) (rfl) (by omega) (by omega)
                    refine hj_i (ws := (WL cy zL zT zR zI_532 zJ)) (w1 := fun (u : Unit) => (WL cy zL zT zR zI_532 zJ)) (va_runV (As := [.int zi_577, .int zi_578]) (rest := [.int zi_531, .ref (zR zk 4)]) ⟨hx, hb, hml, hown, hts⟩ (t_X5_markOf l dC dI cy H.size zL zT zR zI_532 zJ zk zi_577 zi_578 hs h_zI_532.1 t_zk (by omega) (by omega)) (cwV 2 hts gX5_tellMarks_X5_markOf rfl rfl rfl (by decide +kernel) ⟨(Nat.le_of_ble_eq_true rfl), (Nat.le_of_ble_eq_true rfl)⟩) (PRE.v hP hK hD hN (ht_recv hK hP hs t_zk (by decide) rfl rfl)) rfl rfl hl.1 rfl (lv_room (Nat.le_of_ble_eq_true rfl)) dX5_tellMarks_117 ⟨(Nat.le_of_ble_eq_true rfl), (Nat.le_of_ble_eq_true rfl)⟩) hP hD hS hA (fun zi_579 u_581 H locs hw_580 hP hD hS => ?_)
                    have b_zi_579 : 0 ≤ zi_579.toInt ∧ zi_579.toInt ≤ 168 := hw_580
                    refine ht_iast (v := zi_579) (n := 24) (q := 0) hx hb hK hP hD hS hs t_576 (by decide) rfl rfl ⟨by omega, by omega⟩ dX5_tellMarks_120 (fun H locs hP hD hS => ?_)
                    have h_zI_582 : WM [4400] AL zT zR zI (u2 zI_532 (zR zk 4) zi_531.toNatClampNeg zi_579) := h_zI_532.putA hs t_576 rfl (by omega) (by decide) (fun h => absurd h (by decide)) (by decide) trivial
                    generalize uzI_582 : u2 zI_532 (zR zk 4) zi_531.toNatClampNeg zi_579 = zI_582 at hP hD h_zI_582
                    obtain ⟨zi_583, ezi_583⟩ : ∃ y : Int32, y = zi_531 + 1 := ⟨_, rfl⟩
                    have tzi_583 : zi_583.toInt = zi_531.toInt + 1 := by rw [ezi_583]; exact tadd rfl (show (1 : Int32).toInt = 1 by decide) (by omega) (by omega)
                    refine lv_iinc (v := zi_583) (lv' := [(6, .int zi_583), (0, .ref zk), (1, .int zia), (2, .int zib), (3, .int zip), (4, .int 1), (5, .int 1), (7, .int zi_567), (8, .int zi_574)]) hx hb dX5_tellMarks_121 hl (k := 6) rfl (by rw [ezi_583]; rfl) (by decide) rfl (fun ls hl => ?_)
                    refine lv_goto (tgt := 51) hx hb dX5_tellMarks_124 (by decide) ?_
                    exact ih_559 (24 - zi_583.toInt).toNat (by omega) zi_583 zI_582 _ _ _ rfl (by omega) h_zI_582 hP hD hS (lv_sub hl [1, 2, 3, 4, 5, 6, 0] rfl)
                  refine lv_if_eq (tgt := 99) hx hb dX5_tellMarks_92 (by decide) (fun c_584 => ?_) (fun c_584 => ?_)
                  · have f_585 : zi_571.toInt = 0 := ic_eq (rfl) (by decide) c_584
                    refine lv_iconst (v := 0) hx hb dX5_tellMarks_99 (by decide) ?_
                    refine lv_istore (lv' := [(8, .int 0), (0, .ref zk), (1, .int zia), (2, .int zib), (3, .int zip), (4, .int 1), (5, .int 1), (6, .int zi_531), (7, .int zi_567)]) hx hb dX5_tellMarks_100 hl (by decide) rfl (fun ls hl => ?_)
                    exact jn_575 (0 : Int32) _ _ _ (by decide) (by omega) hP hD hS (lv_sub hl [1, 2, 3, 4, 5, 6, 7, 8, 0] rfl)
                  · have f_585 : ¬ (zi_571.toInt = 0) := ic_neq (rfl) (by decide) c_584
                    refine lv_iconst (v := 1) hx hb dX5_tellMarks_95 (by decide) ?_
                    refine lv_goto (tgt := 100) hx hb dX5_tellMarks_96 (by decide) ?_
                    refine lv_istore (lv' := [(8, .int 1), (0, .ref zk), (1, .int zia), (2, .int zib), (3, .int zip), (4, .int 1), (5, .int 1), (6, .int zi_531), (7, .int zi_567)]) hx hb dX5_tellMarks_100 hl (by decide) rfl (fun ls hl => ?_)
                    exact jn_575 (1 : Int32) _ _ _ (by decide) (by omega) hP hD hS (lv_sub hl [1, 2, 3, 4, 5, 6, 7, 8, 0] rfl)
                refine lv_if_eq (tgt := 77) hx hb dX5_tellMarks_70 (by decide) (fun c_586 => ?_) (fun c_586 => ?_)
                · have f_587 : zi_564.toInt = 0 := ic_eq (rfl) (by decide) c_586
                  refine lv_iconst (v := 0) hx hb dX5_tellMarks_77 (by decide) ?_
                  refine lv_istore (lv' := [(7, .int 0), (0, .ref zk), (1, .int zia), (2, .int zib), (3, .int zip), (4, .int 1), (5, .int 1), (6, .int zi_531)]) hx hb dX5_tellMarks_78 hl (by decide) rfl (fun ls hl => ?_)
                  exact jn_568 (0 : Int32) _ _ _ (by decide) (by omega) hP hD hS (lv_sub hl [1, 2, 3, 4, 5, 6, 7, 0] rfl)
                · have f_587 : ¬ (zi_564.toInt = 0) := ic_neq (rfl) (by decide) c_586
                  refine lv_iconst (v := 1) hx hb dX5_tellMarks_73 (by decide) ?_
                  refine lv_goto (tgt := 78) hx hb dX5_tellMarks_74 (by decide) ?_
                  refine lv_istore (lv' := [(7, .int 1), (0, .ref zk), (1, .int zia), (2, .int zib), (3, .int zip), (4, .int 1), (5, .int 1), (6, .int zi_531)]) hx hb dX5_tellMarks_78 hl (by decide) rfl (fun ls hl => ?_)
                  exact jn_568 (1 : Int32) _ _ _ (by decide) (by omega) hP hD hS (lv_sub hl [1, 2, 3, 4, 5, 6, 7, 0] rfl)
          exact lp_559 _ (0 : Int32) zI _ _ _ rfl (by decide) h_zI hP hD hS (lv_sub hl [3, 4, 5, 6, 2, 1, 0] rfl)
set_option maxHeartbeats 8000000 in
set_option maxRecDepth 100000 in
theorem t_X5_lift (l : Launch) (dC : Nat → ClassId) (dI : Nat → Nat → Nat) (cy : Nat → ClassId) (sz : Nat) (zL : List Nat) (zT : Nat → Nat) (zR : Nat → Nat → Nat) (zI : Nat → Nat → Int32) (zJ : Nat → Nat → Int64) (zk : Nat) (zia : Int32) (hs : SKP zL zT zR) (hw : WT zT zR zI) (t_zk : zT zk = 6) (b_zia : 0 ≤ zia.toInt ∧ zia.toInt ≤ 168) : Met l yX5_lift wsX5_lift ({ frames := 2, cells := 0, slots := 0, locals := 47 } : Room) (va_Pc [.ref zk, .int zia] (PRE dC dI cy (WL cy zL zT zR zI zJ) sz)) (va_Qv (fun (u : (Nat → Nat → Int64)) => True) (fun u t => POST dC dI cy (va_A (WL cy zL zT zR zI zJ) sz) (WL cy zL zT zR zI u) t) (va_A (WL cy zL zT zR zI zJ) sz)) 0 0 (va_A (WL cy zL zT zR zI zJ) sz) := by
  refine Met.ofW (cc := cX5_lift) (maxL := 3) (ret := none) (by decide) rfl ?_
  intro p e s m args below meth c s₁ B hml hv
  obtain ⟨rfl, hsz, hP, hK, hD0, hN⟩ := hv
  have hx := B.exec
  have hb := B.bytes
  have hr := B.returns
  have hts := atoms_spec (ws := wsX5_lift) B.pre
  have hown : s.vm.findClass RX5 = some m.cls := findClass_of_methodNamed B.named
  have hlocks := B.notSynchronized
  subst hsz
  have hD := hD0.self (sz := s.heap.size)
  generalize hAe : va_A (WL cy zL zT zR zI zJ) s.heap.size = A at hD ⊢
  have hA : ∀ q : Nat, s.heap.size ≤ q → A q := fun q h => by rw [← hAe]; exact Or.inr h
  have hS : va_S A s.heap s.heap [] := va_S.rf
  have hP : va_P (dC, dI) vwCl (WL cy zL zT zR zI zJ) s.heap := hP
  have hl := lv_entry ([.ref zk, .int zia] : List Value) (n := 3) (Nat.le_of_ble_eq_true rfl)
  rw [lg_entry_eq]
  generalize (lg_sl ([.ref zk, .int zia] : List Value) ++ List.replicate (3 - (lg_sl ([.ref zk, .int zia] : List Value)).length) Slot.unset).toArray = ls at hl ⊢
  have hl : lv_has ls 3 [(0, .ref zk), (1, .int zia)] := hl
  refine w_q (fun Q hQ => ?_)
  have h_zI : WM [] AL zT zR zI zI := WM.rf hw
  refine lv_iload_n hx hb dX5_lift_0 rfl (lv_at hl 1 rfl) ?_
  refine lv_bipush (v := 96) hx hb dX5_lift_1 (by decide) ?_
  refine lv_imul hx hb dX5_lift_3 ?_
  refine lv_topi (fun zi_1 ezi_1 => ?_)
  have tzi_1 : zi_1.toInt = zia.toInt * (96 : Int) := by rw [ezi_1]; exact timul (rfl) (show (96 : Int32).toInt = 96 by decide) (by omega) (by omega)
  refine lv_istore_n (lv' := [(2, .int zi_1), (0, .ref zk), (1, .int zia)]) hx hb dX5_lift_4 rfl hl (by decide) rfl (fun ls hl => ?_)
  refine lv_aload_n hx hb dX5_lift_5 rfl (lv_at hl 1 rfl) ?_
  refine ht_getr (C := RX5) (T := TX5) (N := 9) hx hb hts (by decide +kernel) hown hK hP hs t_zk (by decide) rfl rfl 5 (by decide) (hts (.fieldLink RX5 28 "DripStone$Marks" "blocks" "[J") (by decide +kernel)) (fun _ h9 => h9) rfl dX5_lift_6 ?_
  have t_2 : zT (zR zk 5) = 52 := sk_f hs t_zk (by decide) rfl (by decide)
  refine lv_iload_n hx hb dX5_lift_9 rfl (lv_at hl 0 rfl) ?_
  refine lv_aload_n hx hb dX5_lift_10 rfl (lv_at hl 1 rfl) ?_
  refine ht_getr (C := RX5) (T := TX5) (N := 9) hx hb hts (by decide +kernel) hown hK hP hs t_zk (by decide) rfl rfl 6 (by decide) (hts (.fieldLink RX5 32 "DripStone$Marks" "lifted" "[J") (by decide +kernel)) (fun _ h9 => h9) rfl dX5_lift_11 ?_
  have t_3 : zT (zR zk 6) = 50 := sk_f hs t_zk (by decide) rfl (by decide)
  refine lv_iconst (v := 0) hx hb dX5_lift_14 (by decide) ?_
  refine lv_bipush (v := 96) hx hb dX5_lift_15 (by decide) ?_
  refine ht_cpl (sp := zi_1) (dp := (0 : Int32)) (n := (96 : Int32)) (n1 := 96) (n2 := 16224) (q := 1) hx hb (by rw [hml]; exact hl.1.symm) hown (hts (.methodLink RX5 122 arraycopyName) (by decide +kernel)) (hts (.native arraycopyName) (by decide +kernel)) (hts (.static arraycopyName) (by decide +kernel)) (hts (.initialized "java/lang/System") (by decide +kernel)) hK hP hD hS hs t_3 t_2 (by decide) (by decide) rfl rfl rfl (nl_z (by omega)) (by decide) (by decide) (cpn (rfl) (show (96 : Int32).toInt = 96 by decide) (by omega) (by omega) (by omega)) (by decide) (Nat.le_of_ble_eq_true rfl) (by decide) dX5_lift_17 (fun H locs hP hD hS => ?_)
  generalize uzJ_4 : ur zJ (zR zk 6) (va_cpy (zJ (zR zk 5)) (zJ (zR zk 6)) zi_1.toNatClampNeg (0 : Int32).toNatClampNeg (96 : Int32).toNatClampNeg) = zJ_4 at hP hD
  refine lv_aload_n hx hb dX5_lift_20 rfl (lv_at hl 1 rfl) ?_
  refine ht_getr (C := RX5) (T := TX5) (N := 9) hx hb hts (by decide +kernel) hown hK hP hs t_zk (by decide) rfl rfl 5 (by decide) (hts (.fieldLink RX5 28 "DripStone$Marks" "blocks" "[J") (by decide +kernel)) (fun _ h9 => h9) rfl dX5_lift_21 ?_
  refine lv_iload_n hx hb dX5_lift_24 rfl (lv_at hl 0 rfl) ?_
  refine lv_iload_n hx hb dX5_lift_25 rfl (lv_at hl 0 rfl) ?_
  refine lv_bipush (v := 96) hx hb dX5_lift_26 (by decide) ?_
  refine lv_iadd hx hb dX5_lift_28 ?_
  refine lv_topi (fun zi_5 ezi_5 => ?_)
  have tzi_5 : zi_5.toInt = zi_1.toInt + (96 : Int) := by rw [ezi_5]; exact tiadd (rfl) (show (96 : Int32).toInt = 96 by decide) (by omega) (by omega)
  refine lv_lconst (v := 0) hx hb dX5_lift_29 (by decide) ?_
  refine hj_v (ws := (WL cy zL zT zR zI zJ_4)) (w1 := fun (u : (Nat → Nat → Int64)) => (WL cy zL zT zR zI u)) (va_runS (As := [.ref (zR zk 5), .int zi_1, .int zi_5, .long 0]) (rest := []) ⟨hx, hb, hml, hown, hts⟩ (t_J7_fill_bad5a l dC dI cy H.size zL zT zR zI zJ_4 (zR zk 5) zi_1 zi_5 (0 : Int64) hs h_zI.1 t_2 (by omega) (by omega) (by omega)) (va_cwS 4 hts gX5_lift_J7_fill_bad5a rfl rfl rfl (by decide +kernel) ⟨(Nat.le_of_ble_eq_true rfl), (Nat.le_of_ble_eq_true rfl)⟩) (PRE.s hP hK hD hN) rfl rfl hl.1 rfl (lv_room (Nat.le_of_ble_eq_true rfl)) dX5_lift_30 ⟨(Nat.le_of_ble_eq_true rfl), (Nat.le_of_ble_eq_true rfl)⟩) hP hD hS hA (fun zJ_9 H locs hw_7 hP hD hS => ?_)
  subst hQ
  exact W.vret hx hb hr (fun t ht hW => ⟨⟨zJ_9, rfl, trivial, ⟨by rw [ht]; exact hP, va_K.moved hW.alike hK, hD⟩⟩, hS.F ht⟩) hS.2.2 dX5_lift_33
set_option maxHeartbeats 8000000 in
set_option maxRecDepth 100000 in
theorem t_X5_advanceAll (l : Launch) (dC : Nat → ClassId) (dI : Nat → Nat → Nat) (cy : Nat → ClassId) (sz : Nat) (zL : List Nat) (zT : Nat → Nat) (zR : Nat → Nat → Nat) (zI : Nat → Nat → Int32) (zJ : Nat → Nat → Int64) (zk : Nat) (zw : Nat) (zip : Int32) (hs : SKP zL zT zR) (hw : WT zT zR zI) (t_zk : zT zk = 6) (t_zw : zT zw = 10) (b_zip : 1 ≤ zip.toInt ∧ zip.toInt ≤ 11) (hx1 : zip.toInt < (zI zw 14).toInt) : Met l yX5_advanceAll wsX5_advanceAll ({ frames := 3, cells := 0, slots := 0, locals := 69 } : Room) (va_Pc [.ref zk, .ref zw, .int zip] (PRE dC dI cy (WL cy zL zT zR zI zJ) sz)) (va_Qv (fun (u : (Nat → Nat → Int32) × (Nat → Nat → Int64)) => (WM [4400] AL zT zR zI u.1)) (fun u t => POST dC dI cy (va_A (WL cy zL zT zR zI zJ) sz) (WL cy zL zT zR u.1 u.2) t) (va_A (WL cy zL zT zR zI zJ) sz)) 0 0 (va_A (WL cy zL zT zR zI zJ) sz) := by
  refine Met.ofW (cc := cX5_advanceAll) (maxL := 5) (ret := none) (by decide) rfl ?_
  intro p e s m args below meth c s₁ B hml hv
  obtain ⟨rfl, hsz, hP, hK, hD0, hN⟩ := hv
  have hx := B.exec
  have hb := B.bytes
  have hr := B.returns
  have hts := atoms_spec (ws := wsX5_advanceAll) B.pre
  have hown : s.vm.findClass RX5 = some m.cls := findClass_of_methodNamed B.named
  have hlocks := B.notSynchronized
  subst hsz
  have hD := hD0.self (sz := s.heap.size)
  generalize hAe : va_A (WL cy zL zT zR zI zJ) s.heap.size = A at hD ⊢
  have hA : ∀ q : Nat, s.heap.size ≤ q → A q := fun q h => by rw [← hAe]; exact Or.inr h
  have hS : va_S A s.heap s.heap [] := va_S.rf
  have hP : va_P (dC, dI) vwCl (WL cy zL zT zR zI zJ) s.heap := hP
  have hl := lv_entry ([.ref zk, .ref zw, .int zip] : List Value) (n := 5) (Nat.le_of_ble_eq_true rfl)
  rw [lg_entry_eq]
  generalize (lg_sl ([.ref zk, .ref zw, .int zip] : List Value) ++ List.replicate (5 - (lg_sl ([.ref zk, .ref zw, .int zip] : List Value)).length) Slot.unset).toArray = ls at hl ⊢
  have hl : lv_has ls 5 [(0, .ref zk), (1, .ref zw), (2, .int zip)] := hl
  refine w_q (fun Q hQ => ?_)
  have h_zI : WM [4400] AL zT zR zI zI := WM.rf hw
  refine lv_aload_n hx hb dX5_advanceAll_0 rfl (lv_at hl 0 rfl) ?_
  refine ht_geti (C := RX5) (T := TX5) (N := 9) hx hb hts (by decide +kernel) hown hK hP hs t_zk (by decide) rfl rfl 7 (by decide) (hts (.fieldLink RX5 45 "DripStone$Marks" "goal0" "I") (by decide +kernel)) (fun _ h9 => h9) rfl dX5_advanceAll_1 ?_
  refine lv_topi (fun zi_1 ezi_1 => ?_)
  have tzi_1 : (-1) ≤ zi_1.toInt ∧ zi_1.toInt ≤ 12 := by rw [ezi_1]; exact h_zI.at t_zk _ rfl
  refine lv_iload_n hx hb dX5_advanceAll_4 rfl (lv_at hl 2 rfl) ?_
  refine va_mmin hx hb (by rw [hml]; exact hl.1.symm) hown (hts (.methodLink RX5 105 Lib.Math.min.name) (by decide +kernel)) (hts (.static Lib.Math.min.name) (by decide +kernel)) (hts (.initialized "java/lang/Math") (by decide +kernel)) (hts (.code Lib.Math.min.name Lib.Math.min.code 2 (some .int)) (by decide +kernel)) (Nat.le_of_ble_eq_true rfl) (Nat.le_of_ble_eq_true rfl) (Nat.le_of_ble_eq_true rfl) (Nat.le_of_ble_eq_true rfl) dX5_advanceAll_5 ?_
  refine lv_topi (fun zi_2 ezi_2 => ?_)
  have tzi_2 : (zip.toInt < zi_1.toInt → zi_2.toInt = zip.toInt) ∧ (¬ zip.toInt < zi_1.toInt → zi_2.toInt = zi_1.toInt) := mn_s ezi_2 (rfl) (rfl)
  refine lv_istore_n (lv' := [(3, .int zi_2), (0, .ref zk), (1, .ref zw), (2, .int zip)]) hx hb dX5_advanceAll_8 rfl hl (by decide) rfl (fun ls hl => ?_)
  obtain ⟨zi_3, ezi_3⟩ : ∃ y : Int32, y = zI zw 14 := ⟨_, rfl⟩
  have tzi_3 : 0 ≤ zi_3.toInt ∧ zi_3.toInt ≤ 12 := by rw [ezi_3]; exact h_zI.at t_zw _ rfl
  have lzi_3 : (zI zw 14).toInt = zi_3.toInt := by rw [ezi_3]
  have lp_207 : ∀ (n : Nat) (zi_100 : Int32) (zI_101 : Nat → Nat → Int32) (zJ_102 : Nat → Nat → Int64) (H : Heap) (locs : List Loc) (ls : Array Slot), (zi_100.toInt + 1).toNat = n → ((-1) ≤ zi_100.toInt ∧ zi_100.toInt ≤ 11) → (WM [4400] AL zT zR zI zI_101) → (zI_101 zw 14 = zi_3) → va_P (dC, dI) vwCl (WL cy zL zT zR zI_101 zJ_102) H → va_D A (WL cy zL zT zR zI_101 zJ_102) → va_S A s.heap H locs → lv_has ls 5 [(0, .ref zk), (1, .ref zw), (2, .int zip), (3, .int zi_100)] → W p l e ({ frames := 3, cells := 0, slots := 0, locals := 69 } : Room) s m ([.ref zk, .ref zw, .int zip] : List Value).toArray below meth c H locs 0 0 Q (F0 m 9 ls []) := by
    intro n
    induction n using Nat.strongRecOn with
    | _ n ih_207 =>
      intro zi_100 zI_101 zJ_102 H locs ls hn b_zi_100 h_zI_101 e_lp_207_0 hP hD hS hl
      refine lv_iload_n hx hb dX5_advanceAll_9 rfl (lv_at hl 3 rfl) ?_
      refine lv_if_lt (tgt := 76) hx hb dX5_advanceAll_10 (by decide) (fun c_208 => ?_) (fun c_208 => ?_)
      · have f_209 : zi_100.toInt < 0 := ic_lt (rfl) (by decide) c_208
        subst hQ
        exact W.vret hx hb hr (fun t ht hW => ⟨⟨(zI_101, zJ_102), rfl, h_zI_101, ⟨by rw [ht]; exact hP, va_K.moved hW.alike hK, hD⟩⟩, hS.F ht⟩) hS.2.2 dX5_advanceAll_76
      · have f_209 : ¬ (zi_100.toInt < 0) := ic_nlt (rfl) (by decide) c_208
        refine lv_aload_n hx hb dX5_advanceAll_13 rfl (lv_at hl 0 rfl) ?_
        refine ht_geti (C := RX5) (T := TX5) (N := 9) hx hb hts (by decide +kernel) hown hK hP hs t_zk (by decide) rfl rfl 8 (by decide) (hts (.fieldLink RX5 48 "DripStone$Marks" "goal1" "I") (by decide +kernel)) (fun _ h9 => h9) rfl dX5_advanceAll_14 ?_
        refine lv_topi (fun zi_210 ezi_210 => ?_)
        have tzi_210 : (-1) ≤ zi_210.toInt ∧ zi_210.toInt ≤ 12 := by rw [ezi_210]; exact h_zI_101.at t_zk _ rfl
        refine lv_iload_n hx hb dX5_advanceAll_17 rfl (lv_at hl 2 rfl) ?_
        refine va_mmin hx hb (by rw [hml]; exact hl.1.symm) hown (hts (.methodLink RX5 105 Lib.Math.min.name) (by decide +kernel)) (hts (.static Lib.Math.min.name) (by decide +kernel)) (hts (.initialized "java/lang/Math") (by decide +kernel)) (hts (.code Lib.Math.min.name Lib.Math.min.code 2 (some .int)) (by decide +kernel)) (Nat.le_of_ble_eq_true rfl) (Nat.le_of_ble_eq_true rfl) (Nat.le_of_ble_eq_true rfl) (Nat.le_of_ble_eq_true rfl) dX5_advanceAll_18 ?_
        refine lv_topi (fun zi_211 ezi_211 => ?_)
        have tzi_211 : (zip.toInt < zi_210.toInt → zi_211.toInt = zip.toInt) ∧ (¬ zip.toInt < zi_210.toInt → zi_211.toInt = zi_210.toInt) := mn_s ezi_211 (rfl) (rfl)
        refine lv_istore (lv' := [(4, .int zi_211), (0, .ref zk), (1, .ref zw), (2, .int zip), (3, .int zi_100)]) hx hb dX5_advanceAll_21 hl (by decide) rfl (fun ls hl => ?_)
        have lp_237 : ∀ (n : Nat) (zi_212 : Int32) (zI_213 : Nat → Nat → Int32) (zJ_214 : Nat → Nat → Int64) (H : Heap) (locs : List Loc) (ls : Array Slot), (zi_212.toInt + 1).toNat = n → ((-1) ≤ zi_212.toInt ∧ zi_212.toInt ≤ 11) → (WM [4400] AL zT zR zI zI_213) → (zI_213 zw 14 = zi_3) → va_P (dC, dI) vwCl (WL cy zL zT zR zI_213 zJ_214) H → va_D A (WL cy zL zT zR zI_213 zJ_214) → va_S A s.heap H locs → lv_has ls 5 [(0, .ref zk), (1, .ref zw), (2, .int zip), (3, .int zi_100), (4, .int zi_212)] → W p l e ({ frames := 3, cells := 0, slots := 0, locals := 69 } : Room) s m ([.ref zk, .ref zw, .int zip] : List Value).toArray below meth c H locs 0 0 Q (F0 m 23 ls []) := by
          intro n
          induction n using Nat.strongRecOn with
          | _ n ih_237 =>
            intro zi_212 zI_213 zJ_214 H locs ls hn b_zi_212 h_zI_213 e_lp_237_0 hP hD hS hl
            refine lv_iload hx hb dX5_advanceAll_23 (lv_at hl 4 rfl) ?_
            refine lv_if_lt (tgt := 70) hx hb dX5_advanceAll_25 (by decide) (fun c_238 => ?_) (fun c_238 => ?_)
            · have f_239 : zi_212.toInt < 0 := ic_lt (rfl) (by decide) c_238
              obtain ⟨zi_240, ezi_240⟩ : ∃ y : Int32, y = zi_100 + (-1) := ⟨_, rfl⟩
              have tzi_240 : zi_240.toInt = zi_100.toInt + (-1) := by rw [ezi_240]; exact tadd rfl (show ((-1) : Int32).toInt = -1 by decide) (by omega) (by omega)
              refine lv_iinc (v := zi_240) (lv' := [(3, .int zi_240), (0, .ref zk), (1, .ref zw), (2, .int zip), (4, .int zi_212)]) hx hb dX5_advanceAll_70 hl (k := 3) rfl (by rw [ezi_240]; rfl) (by decide) rfl (fun ls hl => ?_)
              refine lv_goto (tgt := 9) hx hb dX5_advanceAll_73 (by decide) ?_
              exact ih_207 (zi_240.toInt + 1).toNat (by omega) zi_240 zI_213 zJ_214 _ _ _ rfl (by omega) h_zI_213 e_lp_237_0 hP hD hS (lv_sub hl [1, 2, 3, 0] rfl)
            · have f_239 : ¬ (zi_212.toInt < 0) := ic_nlt (rfl) (by decide) c_238
              refine lv_aload_n hx hb dX5_advanceAll_28 rfl (lv_at hl 0 rfl) ?_
              refine lv_aload_n hx hb dX5_advanceAll_29 rfl (lv_at hl 0 rfl) ?_
              refine lv_iload_n hx hb dX5_advanceAll_30 rfl (lv_at hl 3 rfl) ?_
              refine lv_iload hx hb dX5_advanceAll_31 (lv_at hl 4 rfl) ?_
              refine hj_i (ws := (WL cy zL zT zR zI_213 zJ_214)) (w1 := fun (u : Unit) => (WL cy zL zT zR zI_213 zJ_214)) (va_runV (As := [.int zi_100, .int zi_212]) (rest := [.ref zk]) ⟨hx, hb, hml, hown, hts⟩ (t_X5_markOf l dC dI cy H.size zL zT zR zI_213 zJ_214 zk zi_100 zi_212 hs h_zI_213.1 t_zk (by omega) (by omega)) (cwV 2 hts gX5_advanceAll_X5_markOf rfl rfl rfl (by decide +kernel) ⟨(Nat.le_of_ble_eq_true rfl), (Nat.le_of_ble_eq_true rfl)⟩) (PRE.v hP hK hD hN (ht_recv hK hP hs t_zk (by decide) rfl rfl)) rfl rfl hl.1 rfl (lv_room (Nat.le_of_ble_eq_true rfl)) dX5_advanceAll_33 ⟨(Nat.le_of_ble_eq_true rfl), (Nat.le_of_ble_eq_true rfl)⟩) hP hD hS hA (fun zi_241 u_243 H locs hw_242 hP hD hS => ?_)
              have b_zi_241 : 0 ≤ zi_241.toInt ∧ zi_241.toInt ≤ 168 := hw_242
              refine hj_v (ws := (WL cy zL zT zR zI_213 zJ_214)) (w1 := fun (u : (Nat → Nat → Int64)) => (WL cy zL zT zR zI_213 u)) (va_runV (As := [.int zi_241]) (rest := []) ⟨hx, hb, hml, hown, hts⟩ (t_X5_lift l dC dI cy H.size zL zT zR zI_213 zJ_214 zk zi_241 hs h_zI_213.1 t_zk (by omega)) (cwV 1 hts gX5_advanceAll_X5_lift rfl rfl rfl (by decide +kernel) ⟨(Nat.le_of_ble_eq_true rfl), (Nat.le_of_ble_eq_true rfl)⟩) (PRE.v hP hK hD hN (ht_recv hK hP hs t_zk (by decide) rfl rfl)) rfl rfl hl.1 rfl (lv_room (Nat.le_of_ble_eq_true rfl)) dX5_advanceAll_36 ⟨(Nat.le_of_ble_eq_true rfl), (Nat.le_of_ble_eq_true rfl)⟩) hP hD hS hA (fun zJ_247 H locs hw_245 hP hD hS => ?_)
              refine lv_aload_n hx hb dX5_advanceAll_39 rfl (lv_at hl 0 rfl) ?_
              refine lv_iload_n hx hb dX5_advanceAll_40 rfl (lv_at hl 3 rfl) ?_
              refine lv_iload hx hb dX5_advanceAll_41 (lv_at hl 4 rfl) ?_
              refine lv_iload_n hx hb dX5_advanceAll_43 rfl (lv_at hl 2 rfl) ?_
              refine hj_v (ws := (WL cy zL zT zR zI_213 zJ_247)) (w1 := fun (u : (Nat → Nat → Int32)) => (WL cy zL zT zR u zJ_247)) (va_runV (As := [.int zi_100, .int zi_212, .int zip]) (rest := []) ⟨hx, hb, hml, hown, hts⟩ (t_X5_tellMarks l dC dI cy H.size zL zT zR zI_213 zJ_247 zk zi_100 zi_212 zip hs h_zI_213.1 t_zk (by omega) (by omega) (by omega)) (cwV 3 hts gX5_advanceAll_X5_tellMarks rfl rfl rfl (by decide +kernel) ⟨(Nat.le_of_ble_eq_true rfl), (Nat.le_of_ble_eq_true rfl)⟩) (PRE.v hP hK hD hN (ht_recv hK hP hs t_zk (by decide) rfl rfl)) rfl rfl hl.1 rfl (lv_room (Nat.le_of_ble_eq_true rfl)) dX5_advanceAll_44 ⟨(Nat.le_of_ble_eq_true rfl), (Nat.le_of_ble_eq_true rfl)⟩) hP hD hS hA (fun zI_251 H locs hw_249 hP hD hS => ?_)
              have k_zI_251 : WM [4400] AL zT zR zI_213 zI_251 := hw_249
              have h_zI_251 : WM [4400] AL zT zR zI zI_251 := h_zI_213.tr k_zI_251 (by decide) (fun _ _ => trivial)
              refine lv_aload_n hx hb dX5_advanceAll_47 rfl (lv_at hl 1 rfl) ?_
              refine lv_aload_n hx hb dX5_advanceAll_48 rfl (lv_at hl 0 rfl) ?_
              refine ht_getr (C := RX5) (T := TX5) (N := 9) hx hb hts (by decide +kernel) hown hK hP hs t_zk (by decide) rfl rfl 6 (by decide) (hts (.fieldLink RX5 32 "DripStone$Marks" "lifted" "[J") (by decide +kernel)) (fun _ h9 => h9) rfl dX5_advanceAll_49 ?_
              have t_252 : zT (zR zk 6) = 50 := sk_f hs t_zk (by decide) rfl (by decide)
              refine lv_aload_n hx hb dX5_advanceAll_52 rfl (lv_at hl 0 rfl) ?_
              refine ht_getr (C := RX5) (T := TX5) (N := 9) hx hb hts (by decide +kernel) hown hK hP hs t_zk (by decide) rfl rfl 5 (by decide) (hts (.fieldLink RX5 28 "DripStone$Marks" "blocks" "[J") (by decide +kernel)) (fun _ h9 => h9) rfl dX5_advanceAll_53 ?_
              have t_253 : zT (zR zk 5) = 52 := sk_f hs t_zk (by decide) rfl (by decide)
              refine lv_iload_n hx hb dX5_advanceAll_56 rfl (lv_at hl 2 rfl) ?_
              refine lv_aload_n hx hb dX5_advanceAll_57 rfl (lv_at hl 0 rfl) ?_
              refine ht_getr (C := RX5) (T := TX5) (N := 9) hx hb hts (by decide +kernel) hown hK hP hs t_zk (by decide) rfl rfl 4 (by decide) (hts (.fieldLink RX5 24 "DripStone$Marks" "into" "[I") (by decide +kernel)) (fun _ h9 => h9) rfl dX5_advanceAll_58 ?_
              have t_254 : zT (zR zk 4) = 44 := sk_f hs t_zk (by decide) rfl (by decide)
              have lk_255 : (zI_251 zw 14).toInt = zi_3.toInt := congrArg Int32.toInt ((k_zI_251.2 zw 14 (Or.inl (by rw [t_zw]; decide))).trans e_lp_237_0)
              refine hj_v (ws := (WL cy zL zT zR zI_251 zJ_247)) (w1 := fun (u : (Nat → Nat → Int64)) => (WL cy zL zT zR zI_251 u)) (va_runV (As := [.ref (zR zk 6), .ref (zR zk 5), .int zip, .ref (zR zk 4)]) (rest := []) ⟨hx, hb, hml, hown, hts⟩ (t_X9_advance_b l dC dI cy H.size zL zT zR zI_251 zJ_247 zw (zR zk 6) (zR zk 5) zip (zR zk 4) hs h_zI_251.1 t_zw t_252 t_253 t_254 (by omega) (by omega)) (cwV 4 hts gX5_advanceAll_X9_advance rfl rfl rfl (by decide +kernel) ⟨(Nat.le_of_ble_eq_true rfl), (Nat.le_of_ble_eq_true rfl)⟩) (PRE.v hP hK hD hN (ht_recv hK hP hs t_zw (by decide) rfl rfl)) rfl rfl hl.1 rfl (lv_room (Nat.le_of_ble_eq_true rfl)) dX5_advanceAll_61 ⟨(Nat.le_of_ble_eq_true rfl), (Nat.le_of_ble_eq_true rfl)⟩) hP hD hS hA (fun zJ_259 H locs hw_257 hP hD hS => ?_)
              obtain ⟨zi_260, ezi_260⟩ : ∃ y : Int32, y = zi_212 + (-1) := ⟨_, rfl⟩
              have tzi_260 : zi_260.toInt = zi_212.toInt + (-1) := by rw [ezi_260]; exact tadd rfl (show ((-1) : Int32).toInt = -1 by decide) (by omega) (by omega)
              refine lv_iinc (v := zi_260) (lv' := [(4, .int zi_260), (0, .ref zk), (1, .ref zw), (2, .int zip), (3, .int zi_100)]) hx hb dX5_advanceAll_64 hl (k := 4) rfl (by rw [ezi_260]; rfl) (by decide) rfl (fun ls hl => ?_)
              refine lv_goto (tgt := 23) hx hb dX5_advanceAll_67 (by decide) ?_
              exact ih_237 (zi_260.toInt + 1).toNat (by omega) zi_260 zI_251 zJ_259 _ _ _ rfl (by omega) h_zI_251 ((k_zI_251.2 zw 14 (Or.inl (by rw [t_zw]; decide))).trans e_lp_237_0) hP hD hS (lv_sub hl [1, 2, 3, 4, 0] rfl)
        exact lp_237 _ zi_211 zI_101 zJ_102 _ _ _ rfl (by omega) h_zI_101 e_lp_207_0 hP hD hS (lv_sub hl [1, 2, 3, 4, 0] rfl)
  exact lp_207 _ zi_2 zI zJ _ _ _ rfl (by omega) h_zI ezi_3.symm hP hD hS (lv_sub hl [1, 2, 3, 0] rfl)
set_option maxHeartbeats 8000000 in
set_option maxRecDepth 100000 in
theorem t_X5_sumSo (l : Launch) (dC : Nat → ClassId) (dI : Nat → Nat → Nat) (cy : Nat → ClassId) (sz : Nat) (zL : List Nat) (zT : Nat → Nat) (zR : Nat → Nat → Nat) (zI : Nat → Nat → Int32) (zJ : Nat → Nat → Int64) (zk : Nat) (zm : Nat) (hs : SKP zL zT zR) (hw : WT zT zR zI) (t_zk : zT zk = 6) (t_zm : zT zm = 2) : Met l yX5_sumSo wsX5_sumSo ({ frames := 1, cells := 0, slots := 0, locals := 24 } : Room) (va_Pc [.ref zk, .ref zm] (PRE dC dI cy (WL cy zL zT zR zI zJ) sz)) (va_Ql (fun (r : Int64) (u : Unit) => True) (fun u t => POST dC dI cy (va_A (WL cy zL zT zR zI zJ) sz) (WL cy zL zT zR zI zJ) t) (va_A (WL cy zL zT zR zI zJ) sz)) 0 0 (va_A (WL cy zL zT zR zI zJ) sz) := by
  refine Met.ofW (cc := cX5_sumSo) (maxL := 9) (ret := (some .long)) (by decide) rfl ?_
  intro p e s m args below meth c s₁ B hml hv
  obtain ⟨rfl, hsz, hP, hK, hD0, hN⟩ := hv
  have hx := B.exec
  have hb := B.bytes
  have hr := B.returns
  have hts := atoms_spec (ws := wsX5_sumSo) B.pre
  have hown : s.vm.findClass RX5 = some m.cls := findClass_of_methodNamed B.named
  have hlocks := B.notSynchronized
  subst hsz
  have hD := hD0.self (sz := s.heap.size)
  generalize hAe : va_A (WL cy zL zT zR zI zJ) s.heap.size = A at hD ⊢
  have hA : ∀ q : Nat, s.heap.size ≤ q → A q := fun q h => by rw [← hAe]; exact Or.inr h
  have hS : va_S A s.heap s.heap [] := va_S.rf
  have hP : va_P (dC, dI) vwCl (WL cy zL zT zR zI zJ) s.heap := hP
  have hl := lv_entry ([.ref zk, .ref zm] : List Value) (n := 9) (Nat.le_of_ble_eq_true rfl)
  rw [lg_entry_eq]
  generalize (lg_sl ([.ref zk, .ref zm] : List Value) ++ List.replicate (9 - (lg_sl ([.ref zk, .ref zm] : List Value)).length) Slot.unset).toArray = ls at hl ⊢
  have hl : lv_has ls 9 [(0, .ref zk), (1, .ref zm)] := hl
  refine w_q (fun Q hQ => ?_)
  have h_zI : WM [] AL zT zR zI zI := WM.rf hw
  refine lv_lconst (v := 0) hx hb dX5_sumSo_0 (by decide) ?_
  refine lv_lstore_n (lv' := [(2, .long 0), (0, .ref zk), (1, .ref zm)]) hx hb dX5_sumSo_1 rfl hl (by decide) rfl (fun ls hl => ?_)
  refine lv_iconst (v := 0) hx hb dX5_sumSo_2 (by decide) ?_
  refine lv_istore (lv' := [(4, .int 0), (2, .long 0), (0, .ref zk), (1, .ref zm)]) hx hb dX5_sumSo_3 hl (by decide) rfl (fun ls hl => ?_)
  have lp_790 : ∀ (n : Nat) (zj_684 : Int64) (zi_685 : Int32) (H : Heap) (locs : List Loc) (ls : Array Slot), (13 - zi_685.toInt).toNat = n → (0 ≤ zi_685.toInt ∧ zi_685.toInt ≤ 13) → va_P (dC, dI) vwCl (WL cy zL zT zR zI zJ) H → va_D A (WL cy zL zT zR zI zJ) → va_S A s.heap H locs → lv_has ls 9 [(0, .ref zk), (1, .ref zm), (2, .long zj_684), (4, .int zi_685)] → W p l e ({ frames := 1, cells := 0, slots := 0, locals := 24 } : Room) s m ([.ref zk, .ref zm] : List Value).toArray below meth c H locs 0 0 Q (F0 m 5 ls []) := by
    intro n
    induction n using Nat.strongRecOn with
    | _ n ih_790 =>
      intro zj_684 zi_685 H locs ls hn b_zi_685 hP hD hS hl
      refine lv_iload hx hb dX5_sumSo_5 (lv_at hl 3 rfl) ?_
      refine lv_aload_n hx hb dX5_sumSo_7 rfl (lv_at hl 0 rfl) ?_
      refine ht_geti (C := RX5) (T := TX5) (N := 9) hx hb hts (by decide +kernel) hown hK hP hs t_zk (by decide) rfl rfl 7 (by decide) (hts (.fieldLink RX5 45 "DripStone$Marks" "goal0" "I") (by decide +kernel)) (fun _ h9 => h9) rfl dX5_sumSo_8 ?_
      refine lv_topi (fun zi_791 ezi_791 => ?_)
      have tzi_791 : (-1) ≤ zi_791.toInt ∧ zi_791.toInt ≤ 12 := by rw [ezi_791]; exact h_zI.at t_zk _ rfl
      refine lv_icmp_gt (tgt := 95) hx hb dX5_sumSo_11 (by decide) (fun c_792 => ?_) (fun c_792 => ?_)
      · have f_793 : zi_685.toInt > zi_791.toInt := ic_gt (rfl) (rfl) c_792
        refine lv_lload_n hx hb dX5_sumSo_95 rfl (lv_at hl 2 rfl) ?_
        subst hQ
        exact W.lret (v := zj_684) hx hb hr (fun t ht hW => ⟨⟨zj_684, (), rfl, trivial, ⟨by rw [ht]; exact hP, va_K.moved hW.alike hK, hD⟩⟩, hS.F ht⟩) hS.2.2 dX5_sumSo_96
      · have f_793 : ¬ (zi_685.toInt > zi_791.toInt) := ic_ngt (rfl) (rfl) c_792
        refine lv_iconst (v := 0) hx hb dX5_sumSo_14 (by decide) ?_
        refine lv_istore (lv' := [(5, .int 0), (0, .ref zk), (1, .ref zm), (2, .long zj_684), (4, .int zi_685)]) hx hb dX5_sumSo_15 hl (by decide) rfl (fun ls hl => ?_)
        have lp_845 : ∀ (n : Nat) (zj_794 : Int64) (zi_795 : Int32) (H : Heap) (locs : List Loc) (ls : Array Slot), (13 - zi_795.toInt).toNat = n → (0 ≤ zi_795.toInt ∧ zi_795.toInt ≤ 13) → va_P (dC, dI) vwCl (WL cy zL zT zR zI zJ) H → va_D A (WL cy zL zT zR zI zJ) → va_S A s.heap H locs → lv_has ls 9 [(0, .ref zk), (1, .ref zm), (2, .long zj_794), (4, .int zi_685), (5, .int zi_795)] → W p l e ({ frames := 1, cells := 0, slots := 0, locals := 24 } : Room) s m ([.ref zk, .ref zm] : List Value).toArray below meth c H locs 0 0 Q (F0 m 17 ls []) := by
          intro n
          induction n using Nat.strongRecOn with
          | _ n ih_845 =>
            intro zj_794 zi_795 H locs ls hn b_zi_795 hP hD hS hl
            refine lv_iload hx hb dX5_sumSo_17 (lv_at hl 4 rfl) ?_
            refine lv_aload_n hx hb dX5_sumSo_19 rfl (lv_at hl 0 rfl) ?_
            refine ht_geti (C := RX5) (T := TX5) (N := 9) hx hb hts (by decide +kernel) hown hK hP hs t_zk (by decide) rfl rfl 8 (by decide) (hts (.fieldLink RX5 48 "DripStone$Marks" "goal1" "I") (by decide +kernel)) (fun _ h9 => h9) rfl dX5_sumSo_20 ?_
            refine lv_topi (fun zi_846 ezi_846 => ?_)
            have tzi_846 : (-1) ≤ zi_846.toInt ∧ zi_846.toInt ≤ 12 := by rw [ezi_846]; exact h_zI.at t_zk _ rfl
            refine lv_icmp_gt (tgt := 89) hx hb dX5_sumSo_23 (by decide) (fun c_847 => ?_) (fun c_847 => ?_)
            · have f_848 : zi_795.toInt > zi_846.toInt := ic_gt (rfl) (rfl) c_847
              obtain ⟨zi_849, ezi_849⟩ : ∃ y : Int32, y = zi_685 + 1 := ⟨_, rfl⟩
              have tzi_849 : zi_849.toInt = zi_685.toInt + 1 := by rw [ezi_849]; exact tadd rfl (show (1 : Int32).toInt = 1 by decide) (by omega) (by omega)
              refine lv_iinc (v := zi_849) (lv' := [(4, .int zi_849), (0, .ref zk), (1, .ref zm), (2, .long zj_794), (5, .int zi_795)]) hx hb dX5_sumSo_89 hl (k := 3) rfl (by rw [ezi_849]; rfl) (by decide) rfl (fun ls hl => ?_)
              refine lv_goto (tgt := 5) hx hb dX5_sumSo_92 (by decide) ?_
              exact ih_790 (13 - zi_849.toInt).toNat (by omega) zj_794 zi_849 _ _ _ rfl (by omega) hP hD hS (lv_sub hl [1, 2, 3, 0] rfl)
            · have f_848 : ¬ (zi_795.toInt > zi_846.toInt) := ic_ngt (rfl) (rfl) c_847
              refine lv_aload_n hx hb dX5_sumSo_26 rfl (lv_at hl 0 rfl) ?_
              refine lv_iload hx hb dX5_sumSo_27 (lv_at hl 3 rfl) ?_
              refine lv_iload hx hb dX5_sumSo_29 (lv_at hl 4 rfl) ?_
              refine hj_i (ws := (WL cy zL zT zR zI zJ)) (w1 := fun (u : Unit) => (WL cy zL zT zR zI zJ)) (va_runV (As := [.int zi_685, .int zi_795]) (rest := []) ⟨hx, hb, hml, hown, hts⟩ (t_X5_markOf l dC dI cy H.size zL zT zR zI zJ zk zi_685 zi_795 hs h_zI.1 t_zk (by omega) (by omega)) (cwV 2 hts gX5_sumSo_X5_markOf rfl rfl rfl (by decide +kernel) ⟨(Nat.le_of_ble_eq_true rfl), (Nat.le_of_ble_eq_true rfl)⟩) (PRE.v hP hK hD hN (ht_recv hK hP hs t_zk (by decide) rfl rfl)) rfl rfl hl.1 rfl (lv_room (Nat.le_of_ble_eq_true rfl)) dX5_sumSo_31 ⟨(Nat.le_of_ble_eq_true rfl), (Nat.le_of_ble_eq_true rfl)⟩) hP hD hS hA (fun zi_850 u_852 H locs hw_851 hP hD hS => ?_)
              have b_zi_850 : 0 ≤ zi_850.toInt ∧ zi_850.toInt ≤ 168 := hw_851
              refine lv_bipush (v := 96) hx hb dX5_sumSo_34 (by decide) ?_
              refine lv_imul hx hb dX5_sumSo_36 ?_
              refine lv_topi (fun zi_853 ezi_853 => ?_)
              have tzi_853 : zi_853.toInt = zi_850.toInt * (96 : Int) := by rw [ezi_853]; exact timul (rfl) (show (96 : Int32).toInt = 96 by decide) (by omega) (by omega)
              refine lv_istore (lv' := [(6, .int zi_853), (0, .ref zk), (1, .ref zm), (2, .long zj_794), (4, .int zi_685), (5, .int zi_795)]) hx hb dX5_sumSo_37 hl (by decide) rfl (fun ls hl => ?_)
              refine lv_aload_n hx hb dX5_sumSo_39 rfl (lv_at hl 2 rfl) ?_
              refine lv_iload hx hb dX5_sumSo_40 (lv_at hl 4 rfl) ?_
              refine lv_iload hx hb dX5_sumSo_42 (lv_at hl 5 rfl) ?_
              refine hj_i (ws := (WL cy zL zT zR zI zJ)) (w1 := fun (u : Unit) => (WL cy zL zT zR zI zJ)) (va_runV (As := [.int zi_685, .int zi_795]) (rest := []) ⟨hx, hb, hml, hown, hts⟩ (t_X1_isSo l dC dI cy H.size zL zT zR zI zJ zm zi_685 zi_795 hs h_zI.1 t_zm) (cwV 2 hts gX5_sumSo_X1_isSo rfl rfl rfl (by decide +kernel) ⟨(Nat.le_of_ble_eq_true rfl), (Nat.le_of_ble_eq_true rfl)⟩) (PRE.v hP hK hD hN (ht_recv hK hP hs t_zm (by decide) rfl rfl)) rfl rfl hl.1 rfl (lv_room (Nat.le_of_ble_eq_true rfl)) dX5_sumSo_44 ⟨(Nat.le_of_ble_eq_true rfl), (Nat.le_of_ble_eq_true rfl)⟩) hP hD hS hA (fun zi_854 u_856 H locs hw_855 hP hD hS => ?_)
              have b_zi_854 : 0 ≤ zi_854.toInt ∧ zi_854.toInt ≤ 1 := hw_855
              refine lv_istore (lv' := [(7, .int zi_854), (6, .int zi_853), (0, .ref zk), (1, .ref zm), (2, .long zj_794), (4, .int zi_685), (5, .int zi_795)]) hx hb dX5_sumSo_47 hl (by decide) rfl (fun ls hl => ?_)
              refine lv_iconst (v := 0) hx hb dX5_sumSo_49 (by decide) ?_
              refine lv_istore (lv' := [(8, .int 0), (7, .int zi_854), (6, .int zi_853), (0, .ref zk), (1, .ref zm), (2, .long zj_794), (4, .int zi_685), (5, .int zi_795)]) hx hb dX5_sumSo_50 hl (by decide) rfl (fun ls hl => ?_)
              have lp_877 : ∀ (n : Nat) (zj_857 : Int64) (zi_858 : Int32) (H : Heap) (locs : List Loc) (ls : Array Slot), (96 - zi_858.toInt).toNat = n → (0 ≤ zi_858.toInt ∧ zi_858.toInt ≤ 96) → va_P (dC, dI) vwCl (WL cy zL zT zR zI zJ) H → va_D A (WL cy zL zT zR zI zJ) → va_S A s.heap H locs → lv_has ls 9 [(0, .ref zk), (1, .ref zm), (2, .long zj_857), (4, .int zi_685), (5, .int zi_795), (6, .int zi_853), (7, .int zi_854), (8, .int zi_858)] → W p l e ({ frames := 1, cells := 0, slots := 0, locals := 24 } : Room) s m ([.ref zk, .ref zm] : List Value).toArray below meth c H locs 0 0 Q (F0 m 52 ls []) := by
                intro n
                induction n using Nat.strongRecOn with
                | _ n ih_877 =>
                  intro zj_857 zi_858 H locs ls hn b_zi_858 hP hD hS hl
                  refine lv_iload hx hb dX5_sumSo_52 (lv_at hl 7 rfl) ?_
                  refine lv_bipush (v := 96) hx hb dX5_sumSo_54 (by decide) ?_
                  have jn_887 : ∀  (H : Heap) (locs : List Loc) (ls : Array Slot), va_P (dC, dI) vwCl (WL cy zL zT zR zI zJ) H → va_D A (WL cy zL zT zR zI zJ) → va_S A s.heap H locs → lv_has ls 9 [(0, .ref zk), (1, .ref zm), (2, .long zj_857), (4, .int zi_685), (5, .int zi_795), (6, .int zi_853), (7, .int zi_854), (8, .int zi_858)] → W p l e ({ frames := 1, cells := 0, slots := 0, locals := 24 } : Room) s m ([.ref zk, .ref zm] : List Value).toArray below meth c H locs 0 0 Q (F0 m 83 ls []) := by
                    intro  H locs ls  hP hD hS hl
                    obtain ⟨zi_888, ezi_888⟩ : ∃ y : Int32, y = zi_795 + 1 := ⟨_, rfl⟩
                    have tzi_888 : zi_888.toInt = zi_795.toInt + 1 := by rw [ezi_888]; exact tadd rfl (show (1 : Int32).toInt = 1 by decide) (by omega) (by omega)
                    refine lv_iinc (v := zi_888) (lv' := [(5, .int zi_888), (0, .ref zk), (1, .ref zm), (2, .long zj_857), (4, .int zi_685), (6, .int zi_853), (7, .int zi_854), (8, .int zi_858)]) hx hb dX5_sumSo_83 hl (k := 4) rfl (by rw [ezi_888]; rfl) (by decide) rfl (fun ls hl => ?_)
                    refine lv_goto (tgt := 17) hx hb dX5_sumSo_86 (by decide) ?_
                    exact ih_845 (13 - zi_888.toInt).toNat (by omega) zj_857 zi_888 _ _ _ rfl (by omega) hP hD hS (lv_sub hl [1, 2, 3, 4, 0] rfl)
                  refine lv_icmp_ge (tgt := 83) hx hb dX5_sumSo_56 (by decide) (fun c_889 => ?_) (fun c_889 => ?_)
                  · have f_890 : zi_858.toInt ≥ (96 : Int) := ic_ge (rfl) (show (96 : Int32).toInt = 96 by decide) c_889
                    exact jn_887  _ _ _  hP hD hS (lv_sub hl [0, 1, 2, 3, 4, 5, 6, 7] rfl)
                  · have f_890 : ¬ (zi_858.toInt ≥ (96 : Int)) := ic_nge (rfl) (show (96 : Int32).toInt = 96 by decide) c_889
                    refine lv_iload hx hb dX5_sumSo_59 (lv_at hl 6 rfl) ?_
                    refine lv_if_eq (tgt := 83) hx hb dX5_sumSo_61 (by decide) (fun c_891 => ?_) (fun c_891 => ?_)
                    · have f_892 : zi_854.toInt = 0 := ic_eq (rfl) (by decide) c_891
                      exact jn_887  _ _ _  hP hD hS (lv_sub hl [0, 1, 2, 3, 4, 5, 6, 7] rfl)
                    · have f_892 : ¬ (zi_854.toInt = 0) := ic_neq (rfl) (by decide) c_891
                      refine lv_lload_n hx hb dX5_sumSo_64 rfl (lv_at hl 2 rfl) ?_
                      refine lv_aload_n hx hb dX5_sumSo_65 rfl (lv_at hl 0 rfl) ?_
                      refine ht_getr (C := RX5) (T := TX5) (N := 9) hx hb hts (by decide +kernel) hown hK hP hs t_zk (by decide) rfl rfl 5 (by decide) (hts (.fieldLink RX5 28 "DripStone$Marks" "blocks" "[J") (by decide +kernel)) (fun _ h9 => h9) rfl dX5_sumSo_66 ?_
                      have t_893 : zT (zR zk 5) = 52 := sk_f hs t_zk (by decide) rfl (by decide)
                      refine lv_iload hx hb dX5_sumSo_69 (lv_at hl 5 rfl) ?_
                      refine lv_iload hx hb dX5_sumSo_71 (lv_at hl 7 rfl) ?_
                      refine lv_iadd hx hb dX5_sumSo_73 ?_
                      refine lv_topi (fun zi_894 ezi_894 => ?_)
                      have tzi_894 : zi_894.toInt = zi_853.toInt + zi_858.toInt := by rw [ezi_894]; exact tiadd (rfl) (rfl) (by omega) (by omega)
                      refine ht_lald (n := 16224) (q := 1) hx hb hK hP hs t_893 (by decide) rfl rfl ⟨by omega, by omega⟩ dX5_sumSo_74 ?_
                      refine lv_topl (fun zj_895 ezj_895 => ?_)
                      refine lv_ladd hx hb dX5_sumSo_75 ?_
                      refine lv_topl (fun zj_896 ezj_896 => ?_)
                      refine lv_lstore_n (lv' := [(2, .long zj_896), (0, .ref zk), (1, .ref zm), (4, .int zi_685), (5, .int zi_795), (6, .int zi_853), (7, .int zi_854), (8, .int zi_858)]) hx hb dX5_sumSo_76 rfl hl (by decide) rfl (fun ls hl => ?_)
                      obtain ⟨zi_897, ezi_897⟩ : ∃ y : Int32, y = zi_858 + 1 := ⟨_, rfl⟩
                      have tzi_897 : zi_897.toInt = zi_858.toInt + 1 := by rw [ezi_897]; exact tadd rfl (show (1 : Int32).toInt = 1 by decide) (by omega) (by omega)
                      refine lv_iinc (v := zi_897) (lv' := [(8, .int zi_897), (2, .long zj_896), (0, .ref zk), (1, .ref zm), (4, .int zi_685), (5, .int zi_795), (6, .int zi_853), (7, .int zi_854)]) hx hb dX5_sumSo_77 hl (k := 7) rfl (by rw [ezi_897]; rfl) (by decide) rfl (fun ls hl => ?_)
                      refine lv_goto (tgt := 52) hx hb dX5_sumSo_80 (by decide) ?_
                      exact ih_877 (96 - zi_897.toInt).toNat (by omega) zj_896 zi_897 _ _ _ rfl (by omega) hP hD hS (lv_sub hl [2, 3, 1, 4, 5, 6, 7, 0] rfl)
              exact lp_877 _ zj_794 (0 : Int32) _ _ _ rfl (by decide) hP hD hS (lv_sub hl [3, 4, 5, 6, 7, 2, 1, 0] rfl)
        exact lp_845 _ zj_684 (0 : Int32) _ _ _ rfl (by decide) hP hD hS (lv_sub hl [1, 2, 3, 4, 0] rfl)
  exact lp_790 _ (0 : Int64) (0 : Int32) _ _ _ rfl (by decide) hP hD hS (lv_sub hl [2, 3, 1, 0] rfl)
set_option maxHeartbeats 8000000 in
set_option maxRecDepth 100000 in
theorem t_X5_waysSo (l : Launch) (dC : Nat → ClassId) (dI : Nat → Nat → Nat) (cy : Nat → ClassId) (sz : Nat) (zL : List Nat) (zT : Nat → Nat) (zR : Nat → Nat → Nat) (zI : Nat → Nat → Int32) (zJ : Nat → Nat → Int64) (zk : Nat) (zw : Nat) (zc : Nat) (zm : Nat) (zis : Int32) (hs : SKP zL zT zR) (hw : WT zT zR zI) (t_zk : zT zk = 6) (t_zw : zT zw = 10) (t_zc : zT zc = 1) (t_zm : zT zm = 2) : Met l yX5_waysSo wsX5_waysSo ({ frames := 4, cells := 0, slots := 0, locals := 97 } : Room) (va_Pc [.ref zk, .ref zw, .ref zc, .ref zm, .int zis] (PRE dC dI cy (WL cy zL zT zR zI zJ) sz)) (va_Ql (fun (r : Int64) (u : (Nat → Nat → Int32) × (Nat → Nat → Int64)) => (WM [607, 608, 4400, 4500, 4600] AL zT zR zI u.1)) (fun u t => POST dC dI cy (va_A (WL cy zL zT zR zI zJ) sz) (WL cy zL zT zR u.1 u.2) t) (va_A (WL cy zL zT zR zI zJ) sz)) 0 0 (va_A (WL cy zL zT zR zI zJ) sz) := by
  refine Met.ofW (cc := cX5_waysSo) (maxL := 6) (ret := (some .long)) (by decide) rfl ?_
  intro p e s m args below meth c s₁ B hml hv
  obtain ⟨rfl, hsz, hP, hK, hD0, hN⟩ := hv
  have hx := B.exec
  have hb := B.bytes
  have hr := B.returns
  have hts := atoms_spec (ws := wsX5_waysSo) B.pre
  have hown : s.vm.findClass RX5 = some m.cls := findClass_of_methodNamed B.named
  have hlocks := B.notSynchronized
  subst hsz
  have hD := hD0.self (sz := s.heap.size)
  generalize hAe : va_A (WL cy zL zT zR zI zJ) s.heap.size = A at hD ⊢
  have hA : ∀ q : Nat, s.heap.size ≤ q → A q := fun q h => by rw [← hAe]; exact Or.inr h
  have hS : va_S A s.heap s.heap [] := va_S.rf
  have hP : va_P (dC, dI) vwCl (WL cy zL zT zR zI zJ) s.heap := hP
  have hl := lv_entry ([.ref zk, .ref zw, .ref zc, .ref zm, .int zis] : List Value) (n := 6) (Nat.le_of_ble_eq_true rfl)
  rw [lg_entry_eq]
  generalize (lg_sl ([.ref zk, .ref zw, .ref zc, .ref zm, .int zis] : List Value) ++ List.replicate (6 - (lg_sl ([.ref zk, .ref zw, .ref zc, .ref zm, .int zis] : List Value)).length) Slot.unset).toArray = ls at hl ⊢
  have hl : lv_has ls 6 [(0, .ref zk), (1, .ref zw), (2, .ref zc), (3, .ref zm), (4, .int zis)] := hl
  refine w_q (fun Q hQ => ?_)
  have h_zI : WM [607, 608, 4400, 4500, 4600] AL zT zR zI zI := WM.rf hw
  refine lv_aload_n hx hb dX5_waysSo_0 rfl (lv_at hl 1 rfl) ?_
  refine ht_geti (C := RX9) (T := TX9) (N := 16) hx hb hts (by decide +kernel) hown hK hP hs t_zw (by decide) rfl rfl 14 (by decide) (hts (.fieldLink RX5 35 "DripStone$Ways" "places" "I") (by decide +kernel)) (fun _ h9 => h9) rfl dX5_waysSo_1 ?_
  refine lv_topi (fun zi_1 ezi_1 => ?_)
  have tzi_1 : 0 ≤ zi_1.toInt ∧ zi_1.toInt ≤ 12 := by rw [ezi_1]; exact h_zI.at t_zw _ rfl
  have lzi_1 : (zI zw 14).toInt = zi_1.toInt := by rw [ezi_1]
  refine lv_if_ne (tgt := 9) hx hb dX5_waysSo_4 (by decide) (fun c_2 => ?_) (fun c_2 => ?_)
  · have f_3 : zi_1.toInt ≠ 0 := ic_ne (rfl) (by decide) c_2
    refine lv_aload_n hx hb dX5_waysSo_9 rfl (lv_at hl 0 rfl) ?_
    refine lv_aload_n hx hb dX5_waysSo_10 rfl (lv_at hl 1 rfl) ?_
    refine lv_aload_n hx hb dX5_waysSo_11 rfl (lv_at hl 2 rfl) ?_
    refine lv_aload_n hx hb dX5_waysSo_12 rfl (lv_at hl 3 rfl) ?_
    refine lv_iload hx hb dX5_waysSo_13 (lv_at hl 4 rfl) ?_
    refine hj_v (ws := (WL cy zL zT zR zI zJ)) (w1 := fun (u : (Nat → Nat → Int32)) => (WL cy zL zT zR u zJ)) (va_runV (As := [.ref zw, .ref zc, .ref zm, .int zis]) (rest := []) ⟨hx, hb, hml, hown, hts⟩ (t_X5_ask l dC dI cy s.heap.size zL zT zR zI zJ zk zw zc zm zis hs h_zI.1 t_zk t_zw t_zc t_zm) (cwV 4 hts gX5_waysSo_X5_ask rfl rfl rfl (by decide +kernel) ⟨(Nat.le_of_ble_eq_true rfl), (Nat.le_of_ble_eq_true rfl)⟩) (PRE.v hP hK hD hN (ht_recv hK hP hs t_zk (by decide) rfl rfl)) rfl rfl hl.1 rfl (lv_room (Nat.le_of_ble_eq_true rfl)) dX5_waysSo_15 ⟨(Nat.le_of_ble_eq_true rfl), (Nat.le_of_ble_eq_true rfl)⟩) hP hD hS hA (fun zI_7 H locs hw_5 hP hD hS => ?_)
    have k_zI_7 : WM [607, 608, 4500, 4600] AL zT zR zI zI_7 := hw_5
    have h_zI_7 : WM [607, 608, 4400, 4500, 4600] AL zT zR zI zI_7 := h_zI.tr k_zI_7 (by decide) (fun _ _ => trivial)
    refine lv_aload_n hx hb dX5_waysSo_18 rfl (lv_at hl 0 rfl) ?_
    refine ht_getr (C := RX5) (T := TX5) (N := 9) hx hb hts (by decide +kernel) hown hK hP hs t_zk (by decide) rfl rfl 5 (by decide) (hts (.fieldLink RX5 28 "DripStone$Marks" "blocks" "[J") (by decide +kernel)) (fun _ h9 => h9) rfl dX5_waysSo_19 ?_
    have t_8 : zT (zR zk 5) = 52 := sk_f hs t_zk (by decide) rfl (by decide)
    refine lv_iconst (v := 0) hx hb dX5_waysSo_22 (by decide) ?_
    refine lv_aload_n hx hb dX5_waysSo_23 rfl (lv_at hl 0 rfl) ?_
    refine ht_geti (C := RX5) (T := TX5) (N := 9) hx hb hts (by decide +kernel) hown hK hP hs t_zk (by decide) rfl rfl 7 (by decide) (hts (.fieldLink RX5 45 "DripStone$Marks" "goal0" "I") (by decide +kernel)) (fun _ h9 => h9) rfl dX5_waysSo_24 ?_
    refine lv_topi (fun zi_9 ezi_9 => ?_)
    have tzi_9 : (-1) ≤ zi_9.toInt ∧ zi_9.toInt ≤ 12 := by rw [ezi_9]; exact h_zI_7.at t_zk _ rfl
    refine lv_iconst (v := 1) hx hb dX5_waysSo_27 (by decide) ?_
    refine lv_iadd hx hb dX5_waysSo_28 ?_
    refine lv_topi (fun zi_10 ezi_10 => ?_)
    have tzi_10 : zi_10.toInt = zi_9.toInt + (1 : Int) := by rw [ezi_10]; exact tiadd (rfl) (show (1 : Int32).toInt = 1 by decide) (by omega) (by omega)
    refine lv_aload_n hx hb dX5_waysSo_29 rfl (lv_at hl 0 rfl) ?_
    refine ht_geti (C := RX5) (T := TX5) (N := 9) hx hb hts (by decide +kernel) hown hK hP hs t_zk (by decide) rfl rfl 8 (by decide) (hts (.fieldLink RX5 48 "DripStone$Marks" "goal1" "I") (by decide +kernel)) (fun _ h9 => h9) rfl dX5_waysSo_30 ?_
    refine lv_topi (fun zi_11 ezi_11 => ?_)
    have tzi_11 : (-1) ≤ zi_11.toInt ∧ zi_11.toInt ≤ 12 := by rw [ezi_11]; exact h_zI_7.at t_zk _ rfl
    refine lv_iconst (v := 1) hx hb dX5_waysSo_33 (by decide) ?_
    refine lv_iadd hx hb dX5_waysSo_34 ?_
    refine lv_topi (fun zi_12 ezi_12 => ?_)
    have tzi_12 : zi_12.toInt = zi_11.toInt + (1 : Int) := by rw [ezi_12]; exact tiadd (rfl) (show (1 : Int32).toInt = 1 by decide) (by omega) (by omega)
    refine lv_imul hx hb dX5_waysSo_35 ?_
    refine lv_topi (fun zi_13 ezi_13 => ?_)
    have tzi_13 : 0 ≤ zi_13.toInt ∧ zi_13.toInt ≤ 169 := by rw [ezi_13]; exact mulb (B := 13) (D := 13) (by omega) (by omega) (by decide) (by decide)
    refine lv_bipush (v := 96) hx hb dX5_waysSo_36 (by decide) ?_
    refine lv_imul hx hb dX5_waysSo_38 ?_
    refine lv_topi (fun zi_14 ezi_14 => ?_)
    have tzi_14 : zi_14.toInt = zi_13.toInt * (96 : Int) := by rw [ezi_14]; exact timul (rfl) (show (96 : Int32).toInt = 96 by decide) (by omega) (by omega)
    refine lv_lconst (v := 0) hx hb dX5_waysSo_39 (by decide) ?_
    have qc_0 : (0 : Int32).toInt = 0 := by decide
    refine hj_v (ws := (WL cy zL zT zR zI_7 zJ)) (w1 := fun (u : (Nat → Nat → Int64)) => (WL cy zL zT zR zI_7 u)) (va_runS (As := [.ref (zR zk 5), .int 0, .int zi_14, .long 0]) (rest := []) ⟨hx, hb, hml, hown, hts⟩ (t_J7_fill_bad5a l dC dI cy H.size zL zT zR zI_7 zJ (zR zk 5) (0 : Int32) zi_14 (0 : Int64) hs h_zI_7.1 t_8 (by decide) (by omega) (by omega)) (va_cwS 4 hts gX5_waysSo_J7_fill_bad5a rfl rfl rfl (by decide +kernel) ⟨(Nat.le_of_ble_eq_true rfl), (Nat.le_of_ble_eq_true rfl)⟩) (PRE.s hP hK hD hN) rfl rfl hl.1 rfl (lv_room (Nat.le_of_ble_eq_true rfl)) dX5_waysSo_40 ⟨(Nat.le_of_ble_eq_true rfl), (Nat.le_of_ble_eq_true rfl)⟩) hP hD hS hA (fun zJ_18 H locs hw_16 hP hD hS => ?_)
    refine lv_aload_n hx hb dX5_waysSo_43 rfl (lv_at hl 0 rfl) ?_
    refine lv_iconst (v := 0) hx hb dX5_waysSo_44 (by decide) ?_
    refine lv_iconst (v := 0) hx hb dX5_waysSo_45 (by decide) ?_
    refine lv_iconst (v := 0) hx hb dX5_waysSo_46 (by decide) ?_
    refine hj_v (ws := (WL cy zL zT zR zI_7 zJ_18)) (w1 := fun (u : (Nat → Nat → Int32)) => (WL cy zL zT zR u zJ_18)) (va_runV (As := [.int 0, .int 0, .int 0]) (rest := []) ⟨hx, hb, hml, hown, hts⟩ (t_X5_tellMarks l dC dI cy H.size zL zT zR zI_7 zJ_18 zk (0 : Int32) (0 : Int32) (0 : Int32) hs h_zI_7.1 t_zk (by decide) (by decide) (by decide)) (cwV 3 hts gX5_waysSo_X5_tellMarks rfl rfl rfl (by decide +kernel) ⟨(Nat.le_of_ble_eq_true rfl), (Nat.le_of_ble_eq_true rfl)⟩) (PRE.v hP hK hD hN (ht_recv hK hP hs t_zk (by decide) rfl rfl)) rfl rfl hl.1 rfl (lv_room (Nat.le_of_ble_eq_true rfl)) dX5_waysSo_47 ⟨(Nat.le_of_ble_eq_true rfl), (Nat.le_of_ble_eq_true rfl)⟩) hP hD hS hA (fun zI_22 H locs hw_20 hP hD hS => ?_)
    have k_zI_22 : WM [4400] AL zT zR zI_7 zI_22 := hw_20
    have h_zI_22 : WM [607, 608, 4400, 4500, 4600] AL zT zR zI zI_22 := h_zI_7.tr k_zI_22 (by decide) (fun _ _ => trivial)
    refine lv_aload_n hx hb dX5_waysSo_50 rfl (lv_at hl 1 rfl) ?_
    refine lv_aload_n hx hb dX5_waysSo_51 rfl (lv_at hl 0 rfl) ?_
    refine ht_getr (C := RX5) (T := TX5) (N := 9) hx hb hts (by decide +kernel) hown hK hP hs t_zk (by decide) rfl rfl 5 (by decide) (hts (.fieldLink RX5 28 "DripStone$Marks" "blocks" "[J") (by decide +kernel)) (fun _ h9 => h9) rfl dX5_waysSo_52 ?_
    refine lv_aload_n hx hb dX5_waysSo_55 rfl (lv_at hl 0 rfl) ?_
    refine ht_getr (C := RX5) (T := TX5) (N := 9) hx hb hts (by decide +kernel) hown hK hP hs t_zk (by decide) rfl rfl 4 (by decide) (hts (.fieldLink RX5 24 "DripStone$Marks" "into" "[I") (by decide +kernel)) (fun _ h9 => h9) rfl dX5_waysSo_56 ?_
    have t_23 : zT (zR zk 4) = 44 := sk_f hs t_zk (by decide) rfl (by decide)
    refine hj_v (ws := (WL cy zL zT zR zI_22 zJ_18)) (w1 := fun (u : (Nat → Nat → Int64)) => (WL cy zL zT zR zI_22 u)) (va_runV (As := [.ref (zR zk 5), .ref (zR zk 4)]) (rest := []) ⟨hx, hb, hml, hown, hts⟩ (t_X9_start_b l dC dI cy H.size zL zT zR zI_22 zJ_18 zw (zR zk 5) (zR zk 4) hs h_zI_22.1 t_zw t_8 t_23) (cwV 2 hts gX5_waysSo_X9_start rfl rfl rfl (by decide +kernel) ⟨(Nat.le_of_ble_eq_true rfl), (Nat.le_of_ble_eq_true rfl)⟩) (PRE.v hP hK hD hN (ht_recv hK hP hs t_zw (by decide) rfl rfl)) rfl rfl hl.1 rfl (lv_room (Nat.le_of_ble_eq_true rfl)) dX5_waysSo_59 ⟨(Nat.le_of_ble_eq_true rfl), (Nat.le_of_ble_eq_true rfl)⟩) hP hD hS hA (fun zJ_27 H locs hw_25 hP hD hS => ?_)
    refine lv_iconst (v := 1) hx hb dX5_waysSo_62 (by decide) ?_
    refine lv_istore (lv' := [(5, .int 1), (0, .ref zk), (1, .ref zw), (2, .ref zc), (3, .ref zm), (4, .int zis)]) hx hb dX5_waysSo_63 hl (by decide) rfl (fun ls hl => ?_)
    have lp_86 : ∀ (n : Nat) (zi_73 : Int32) (zI_74 : Nat → Nat → Int32) (zJ_75 : Nat → Nat → Int64) (H : Heap) (locs : List Loc) (ls : Array Slot), (12 - zi_73.toInt).toNat = n → (1 ≤ zi_73.toInt ∧ zi_73.toInt ≤ 12) → (WM [607, 608, 4400, 4500, 4600] AL zT zR zI zI_74) → (zI_74 zw 14 = zi_1) → va_P (dC, dI) vwCl (WL cy zL zT zR zI_74 zJ_75) H → va_D A (WL cy zL zT zR zI_74 zJ_75) → va_S A s.heap H locs → lv_has ls 6 [(0, .ref zk), (1, .ref zw), (2, .ref zc), (3, .ref zm), (4, .int zis), (5, .int zi_73)] → W p l e ({ frames := 4, cells := 0, slots := 0, locals := 97 } : Room) s m ([.ref zk, .ref zw, .ref zc, .ref zm, .int zis] : List Value).toArray below meth c H locs 0 0 Q (F0 m 65 ls []) := by
      intro n
      induction n using Nat.strongRecOn with
      | _ n ih_86 =>
        intro zi_73 zI_74 zJ_75 H locs ls hn b_zi_73 h_zI_74 e_lp_86_0 hP hD hS hl
        refine lv_iload hx hb dX5_waysSo_65 (lv_at hl 5 rfl) ?_
        refine lv_aload_n hx hb dX5_waysSo_67 rfl (lv_at hl 1 rfl) ?_
        refine ht_geti (C := RX9) (T := TX9) (N := 16) hx hb hts (by decide +kernel) hown hK hP hs t_zw (by decide) rfl rfl 14 (by decide) (hts (.fieldLink RX5 35 "DripStone$Ways" "places" "I") (by decide +kernel)) (fun _ h9 => h9) rfl dX5_waysSo_68 ?_
        refine lv_topi (fun zi_87 ezi_87 => ?_)
        obtain rfl : zi_1 = zi_87 := (ezi_87.trans e_lp_86_0).symm
        refine lv_icmp_ge (tgt := 87) hx hb dX5_waysSo_71 (by decide) (fun c_88 => ?_) (fun c_88 => ?_)
        · have f_89 : zi_73.toInt ≥ zi_1.toInt := ic_ge (rfl) (rfl) c_88
          refine lv_aload_n hx hb dX5_waysSo_87 rfl (lv_at hl 0 rfl) ?_
          refine lv_aload_n hx hb dX5_waysSo_88 rfl (lv_at hl 3 rfl) ?_
          refine hj_l (ws := (WL cy zL zT zR zI_74 zJ_75)) (w1 := fun (u : Unit) => (WL cy zL zT zR zI_74 zJ_75)) (va_runV (As := [.ref zm]) (rest := []) ⟨hx, hb, hml, hown, hts⟩ (t_X5_sumSo l dC dI cy H.size zL zT zR zI_74 zJ_75 zk zm hs h_zI_74.1 t_zk t_zm) (cwV 1 hts gX5_waysSo_X5_sumSo rfl rfl rfl (by decide +kernel) ⟨(Nat.le_of_ble_eq_true rfl), (Nat.le_of_ble_eq_true rfl)⟩) (PRE.v hP hK hD hN (ht_recv hK hP hs t_zk (by decide) rfl rfl)) rfl rfl hl.1 rfl (lv_room (Nat.le_of_ble_eq_true rfl)) dX5_waysSo_89 ⟨(Nat.le_of_ble_eq_true rfl), (Nat.le_of_ble_eq_true rfl)⟩) hP hD hS hA (fun zj_90 u_92 H locs hw_91 hP hD hS => ?_)
          subst hQ
          exact W.lret (v := zj_90) hx hb hr (fun t ht hW => ⟨⟨zj_90, (zI_74, zJ_75), rfl, h_zI_74, ⟨by rw [ht]; exact hP, va_K.moved hW.alike hK, hD⟩⟩, hS.F ht⟩) hS.2.2 dX5_waysSo_92
        · have f_89 : ¬ (zi_73.toInt ≥ zi_1.toInt) := ic_nge (rfl) (rfl) c_88
          refine lv_aload_n hx hb dX5_waysSo_74 rfl (lv_at hl 0 rfl) ?_
          refine lv_aload_n hx hb dX5_waysSo_75 rfl (lv_at hl 1 rfl) ?_
          refine lv_iload hx hb dX5_waysSo_76 (lv_at hl 5 rfl) ?_
          have lk_93 : (zI_74 zw 14).toInt = zi_1.toInt := congrArg Int32.toInt e_lp_86_0
          refine hj_v (ws := (WL cy zL zT zR zI_74 zJ_75)) (w1 := fun (u : (Nat → Nat → Int32) × (Nat → Nat → Int64)) => (WL cy zL zT zR u.1 u.2)) (va_runV (As := [.ref zw, .int zi_73]) (rest := []) ⟨hx, hb, hml, hown, hts⟩ (t_X5_advanceAll l dC dI cy H.size zL zT zR zI_74 zJ_75 zk zw zi_73 hs h_zI_74.1 t_zk t_zw (by omega) (by omega)) (cwV 2 hts gX5_waysSo_X5_advanceAll rfl rfl rfl (by decide +kernel) ⟨(Nat.le_of_ble_eq_true rfl), (Nat.le_of_ble_eq_true rfl)⟩) (PRE.v hP hK hD hN (ht_recv hK hP hs t_zk (by decide) rfl rfl)) rfl rfl hl.1 rfl (lv_room (Nat.le_of_ble_eq_true rfl)) dX5_waysSo_78 ⟨(Nat.le_of_ble_eq_true rfl), (Nat.le_of_ble_eq_true rfl)⟩) hP hD hS hA (fun u_96 H locs hw_95 hP hD hS => ?_)
          obtain ⟨zI_97, zJ_98⟩ := u_96
          have k_zI_97 : WM [4400] AL zT zR zI_74 zI_97 := hw_95
          have h_zI_97 : WM [607, 608, 4400, 4500, 4600] AL zT zR zI zI_97 := h_zI_74.tr k_zI_97 (by decide) (fun _ _ => trivial)
          obtain ⟨zi_99, ezi_99⟩ : ∃ y : Int32, y = zi_73 + 1 := ⟨_, rfl⟩
          have tzi_99 : zi_99.toInt = zi_73.toInt + 1 := by rw [ezi_99]; exact tadd rfl (show (1 : Int32).toInt = 1 by decide) (by omega) (by omega)
          refine lv_iinc (v := zi_99) (lv' := [(5, .int zi_99), (0, .ref zk), (1, .ref zw), (2, .ref zc), (3, .ref zm), (4, .int zis)]) hx hb dX5_waysSo_81 hl (k := 5) rfl (by rw [ezi_99]; rfl) (by decide) rfl (fun ls hl => ?_)
          refine lv_goto (tgt := 65) hx hb dX5_waysSo_84 (by decide) ?_
          exact ih_86 (12 - zi_99.toInt).toNat (by omega) zi_99 zI_97 zJ_98 _ _ _ rfl (by omega) h_zI_97 ((k_zI_97.2 zw 14 (Or.inl (by rw [t_zw]; decide))).trans e_lp_86_0) hP hD hS (lv_sub hl [1, 2, 3, 4, 5, 0] rfl)
    have qc_1 : (1 : Int32).toInt = 1 := by decide
    exact lp_86 _ (1 : Int32) zI_22 zJ_27 _ _ _ rfl (by decide) h_zI_22 ((k_zI_22.2 zw 14 (Or.inl (by rw [t_zw]; decide))).trans ((k_zI_7.2 zw 14 (Or.inl (by rw [t_zw]; decide))).trans ezi_1.symm)) hP hD hS (lv_sub hl [1, 2, 3, 4, 5, 0] rfl)
  · have f_3 : ¬ (zi_1.toInt ≠ 0) := ic_nne (rfl) (by decide) c_2
    refine lv_lconst (v := 0) hx hb dX5_waysSo_7 (by decide) ?_
    subst hQ
    exact W.lret (v := (0 : Int64)) hx hb hr (fun t ht hW => ⟨⟨(0 : Int64), (zI, zJ), rfl, h_zI, ⟨by rw [ht]; exact hP, va_K.moved hW.alike hK, hD⟩⟩, hS.F ht⟩) hS.2.2 dX5_waysSo_8
