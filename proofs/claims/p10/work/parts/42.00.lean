set_option maxHeartbeats 8000000 in
set_option maxRecDepth 100000 in
theorem t_X3_wetBy (l : Launch) (dC : Nat → ClassId) (dI : Nat → Nat → Nat) (cy : Nat → ClassId) (sz : Nat) (zL : List Nat) (zT : Nat → Nat) (zR : Nat → Nat → Nat) (zI : Nat → Nat → Int32) (zJ : Nat → Nat → Int64) (zh : Nat) (ziy : Int32) (zik : Int32) (hs : SKP zL zT zR) (hw : WT zT zR zI) (t_zh : zT zh = 4) (b_ziy : 0 ≤ ziy.toInt ∧ ziy.toInt ≤ 23) (b_zik : 1 ≤ zik.toInt ∧ zik.toInt ≤ 5) : Met l yX3_wetBy wsX3_wetBy ({ frames := 1, cells := 0, slots := 0, locals := 30 } : Room) (va_Pc [.ref zh, .int ziy, .int zik] (PRE dC dI cy (WL cy zL zT zR zI zJ) sz)) (va_Qi (fun (r : Int32) (u : Unit) => (r = WTC (zI (zR (zR zh 0) 0)) ziy.toInt zik.toInt)) (fun u t => POST dC dI cy (va_A (WL cy zL zT zR zI zJ) sz) (WL cy zL zT zR zI zJ) t) (va_A (WL cy zL zT zR zI zJ) sz)) 0 0 (va_A (WL cy zL zT zR zI zJ) sz) := by
  refine Met.ofW (cc := cX3_wetBy) (maxL := 5) (ret := (some .int)) (by decide) rfl ?_
  intro p e s m args below meth c s₁ B hml hv
  obtain ⟨rfl, hsz, hP, hK, hD0, hN⟩ := hv
  have hx := B.exec
  have hb := B.bytes
  have hr := B.returns
  have hts := atoms_spec (ws := wsX3_wetBy) B.pre
  have hown : s.vm.findClass RX3 = some m.cls := findClass_of_methodNamed B.named
  have hlocks := B.notSynchronized
  subst hsz
  have hD := hD0.self (sz := s.heap.size)
  generalize hAe : va_A (WL cy zL zT zR zI zJ) s.heap.size = A at hD ⊢
  have hA : ∀ q : Nat, s.heap.size ≤ q → A q := fun q h => by rw [← hAe]; exact Or.inr h
  have hS : va_S A s.heap s.heap [] := va_S.rf
  have hP : va_P (dC, dI) vwCl (WL cy zL zT zR zI zJ) s.heap := hP
  have hl := lv_entry ([.ref zh, .int ziy, .int zik] : List Value) (n := 5) (Nat.le_of_ble_eq_true rfl)
  rw [lg_entry_eq]
  generalize (lg_sl ([.ref zh, .int ziy, .int zik] : List Value) ++ List.replicate (5 - (lg_sl ([.ref zh, .int ziy, .int zik] : List Value)).length) Slot.unset).toArray = ls at hl ⊢
  have hl : lv_has ls 5 [(0, .ref zh), (1, .int ziy), (2, .int zik)] := hl
  refine w_q (fun Q hQ => ?_)
  have h_zI : WM [] AL zT zR zI zI := WM.rf hw
  refine lv_iconst (v := 0) hx hb dX3_wetBy_0 (by decide) ?_
  refine lv_istore_n (lv' := [(3, .int 0), (0, .ref zh), (1, .int ziy), (2, .int zik)]) hx hb dX3_wetBy_1 rfl hl (by decide) rfl (fun ls hl => ?_)
  refine lv_iconst (v := 0) hx hb dX3_wetBy_2 (by decide) ?_
  refine lv_iload_n hx hb dX3_wetBy_3 rfl (lv_at hl 2 rfl) ?_
  refine lv_iload_n hx hb dX3_wetBy_4 rfl (lv_at hl 3 rfl) ?_
  refine lv_isub hx hb dX3_wetBy_5 ?_
  refine lv_topi (fun zi_1 ezi_1 => ?_)
  have tzi_1 : zi_1.toInt = ziy.toInt - zik.toInt := by rw [ezi_1]; exact tisub (rfl) (rfl) (by omega) (by omega)
  refine lv_iconst (v := 1) hx hb dX3_wetBy_6 (by decide) ?_
  refine lv_iadd hx hb dX3_wetBy_7 ?_
  refine lv_topi (fun zi_2 ezi_2 => ?_)
  have tzi_2 : zi_2.toInt = zi_1.toInt + (1 : Int) := by rw [ezi_2]; exact tiadd (rfl) (show (1 : Int32).toInt = 1 by decide) (by omega) (by omega)
  refine va_mmax hx hb (by rw [hml]; exact hl.1.symm) hown (hts (.methodLink RX3 27 Lib.Math.max.name) (by decide +kernel)) (hts (.static Lib.Math.max.name) (by decide +kernel)) (hts (.initialized "java/lang/Math") (by decide +kernel)) (hts (.code Lib.Math.max.name Lib.Math.max.code 2 (some .int)) (by decide +kernel)) (Nat.le_of_ble_eq_true rfl) (Nat.le_of_ble_eq_true rfl) (Nat.le_of_ble_eq_true rfl) (Nat.le_of_ble_eq_true rfl) dX3_wetBy_8 ?_
  refine lv_topi (fun zi_3 ezi_3 => ?_)
  have tzi_3 : ((0 : Int) < zi_2.toInt → zi_3.toInt = zi_2.toInt) ∧ (¬ (0 : Int) < zi_2.toInt → zi_3.toInt = (0 : Int)) := mx_s ezi_3 (show (0 : Int32).toInt = 0 by decide) (rfl)
  refine lv_istore (lv' := [(4, .int zi_3), (3, .int 0), (0, .ref zh), (1, .int ziy), (2, .int zik)]) hx hb dX3_wetBy_11 hl (by decide) rfl (fun ls hl => ?_)
  have lo8 : 0 ≤ LOY ziy.toInt zik.toInt ∧ LOY ziy.toInt zik.toInt ≤ ziy.toInt := LOY.in (by omega) (by omega)
  have lo9 : zi_3.toInt = LOY ziy.toInt zik.toInt := by unfold LOY; split <;> omega
  have lp_171 : ∀ (n : Nat) (zi_11 : Int32) (zi_12 : Int32) (H : Heap) (locs : List Loc) (ls : Array Slot), (ziy.toInt - zi_12.toInt + 1).toNat = n → (0 ≤ zi_12.toInt ∧ zi_12.toInt ≤ 24) → (zi_11 = SA (zI (zR (zR zh 0) 0)) (LOY ziy.toInt zik.toInt) (zi_12.toInt - (LOY ziy.toInt zik.toInt)).toNat) → (LOY ziy.toInt zik.toInt ≤ zi_12.toInt ∧ zi_12.toInt ≤ ziy.toInt + 1) → va_P (dC, dI) vwCl (WL cy zL zT zR zI zJ) H → va_D A (WL cy zL zT zR zI zJ) → va_S A s.heap H locs → lv_has ls 5 [(0, .ref zh), (1, .int ziy), (2, .int zik), (3, .int zi_11), (4, .int zi_12)] → W p l e ({ frames := 1, cells := 0, slots := 0, locals := 30 } : Room) s m ([.ref zh, .int ziy, .int zik] : List Value).toArray below meth c H locs 0 0 Q (F0 m 13 ls []) := by
    intro n
    induction n using Nat.strongRecOn with
    | _ n ih_171 =>
      intro zi_11 zi_12 H locs ls hn b_zi_12 e_lp_171_0 e_lp_171_1 hP hD hS hl
      refine lv_iload hx hb dX3_wetBy_13 (lv_at hl 4 rfl) ?_
      refine lv_iload_n hx hb dX3_wetBy_15 rfl (lv_at hl 1 rfl) ?_
      refine lv_icmp_gt (tgt := 37) hx hb dX3_wetBy_16 (by decide) (fun c_172 => ?_) (fun c_172 => ?_)
      · have f_173 : zi_12.toInt > ziy.toInt := ic_gt (rfl) (rfl) c_172
        refine lv_iload_n hx hb dX3_wetBy_37 rfl (lv_at hl 3 rfl) ?_
        subst hQ
        exact W.iret (v := zi_11) hx hb hr (fun t ht hW => ⟨⟨zi_11, (), rfl, (show zi_11 = WTC (zI (zR (zR zh 0) 0)) ziy.toInt zik.toInt from (SA.e (j := zi_12) e_lp_171_0 rfl (by omega))), ⟨by rw [ht]; exact hP, va_K.moved hW.alike hK, hD⟩⟩, hS.F ht⟩) hS.2.2 dX3_wetBy_38
      · have f_173 : ¬ (zi_12.toInt > ziy.toInt) := ic_ngt (rfl) (rfl) c_172
        refine lv_iload_n hx hb dX3_wetBy_19 rfl (lv_at hl 3 rfl) ?_
        refine lv_aload_n hx hb dX3_wetBy_20 rfl (lv_at hl 0 rfl) ?_
        refine ht_getr (C := RX3) (T := TX3) (N := 3) hx hb hts (by decide +kernel) hown hK hP hs t_zh (by decide) rfl rfl 0 (by decide) (hts (.fieldLink RX3 11 "DripStone$Hill" "rain" "[[I") (by decide +kernel)) (fun _ h9 => h9) rfl dX3_wetBy_21 ?_
        have t_174 : zT (zR zh 0) = 60 := sk_f hs t_zh (by decide) rfl (by decide)
        refine lv_iconst (v := 0) hx hb dX3_wetBy_24 (by decide) ?_
        refine ht_aaldA (n := 3) (q := 7) hx hb hK hP hs t_174 (by decide) rfl rfl ⟨by decide, by decide⟩ dX3_wetBy_25 ?_
        have t_175 : zT (zR (zR zh 0) (0 : Int32).toNatClampNeg) = 34 := sk_a (n := 3) hs t_174 rfl rfl (by decide) (by decide)
        refine lv_iload hx hb dX3_wetBy_26 (lv_at hl 4 rfl) ?_
        refine ht_iald (n := 24) (q := 0) hx hb hK hP hs t_175 (by decide) rfl rfl ⟨by omega, by omega⟩ dX3_wetBy_28 ?_
        refine lv_topi (fun zi_176 ezi_176 => ?_)
        refine lv_iadd hx hb dX3_wetBy_29 ?_
        refine lv_topi (fun zi_177 ezi_177 => ?_)
        refine lv_istore_n (lv' := [(3, .int zi_177), (0, .ref zh), (1, .int ziy), (2, .int zik), (4, .int zi_12)]) hx hb dX3_wetBy_30 rfl hl (by decide) rfl (fun ls hl => ?_)
        obtain ⟨zi_178, ezi_178⟩ : ∃ y : Int32, y = zi_12 + 1 := ⟨_, rfl⟩
        have tzi_178 : zi_178.toInt = zi_12.toInt + 1 := by rw [ezi_178]; exact tadd rfl (show (1 : Int32).toInt = 1 by decide) (by omega) (by omega)
        refine lv_iinc (v := zi_178) (lv' := [(4, .int zi_178), (3, .int zi_177), (0, .ref zh), (1, .int ziy), (2, .int zik)]) hx hb dX3_wetBy_31 hl (k := 4) rfl (by rw [ezi_178]; rfl) (by decide) rfl (fun ls hl => ?_)
        refine lv_goto (tgt := 13) hx hb dX3_wetBy_34 (by decide) ?_
        exact ih_171 (ziy.toInt - zi_178.toInt + 1).toNat (by omega) zi_177 zi_178 _ _ _ rfl (by omega) (SA.s (y := zi_12) (y' := zi_178) e_lp_171_0 (by omega) (show zI (zR (zR zh 0) 0) zi_12.toNatClampNeg = zi_176 from ezi_176.symm) ezi_177 (by omega)) (by omega) hP hD hS (lv_sub hl [2, 3, 4, 1, 0] rfl)
  have qc_0 : (0 : Int32).toInt = 0 := by decide
  exact lp_171 _ (0 : Int32) zi_3 _ _ _ rfl (by omega) (SA.z lo9) (by omega) hP hD hS (lv_sub hl [2, 3, 4, 1, 0] rfl)
set_option maxHeartbeats 8000000 in
set_option maxRecDepth 100000 in
theorem t_X3_waterBy (l : Launch) (dC : Nat → ClassId) (dI : Nat → Nat → Nat) (cy : Nat → ClassId) (sz : Nat) (zL : List Nat) (zT : Nat → Nat) (zR : Nat → Nat → Nat) (zI : Nat → Nat → Int32) (zJ : Nat → Nat → Int64) (zh : Nat) (ziy : Int32) (zik : Int32) (hs : SKP zL zT zR) (hw : WT zT zR zI) (t_zh : zT zh = 4) (b_ziy : 0 ≤ ziy.toInt ∧ ziy.toInt ≤ 23) (b_zik : 1 ≤ zik.toInt ∧ zik.toInt ≤ 5) : Met l yX3_waterBy wsX3_waterBy ({ frames := 2, cells := 0, slots := 0, locals := 54 } : Room) (va_Pc [.ref zh, .int ziy, .int zik] (PRE dC dI cy (WL cy zL zT zR zI zJ) sz)) (va_Qi (fun (r : Int32) (u : Unit) => (r = WRC (zI (zR (zR zh 0) 0)) (zI (zR (zR zh 0) 1)) ziy.toInt zik.toInt)) (fun u t => POST dC dI cy (va_A (WL cy zL zT zR zI zJ) sz) (WL cy zL zT zR zI zJ) t) (va_A (WL cy zL zT zR zI zJ) sz)) 0 0 (va_A (WL cy zL zT zR zI zJ) sz) := by
  refine Met.ofW (cc := cX3_waterBy) (maxL := 6) (ret := (some .int)) (by decide) rfl ?_
  intro p e s m args below meth c s₁ B hml hv
  obtain ⟨rfl, hsz, hP, hK, hD0, hN⟩ := hv
  have hx := B.exec
  have hb := B.bytes
  have hr := B.returns
  have hts := atoms_spec (ws := wsX3_waterBy) B.pre
  have hown : s.vm.findClass RX3 = some m.cls := findClass_of_methodNamed B.named
  have hlocks := B.notSynchronized
  subst hsz
  have hD := hD0.self (sz := s.heap.size)
  generalize hAe : va_A (WL cy zL zT zR zI zJ) s.heap.size = A at hD ⊢
  have hA : ∀ q : Nat, s.heap.size ≤ q → A q := fun q h => by rw [← hAe]; exact Or.inr h
  have hS : va_S A s.heap s.heap [] := va_S.rf
  have hP : va_P (dC, dI) vwCl (WL cy zL zT zR zI zJ) s.heap := hP
  have hl := lv_entry ([.ref zh, .int ziy, .int zik] : List Value) (n := 6) (Nat.le_of_ble_eq_true rfl)
  rw [lg_entry_eq]
  generalize (lg_sl ([.ref zh, .int ziy, .int zik] : List Value) ++ List.replicate (6 - (lg_sl ([.ref zh, .int ziy, .int zik] : List Value)).length) Slot.unset).toArray = ls at hl ⊢
  have hl : lv_has ls 6 [(0, .ref zh), (1, .int ziy), (2, .int zik)] := hl
  refine w_q (fun Q hQ => ?_)
  have h_zI : WM [] AL zT zR zI zI := WM.rf hw
  refine lv_aload_n hx hb dX3_waterBy_0 rfl (lv_at hl 0 rfl) ?_
  refine lv_iload_n hx hb dX3_waterBy_1 rfl (lv_at hl 1 rfl) ?_
  refine lv_iload_n hx hb dX3_waterBy_2 rfl (lv_at hl 2 rfl) ?_
  refine hj_i (ws := (WL cy zL zT zR zI zJ)) (w1 := fun (u : Unit) => (WL cy zL zT zR zI zJ)) (va_runV (As := [.int ziy, .int zik]) (rest := []) ⟨hx, hb, hml, hown, hts⟩ (t_X3_wetBy l dC dI cy s.heap.size zL zT zR zI zJ zh ziy zik hs h_zI.1 t_zh (by omega) (by omega)) (cwV 2 hts gX3_waterBy_X3_wetBy rfl rfl rfl (by decide +kernel) ⟨(Nat.le_of_ble_eq_true rfl), (Nat.le_of_ble_eq_true rfl)⟩) (PRE.v hP hK hD hN (ht_recv hK hP hs t_zh (by decide) rfl rfl)) rfl rfl hl.1 rfl (lv_room (Nat.le_of_ble_eq_true rfl)) dX3_waterBy_3 ⟨(Nat.le_of_ble_eq_true rfl), (Nat.le_of_ble_eq_true rfl)⟩) hP hD hS hA (fun zi_1 u_3 H locs hw_2 hP hD hS => ?_)
  have ps_4 : zi_1 = WTC (zI (zR (zR zh 0) 0)) ziy.toInt zik.toInt := hw_2
  have rzi_1 := rng zi_1
  refine lv_istore_n (lv' := [(3, .int zi_1), (0, .ref zh), (1, .int ziy), (2, .int zik)]) hx hb dX3_waterBy_6 rfl hl (by decide) rfl (fun ls hl => ?_)
  refine lv_iload_n hx hb dX3_waterBy_7 rfl (lv_at hl 0 rfl) ?_
  refine lv_if_ne (tgt := 15) hx hb dX3_waterBy_8 (by decide) (fun c_5 => ?_) (fun c_5 => ?_)
  · have f_6 : zi_1.toInt ≠ 0 := ic_ne (rfl) (by decide) c_5
    refine lv_iconst (v := 0) hx hb dX3_waterBy_15 (by decide) ?_
    refine lv_istore (lv' := [(4, .int 0), (3, .int zi_1), (0, .ref zh), (1, .int ziy), (2, .int zik)]) hx hb dX3_waterBy_16 hl (by decide) rfl (fun ls hl => ?_)
    refine lv_iconst (v := 0) hx hb dX3_waterBy_18 (by decide) ?_
    refine lv_iload_n hx hb dX3_waterBy_19 rfl (lv_at hl 3 rfl) ?_
    refine lv_iload_n hx hb dX3_waterBy_20 rfl (lv_at hl 4 rfl) ?_
    refine lv_isub hx hb dX3_waterBy_21 ?_
    refine lv_topi (fun zi_7 ezi_7 => ?_)
    have tzi_7 : zi_7.toInt = ziy.toInt - zik.toInt := by rw [ezi_7]; exact tisub (rfl) (rfl) (by omega) (by omega)
    refine lv_iconst (v := 1) hx hb dX3_waterBy_22 (by decide) ?_
    refine lv_iadd hx hb dX3_waterBy_23 ?_
    refine lv_topi (fun zi_8 ezi_8 => ?_)
    have tzi_8 : zi_8.toInt = zi_7.toInt + (1 : Int) := by rw [ezi_8]; exact tiadd (rfl) (show (1 : Int32).toInt = 1 by decide) (by omega) (by omega)
    refine va_mmax hx hb (by rw [hml]; exact hl.1.symm) hown (hts (.methodLink RX3 27 Lib.Math.max.name) (by decide +kernel)) (hts (.static Lib.Math.max.name) (by decide +kernel)) (hts (.initialized "java/lang/Math") (by decide +kernel)) (hts (.code Lib.Math.max.name Lib.Math.max.code 2 (some .int)) (by decide +kernel)) (Nat.le_of_ble_eq_true rfl) (Nat.le_of_ble_eq_true rfl) (Nat.le_of_ble_eq_true rfl) (Nat.le_of_ble_eq_true rfl) dX3_waterBy_24 ?_
    refine lv_topi (fun zi_9 ezi_9 => ?_)
    have tzi_9 : ((0 : Int) < zi_8.toInt → zi_9.toInt = zi_8.toInt) ∧ (¬ (0 : Int) < zi_8.toInt → zi_9.toInt = (0 : Int)) := mx_s ezi_9 (show (0 : Int32).toInt = 0 by decide) (rfl)
    refine lv_istore (lv' := [(5, .int zi_9), (4, .int 0), (3, .int zi_1), (0, .ref zh), (1, .int ziy), (2, .int zik)]) hx hb dX3_waterBy_27 hl (by decide) rfl (fun ls hl => ?_)
    have lo8 : 0 ≤ LOY ziy.toInt zik.toInt ∧ LOY ziy.toInt zik.toInt ≤ ziy.toInt := LOY.in (by omega) (by omega)
    have lo9 : zi_9.toInt = LOY ziy.toInt zik.toInt := by unfold LOY; split <;> omega
    have lp_234 : ∀ (n : Nat) (zi_20 : Int32) (zi_21 : Int32) (H : Heap) (locs : List Loc) (ls : Array Slot), (ziy.toInt - zi_21.toInt + 1).toNat = n → (0 ≤ zi_21.toInt ∧ zi_21.toInt ≤ 24) → (zi_20 = SA (PRO (zI (zR (zR zh 0) 0)) (zI (zR (zR zh 0) 1))) (LOY ziy.toInt zik.toInt) (zi_21.toInt - (LOY ziy.toInt zik.toInt)).toNat) → (LOY ziy.toInt zik.toInt ≤ zi_21.toInt ∧ zi_21.toInt ≤ ziy.toInt + 1) → va_P (dC, dI) vwCl (WL cy zL zT zR zI zJ) H → va_D A (WL cy zL zT zR zI zJ) → va_S A s.heap H locs → lv_has ls 6 [(0, .ref zh), (1, .int ziy), (2, .int zik), (3, .int zi_1), (4, .int zi_20), (5, .int zi_21)] → W p l e ({ frames := 2, cells := 0, slots := 0, locals := 54 } : Room) s m ([.ref zh, .int ziy, .int zik] : List Value).toArray below meth c H locs 0 0 Q (F0 m 29 ls []) := by
      intro n
      induction n using Nat.strongRecOn with
      | _ n ih_234 =>
        intro zi_20 zi_21 H locs ls hn b_zi_21 e_lp_234_0 e_lp_234_1 hP hD hS hl
        refine lv_iload hx hb dX3_waterBy_29 (lv_at hl 5 rfl) ?_
        refine lv_iload_n hx hb dX3_waterBy_31 rfl (lv_at hl 1 rfl) ?_
        refine lv_icmp_gt (tgt := 65) hx hb dX3_waterBy_32 (by decide) (fun c_235 => ?_) (fun c_235 => ?_)
        · have f_236 : zi_21.toInt > ziy.toInt := ic_gt (rfl) (rfl) c_235
          refine lv_iload hx hb dX3_waterBy_65 (lv_at hl 4 rfl) ?_
          refine lv_iload_n hx hb dX3_waterBy_67 rfl (lv_at hl 3 rfl) ?_
          refine lv_idiv hx hb dX3_waterBy_68 (ne_z (by omega)) ?_
          refine lv_topi (fun zi_237 ezi_237 => ?_)
          subst hQ
          exact W.iret (v := zi_237) hx hb hr (fun t ht hW => ⟨⟨zi_237, (), rfl, (show zi_237 = WRC (zI (zR (zR zh 0) 0)) (zI (zR (zR zh 0) 1)) ziy.toInt zik.toInt from (WRC.d ps_4 (by omega) (SA.e (j := zi_21) e_lp_234_0 rfl (by omega)) ezi_237)), ⟨by rw [ht]; exact hP, va_K.moved hW.alike hK, hD⟩⟩, hS.F ht⟩) hS.2.2 dX3_waterBy_69
        · have f_236 : ¬ (zi_21.toInt > ziy.toInt) := ic_ngt (rfl) (rfl) c_235
          refine lv_iload hx hb dX3_waterBy_35 (lv_at hl 4 rfl) ?_
          refine lv_aload_n hx hb dX3_waterBy_37 rfl (lv_at hl 0 rfl) ?_
          refine ht_getr (C := RX3) (T := TX3) (N := 3) hx hb hts (by decide +kernel) hown hK hP hs t_zh (by decide) rfl rfl 0 (by decide) (hts (.fieldLink RX3 11 "DripStone$Hill" "rain" "[[I") (by decide +kernel)) (fun _ h9 => h9) rfl dX3_waterBy_38 ?_
          have t_238 : zT (zR zh 0) = 60 := sk_f hs t_zh (by decide) rfl (by decide)
          refine lv_iconst (v := 0) hx hb dX3_waterBy_41 (by decide) ?_
          refine ht_aaldA (n := 3) (q := 7) hx hb hK hP hs t_238 (by decide) rfl rfl ⟨by decide, by decide⟩ dX3_waterBy_42 ?_
          have t_239 : zT (zR (zR zh 0) (0 : Int32).toNatClampNeg) = 34 := sk_a (n := 3) hs t_238 rfl rfl (by decide) (by decide)
          refine lv_iload hx hb dX3_waterBy_43 (lv_at hl 5 rfl) ?_
          refine ht_iald (n := 24) (q := 0) hx hb hK hP hs t_239 (by decide) rfl rfl ⟨by omega, by omega⟩ dX3_waterBy_45 ?_
          refine lv_topi (fun zi_240 ezi_240 => ?_)
          refine lv_aload_n hx hb dX3_waterBy_46 rfl (lv_at hl 0 rfl) ?_
          refine ht_getr (C := RX3) (T := TX3) (N := 3) hx hb hts (by decide +kernel) hown hK hP hs t_zh (by decide) rfl rfl 0 (by decide) (hts (.fieldLink RX3 11 "DripStone$Hill" "rain" "[[I") (by decide +kernel)) (fun _ h9 => h9) rfl dX3_waterBy_47 ?_
          refine lv_iconst (v := 1) hx hb dX3_waterBy_50 (by decide) ?_
          refine ht_aaldA (n := 3) (q := 7) hx hb hK hP hs t_238 (by decide) rfl rfl ⟨by decide, by decide⟩ dX3_waterBy_51 ?_
          have t_241 : zT (zR (zR zh 0) (1 : Int32).toNatClampNeg) = 34 := sk_a (n := 3) hs t_238 rfl rfl (by decide) (by decide)
          refine lv_iload hx hb dX3_waterBy_52 (lv_at hl 5 rfl) ?_
          refine ht_iald (n := 24) (q := 0) hx hb hK hP hs t_241 (by decide) rfl rfl ⟨by omega, by omega⟩ dX3_waterBy_54 ?_
          refine lv_topi (fun zi_242 ezi_242 => ?_)
          refine lv_imul hx hb dX3_waterBy_55 ?_
          refine lv_topi (fun zi_243 ezi_243 => ?_)
          refine lv_iadd hx hb dX3_waterBy_56 ?_
          refine lv_topi (fun zi_244 ezi_244 => ?_)
          refine lv_istore (lv' := [(4, .int zi_244), (0, .ref zh), (1, .int ziy), (2, .int zik), (3, .int zi_1), (5, .int zi_21)]) hx hb dX3_waterBy_57 hl (by decide) rfl (fun ls hl => ?_)
          obtain ⟨zi_245, ezi_245⟩ : ∃ y : Int32, y = zi_21 + 1 := ⟨_, rfl⟩
          have tzi_245 : zi_245.toInt = zi_21.toInt + 1 := by rw [ezi_245]; exact tadd rfl (show (1 : Int32).toInt = 1 by decide) (by omega) (by omega)
          refine lv_iinc (v := zi_245) (lv' := [(5, .int zi_245), (4, .int zi_244), (0, .ref zh), (1, .int ziy), (2, .int zik), (3, .int zi_1)]) hx hb dX3_waterBy_59 hl (k := 5) rfl (by rw [ezi_245]; rfl) (by decide) rfl (fun ls hl => ?_)
          refine lv_goto (tgt := 29) hx hb dX3_waterBy_62 (by decide) ?_
          exact ih_234 (ziy.toInt - zi_245.toInt + 1).toNat (by omega) zi_244 zi_245 _ _ _ rfl (by omega) (SA.s (y := zi_21) (y' := zi_245) e_lp_234_0 (by omega) (PRO.at (show zI (zR (zR zh 0) 0) zi_21.toNatClampNeg = zi_240 from ezi_240.symm) (show zI (zR (zR zh 0) 1) zi_21.toNatClampNeg = zi_242 from ezi_242.symm) ezi_243) ezi_244 (by omega)) (by omega) hP hD hS (lv_sub hl [2, 3, 4, 5, 1, 0] rfl)
    have qc_0 : (0 : Int32).toInt = 0 := by decide
    exact lp_234 _ (0 : Int32) zi_9 _ _ _ rfl (by omega) (SA.z lo9) (by omega) hP hD hS (lv_sub hl [3, 4, 5, 2, 1, 0] rfl)
  · have f_6 : ¬ (zi_1.toInt ≠ 0) := ic_nne (rfl) (by decide) c_5
    refine lv_sipush (v := (-1004)) hx hb dX3_waterBy_11 (by decide) ?_
    subst hQ
    exact W.iret (v := (-1004 : Int32)) hx hb hr (fun t ht hW => ⟨⟨(-1004 : Int32), (), rfl, (show (-1004 : Int32) = WRC (zI (zR (zR zh 0) 0)) (zI (zR (zR zh 0) 1)) ziy.toInt zik.toInt from (WRC.z ps_4 (by omega))), ⟨by rw [ht]; exact hP, va_K.moved hW.alike hK, hD⟩⟩, hS.F ht⟩) hS.2.2 dX3_waterBy_14
set_option maxHeartbeats 8000000 in
set_option maxRecDepth 100000 in
theorem t_X4_isMet (l : Launch) (dC : Nat → ClassId) (dI : Nat → Nat → Nat) (cy : Nat → ClassId) (sz : Nat) (zL : List Nat) (zT : Nat → Nat) (zR : Nat → Nat → Nat) (zI : Nat → Nat → Int32) (zJ : Nat → Nat → Int64) (zl : Nat) (zic0 : Int32) (zia : Int32) (zib : Int32) (ziw : Int32) (hs : SKP zL zT zR) (hw : WT zT zR zI) (t_zl : zT zl = 5) (b_zic0 : 0 ≤ zic0.toInt ∧ zic0.toInt ≤ 5) : Met l yX4_isMet wsX4_isMet ({ frames := 1, cells := 0, slots := 0, locals := 21 } : Room) (va_Pc [.ref zl, .int zic0, .int zia, .int zib, .int ziw] (PRE dC dI cy (WL cy zL zT zR zI zJ) sz)) (va_Qi (fun (r : Int32) (u : Unit) => (0 ≤ r.toInt ∧ r.toInt ≤ 1)) (fun u t => POST dC dI cy (va_A (WL cy zL zT zR zI zJ) sz) (WL cy zL zT zR zI zJ) t) (va_A (WL cy zL zT zR zI zJ) sz)) 0 0 (va_A (WL cy zL zT zR zI zJ) sz) := by
  refine Met.ofW (cc := cX4_isMet) (maxL := 10) (ret := (some .boolean)) (by decide) rfl ?_
  intro p e s m args below meth c s₁ B hml hv
  obtain ⟨rfl, hsz, hP, hK, hD0, hN⟩ := hv
  have hx := B.exec
  have hb := B.bytes
  have hr := B.returns
  have hts := atoms_spec (ws := wsX4_isMet) B.pre
  have hown : s.vm.findClass RX4 = some m.cls := findClass_of_methodNamed B.named
  have hlocks := B.notSynchronized
  subst hsz
  have hD := hD0.self (sz := s.heap.size)
  generalize hAe : va_A (WL cy zL zT zR zI zJ) s.heap.size = A at hD ⊢
  have hA : ∀ q : Nat, s.heap.size ≤ q → A q := fun q h => by rw [← hAe]; exact Or.inr h
  have hS : va_S A s.heap s.heap [] := va_S.rf
  have hP : va_P (dC, dI) vwCl (WL cy zL zT zR zI zJ) s.heap := hP
  have hl := lv_entry ([.ref zl, .int zic0, .int zia, .int zib, .int ziw] : List Value) (n := 10) (Nat.le_of_ble_eq_true rfl)
  rw [lg_entry_eq]
  generalize (lg_sl ([.ref zl, .int zic0, .int zia, .int zib, .int ziw] : List Value) ++ List.replicate (10 - (lg_sl ([.ref zl, .int zic0, .int zia, .int zib, .int ziw] : List Value)).length) Slot.unset).toArray = ls at hl ⊢
  have hl : lv_has ls 10 [(0, .ref zl), (1, .int zic0), (2, .int zia), (3, .int zib), (4, .int ziw)] := hl
  refine w_q (fun Q hQ => ?_)
  have h_zI : WM [] AL zT zR zI zI := WM.rf hw
  refine lv_iconst (v := 0) hx hb dX4_isMet_0 (by decide) ?_
  refine lv_istore (lv' := [(5, .int 0), (0, .ref zl), (1, .int zic0), (2, .int zia), (3, .int zib), (4, .int ziw)]) hx hb dX4_isMet_1 hl (by decide) rfl (fun ls hl => ?_)
  have lp_203 : ∀ (n : Nat) (zi_162 : Int32) (H : Heap) (locs : List Loc) (ls : Array Slot), (3 - zi_162.toInt).toNat = n → (0 ≤ zi_162.toInt ∧ zi_162.toInt ≤ 3) → va_P (dC, dI) vwCl (WL cy zL zT zR zI zJ) H → va_D A (WL cy zL zT zR zI zJ) → va_S A s.heap H locs → lv_has ls 10 [(0, .ref zl), (1, .int zic0), (2, .int zia), (3, .int zib), (4, .int ziw), (5, .int zi_162)] → W p l e ({ frames := 1, cells := 0, slots := 0, locals := 21 } : Room) s m ([.ref zl, .int zic0, .int zia, .int zib, .int ziw] : List Value).toArray below meth c H locs 0 0 Q (F0 m 3 ls []) := by
    intro n
    induction n using Nat.strongRecOn with
    | _ n ih_203 =>
      intro zi_162 H locs ls hn b_zi_162 hP hD hS hl
      refine lv_iload hx hb dX4_isMet_3 (lv_at hl 5 rfl) ?_
      refine lv_aload_n hx hb dX4_isMet_5 rfl (lv_at hl 0 rfl) ?_
      refine ht_getr (C := RX4) (T := TX4) (N := 6) hx hb hts (by decide +kernel) hown hK hP hs t_zl (by decide) rfl rfl 1 (by decide) (hts (.fieldLink RX4 15 "DripStone$Law" "conditions" "[I") (by decide +kernel)) (fun _ h9 => h9) rfl dX4_isMet_6 ?_
      have t_204 : zT (zR zl 1) = 29 := sk_f hs t_zl (by decide) rfl (by decide)
      refine lv_iload_n hx hb dX4_isMet_9 rfl (lv_at hl 1 rfl) ?_
      refine ht_iald (n := 6) (q := 0) hx hb hK hP hs t_204 (by decide) rfl rfl ⟨by omega, by omega⟩ dX4_isMet_10 ?_
      refine lv_topi (fun zi_205 ezi_205 => ?_)
      have tzi_205 : 0 ≤ zi_205.toInt ∧ zi_205.toInt ≤ 3 := by rw [ezi_205]; exact h_zI.at t_204 _ rfl
      refine lv_icmp_ge (tgt := 122) hx hb dX4_isMet_11 (by decide) (fun c_206 => ?_) (fun c_206 => ?_)
      · have f_207 : zi_162.toInt ≥ zi_205.toInt := ic_ge (rfl) (rfl) c_206
        refine lv_iconst (v := 1) hx hb dX4_isMet_122 (by decide) ?_
        subst hQ
        have qc_1 : (1 : Int32).toInt = 1 := by decide
        exact W.zret (v := (1 : Int32)) hx hb hr rfl (fun t ht hW => ⟨⟨(1 : Int32), (), rfl, (show 0 ≤ (1 : Int32).toInt ∧ (1 : Int32).toInt ≤ 1 from by omega), ⟨by rw [ht]; exact hP, va_K.moved hW.alike hK, hD⟩⟩, hS.F ht⟩) hS.2.2 dX4_isMet_123
      · have f_207 : ¬ (zi_162.toInt ≥ zi_205.toInt) := ic_nge (rfl) (rfl) c_206
        refine lv_iload_n hx hb dX4_isMet_14 rfl (lv_at hl 1 rfl) ?_
        refine lv_iconst (v := 3) hx hb dX4_isMet_15 (by decide) ?_
        refine lv_imul hx hb dX4_isMet_16 ?_
        refine lv_topi (fun zi_208 ezi_208 => ?_)
        have tzi_208 : zi_208.toInt = zic0.toInt * (3 : Int) := by rw [ezi_208]; exact timul (rfl) (show (3 : Int32).toInt = 3 by decide) (by omega) (by omega)
        refine lv_iload hx hb dX4_isMet_17 (lv_at hl 5 rfl) ?_
        refine lv_iadd hx hb dX4_isMet_19 ?_
        refine lv_topi (fun zi_209 ezi_209 => ?_)
        have tzi_209 : zi_209.toInt = zi_208.toInt + zi_162.toInt := by rw [ezi_209]; exact tiadd (rfl) (rfl) (by omega) (by omega)
        refine lv_istore (lv' := [(6, .int zi_209), (0, .ref zl), (1, .int zic0), (2, .int zia), (3, .int zib), (4, .int ziw), (5, .int zi_162)]) hx hb dX4_isMet_20 hl (by decide) rfl (fun ls hl => ?_)
        refine lv_aload_n hx hb dX4_isMet_22 rfl (lv_at hl 1 rfl) ?_
        refine ht_getr (C := RX4) (T := TX4) (N := 6) hx hb hts (by decide +kernel) hown hK hP hs t_zl (by decide) rfl rfl 2 (by decide) (hts (.fieldLink RX4 18 "DripStone$Law" "subjects" "[I") (by decide +kernel)) (fun _ h9 => h9) rfl dX4_isMet_23 ?_
        have t_210 : zT (zR zl 2) = 30 := sk_f hs t_zl (by decide) rfl (by decide)
        refine lv_iload hx hb dX4_isMet_26 (lv_at hl 0 rfl) ?_
        refine ht_iald (n := 18) (q := 0) hx hb hK hP hs t_210 (by decide) rfl rfl ⟨by omega, by omega⟩ dX4_isMet_28 ?_
        refine lv_topi (fun zi_211 ezi_211 => ?_)
        refine lv_bipush (v := 97) hx hb dX4_isMet_29 (by decide) ?_
        have jn_218 : ∀ (zi_217 : Int32) (H : Heap) (locs : List Loc) (ls : Array Slot), va_P (dC, dI) vwCl (WL cy zL zT zR zI zJ) H → va_D A (WL cy zL zT zR zI zJ) → va_S A s.heap H locs → lv_has ls 10 [(0, .ref zl), (1, .int zic0), (2, .int zia), (3, .int zib), (4, .int ziw), (5, .int zi_162), (6, .int zi_209)] → W p l e ({ frames := 1, cells := 0, slots := 0, locals := 21 } : Room) s m ([.ref zl, .int zic0, .int zia, .int zib, .int ziw] : List Value).toArray below meth c H locs 0 0 Q (F0 m 56 ls [.int zi_217]) := by
          intro zi_217 H locs ls  hP hD hS hl
          refine lv_istore (lv' := [(7, .int zi_217), (0, .ref zl), (1, .int zic0), (2, .int zia), (3, .int zib), (4, .int ziw), (5, .int zi_162), (6, .int zi_209)]) hx hb dX4_isMet_56 hl (by decide) rfl (fun ls hl => ?_)
          refine lv_iload hx hb dX4_isMet_58 (lv_at hl 0 rfl) ?_
          refine lv_aload_n hx hb dX4_isMet_60 rfl (lv_at hl 1 rfl) ?_
          refine ht_getr (C := RX4) (T := TX4) (N := 6) hx hb hts (by decide +kernel) hown hK hP hs t_zl (by decide) rfl rfl 4 (by decide) (hts (.fieldLink RX4 24 "DripStone$Law" "numbers" "[I") (by decide +kernel)) (fun _ h9 => h9) rfl dX4_isMet_61 ?_
          have t_219 : zT (zR zl 4) = 30 := sk_f hs t_zl (by decide) rfl (by decide)
          refine lv_iload hx hb dX4_isMet_64 (lv_at hl 7 rfl) ?_
          refine ht_iald (n := 18) (q := 0) hx hb hK hP hs t_219 (by decide) rfl rfl ⟨by omega, by omega⟩ dX4_isMet_66 ?_
          refine lv_topi (fun zi_220 ezi_220 => ?_)
          refine hj0_i (ws := (WL cy zL zT zR zI zJ)) (va_runS (As := [.int zi_217, .int zi_220]) (rest := []) ⟨hx, hb, hml, hown, hts⟩ (c_J6_compare_7cf53 l dC dI cy H.size zi_217 zi_220) (va_cwS 2 hts gX4_isMet_J6_compare_7cf53 rfl rfl rfl (by decide +kernel) ⟨(Nat.le_of_ble_eq_true rfl), (Nat.le_of_ble_eq_true rfl)⟩) (PRE.s (hP.sub [] rfl) hK (hD.sub [] (by decide) rfl) hN) rfl rfl hl.1 rfl (lv_room (Nat.le_of_ble_eq_true rfl)) dX4_isMet_67 ⟨(Nat.le_of_ble_eq_true rfl), (Nat.le_of_ble_eq_true rfl)⟩) hP hD hS hA (fun zi_221 u_223 H locs hw_222 hP hD hS => ?_)
          have b_zi_221 : (-1) ≤ zi_221.toInt ∧ zi_221.toInt ≤ 1 := hw_222
          refine lv_istore (lv' := [(8, .int zi_221), (7, .int zi_217), (0, .ref zl), (1, .int zic0), (2, .int zia), (3, .int zib), (4, .int ziw), (5, .int zi_162), (6, .int zi_209)]) hx hb dX4_isMet_70 hl (by decide) rfl (fun ls hl => ?_)
          refine lv_aload_n hx hb dX4_isMet_72 rfl (lv_at hl 2 rfl) ?_
          refine ht_getr (C := RX4) (T := TX4) (N := 6) hx hb hts (by decide +kernel) hown hK hP hs t_zl (by decide) rfl rfl 3 (by decide) (hts (.fieldLink RX4 21 "DripStone$Law" "signs" "[I") (by decide +kernel)) (fun _ h9 => h9) rfl dX4_isMet_73 ?_
          have t_224 : zT (zR zl 3) = 30 := sk_f hs t_zl (by decide) rfl (by decide)
          refine lv_iload hx hb dX4_isMet_76 (lv_at hl 8 rfl) ?_
          refine ht_iald (n := 18) (q := 0) hx hb hK hP hs t_224 (by decide) rfl rfl ⟨by omega, by omega⟩ dX4_isMet_78 ?_
          refine lv_topi (fun zi_225 ezi_225 => ?_)
          refine lv_bipush (v := 60) hx hb dX4_isMet_79 (by decide) ?_
          have jn_232 : ∀ (zi_231 : Int32) (H : Heap) (locs : List Loc) (ls : Array Slot), ((-1) ≤ zi_231.toInt ∧ zi_231.toInt ≤ 1) → va_P (dC, dI) vwCl (WL cy zL zT zR zI zJ) H → va_D A (WL cy zL zT zR zI zJ) → va_S A s.heap H locs → lv_has ls 10 [(0, .ref zl), (1, .int zic0), (2, .int zia), (3, .int zib), (4, .int ziw), (5, .int zi_162), (6, .int zi_209), (7, .int zi_217), (8, .int zi_221)] → W p l e ({ frames := 1, cells := 0, slots := 0, locals := 21 } : Room) s m ([.ref zl, .int zic0, .int zia, .int zib, .int ziw] : List Value).toArray below meth c H locs 0 0 Q (F0 m 105 ls [.int zi_231]) := by
            intro zi_231 H locs ls b_zi_231 hP hD hS hl
            refine lv_istore (lv' := [(9, .int zi_231), (0, .ref zl), (1, .int zic0), (2, .int zia), (3, .int zib), (4, .int ziw), (5, .int zi_162), (6, .int zi_209), (7, .int zi_217), (8, .int zi_221)]) hx hb dX4_isMet_105 hl (by decide) rfl (fun ls hl => ?_)
            refine lv_iload hx hb dX4_isMet_107 (lv_at hl 9 rfl) ?_
            refine lv_iload hx hb dX4_isMet_109 (lv_at hl 0 rfl) ?_
            refine lv_icmp_eq (tgt := 116) hx hb dX4_isMet_111 (by decide) (fun c_233 => ?_) (fun c_233 => ?_)
            · have f_234 : zi_221.toInt = zi_231.toInt := ic_eq (rfl) (rfl) c_233
              obtain ⟨zi_235, ezi_235⟩ : ∃ y : Int32, y = zi_162 + 1 := ⟨_, rfl⟩
              have tzi_235 : zi_235.toInt = zi_162.toInt + 1 := by rw [ezi_235]; exact tadd rfl (show (1 : Int32).toInt = 1 by decide) (by omega) (by omega)
              refine lv_iinc (v := zi_235) (lv' := [(5, .int zi_235), (9, .int zi_231), (0, .ref zl), (1, .int zic0), (2, .int zia), (3, .int zib), (4, .int ziw), (6, .int zi_209), (7, .int zi_217), (8, .int zi_221)]) hx hb dX4_isMet_116 hl (k := 6) rfl (by rw [ezi_235]; rfl) (by decide) rfl (fun ls hl => ?_)
              refine lv_goto (tgt := 3) hx hb dX4_isMet_119 (by decide) ?_
              exact ih_203 (3 - zi_235.toInt).toNat (by omega) zi_235 _ _ _ rfl (by omega) hP hD hS (lv_sub hl [2, 3, 4, 5, 6, 0] rfl)
            · have f_234 : ¬ (zi_221.toInt = zi_231.toInt) := ic_neq (rfl) (rfl) c_233
              refine lv_iconst (v := 0) hx hb dX4_isMet_114 (by decide) ?_
              subst hQ
              have qc_0 : (0 : Int32).toInt = 0 := by decide
              exact W.zret (v := (0 : Int32)) hx hb hr rfl (fun t ht hW => ⟨⟨(0 : Int32), (), rfl, (show 0 ≤ (0 : Int32).toInt ∧ (0 : Int32).toInt ≤ 1 from by omega), ⟨by rw [ht]; exact hP, va_K.moved hW.alike hK, hD⟩⟩, hS.F ht⟩) hS.2.2 dX4_isMet_115
          refine lv_icmp_ne (tgt := 88) hx hb dX4_isMet_81 (by decide) (fun c_236 => ?_) (fun c_236 => ?_)
          · have f_237 : zi_225.toInt ≠ (60 : Int) := ic_ne (rfl) (show (60 : Int32).toInt = 60 by decide) c_236
            refine lv_aload_n hx hb dX4_isMet_88 rfl (lv_at hl 2 rfl) ?_
            refine ht_getr (C := RX4) (T := TX4) (N := 6) hx hb hts (by decide +kernel) hown hK hP hs t_zl (by decide) rfl rfl 3 (by decide) (hts (.fieldLink RX4 21 "DripStone$Law" "signs" "[I") (by decide +kernel)) (fun _ h9 => h9) rfl dX4_isMet_89 ?_
            refine lv_iload hx hb dX4_isMet_92 (lv_at hl 8 rfl) ?_
            refine ht_iald (n := 18) (q := 0) hx hb hK hP hs t_224 (by decide) rfl rfl ⟨by omega, by omega⟩ dX4_isMet_94 ?_
            refine lv_topi (fun zi_238 ezi_238 => ?_)
            obtain rfl : zi_225 = zi_238 := (ezi_238.trans ezi_225.symm).symm
            refine lv_bipush (v := 62) hx hb dX4_isMet_95 (by decide) ?_
            refine lv_icmp_ne (tgt := 104) hx hb dX4_isMet_97 (by decide) (fun c_239 => ?_) (fun c_239 => ?_)
            · have f_240 : zi_225.toInt ≠ (62 : Int) := ic_ne (rfl) (show (62 : Int32).toInt = 62 by decide) c_239
              refine lv_iconst (v := 0) hx hb dX4_isMet_104 (by decide) ?_
              exact jn_232 (0 : Int32) _ _ _ (by decide) hP hD hS (lv_sub hl [2, 3, 4, 5, 6, 7, 8, 1, 0] rfl)
            · have f_240 : ¬ (zi_225.toInt ≠ (62 : Int)) := ic_nne (rfl) (show (62 : Int32).toInt = 62 by decide) c_239
              refine lv_iconst (v := 1) hx hb dX4_isMet_100 (by decide) ?_
              refine lv_goto (tgt := 105) hx hb dX4_isMet_101 (by decide) ?_
              exact jn_232 (1 : Int32) _ _ _ (by decide) hP hD hS (lv_sub hl [2, 3, 4, 5, 6, 7, 8, 1, 0] rfl)
          · have f_237 : ¬ (zi_225.toInt ≠ (60 : Int)) := ic_nne (rfl) (show (60 : Int32).toInt = 60 by decide) c_236
            refine lv_iconst (v := (-1)) hx hb dX4_isMet_84 (by decide) ?_
            refine lv_goto (tgt := 105) hx hb dX4_isMet_85 (by decide) ?_
            exact jn_232 (-1 : Int32) _ _ _ (by decide) hP hD hS (lv_sub hl [2, 3, 4, 5, 6, 7, 8, 1, 0] rfl)
        refine lv_icmp_ne (tgt := 38) hx hb dX4_isMet_31 (by decide) (fun c_241 => ?_) (fun c_241 => ?_)
        · have f_242 : zi_211.toInt ≠ (97 : Int) := ic_ne (rfl) (show (97 : Int32).toInt = 97 by decide) c_241
          refine lv_aload_n hx hb dX4_isMet_38 rfl (lv_at hl 1 rfl) ?_
          refine ht_getr (C := RX4) (T := TX4) (N := 6) hx hb hts (by decide +kernel) hown hK hP hs t_zl (by decide) rfl rfl 2 (by decide) (hts (.fieldLink RX4 18 "DripStone$Law" "subjects" "[I") (by decide +kernel)) (fun _ h9 => h9) rfl dX4_isMet_39 ?_
          refine lv_iload hx hb dX4_isMet_42 (lv_at hl 0 rfl) ?_
          refine ht_iald (n := 18) (q := 0) hx hb hK hP hs t_210 (by decide) rfl rfl ⟨by omega, by omega⟩ dX4_isMet_44 ?_
          refine lv_topi (fun zi_243 ezi_243 => ?_)
          obtain rfl : zi_211 = zi_243 := (ezi_243.trans ezi_211.symm).symm
          refine lv_bipush (v := 104) hx hb dX4_isMet_45 (by decide) ?_
          refine lv_icmp_ne (tgt := 54) hx hb dX4_isMet_47 (by decide) (fun c_244 => ?_) (fun c_244 => ?_)
          · have f_245 : zi_211.toInt ≠ (104 : Int) := ic_ne (rfl) (show (104 : Int32).toInt = 104 by decide) c_244
            refine lv_iload hx hb dX4_isMet_54 (lv_at hl 5 rfl) ?_
            exact jn_218 ziw _ _ _  hP hD hS (lv_sub hl [1, 2, 3, 4, 5, 6, 0] rfl)
          · have f_245 : ¬ (zi_211.toInt ≠ (104 : Int)) := ic_nne (rfl) (show (104 : Int32).toInt = 104 by decide) c_244
            refine lv_iload_n hx hb dX4_isMet_50 rfl (lv_at hl 4 rfl) ?_
            refine lv_goto (tgt := 56) hx hb dX4_isMet_51 (by decide) ?_
            exact jn_218 zib _ _ _  hP hD hS (lv_sub hl [1, 2, 3, 4, 5, 6, 0] rfl)
        · have f_242 : ¬ (zi_211.toInt ≠ (97 : Int)) := ic_nne (rfl) (show (97 : Int32).toInt = 97 by decide) c_241
          refine lv_iload_n hx hb dX4_isMet_34 rfl (lv_at hl 3 rfl) ?_
          refine lv_goto (tgt := 56) hx hb dX4_isMet_35 (by decide) ?_
          exact jn_218 zia _ _ _  hP hD hS (lv_sub hl [1, 2, 3, 4, 5, 6, 0] rfl)
  exact lp_203 _ (0 : Int32) _ _ _ rfl (by decide) hP hD hS (lv_sub hl [1, 2, 3, 4, 5, 0] rfl)
set_option maxHeartbeats 8000000 in
set_option maxRecDepth 100000 in
theorem t_X4_growth (l : Launch) (dC : Nat → ClassId) (dI : Nat → Nat → Nat) (cy : Nat → ClassId) (sz : Nat) (zL : List Nat) (zT : Nat → Nat) (zR : Nat → Nat → Nat) (zI : Nat → Nat → Int32) (zJ : Nat → Nat → Int64) (zl : Nat) (zh : Nat) (ziy : Int32) (hs : SKP zL zT zR) (hw : WT zT zR zI) (t_zl : zT zl = 5) (t_zh : zT zh = 4) (b_ziy : 0 ≤ ziy.toInt ∧ ziy.toInt ≤ 23) : Met l yX4_growth wsX4_growth ({ frames := 2, cells := 0, slots := 0, locals := 54 } : Room) (va_Pc [.ref zl, .ref zh, .int ziy] (PRE dC dI cy (WL cy zL zT zR zI zJ) sz)) (va_Qi (fun (r : Int32) (u : Unit) => True) (fun u t => POST dC dI cy (va_A (WL cy zL zT zR zI zJ) sz) (WL cy zL zT zR zI zJ) t) (va_A (WL cy zL zT zR zI zJ) sz)) 0 0 (va_A (WL cy zL zT zR zI zJ) sz) := by
  refine Met.ofW (cc := cX4_growth) (maxL := 5) (ret := (some .int)) (by decide) rfl ?_
  intro p e s m args below meth c s₁ B hml hv
  obtain ⟨rfl, hsz, hP, hK, hD0, hN⟩ := hv
  have hx := B.exec
  have hb := B.bytes
  have hr := B.returns
  have hts := atoms_spec (ws := wsX4_growth) B.pre
  have hown : s.vm.findClass RX4 = some m.cls := findClass_of_methodNamed B.named
  have hlocks := B.notSynchronized
  subst hsz
  have hD := hD0.self (sz := s.heap.size)
  generalize hAe : va_A (WL cy zL zT zR zI zJ) s.heap.size = A at hD ⊢
  have hA : ∀ q : Nat, s.heap.size ≤ q → A q := fun q h => by rw [← hAe]; exact Or.inr h
  have hS : va_S A s.heap s.heap [] := va_S.rf
  have hP : va_P (dC, dI) vwCl (WL cy zL zT zR zI zJ) s.heap := hP
  have hl := lv_entry ([.ref zl, .ref zh, .int ziy] : List Value) (n := 5) (Nat.le_of_ble_eq_true rfl)
  rw [lg_entry_eq]
  generalize (lg_sl ([.ref zl, .ref zh, .int ziy] : List Value) ++ List.replicate (5 - (lg_sl ([.ref zl, .ref zh, .int ziy] : List Value)).length) Slot.unset).toArray = ls at hl ⊢
  have hl : lv_has ls 5 [(0, .ref zl), (1, .ref zh), (2, .int ziy)] := hl
  refine w_q (fun Q hQ => ?_)
  have h_zI : WM [] AL zT zR zI zI := WM.rf hw
  refine lv_aload_n hx hb dX4_growth_0 rfl (lv_at hl 1 rfl) ?_
  refine lv_iload_n hx hb dX4_growth_1 rfl (lv_at hl 2 rfl) ?_
  refine lv_aload_n hx hb dX4_growth_2 rfl (lv_at hl 1 rfl) ?_
  refine ht_geti (C := RX3) (T := TX3) (N := 3) hx hb hts (by decide +kernel) hown hK hP hs t_zh (by decide) rfl rfl 1 (by decide) (hts (.fieldLink RX4 27 "DripStone$Hill" "keeps" "I") (by decide +kernel)) (fun _ h9 => h9) rfl dX4_growth_3 ?_
  refine lv_topi (fun zi_1 ezi_1 => ?_)
  have tzi_1 : 1 ≤ zi_1.toInt ∧ zi_1.toInt ≤ 5 := by rw [ezi_1]; exact h_zI.at t_zh _ rfl
  refine hj_i (ws := (WL cy zL zT zR zI zJ)) (w1 := fun (u : Unit) => (WL cy zL zT zR zI zJ)) (va_runV (As := [.int ziy, .int zi_1]) (rest := []) ⟨hx, hb, hml, hown, hts⟩ (t_X3_wetBy l dC dI cy s.heap.size zL zT zR zI zJ zh ziy zi_1 hs h_zI.1 t_zh (by omega) (by omega)) (cwV 2 hts gX4_growth_X3_wetBy rfl rfl rfl (by decide +kernel) ⟨(Nat.le_of_ble_eq_true rfl), (Nat.le_of_ble_eq_true rfl)⟩) (PRE.v hP hK hD hN (ht_recv hK hP hs t_zh (by decide) rfl rfl)) rfl rfl hl.1 rfl (lv_room (Nat.le_of_ble_eq_true rfl)) dX4_growth_6 ⟨(Nat.le_of_ble_eq_true rfl), (Nat.le_of_ble_eq_true rfl)⟩) hP hD hS hA (fun zi_2 u_4 H locs hw_3 hP hD hS => ?_)
  have ps_5 : zi_2 = WTC (zI (zR (zR zh 0) 0)) ziy.toInt zi_1.toInt := hw_3
  have rzi_2 := rng zi_2
  refine lv_istore_n (lv' := [(3, .int zi_2), (0, .ref zl), (1, .ref zh), (2, .int ziy)]) hx hb dX4_growth_9 rfl hl (by decide) rfl (fun ls hl => ?_)
  refine lv_iload_n hx hb dX4_growth_10 rfl (lv_at hl 0 rfl) ?_
  refine lv_if_ne (tgt := 16) hx hb dX4_growth_11 (by decide) (fun c_6 => ?_) (fun c_6 => ?_)
  · have f_7 : zi_2.toInt ≠ 0 := ic_ne (rfl) (by decide) c_6
    refine lv_iconst (v := 0) hx hb dX4_growth_16 (by decide) ?_
    refine lv_istore (lv' := [(4, .int 0), (3, .int zi_2), (0, .ref zl), (1, .ref zh), (2, .int ziy)]) hx hb dX4_growth_17 hl (by decide) rfl (fun ls hl => ?_)
    have lp_80 : ∀ (n : Nat) (zi_65 : Int32) (H : Heap) (locs : List Loc) (ls : Array Slot), (6 - zi_65.toInt).toNat = n → (0 ≤ zi_65.toInt ∧ zi_65.toInt ≤ 6) → va_P (dC, dI) vwCl (WL cy zL zT zR zI zJ) H → va_D A (WL cy zL zT zR zI zJ) → va_S A s.heap H locs → lv_has ls 5 [(0, .ref zl), (1, .ref zh), (2, .int ziy), (3, .int zi_2), (4, .int zi_65)] → W p l e ({ frames := 2, cells := 0, slots := 0, locals := 54 } : Room) s m ([.ref zl, .ref zh, .int ziy] : List Value).toArray below meth c H locs 0 0 Q (F0 m 19 ls []) := by
      intro n
      induction n using Nat.strongRecOn with
      | _ n ih_80 =>
        intro zi_65 H locs ls hn b_zi_65 hP hD hS hl
        refine lv_iload hx hb dX4_growth_19 (lv_at hl 4 rfl) ?_
        refine lv_aload_n hx hb dX4_growth_21 rfl (lv_at hl 0 rfl) ?_
        refine ht_geti (C := RX4) (T := TX4) (N := 6) hx hb hts (by decide +kernel) hown hK hP hs t_zl (by decide) rfl rfl 5 (by decide) (hts (.fieldLink RX4 37 "DripStone$Law" "clauses" "I") (by decide +kernel)) (fun _ h9 => h9) rfl dX4_growth_22 ?_
        refine lv_topi (fun zi_81 ezi_81 => ?_)
        have tzi_81 : 0 ≤ zi_81.toInt ∧ zi_81.toInt ≤ 6 := by rw [ezi_81]; exact h_zI.at t_zl _ rfl
        refine lv_icmp_ge (tgt := 68) hx hb dX4_growth_25 (by decide) (fun c_82 => ?_) (fun c_82 => ?_)
        · have f_83 : zi_65.toInt ≥ zi_81.toInt := ic_ge (rfl) (rfl) c_82
          refine lv_iconst (v := 0) hx hb dX4_growth_68 (by decide) ?_
          subst hQ
          exact W.iret (v := (0 : Int32)) hx hb hr (fun t ht hW => ⟨⟨(0 : Int32), (), rfl, trivial, ⟨by rw [ht]; exact hP, va_K.moved hW.alike hK, hD⟩⟩, hS.F ht⟩) hS.2.2 dX4_growth_69
        · have f_83 : ¬ (zi_65.toInt ≥ zi_81.toInt) := ic_nge (rfl) (rfl) c_82
          refine lv_aload_n hx hb dX4_growth_28 rfl (lv_at hl 0 rfl) ?_
          refine lv_iload hx hb dX4_growth_29 (lv_at hl 4 rfl) ?_
          refine lv_aload_n hx hb dX4_growth_31 rfl (lv_at hl 1 rfl) ?_
          refine ht_getr (C := RX3) (T := TX3) (N := 3) hx hb hts (by decide +kernel) hown hK hP hs t_zh (by decide) rfl rfl 0 (by decide) (hts (.fieldLink RX4 40 "DripStone$Hill" "rain" "[[I") (by decide +kernel)) (fun _ h9 => h9) rfl dX4_growth_32 ?_
          have t_84 : zT (zR zh 0) = 60 := sk_f hs t_zh (by decide) rfl (by decide)
          refine lv_iconst (v := 0) hx hb dX4_growth_35 (by decide) ?_
          refine ht_aaldA (n := 3) (q := 7) hx hb hK hP hs t_84 (by decide) rfl rfl ⟨by decide, by decide⟩ dX4_growth_36 ?_
          have t_85 : zT (zR (zR zh 0) (0 : Int32).toNatClampNeg) = 34 := sk_a (n := 3) hs t_84 rfl rfl (by decide) (by decide)
          refine lv_iload_n hx hb dX4_growth_37 rfl (lv_at hl 2 rfl) ?_
          refine ht_iald (n := 24) (q := 0) hx hb hK hP hs t_85 (by decide) rfl rfl ⟨by omega, by omega⟩ dX4_growth_38 ?_
          refine lv_topi (fun zi_86 ezi_86 => ?_)
          refine lv_aload_n hx hb dX4_growth_39 rfl (lv_at hl 1 rfl) ?_
          refine ht_getr (C := RX3) (T := TX3) (N := 3) hx hb hts (by decide +kernel) hown hK hP hs t_zh (by decide) rfl rfl 0 (by decide) (hts (.fieldLink RX4 40 "DripStone$Hill" "rain" "[[I") (by decide +kernel)) (fun _ h9 => h9) rfl dX4_growth_40 ?_
          refine lv_iconst (v := 2) hx hb dX4_growth_43 (by decide) ?_
          refine ht_aaldA (n := 3) (q := 7) hx hb hK hP hs t_84 (by decide) rfl rfl ⟨by decide, by decide⟩ dX4_growth_44 ?_
          have t_87 : zT (zR (zR zh 0) (2 : Int32).toNatClampNeg) = 34 := sk_a (n := 3) hs t_84 rfl rfl (by decide) (by decide)
          refine lv_iload_n hx hb dX4_growth_45 rfl (lv_at hl 2 rfl) ?_
          refine ht_iald (n := 24) (q := 0) hx hb hK hP hs t_87 (by decide) rfl rfl ⟨by omega, by omega⟩ dX4_growth_46 ?_
          refine lv_topi (fun zi_88 ezi_88 => ?_)
          refine lv_iload_n hx hb dX4_growth_47 rfl (lv_at hl 3 rfl) ?_
          refine hj_i (ws := (WL cy zL zT zR zI zJ)) (w1 := fun (u : Unit) => (WL cy zL zT zR zI zJ)) (va_runV (As := [.int zi_65, .int zi_86, .int zi_88, .int zi_2]) (rest := []) ⟨hx, hb, hml, hown, hts⟩ (t_X4_isMet l dC dI cy H.size zL zT zR zI zJ zl zi_65 zi_86 zi_88 zi_2 hs h_zI.1 t_zl (by omega)) (cwV 4 hts gX4_growth_X4_isMet rfl rfl rfl (by decide +kernel) ⟨(Nat.le_of_ble_eq_true rfl), (Nat.le_of_ble_eq_true rfl)⟩) (PRE.v hP hK hD hN (ht_recv hK hP hs t_zl (by decide) rfl rfl)) rfl rfl hl.1 rfl (lv_room (Nat.le_of_ble_eq_true rfl)) dX4_growth_48 ⟨(Nat.le_of_ble_eq_true rfl), (Nat.le_of_ble_eq_true rfl)⟩) hP hD hS hA (fun zi_89 u_91 H locs hw_90 hP hD hS => ?_)
          have b_zi_89 : 0 ≤ zi_89.toInt ∧ zi_89.toInt ≤ 1 := hw_90
          refine lv_if_eq (tgt := 62) hx hb dX4_growth_51 (by decide) (fun c_92 => ?_) (fun c_92 => ?_)
          · have f_93 : zi_89.toInt = 0 := ic_eq (rfl) (by decide) c_92
            obtain ⟨zi_94, ezi_94⟩ : ∃ y : Int32, y = zi_65 + 1 := ⟨_, rfl⟩
            have tzi_94 : zi_94.toInt = zi_65.toInt + 1 := by rw [ezi_94]; exact tadd rfl (show (1 : Int32).toInt = 1 by decide) (by omega) (by omega)
            refine lv_iinc (v := zi_94) (lv' := [(4, .int zi_94), (0, .ref zl), (1, .ref zh), (2, .int ziy), (3, .int zi_2)]) hx hb dX4_growth_62 hl (k := 4) rfl (by rw [ezi_94]; rfl) (by decide) rfl (fun ls hl => ?_)
            refine lv_goto (tgt := 19) hx hb dX4_growth_65 (by decide) ?_
            exact ih_80 (6 - zi_94.toInt).toNat (by omega) zi_94 _ _ _ rfl (by omega) hP hD hS (lv_sub hl [1, 2, 3, 4, 0] rfl)
          · have f_93 : ¬ (zi_89.toInt = 0) := ic_neq (rfl) (by decide) c_92
            refine lv_aload_n hx hb dX4_growth_54 rfl (lv_at hl 0 rfl) ?_
            refine ht_getr (C := RX4) (T := TX4) (N := 6) hx hb hts (by decide +kernel) hown hK hP hs t_zl (by decide) rfl rfl 0 (by decide) (hts (.fieldLink RX4 9 "DripStone$Law" "digits" "[I") (by decide +kernel)) (fun _ h9 => h9) rfl dX4_growth_55 ?_
            have t_95 : zT (zR zl 0) = 22 := sk_f hs t_zl (by decide) rfl (by decide)
            refine lv_iload hx hb dX4_growth_58 (lv_at hl 4 rfl) ?_
            refine ht_iald (n := 6) (q := 0) hx hb hK hP hs t_95 (by decide) rfl rfl ⟨by omega, by omega⟩ dX4_growth_60 ?_
            refine lv_topi (fun zi_96 ezi_96 => ?_)
            subst hQ
            exact W.iret (v := zi_96) hx hb hr (fun t ht hW => ⟨⟨zi_96, (), rfl, trivial, ⟨by rw [ht]; exact hP, va_K.moved hW.alike hK, hD⟩⟩, hS.F ht⟩) hS.2.2 dX4_growth_61
    exact lp_80 _ (0 : Int32) _ _ _ rfl (by decide) hP hD hS (lv_sub hl [2, 3, 4, 1, 0] rfl)
  · have f_7 : ¬ (zi_2.toInt ≠ 0) := ic_nne (rfl) (by decide) c_6
    refine lv_iconst (v := 0) hx hb dX4_growth_14 (by decide) ?_
    subst hQ
    exact W.iret (v := (0 : Int32)) hx hb hr (fun t ht hW => ⟨⟨(0 : Int32), (), rfl, trivial, ⟨by rw [ht]; exact hP, va_K.moved hW.alike hK, hD⟩⟩, hS.F ht⟩) hS.2.2 dX4_growth_15
set_option maxHeartbeats 8000000 in
set_option maxRecDepth 100000 in
theorem t_X0_isPlace (l : Launch) (dC : Nat → ClassId) (dI : Nat → Nat → Nat) (cy : Nat → ClassId) (sz : Nat) (zL : List Nat) (zT : Nat → Nat) (zR : Nat → Nat → Nat) (zI : Nat → Nat → Int32) (zJ : Nat → Nat → Int64) (zc : Nat) (zit : Int32) (hs : SKP zL zT zR) (hw : WT zT zR zI) (t_zc : zT zc = 1) (b_zit : 0 ≤ zit.toInt ∧ zit.toInt ≤ 11) : Met l yX0_isPlace wsX0_isPlace ({ frames := 0, cells := 0, slots := 0, locals := 0 } : Room) (va_Pc [.ref zc, .int zit] (PRE dC dI cy (WL cy zL zT zR zI zJ) sz)) (va_Qi (fun (r : Int32) (u : Unit) => (0 ≤ r.toInt ∧ r.toInt ≤ 1) ∧ ((r.toInt = 0 ∧ (zI (zR zc 0) zit.toNatClampNeg).toInt = 2) ∨ (r.toInt = 1 ∧ ¬ (zI (zR zc 0) zit.toNatClampNeg).toInt = 2))) (fun u t => POST dC dI cy (va_A (WL cy zL zT zR zI zJ) sz) (WL cy zL zT zR zI zJ) t) (va_A (WL cy zL zT zR zI zJ) sz)) 0 0 (va_A (WL cy zL zT zR zI zJ) sz) := by
  refine Met.ofW (cc := cX0_isPlace) (maxL := 2) (ret := (some .boolean)) (by decide) rfl ?_
  intro p e s m args below meth c s₁ B hml hv
  obtain ⟨rfl, hsz, hP, hK, hD0, hN⟩ := hv
  have hx := B.exec
  have hb := B.bytes
  have hr := B.returns
  have hts := atoms_spec (ws := wsX0_isPlace) B.pre
  have hown : s.vm.findClass RX0 = some m.cls := findClass_of_methodNamed B.named
  have hlocks := B.notSynchronized
  subst hsz
  have hD := hD0.self (sz := s.heap.size)
  generalize hAe : va_A (WL cy zL zT zR zI zJ) s.heap.size = A at hD ⊢
  have hA : ∀ q : Nat, s.heap.size ≤ q → A q := fun q h => by rw [← hAe]; exact Or.inr h
  have hS : va_S A s.heap s.heap [] := va_S.rf
  have hP : va_P (dC, dI) vwCl (WL cy zL zT zR zI zJ) s.heap := hP
  have hl := lv_entry ([.ref zc, .int zit] : List Value) (n := 2) (Nat.le_of_ble_eq_true rfl)
  rw [lg_entry_eq]
  generalize (lg_sl ([.ref zc, .int zit] : List Value) ++ List.replicate (2 - (lg_sl ([.ref zc, .int zit] : List Value)).length) Slot.unset).toArray = ls at hl ⊢
  have hl : lv_has ls 2 [(0, .ref zc), (1, .int zit)] := hl
  refine w_q (fun Q hQ => ?_)
  have h_zI : WM [] AL zT zR zI zI := WM.rf hw
  refine lv_aload_n hx hb dX0_isPlace_0 rfl (lv_at hl 0 rfl) ?_
  refine ht_getr (C := RX0) (T := TX0) (N := 11) hx hb hts (by decide +kernel) hown hK hP hs t_zc (by decide) rfl rfl 0 (by decide) (hts (.fieldLink RX0 9 "DripStone$Candle" "kinds" "[I") (by decide +kernel)) (fun _ h9 => h9) rfl dX0_isPlace_1 ?_
  have t_1 : zT (zR zc 0) = 20 := sk_f hs t_zc (by decide) rfl (by decide)
  refine lv_iload_n hx hb dX0_isPlace_4 rfl (lv_at hl 1 rfl) ?_
  refine ht_iald (n := 12) (q := 0) hx hb hK hP hs t_1 (by decide) rfl rfl ⟨by omega, by omega⟩ dX0_isPlace_5 ?_
  refine lv_topi (fun zi_2 ezi_2 => ?_)
  have lzi_2 : (zI (zR zc 0) zit.toNatClampNeg).toInt = zi_2.toInt := by rw [ezi_2]
  refine lv_iconst (v := 2) hx hb dX0_isPlace_6 (by decide) ?_
  refine lv_icmp_eq (tgt := 14) hx hb dX0_isPlace_7 (by decide) (fun c_3 => ?_) (fun c_3 => ?_)
  · have f_4 : zi_2.toInt = (2 : Int) := ic_eq (rfl) (show (2 : Int32).toInt = 2 by decide) c_3
    refine lv_iconst (v := 0) hx hb dX0_isPlace_14 (by decide) ?_
    subst hQ
    have qc_0 : (0 : Int32).toInt = 0 := by decide
    exact W.zret (v := (0 : Int32)) hx hb hr rfl (fun t ht hW => ⟨⟨(0 : Int32), (), rfl, ⟨(show 0 ≤ (0 : Int32).toInt ∧ (0 : Int32).toInt ≤ 1 from by omega), (show ((0 : Int32).toInt = 0 ∧ (zI (zR zc 0) zit.toNatClampNeg).toInt = 2) ∨ ((0 : Int32).toInt = 1 ∧ ¬ (zI (zR zc 0) zit.toNatClampNeg).toInt = 2) from by omega)⟩, ⟨by rw [ht]; exact hP, va_K.moved hW.alike hK, hD⟩⟩, hS.F ht⟩) hS.2.2 dX0_isPlace_15
  · have f_4 : ¬ (zi_2.toInt = (2 : Int)) := ic_neq (rfl) (show (2 : Int32).toInt = 2 by decide) c_3
    refine lv_iconst (v := 1) hx hb dX0_isPlace_10 (by decide) ?_
    refine lv_goto (tgt := 15) hx hb dX0_isPlace_11 (by decide) ?_
    subst hQ
    have qc_1 : (1 : Int32).toInt = 1 := by decide
    exact W.zret (v := (1 : Int32)) hx hb hr rfl (fun t ht hW => ⟨⟨(1 : Int32), (), rfl, ⟨(show 0 ≤ (1 : Int32).toInt ∧ (1 : Int32).toInt ≤ 1 from by omega), (show ((1 : Int32).toInt = 0 ∧ (zI (zR zc 0) zit.toNatClampNeg).toInt = 2) ∨ ((1 : Int32).toInt = 1 ∧ ¬ (zI (zR zc 0) zit.toNatClampNeg).toInt = 2) from by omega)⟩, ⟨by rw [ht]; exact hP, va_K.moved hW.alike hK, hD⟩⟩, hS.F ht⟩) hS.2.2 dX0_isPlace_15
set_option maxHeartbeats 8000000 in
set_option maxRecDepth 100000 in
theorem t_X0_places (l : Launch) (dC : Nat → ClassId) (dI : Nat → Nat → Nat) (cy : Nat → ClassId) (sz : Nat) (zL : List Nat) (zT : Nat → Nat) (zR : Nat → Nat → Nat) (zI : Nat → Nat → Int32) (zJ : Nat → Nat → Int64) (zc : Nat) (hs : SKP zL zT zR) (hw : WT zT zR zI) (t_zc : zT zc = 1) : Met l yX0_places wsX0_places ({ frames := 1, cells := 0, slots := 0, locals := 21 } : Room) (va_Pc [.ref zc] (PRE dC dI cy (WL cy zL zT zR zI zJ) sz)) (va_Qi (fun (r : Int32) (u : Unit) => (0 ≤ r.toInt ∧ r.toInt ≤ 12) ∧ (r.toInt = PL (zI (zR zc 0)) ((zI zc 7).toInt).toNat)) (fun u t => POST dC dI cy (va_A (WL cy zL zT zR zI zJ) sz) (WL cy zL zT zR zI zJ) t) (va_A (WL cy zL zT zR zI zJ) sz)) 0 0 (va_A (WL cy zL zT zR zI zJ) sz) := by
  refine Met.ofW (cc := cX0_places) (maxL := 3) (ret := (some .int)) (by decide) rfl ?_
  intro p e s m args below meth c s₁ B hml hv
  obtain ⟨rfl, hsz, hP, hK, hD0, hN⟩ := hv
  have hx := B.exec
  have hb := B.bytes
  have hr := B.returns
  have hts := atoms_spec (ws := wsX0_places) B.pre
  have hown : s.vm.findClass RX0 = some m.cls := findClass_of_methodNamed B.named
  have hlocks := B.notSynchronized
  subst hsz
  have hD := hD0.self (sz := s.heap.size)
  generalize hAe : va_A (WL cy zL zT zR zI zJ) s.heap.size = A at hD ⊢
  have hA : ∀ q : Nat, s.heap.size ≤ q → A q := fun q h => by rw [← hAe]; exact Or.inr h
  have hS : va_S A s.heap s.heap [] := va_S.rf
  have hP : va_P (dC, dI) vwCl (WL cy zL zT zR zI zJ) s.heap := hP
  have hl := lv_entry ([.ref zc] : List Value) (n := 3) (Nat.le_of_ble_eq_true rfl)
  rw [lg_entry_eq]
  generalize (lg_sl ([.ref zc] : List Value) ++ List.replicate (3 - (lg_sl ([.ref zc] : List Value)).length) Slot.unset).toArray = ls at hl ⊢
  have hl : lv_has ls 3 [(0, .ref zc)] := hl
  refine w_q (fun Q hQ => ?_)
  have h_zI : WM [] AL zT zR zI zI := WM.rf hw
  refine lv_iconst (v := 0) hx hb dX0_places_0 (by decide) ?_
  refine lv_istore_n (lv' := [(1, .int 0), (0, .ref zc)]) hx hb dX0_places_1 rfl hl (by decide) rfl (fun ls hl => ?_)
  refine lv_iconst (v := 0) hx hb dX0_places_2 (by decide) ?_
  refine lv_istore_n (lv' := [(2, .int 0), (1, .int 0), (0, .ref zc)]) hx hb dX0_places_3 rfl hl (by decide) rfl (fun ls hl => ?_)
  obtain ⟨zi_1, ezi_1⟩ : ∃ y : Int32, y = zI zc 7 := ⟨_, rfl⟩
  have tzi_1 : 0 ≤ zi_1.toInt ∧ zi_1.toInt ≤ 12 := by rw [ezi_1]; exact h_zI.at t_zc _ rfl
  have lzi_1 : (zI zc 7).toInt = zi_1.toInt := by rw [ezi_1]
  have lp_148 : ∀ (n : Nat) (zi_133 : Int32) (zi_134 : Int32) (H : Heap) (locs : List Loc) (ls : Array Slot), (12 - zi_134.toInt).toNat = n → (0 ≤ zi_133.toInt ∧ zi_133.toInt ≤ 12) → (0 ≤ zi_134.toInt ∧ zi_134.toInt ≤ 12) → (zi_133.toInt = PL (zI (zR zc 0)) (zi_134.toInt).toNat) → (zi_133.toInt ≤ zi_134.toInt ∧ zi_134.toInt ≤ zi_1.toInt) → (zI zc 7 = zi_1) → va_P (dC, dI) vwCl (WL cy zL zT zR zI zJ) H → va_D A (WL cy zL zT zR zI zJ) → va_S A s.heap H locs → lv_has ls 3 [(0, .ref zc), (1, .int zi_133), (2, .int zi_134)] → W p l e ({ frames := 1, cells := 0, slots := 0, locals := 21 } : Room) s m ([.ref zc] : List Value).toArray below meth c H locs 0 0 Q (F0 m 4 ls []) := by
    intro n
    induction n using Nat.strongRecOn with
    | _ n ih_148 =>
      intro zi_133 zi_134 H locs ls hn b_zi_133 b_zi_134 e_lp_148_0 e_lp_148_1 e_lp_148_2 hP hD hS hl
      refine lv_iload_n hx hb dX0_places_4 rfl (lv_at hl 2 rfl) ?_
      refine lv_aload_n hx hb dX0_places_5 rfl (lv_at hl 0 rfl) ?_
      refine ht_geti (C := RX0) (T := TX0) (N := 11) hx hb hts (by decide +kernel) hown hK hP hs t_zc (by decide) rfl rfl 7 (by decide) (hts (.fieldLink RX0 37 "DripStone$Candle" "things" "I") (by decide +kernel)) (fun _ h9 => h9) rfl dX0_places_6 ?_
      refine lv_topi (fun zi_149 ezi_149 => ?_)
      obtain rfl : zi_1 = zi_149 := (ezi_149.trans e_lp_148_2).symm
      refine lv_icmp_ge (tgt := 34) hx hb dX0_places_9 (by decide) (fun c_150 => ?_) (fun c_150 => ?_)
      · have f_151 : zi_134.toInt ≥ zi_1.toInt := ic_ge (rfl) (rfl) c_150
        refine lv_iload_n hx hb dX0_places_34 rfl (lv_at hl 1 rfl) ?_
        subst hQ
        have lk_152 : (zI zc 7).toInt = zi_1.toInt := congrArg Int32.toInt e_lp_148_2
        exact W.iret (v := zi_133) hx hb hr (fun t ht hW => ⟨⟨zi_133, (), rfl, ⟨(show 0 ≤ zi_133.toInt ∧ zi_133.toInt ≤ 12 from by omega), (show zi_133.toInt = PL (zI (zR zc 0)) ((zI zc 7).toInt).toNat from (PL_e e_lp_148_0 (by omega)))⟩, ⟨by rw [ht]; exact hP, va_K.moved hW.alike hK, hD⟩⟩, hS.F ht⟩) hS.2.2 dX0_places_35
      · have f_151 : ¬ (zi_134.toInt ≥ zi_1.toInt) := ic_nge (rfl) (rfl) c_150
        refine lv_iload_n hx hb dX0_places_12 rfl (lv_at hl 1 rfl) ?_
        refine lv_aload_n hx hb dX0_places_13 rfl (lv_at hl 0 rfl) ?_
        refine lv_iload_n hx hb dX0_places_14 rfl (lv_at hl 2 rfl) ?_
        refine hj_i (ws := (WL cy zL zT zR zI zJ)) (w1 := fun (u : Unit) => (WL cy zL zT zR zI zJ)) (va_runV (As := [.int zi_134]) (rest := [.int zi_133]) ⟨hx, hb, hml, hown, hts⟩ (t_X0_isPlace l dC dI cy H.size zL zT zR zI zJ zc zi_134 hs h_zI.1 t_zc (by omega)) (cwV 1 hts gX0_places_X0_isPlace rfl rfl rfl (by decide +kernel) ⟨(Nat.le_of_ble_eq_true rfl), (Nat.le_of_ble_eq_true rfl)⟩) (PRE.v hP hK hD hN (ht_recv hK hP hs t_zc (by decide) rfl rfl)) rfl rfl hl.1 rfl (lv_room (Nat.le_of_ble_eq_true rfl)) dX0_places_15 ⟨(Nat.le_of_ble_eq_true rfl), (Nat.le_of_ble_eq_true rfl)⟩) hP hD hS hA (fun zi_153 u_155 H locs hw_154 hP hD hS => ?_)
        obtain ⟨b_zi_153, ps_156⟩ : (0 ≤ zi_153.toInt ∧ zi_153.toInt ≤ 1) ∧ ((zi_153.toInt = 0 ∧ (zI (zR zc 0) zi_134.toNatClampNeg).toInt = 2) ∨ (zi_153.toInt = 1 ∧ ¬ (zI (zR zc 0) zi_134.toNatClampNeg).toInt = 2)) := hw_154
        refine lv_if_eq (tgt := 25) hx hb dX0_places_18 (by decide) (fun c_157 => ?_) (fun c_157 => ?_)
        · have f_158 : zi_153.toInt = 0 := ic_eq (rfl) (by decide) c_157
          refine lv_iconst (v := 0) hx hb dX0_places_25 (by decide) ?_
          refine lv_iadd hx hb dX0_places_26 ?_
          refine lv_topi (fun zi_159 ezi_159 => ?_)
          have tzi_159 : zi_159.toInt = zi_133.toInt + (0 : Int) := by rw [ezi_159]; exact tiadd (rfl) (show (0 : Int32).toInt = 0 by decide) (by omega) (by omega)
          refine lv_istore_n (lv' := [(1, .int zi_159), (0, .ref zc), (2, .int zi_134)]) hx hb dX0_places_27 rfl hl (by decide) rfl (fun ls hl => ?_)
          obtain ⟨zi_160, ezi_160⟩ : ∃ y : Int32, y = zi_134 + 1 := ⟨_, rfl⟩
          have tzi_160 : zi_160.toInt = zi_134.toInt + 1 := by rw [ezi_160]; exact tadd rfl (show (1 : Int32).toInt = 1 by decide) (by omega) (by omega)
          refine lv_iinc (v := zi_160) (lv' := [(2, .int zi_160), (1, .int zi_159), (0, .ref zc)]) hx hb dX0_places_28 hl (k := 2) rfl (by rw [ezi_160]; rfl) (by decide) rfl (fun ls hl => ?_)
          refine lv_goto (tgt := 4) hx hb dX0_places_31 (by decide) ?_
          exact ih_148 (12 - zi_160.toInt).toNat (by omega) zi_159 zi_160 _ _ _ rfl (by omega) (by omega) (by have q9 := PL_s (f := zI (zR zc 0)) (t := zi_134) (t' := zi_160) (by omega) (by omega); omega) (by omega) e_lp_148_2 hP hD hS (lv_sub hl [2, 1, 0] rfl)
        · have f_158 : ¬ (zi_153.toInt = 0) := ic_neq (rfl) (by decide) c_157
          refine lv_iconst (v := 1) hx hb dX0_places_21 (by decide) ?_
          refine lv_goto (tgt := 26) hx hb dX0_places_22 (by decide) ?_
          refine lv_iadd hx hb dX0_places_26 ?_
          refine lv_topi (fun zi_161 ezi_161 => ?_)
          have tzi_161 : zi_161.toInt = zi_133.toInt + (1 : Int) := by rw [ezi_161]; exact tiadd (rfl) (show (1 : Int32).toInt = 1 by decide) (by omega) (by omega)
          refine lv_istore_n (lv' := [(1, .int zi_161), (0, .ref zc), (2, .int zi_134)]) hx hb dX0_places_27 rfl hl (by decide) rfl (fun ls hl => ?_)
          obtain ⟨zi_162, ezi_162⟩ : ∃ y : Int32, y = zi_134 + 1 := ⟨_, rfl⟩
          have tzi_162 : zi_162.toInt = zi_134.toInt + 1 := by rw [ezi_162]; exact tadd rfl (show (1 : Int32).toInt = 1 by decide) (by omega) (by omega)
          refine lv_iinc (v := zi_162) (lv' := [(2, .int zi_162), (1, .int zi_161), (0, .ref zc)]) hx hb dX0_places_28 hl (k := 2) rfl (by rw [ezi_162]; rfl) (by decide) rfl (fun ls hl => ?_)
          refine lv_goto (tgt := 4) hx hb dX0_places_31 (by decide) ?_
          exact ih_148 (12 - zi_162.toInt).toNat (by omega) zi_161 zi_162 _ _ _ rfl (by omega) (by omega) (by have q9 := PL_s (f := zI (zR zc 0)) (t := zi_134) (t' := zi_162) (by omega) (by omega); omega) (by omega) e_lp_148_2 hP hD hS (lv_sub hl [2, 1, 0] rfl)
  have qc_0 : (0 : Int32).toInt = 0 := by decide
  exact lp_148 _ (0 : Int32) (0 : Int32) _ _ _ rfl (by decide) (by decide) rfl (by omega) ezi_1.symm hP hD hS (lv_sub hl [2, 1, 0] rfl)
set_option maxHeartbeats 8000000 in
set_option maxRecDepth 100000 in
theorem t_X0_add (l : Launch) (dC : Nat → ClassId) (dI : Nat → Nat → Nat) (cy : Nat → ClassId) (sz : Nat) (zL : List Nat) (zT : Nat → Nat) (zR : Nat → Nat → Nat) (zI : Nat → Nat → Int32) (zJ : Nat → Nat → Int64) (zc : Nat) (zia : Int32) (zib : Int32) (ziy : Int32) (hs : SKP zL zT zR) (hw : WT zT zR zI) (t_zc : zT zc = 1) : Met l yX0_add wsX0_add ({ frames := 0, cells := 0, slots := 0, locals := 0 } : Room) (va_Pc [.ref zc, .int zia, .int zib, .int ziy] (PRE dC dI cy (WL cy zL zT zR zI zJ) sz)) (va_Qv (fun (u : (Nat → Nat → Int32)) => (WM [107, 2000, 2100] (OW zT zR zc) zT zR zI u)) (fun u t => POST dC dI cy (va_A (WL cy zL zT zR zI zJ) sz) (WL cy zL zT zR u zJ) t) (va_A (WL cy zL zT zR zI zJ) sz)) 0 0 (va_A (WL cy zL zT zR zI zJ) sz) := by
  refine Met.ofW (cc := cX0_add) (maxL := 4) (ret := none) (by decide) rfl ?_
  intro p e s m args below meth c s₁ B hml hv
  obtain ⟨rfl, hsz, hP, hK, hD0, hN⟩ := hv
  have hx := B.exec
  have hb := B.bytes
  have hr := B.returns
  have hts := atoms_spec (ws := wsX0_add) B.pre
  have hown : s.vm.findClass RX0 = some m.cls := findClass_of_methodNamed B.named
  have hlocks := B.notSynchronized
  subst hsz
  have hD := hD0.self (sz := s.heap.size)
  generalize hAe : va_A (WL cy zL zT zR zI zJ) s.heap.size = A at hD ⊢
  have hA : ∀ q : Nat, s.heap.size ≤ q → A q := fun q h => by rw [← hAe]; exact Or.inr h
  have hS : va_S A s.heap s.heap [] := va_S.rf
  have hP : va_P (dC, dI) vwCl (WL cy zL zT zR zI zJ) s.heap := hP
  have hl := lv_entry ([.ref zc, .int zia, .int zib, .int ziy] : List Value) (n := 4) (Nat.le_of_ble_eq_true rfl)
  rw [lg_entry_eq]
  generalize (lg_sl ([.ref zc, .int zia, .int zib, .int ziy] : List Value) ++ List.replicate (4 - (lg_sl ([.ref zc, .int zia, .int zib, .int ziy] : List Value)).length) Slot.unset).toArray = ls at hl ⊢
  have hl : lv_has ls 4 [(0, .ref zc), (1, .int zia), (2, .int zib), (3, .int ziy)] := hl
  refine w_q (fun Q hQ => ?_)
  have h_zI : WM [107, 2000, 2100] (OW zT zR zc) zT zR zI zI := WM.rf hw
  refine lv_aload_n hx hb dX0_add_0 rfl (lv_at hl 0 rfl) ?_
  refine ht_geti (C := RX0) (T := TX0) (N := 11) hx hb hts (by decide +kernel) hown hK hP hs t_zc (by decide) rfl rfl 7 (by decide) (hts (.fieldLink RX0 37 "DripStone$Candle" "things" "I") (by decide +kernel)) (fun _ h9 => h9) rfl dX0_add_1 ?_
  refine lv_topi (fun zi_1 ezi_1 => ?_)
  have tzi_1 : 0 ≤ zi_1.toInt ∧ zi_1.toInt ≤ 12 := by rw [ezi_1]; exact h_zI.at t_zc _ rfl
  refine lv_bipush (v := 12) hx hb dX0_add_4 (by decide) ?_
  refine lv_icmp_ge (tgt := 49) hx hb dX0_add_6 (by decide) (fun c_2 => ?_) (fun c_2 => ?_)
  · have f_3 : zi_1.toInt ≥ (12 : Int) := ic_ge (rfl) (show (12 : Int32).toInt = 12 by decide) c_2
    subst hQ
    exact W.vret hx hb hr (fun t ht hW => ⟨⟨zI, rfl, h_zI, ⟨by rw [ht]; exact hP, va_K.moved hW.alike hK, hD⟩⟩, hS.F ht⟩) hS.2.2 dX0_add_49
  · have f_3 : ¬ (zi_1.toInt ≥ (12 : Int)) := ic_nge (rfl) (show (12 : Int32).toInt = 12 by decide) c_2
    refine lv_aload_n hx hb dX0_add_9 rfl (lv_at hl 0 rfl) ?_
    refine ht_getr (C := RX0) (T := TX0) (N := 11) hx hb hts (by decide +kernel) hown hK hP hs t_zc (by decide) rfl rfl 0 (by decide) (hts (.fieldLink RX0 9 "DripStone$Candle" "kinds" "[I") (by decide +kernel)) (fun _ h9 => h9) rfl dX0_add_10 ?_
    have t_4 : zT (zR zc 0) = 20 := sk_f hs t_zc (by decide) rfl (by decide)
    refine lv_aload_n hx hb dX0_add_13 rfl (lv_at hl 0 rfl) ?_
    refine ht_geti (C := RX0) (T := TX0) (N := 11) hx hb hts (by decide +kernel) hown hK hP hs t_zc (by decide) rfl rfl 7 (by decide) (hts (.fieldLink RX0 37 "DripStone$Candle" "things" "I") (by decide +kernel)) (fun _ h9 => h9) rfl dX0_add_14 ?_
    refine lv_topi (fun zi_5 ezi_5 => ?_)
    obtain rfl : zi_1 = zi_5 := (ezi_5.trans ezi_1.symm).symm
    refine lv_iload_n hx hb dX0_add_17 rfl (lv_at hl 1 rfl) ?_
    refine ht_iast (v := zia) (n := 12) (q := 0) hx hb hK hP hD hS hs t_4 (by decide) rfl rfl ⟨by omega, by omega⟩ dX0_add_18 (fun H locs hP hD hS => ?_)
    have h_zI_6 : WM [107, 2000, 2100] (OW zT zR zc) zT zR zI (u2 zI (zR zc 0) zi_1.toNatClampNeg zia) := h_zI.putA hs t_4 rfl (rgF _) (by decide) (fun h => absurd h (by decide)) (by decide) (Or.inr ⟨0, by rw [t_zc]; decide, rfl⟩)
    generalize uzI_6 : u2 zI (zR zc 0) zi_1.toNatClampNeg zia = zI_6 at hP hD h_zI_6
    refine lv_aload_n hx hb dX0_add_19 rfl (lv_at hl 0 rfl) ?_
    refine ht_getr (C := RX0) (T := TX0) (N := 11) hx hb hts (by decide +kernel) hown hK hP hs t_zc (by decide) rfl rfl 1 (by decide) (hts (.fieldLink RX0 15 "DripStone$Candle" "weights" "[I") (by decide +kernel)) (fun _ h9 => h9) rfl dX0_add_20 ?_
    have t_7 : zT (zR zc 1) = 21 := sk_f hs t_zc (by decide) rfl (by decide)
    refine lv_aload_n hx hb dX0_add_23 rfl (lv_at hl 0 rfl) ?_
    refine ht_geti (C := RX0) (T := TX0) (N := 11) hx hb hts (by decide +kernel) hown hK hP hs t_zc (by decide) rfl rfl 7 (by decide) (hts (.fieldLink RX0 37 "DripStone$Candle" "things" "I") (by decide +kernel)) (fun _ h9 => h9) rfl dX0_add_24 ?_
    refine lv_topi (fun zi_8 ezi_8 => ?_)
    obtain rfl : zi_1 = zi_8 := (ezi_8.trans ((show zI_6 zc 7 = zI zc 7 from by rw [← uzI_6]; exact u2_n (tne t_zc t_4 (by decide))).trans ezi_1.symm)).symm
    refine lv_iload_n hx hb dX0_add_27 rfl (lv_at hl 2 rfl) ?_
    refine ht_iast (v := zib) (n := 12) (q := 0) hx hb hK hP hD hS hs t_7 (by decide) rfl rfl ⟨by omega, by omega⟩ dX0_add_28 (fun H locs hP hD hS => ?_)
    have h_zI_9 : WM [107, 2000, 2100] (OW zT zR zc) zT zR zI (u2 zI_6 (zR zc 1) zi_1.toNatClampNeg zib) := h_zI_6.putA hs t_7 rfl (rgF _) (by decide) (fun h => absurd h (by decide)) (by decide) (Or.inr ⟨1, by rw [t_zc]; decide, rfl⟩)
    generalize uzI_9 : u2 zI_6 (zR zc 1) zi_1.toNatClampNeg zib = zI_9 at hP hD h_zI_9
    refine lv_aload_n hx hb dX0_add_29 rfl (lv_at hl 0 rfl) ?_
    refine ht_getr (C := RX0) (T := TX0) (N := 11) hx hb hts (by decide +kernel) hown hK hP hs t_zc (by decide) rfl rfl 2 (by decide) (hts (.fieldLink RX0 18 "DripStone$Candle" "years" "[I") (by decide +kernel)) (fun _ h9 => h9) rfl dX0_add_30 ?_
    have t_10 : zT (zR zc 2) = 21 := sk_f hs t_zc (by decide) rfl (by decide)
    refine lv_aload_n hx hb dX0_add_33 rfl (lv_at hl 0 rfl) ?_
    refine ht_geti (C := RX0) (T := TX0) (N := 11) hx hb hts (by decide +kernel) hown hK hP hs t_zc (by decide) rfl rfl 7 (by decide) (hts (.fieldLink RX0 37 "DripStone$Candle" "things" "I") (by decide +kernel)) (fun _ h9 => h9) rfl dX0_add_34 ?_
    refine lv_topi (fun zi_11 ezi_11 => ?_)
    obtain rfl : zi_1 = zi_11 := (ezi_11.trans ((show zI_9 zc 7 = zI_6 zc 7 from by rw [← uzI_9]; exact u2_n (tne t_zc t_7 (by decide))).trans ((show zI_6 zc 7 = zI zc 7 from by rw [← uzI_6]; exact u2_n (tne t_zc t_4 (by decide))).trans ezi_1.symm))).symm
    refine lv_iload_n hx hb dX0_add_37 rfl (lv_at hl 3 rfl) ?_
    refine ht_iast (v := ziy) (n := 12) (q := 0) hx hb hK hP hD hS hs t_10 (by decide) rfl rfl ⟨by omega, by omega⟩ dX0_add_38 (fun H locs hP hD hS => ?_)
    have h_zI_12 : WM [107, 2000, 2100] (OW zT zR zc) zT zR zI (u2 zI_9 (zR zc 2) zi_1.toNatClampNeg ziy) := h_zI_9.putA hs t_10 rfl (rgF _) (by decide) (fun h => absurd h (by decide)) (by decide) (Or.inr ⟨2, by rw [t_zc]; decide, rfl⟩)
    generalize uzI_12 : u2 zI_9 (zR zc 2) zi_1.toNatClampNeg ziy = zI_12 at hP hD h_zI_12
    refine lv_aload_n hx hb dX0_add_39 rfl (lv_at hl 0 rfl) ?_
    refine lv_dup hx hb dX0_add_40 rfl ?_
    refine ht_geti (C := RX0) (T := TX0) (N := 11) hx hb hts (by decide +kernel) hown hK hP hs t_zc (by decide) rfl rfl 7 (by decide) (hts (.fieldLink RX0 37 "DripStone$Candle" "things" "I") (by decide +kernel)) (fun _ h9 => h9) rfl dX0_add_41 ?_
    refine lv_topi (fun zi_13 ezi_13 => ?_)
    obtain rfl : zi_1 = zi_13 := (ezi_13.trans ((show zI_12 zc 7 = zI_9 zc 7 from by rw [← uzI_12]; exact u2_n (tne t_zc t_10 (by decide))).trans ((show zI_9 zc 7 = zI_6 zc 7 from by rw [← uzI_9]; exact u2_n (tne t_zc t_7 (by decide))).trans ((show zI_6 zc 7 = zI zc 7 from by rw [← uzI_6]; exact u2_n (tne t_zc t_4 (by decide))).trans ezi_1.symm)))).symm
    refine lv_iconst (v := 1) hx hb dX0_add_44 (by decide) ?_
    refine lv_iadd hx hb dX0_add_45 ?_
    refine lv_topi (fun zi_14 ezi_14 => ?_)
    have tzi_14 : zi_14.toInt = zi_1.toInt + (1 : Int) := by rw [ezi_14]; exact tiadd (rfl) (show (1 : Int32).toInt = 1 by decide) (by omega) (by omega)
    refine ht_puti (v := zi_14) (ty := .int) (C := RX0) (T := TX0) (N := 11) hx hb hts (by decide +kernel) tyX0 tyX0_ok nmX0 hown hK hP hD hS hs t_zc (by decide) rfl rfl 7 (by decide) (hts (.fieldLink RX0 37 "DripStone$Candle" "things" "I") (by decide +kernel)) (fun _ h9 => h9) rfl (by decide +kernel) rfl rfl rfl dX0_add_46 (fun H locs hP hD hS => ?_)
    have h_zI_15 : WM [107, 2000, 2100] (OW zT zR zc) zT zR zI (u2 zI_12 zc 7 zi_14) := h_zI_12.put hs t_zc rfl (by omega) (by decide) (fun h => absurd h (by decide)) (by decide) (Or.inl rfl)
    generalize uzI_15 : u2 zI_12 zc 7 zi_14 = zI_15 at hP hD h_zI_15
    subst hQ
    exact W.vret hx hb hr (fun t ht hW => ⟨⟨zI_15, rfl, h_zI_15, ⟨by rw [ht]; exact hP, va_K.moved hW.alike hK, hD⟩⟩, hS.F ht⟩) hS.2.2 dX0_add_49
set_option maxHeartbeats 8000000 in
set_option maxRecDepth 100000 in
theorem t_X0_grow (l : Launch) (dC : Nat → ClassId) (dI : Nat → Nat → Nat) (cy : Nat → ClassId) (sz : Nat) (zL : List Nat) (zT : Nat → Nat) (zR : Nat → Nat → Nat) (zI : Nat → Nat → Int32) (zJ : Nat → Nat → Int64) (zc : Nat) (zh : Nat) (zl : Nat) (hs : SKP zL zT zR) (hw : WT zT zR zI) (t_zc : zT zc = 1) (t_zh : zT zh = 4) (t_zl : zT zl = 5) : Met l yX0_grow wsX0_grow ({ frames := 3, cells := 0, slots := 0, locals := 79 } : Room) (va_Pc [.ref zc, .ref zh, .ref zl] (PRE dC dI cy (WL cy zL zT zR zI zJ) sz)) (va_Qv (fun (u : (Nat → Nat → Int32)) => (WM [107, 108, 110, 2000, 2100] (OW zT zR zc) zT zR zI u)) (fun u t => POST dC dI cy (va_A (WL cy zL zT zR zI zJ) sz) (WL cy zL zT zR u zJ) t) (va_A (WL cy zL zT zR zI zJ) sz)) 0 0 (va_A (WL cy zL zT zR zI zJ) sz) := by
  refine Met.ofW (cc := cX0_grow) (maxL := 7) (ret := none) (by decide) rfl ?_
  intro p e s m args below meth c s₁ B hml hv
  obtain ⟨rfl, hsz, hP, hK, hD0, hN⟩ := hv
  have hx := B.exec
  have hb := B.bytes
  have hr := B.returns
  have hts := atoms_spec (ws := wsX0_grow) B.pre
  have hown : s.vm.findClass RX0 = some m.cls := findClass_of_methodNamed B.named
  have hlocks := B.notSynchronized
  subst hsz
  have hD := hD0.self (sz := s.heap.size)
  generalize hAe : va_A (WL cy zL zT zR zI zJ) s.heap.size = A at hD ⊢
  have hA : ∀ q : Nat, s.heap.size ≤ q → A q := fun q h => by rw [← hAe]; exact Or.inr h
  have hS : va_S A s.heap s.heap [] := va_S.rf
  have hP : va_P (dC, dI) vwCl (WL cy zL zT zR zI zJ) s.heap := hP
  have hl := lv_entry ([.ref zc, .ref zh, .ref zl] : List Value) (n := 7) (Nat.le_of_ble_eq_true rfl)
  rw [lg_entry_eq]
  generalize (lg_sl ([.ref zc, .ref zh, .ref zl] : List Value) ++ List.replicate (7 - (lg_sl ([.ref zc, .ref zh, .ref zl] : List Value)).length) Slot.unset).toArray = ls at hl ⊢
  have hl : lv_has ls 7 [(0, .ref zc), (1, .ref zh), (2, .ref zl)] := hl
  refine w_q (fun Q hQ => ?_)
  have h_zI : WM [107, 108, 110, 2000, 2100] (OW zT zR zc) zT zR zI zI := WM.rf hw
  refine lv_aload_n hx hb dX0_grow_0 rfl (lv_at hl 0 rfl) ?_
  refine lv_iconst (v := 0) hx hb dX0_grow_1 (by decide) ?_
  refine ht_puti (v := (0 : Int32)) (ty := .int) (C := RX0) (T := TX0) (N := 11) hx hb hts (by decide +kernel) tyX0 tyX0_ok nmX0 hown hK hP hD hS hs t_zc (by decide) rfl rfl 7 (by decide) (hts (.fieldLink RX0 37 "DripStone$Candle" "things" "I") (by decide +kernel)) (fun _ h9 => h9) rfl (by decide +kernel) rfl rfl rfl dX0_grow_2 (fun H locs hP hD hS => ?_)
  have h_zI_1 : WM [107, 108, 110, 2000, 2100] (OW zT zR zc) zT zR zI (u2 zI zc 7 (0 : Int32)) := h_zI.put hs t_zc rfl (by decide) (by decide) (fun h => absurd h (by decide)) (by decide) (Or.inl rfl)
  generalize uzI_1 : u2 zI zc 7 (0 : Int32) = zI_1 at hP hD h_zI_1
  refine lv_aload_n hx hb dX0_grow_5 rfl (lv_at hl 0 rfl) ?_
  refine lv_iconst (v := 0) hx hb dX0_grow_6 (by decide) ?_
  refine ht_puti (v := (0 : Int32)) (ty := .int) (C := RX0) (T := TX0) (N := 11) hx hb hts (by decide +kernel) tyX0 tyX0_ok nmX0 hown hK hP hD hS hs t_zc (by decide) rfl rfl 8 (by decide) (hts (.fieldLink RX0 44 "DripStone$Candle" "stretches" "I") (by decide +kernel)) (fun _ h9 => h9) rfl (by decide +kernel) rfl rfl rfl dX0_grow_7 (fun H locs hP hD hS => ?_)
  have h_zI_2 : WM [107, 108, 110, 2000, 2100] (OW zT zR zc) zT zR zI (u2 zI_1 zc 8 (0 : Int32)) := h_zI_1.put hs t_zc rfl (by decide) (by decide) (fun h => absurd h (by decide)) (by decide) (Or.inl rfl)
  generalize uzI_2 : u2 zI_1 zc 8 (0 : Int32) = zI_2 at hP hD h_zI_2
  refine lv_aload_n hx hb dX0_grow_10 rfl (lv_at hl 0 rfl) ?_
  refine lv_iconst (v := 1) hx hb dX0_grow_11 (by decide) ?_
  refine ht_puti (v := (1 : Int32)) (ty := .boolean) (C := RX0) (T := TX0) (N := 11) hx hb hts (by decide +kernel) tyX0 tyX0_ok nmX0 hown hK hP hD hS hs t_zc (by decide) rfl rfl 10 (by decide) (hts (.fieldLink RX0 47 "DripStone$Candle" "made" "Z") (by decide +kernel)) (fun _ h9 => h9) rfl (by decide +kernel) rfl rfl rfl dX0_grow_12 (fun H locs hP hD hS => ?_)
  have h_zI_3 : WM [107, 108, 110, 2000, 2100] (OW zT zR zc) zT zR zI (u2 zI_2 zc 10 (1 : Int32)) := h_zI_2.put hs t_zc rfl (by decide) (by decide) (fun h => absurd h (by decide)) (by decide) (Or.inl rfl)
  generalize uzI_3 : u2 zI_2 zc 10 (1 : Int32) = zI_3 at hP hD h_zI_3
  refine lv_iconst (v := (-1)) hx hb dX0_grow_15 (by decide) ?_
  refine lv_istore_n (lv' := [(3, .int (-1)), (0, .ref zc), (1, .ref zh), (2, .ref zl)]) hx hb dX0_grow_16 rfl hl (by decide) rfl (fun ls hl => ?_)
  refine lv_iconst (v := 0) hx hb dX0_grow_17 (by decide) ?_
  refine lv_istore (lv' := [(4, .int 0), (3, .int (-1)), (0, .ref zc), (1, .ref zh), (2, .ref zl)]) hx hb dX0_grow_18 hl (by decide) rfl (fun ls hl => ?_)
  have lp_1876 : ∀ (n : Nat) (zi_1747 : Int32) (zi_1748 : Int32) (zI_1749 : Nat → Nat → Int32) (H : Heap) (locs : List Loc) (ls : Array Slot), (24 - zi_1748.toInt).toNat = n → ((-1) ≤ zi_1747.toInt ∧ zi_1747.toInt ≤ 23) → (0 ≤ zi_1748.toInt ∧ zi_1748.toInt ≤ 24) → (WM [107, 108, 110, 2000, 2100] (OW zT zR zc) zT zR zI zI_1749) → va_P (dC, dI) vwCl (WL cy zL zT zR zI_1749 zJ) H → va_D A (WL cy zL zT zR zI_1749 zJ) → va_S A s.heap H locs → lv_has ls 7 [(0, .ref zc), (1, .ref zh), (2, .ref zl), (3, .int zi_1747), (4, .int zi_1748)] → W p l e ({ frames := 3, cells := 0, slots := 0, locals := 79 } : Room) s m ([.ref zc, .ref zh, .ref zl] : List Value).toArray below meth c H locs 0 0 Q (F0 m 20 ls []) := by
    intro n
    induction n using Nat.strongRecOn with
    | _ n ih_1876 =>
      intro zi_1747 zi_1748 zI_1749 H locs ls hn b_zi_1747 b_zi_1748 h_zI_1749 hP hD hS hl
      refine lv_iload hx hb dX0_grow_20 (lv_at hl 4 rfl) ?_
      refine lv_bipush (v := 24) hx hb dX0_grow_22 (by decide) ?_
      refine lv_icmp_ge (tgt := 118) hx hb dX0_grow_24 (by decide) (fun c_1877 => ?_) (fun c_1877 => ?_)
      · have f_1878 : zi_1748.toInt ≥ (24 : Int) := ic_ge (rfl) (show (24 : Int32).toInt = 24 by decide) c_1877
        subst hQ
        exact W.vret hx hb hr (fun t ht hW => ⟨⟨zI_1749, rfl, h_zI_1749, ⟨by rw [ht]; exact hP, va_K.moved hW.alike hK, hD⟩⟩, hS.F ht⟩) hS.2.2 dX0_grow_118
      · have f_1878 : ¬ (zi_1748.toInt ≥ (24 : Int)) := ic_nge (rfl) (show (24 : Int32).toInt = 24 by decide) c_1877
        refine lv_aload_n hx hb dX0_grow_27 rfl (lv_at hl 2 rfl) ?_
        refine lv_aload_n hx hb dX0_grow_28 rfl (lv_at hl 1 rfl) ?_
        refine lv_iload hx hb dX0_grow_29 (lv_at hl 4 rfl) ?_
        refine hj_i (ws := (WL cy zL zT zR zI_1749 zJ)) (w1 := fun (u : Unit) => (WL cy zL zT zR zI_1749 zJ)) (va_runV (As := [.ref zh, .int zi_1748]) (rest := []) ⟨hx, hb, hml, hown, hts⟩ (t_X4_growth l dC dI cy H.size zL zT zR zI_1749 zJ zl zh zi_1748 hs h_zI_1749.1 t_zl t_zh (by omega)) (cwV 2 hts gX0_grow_X4_growth rfl rfl rfl (by decide +kernel) ⟨(Nat.le_of_ble_eq_true rfl), (Nat.le_of_ble_eq_true rfl)⟩) (PRE.v hP hK hD hN (ht_recv hK hP hs t_zl (by decide) rfl rfl)) rfl rfl hl.1 rfl (lv_room (Nat.le_of_ble_eq_true rfl)) dX0_grow_31 ⟨(Nat.le_of_ble_eq_true rfl), (Nat.le_of_ble_eq_true rfl)⟩) hP hD hS hA (fun zi_1879 u_1881 H locs hw_1880 hP hD hS => ?_)
        have rzi_1879 := rng zi_1879
        refine lv_istore (lv' := [(5, .int zi_1879), (0, .ref zc), (1, .ref zh), (2, .ref zl), (3, .int zi_1747), (4, .int zi_1748)]) hx hb dX0_grow_34 hl (by decide) rfl (fun ls hl => ?_)
        refine lv_iload hx hb dX0_grow_36 (lv_at hl 0 rfl) ?_
        have jn_1943 : ∀ (zi_1941 : Int32) (zI_1942 : Nat → Nat → Int32) (H : Heap) (locs : List Loc) (ls : Array Slot), ((-1) ≤ zi_1941.toInt ∧ zi_1941.toInt ≤ 23) → (WM [107, 108, 110, 2000, 2100] (OW zT zR zc) zT zR zI zI_1942) → va_P (dC, dI) vwCl (WL cy zL zT zR zI_1942 zJ) H → va_D A (WL cy zL zT zR zI_1942 zJ) → va_S A s.heap H locs → lv_has ls 7 [(0, .ref zc), (1, .ref zh), (2, .ref zl), (3, .int zi_1941), (4, .int zi_1748), (5, .int zi_1879)] → W p l e ({ frames := 3, cells := 0, slots := 0, locals := 79 } : Room) s m ([.ref zc, .ref zh, .ref zl] : List Value).toArray below meth c H locs 0 0 Q (F0 m 112 ls []) := by
          intro zi_1941 zI_1942 H locs ls b_zi_1941 h_zI_1942 hP hD hS hl
          obtain ⟨zi_1944, ezi_1944⟩ : ∃ y : Int32, y = zi_1748 + 1 := ⟨_, rfl⟩
          have tzi_1944 : zi_1944.toInt = zi_1748.toInt + 1 := by rw [ezi_1944]; exact tadd rfl (show (1 : Int32).toInt = 1 by decide) (by omega) (by omega)
          refine lv_iinc (v := zi_1944) (lv' := [(4, .int zi_1944), (0, .ref zc), (1, .ref zh), (2, .ref zl), (3, .int zi_1941), (5, .int zi_1879)]) hx hb dX0_grow_112 hl (k := 4) rfl (by rw [ezi_1944]; rfl) (by decide) rfl (fun ls hl => ?_)
          refine lv_goto (tgt := 20) hx hb dX0_grow_115 (by decide) ?_
          exact ih_1876 (24 - zi_1944.toInt).toNat (by omega) zi_1941 zi_1944 zI_1942 _ _ _ rfl (by omega) (by omega) h_zI_1942 hP hD hS (lv_sub hl [1, 2, 3, 4, 0] rfl)
        refine lv_if_le (tgt := 112) hx hb dX0_grow_38 (by decide) (fun c_1945 => ?_) (fun c_1945 => ?_)
        · have f_1946 : zi_1879.toInt ≤ 0 := ic_le (rfl) (by decide) c_1945
          exact jn_1943 zi_1747 zI_1749 _ _ _ (by omega) h_zI_1749 hP hD hS (lv_sub hl [1, 2, 3, 4, 5, 0] rfl)
        · have f_1946 : ¬ (zi_1879.toInt ≤ 0) := ic_nle (rfl) (by decide) c_1945
          refine lv_iload_n hx hb dX0_grow_41 rfl (lv_at hl 4 rfl) ?_
          have jn_1959 : ∀ (zI_1958 : Nat → Nat → Int32) (H : Heap) (locs : List Loc) (ls : Array Slot), (WM [107, 108, 110, 2000, 2100] (OW zT zR zc) zT zR zI zI_1958) → va_P (dC, dI) vwCl (WL cy zL zT zR zI_1958 zJ) H → va_D A (WL cy zL zT zR zI_1958 zJ) → va_S A s.heap H locs → lv_has ls 7 [(0, .ref zc), (1, .ref zh), (2, .ref zl), (3, .int zi_1747), (4, .int zi_1748), (5, .int zi_1879)] → W p l e ({ frames := 3, cells := 0, slots := 0, locals := 79 } : Room) s m ([.ref zc, .ref zh, .ref zl] : List Value).toArray below meth c H locs 0 0 Q (F0 m 66 ls []) := by
            intro zI_1958 H locs ls h_zI_1958 hP hD hS hl
            refine lv_iconst (v := 0) hx hb dX0_grow_66 (by decide) ?_
            refine lv_istore (lv' := [(6, .int 0), (0, .ref zc), (1, .ref zh), (2, .ref zl), (3, .int zi_1747), (4, .int zi_1748), (5, .int zi_1879)]) hx hb dX0_grow_67 hl (by decide) rfl (fun ls hl => ?_)
            have lp_1978 : ∀ (n : Nat) (zi_1960 : Int32) (zI_1961 : Nat → Nat → Int32) (H : Heap) (locs : List Loc) (ls : Array Slot), (zi_1879.toInt - zi_1960.toInt).toNat = n → (0 ≤ zi_1960.toInt) → (WM [107, 108, 110, 2000, 2100] (OW zT zR zc) zT zR zI zI_1961) → va_P (dC, dI) vwCl (WL cy zL zT zR zI_1961 zJ) H → va_D A (WL cy zL zT zR zI_1961 zJ) → va_S A s.heap H locs → lv_has ls 7 [(0, .ref zc), (1, .ref zh), (2, .ref zl), (3, .int zi_1747), (4, .int zi_1748), (5, .int zi_1879), (6, .int zi_1960)] → W p l e ({ frames := 3, cells := 0, slots := 0, locals := 79 } : Room) s m ([.ref zc, .ref zh, .ref zl] : List Value).toArray below meth c H locs 0 0 Q (F0 m 69 ls []) := by
              intro n
              induction n using Nat.strongRecOn with
              | _ n ih_1978 =>
                intro zi_1960 zI_1961 H locs ls hn b_zi_1960 h_zI_1961 hP hD hS hl
                refine lv_iload hx hb dX0_grow_69 (lv_at hl 6 rfl) ?_
                refine lv_iload hx hb dX0_grow_71 (lv_at hl 5 rfl) ?_
                refine lv_icmp_ge (tgt := 109) hx hb dX0_grow_73 (by decide) (fun c_1979 => ?_) (fun c_1979 => ?_)
                · have f_1980 : zi_1960.toInt ≥ zi_1879.toInt := ic_ge (rfl) (rfl) c_1979
                  refine lv_iload hx hb dX0_grow_109 (lv_at hl 4 rfl) ?_
                  refine lv_istore_n (lv' := [(3, .int zi_1748), (0, .ref zc), (1, .ref zh), (2, .ref zl), (4, .int zi_1748), (5, .int zi_1879), (6, .int zi_1960)]) hx hb dX0_grow_111 rfl hl (by decide) rfl (fun ls hl => ?_)
                  exact jn_1943 zi_1748 zI_1961 _ _ _ (by omega) h_zI_1961 hP hD hS (lv_sub hl [1, 2, 3, 0, 4, 5] rfl)
                · have f_1980 : ¬ (zi_1960.toInt ≥ zi_1879.toInt) := ic_nge (rfl) (rfl) c_1979
                  refine lv_aload_n hx hb dX0_grow_76 rfl (lv_at hl 0 rfl) ?_
                  refine lv_iconst (v := 0) hx hb dX0_grow_77 (by decide) ?_
                  refine lv_aload_n hx hb dX0_grow_78 rfl (lv_at hl 1 rfl) ?_
                  refine lv_iload hx hb dX0_grow_79 (lv_at hl 4 rfl) ?_
                  refine lv_aload_n hx hb dX0_grow_81 rfl (lv_at hl 1 rfl) ?_
                  refine ht_geti (C := RX3) (T := TX3) (N := 3) hx hb hts (by decide +kernel) hown hK hP hs t_zh (by decide) rfl rfl 1 (by decide) (hts (.fieldLink RX0 66 "DripStone$Hill" "keeps" "I") (by decide +kernel)) (fun _ h9 => h9) rfl dX0_grow_82 ?_
                  refine lv_topi (fun zi_1981 ezi_1981 => ?_)
                  have tzi_1981 : 1 ≤ zi_1981.toInt ∧ zi_1981.toInt ≤ 5 := by rw [ezi_1981]; exact h_zI_1961.at t_zh _ rfl
                  refine hj_i (ws := (WL cy zL zT zR zI_1961 zJ)) (w1 := fun (u : Unit) => (WL cy zL zT zR zI_1961 zJ)) (va_runV (As := [.int zi_1748, .int zi_1981]) (rest := [.int 0, .ref zc]) ⟨hx, hb, hml, hown, hts⟩ (t_X3_waterBy l dC dI cy H.size zL zT zR zI_1961 zJ zh zi_1748 zi_1981 hs h_zI_1961.1 t_zh (by omega) (by omega)) (cwV 2 hts gX0_grow_X3_waterBy rfl rfl rfl (by decide +kernel) ⟨(Nat.le_of_ble_eq_true rfl), (Nat.le_of_ble_eq_true rfl)⟩) (PRE.v hP hK hD hN (ht_recv hK hP hs t_zh (by decide) rfl rfl)) rfl rfl hl.1 rfl (lv_room (Nat.le_of_ble_eq_true rfl)) dX0_grow_85 ⟨(Nat.le_of_ble_eq_true rfl), (Nat.le_of_ble_eq_true rfl)⟩) hP hD hS hA (fun zi_1982 u_1984 H locs hw_1983 hP hD hS => ?_)
                  have ps_1985 : zi_1982 = WRC (zI_1961 (zR (zR zh 0) 0)) (zI_1961 (zR (zR zh 0) 1)) zi_1748.toInt zi_1981.toInt := hw_1983
                  have rzi_1982 := rng zi_1982
                  refine lv_aload_n hx hb dX0_grow_88 rfl (lv_at hl 1 rfl) ?_
                  refine ht_getr (C := RX3) (T := TX3) (N := 3) hx hb hts (by decide +kernel) hown hK hP hs t_zh (by decide) rfl rfl 0 (by decide) (hts (.fieldLink RX0 73 "DripStone$Hill" "rain" "[[I") (by decide +kernel)) (fun _ h9 => h9) rfl dX0_grow_89 ?_
                  have t_1986 : zT (zR zh 0) = 60 := sk_f hs t_zh (by decide) rfl (by decide)
                  refine lv_iconst (v := 2) hx hb dX0_grow_92 (by decide) ?_
                  refine ht_aaldA (n := 3) (q := 7) hx hb hK hP hs t_1986 (by decide) rfl rfl ⟨by decide, by decide⟩ dX0_grow_93 ?_
                  have t_1987 : zT (zR (zR zh 0) (2 : Int32).toNatClampNeg) = 34 := sk_a (n := 3) hs t_1986 rfl rfl (by decide) (by decide)
                  refine lv_iload hx hb dX0_grow_94 (lv_at hl 4 rfl) ?_
                  refine ht_iald (n := 24) (q := 0) hx hb hK hP hs t_1987 (by decide) rfl rfl ⟨by omega, by omega⟩ dX0_grow_96 ?_
                  refine lv_topi (fun zi_1988 ezi_1988 => ?_)
                  refine lv_isub hx hb dX0_grow_97 ?_
                  refine lv_topi (fun zi_1989 ezi_1989 => ?_)
                  refine lv_iload hx hb dX0_grow_98 (lv_at hl 4 rfl) ?_
                  have qc_0 : (0 : Int32).toInt = 0 := by decide
                  refine hj_v (ws := (WL cy zL zT zR zI_1961 zJ)) (w1 := fun (u : (Nat → Nat → Int32)) => (WL cy zL zT zR u zJ)) (va_runV (As := [.int 0, .int zi_1989, .int zi_1748]) (rest := []) ⟨hx, hb, hml, hown, hts⟩ (t_X0_add l dC dI cy H.size zL zT zR zI_1961 zJ zc (0 : Int32) zi_1989 zi_1748 hs h_zI_1961.1 t_zc) (cwV 3 hts gX0_grow_X0_add rfl rfl rfl (by decide +kernel) ⟨(Nat.le_of_ble_eq_true rfl), (Nat.le_of_ble_eq_true rfl)⟩) (PRE.v hP hK hD hN (ht_recv hK hP hs t_zc (by decide) rfl rfl)) rfl rfl hl.1 rfl (lv_room (Nat.le_of_ble_eq_true rfl)) dX0_grow_100 ⟨(Nat.le_of_ble_eq_true rfl), (Nat.le_of_ble_eq_true rfl)⟩) hP hD hS hA (fun zI_1993 H locs hw_1991 hP hD hS => ?_)
                  have k_zI_1993 : WM [107, 2000, 2100] (OW zT zR zc) zT zR zI_1961 zI_1993 := hw_1991
                  have h_zI_1993 : WM [107, 108, 110, 2000, 2100] (OW zT zR zc) zT zR zI zI_1993 := h_zI_1961.tr k_zI_1993 (by decide) (fun _ h => h)
                  obtain ⟨zi_1994, ezi_1994⟩ : ∃ y : Int32, y = zi_1960 + 1 := ⟨_, rfl⟩
                  have tzi_1994 : zi_1994.toInt = zi_1960.toInt + 1 := by rw [ezi_1994]; exact tadd rfl (show (1 : Int32).toInt = 1 by decide) (by omega) (by omega)
                  refine lv_iinc (v := zi_1994) (lv' := [(6, .int zi_1994), (0, .ref zc), (1, .ref zh), (2, .ref zl), (3, .int zi_1747), (4, .int zi_1748), (5, .int zi_1879)]) hx hb dX0_grow_103 hl (k := 6) rfl (by rw [ezi_1994]; rfl) (by decide) rfl (fun ls hl => ?_)
                  refine lv_goto (tgt := 69) hx hb dX0_grow_106 (by decide) ?_
                  exact ih_1978 (zi_1879.toInt - zi_1994.toInt).toNat (by omega) zi_1994 zI_1993 _ _ _ rfl (by omega) h_zI_1993 hP hD hS (lv_sub hl [1, 2, 3, 4, 5, 6, 0] rfl)
            exact lp_1978 _ (0 : Int32) zI_1958 _ _ _ rfl (by decide) h_zI_1958 hP hD hS (lv_sub hl [1, 2, 3, 4, 5, 6, 0] rfl)
          refine lv_if_lt (tgt := 66) hx hb dX0_grow_42 (by decide) (fun c_1995 => ?_) (fun c_1995 => ?_)
          · have f_1996 : zi_1747.toInt < 0 := ic_lt (rfl) (by decide) c_1995
            exact jn_1959 zI_1749 _ _ _ h_zI_1749 hP hD hS (lv_sub hl [1, 2, 3, 4, 5, 0] rfl)
          · have f_1996 : ¬ (zi_1747.toInt < 0) := ic_nlt (rfl) (by decide) c_1995
            refine lv_iload hx hb dX0_grow_45 (lv_at hl 5 rfl) ?_
            refine lv_iload_n hx hb dX0_grow_47 rfl (lv_at hl 4 rfl) ?_
            refine lv_isub hx hb dX0_grow_48 ?_
            refine lv_topi (fun zi_1997 ezi_1997 => ?_)
            have tzi_1997 : zi_1997.toInt = zi_1748.toInt - zi_1747.toInt := by rw [ezi_1997]; exact tisub (rfl) (rfl) (by omega) (by omega)
            refine lv_iconst (v := 1) hx hb dX0_grow_49 (by decide) ?_
            refine lv_isub hx hb dX0_grow_50 ?_
            refine lv_topi (fun zi_1998 ezi_1998 => ?_)
            have tzi_1998 : zi_1998.toInt = zi_1997.toInt - (1 : Int) := by rw [ezi_1998]; exact tisub (rfl) (show (1 : Int32).toInt = 1 by decide) (by omega) (by omega)
            refine lv_aload_n hx hb dX0_grow_51 rfl (lv_at hl 2 rfl) ?_
            refine ht_geti (C := RX3) (T := TX3) (N := 3) hx hb hts (by decide +kernel) hown hK hP hs t_zh (by decide) rfl rfl 2 (by decide) (hts (.fieldLink RX0 57 "DripStone$Hill" "seen" "I") (by decide +kernel)) (fun _ h9 => h9) rfl dX0_grow_52 ?_
            refine lv_topi (fun zi_1999 ezi_1999 => ?_)
            have tzi_1999 : 1 ≤ zi_1999.toInt ∧ zi_1999.toInt ≤ 9 := by rw [ezi_1999]; exact h_zI_1749.at t_zh _ rfl
            refine lv_icmp_lt (tgt := 66) hx hb dX0_grow_55 (by decide) (fun c_2000 => ?_) (fun c_2000 => ?_)
            · have f_2001 : zi_1998.toInt < zi_1999.toInt := ic_lt (rfl) (rfl) c_2000
              exact jn_1959 zI_1749 _ _ _ h_zI_1749 hP hD hS (lv_sub hl [1, 2, 3, 4, 5, 0] rfl)
            · have f_2001 : ¬ (zi_1998.toInt < zi_1999.toInt) := ic_nlt (rfl) (rfl) c_2000
              refine lv_aload_n hx hb dX0_grow_58 rfl (lv_at hl 1 rfl) ?_
              refine lv_iconst (v := 2) hx hb dX0_grow_59 (by decide) ?_
              refine lv_iconst (v := 0) hx hb dX0_grow_60 (by decide) ?_
              refine lv_iload hx hb dX0_grow_61 (lv_at hl 5 rfl) ?_
              have qc_0 : (0 : Int32).toInt = 0 := by decide
              have qc_2 : (2 : Int32).toInt = 2 := by decide
              refine hj_v (ws := (WL cy zL zT zR zI_1749 zJ)) (w1 := fun (u : (Nat → Nat → Int32)) => (WL cy zL zT zR u zJ)) (va_runV (As := [.int 2, .int 0, .int zi_1748]) (rest := []) ⟨hx, hb, hml, hown, hts⟩ (t_X0_add l dC dI cy H.size zL zT zR zI_1749 zJ zc (2 : Int32) (0 : Int32) zi_1748 hs h_zI_1749.1 t_zc) (cwV 3 hts gX0_grow_X0_add rfl rfl rfl (by decide +kernel) ⟨(Nat.le_of_ble_eq_true rfl), (Nat.le_of_ble_eq_true rfl)⟩) (PRE.v hP hK hD hN (ht_recv hK hP hs t_zc (by decide) rfl rfl)) rfl rfl hl.1 rfl (lv_room (Nat.le_of_ble_eq_true rfl)) dX0_grow_63 ⟨(Nat.le_of_ble_eq_true rfl), (Nat.le_of_ble_eq_true rfl)⟩) hP hD hS hA (fun zI_2005 H locs hw_2003 hP hD hS => ?_)
              have k_zI_2005 : WM [107, 2000, 2100] (OW zT zR zc) zT zR zI_1749 zI_2005 := hw_2003
              have h_zI_2005 : WM [107, 108, 110, 2000, 2100] (OW zT zR zc) zT zR zI zI_2005 := h_zI_1749.tr k_zI_2005 (by decide) (fun _ h => h)
              exact jn_1959 zI_2005 _ _ _ h_zI_2005 hP hD hS (lv_sub hl [1, 2, 3, 4, 5, 0] rfl)
  exact lp_1876 _ (-1 : Int32) (0 : Int32) zI_3 _ _ _ rfl (by decide) (by decide) h_zI_3 hP hD hS (lv_sub hl [2, 3, 4, 1, 0] rfl)
set_option maxHeartbeats 8000000 in
set_option maxRecDepth 100000 in
theorem t_X0_addStretch (l : Launch) (dC : Nat → ClassId) (dI : Nat → Nat → Nat) (cy : Nat → ClassId) (sz : Nat) (zL : List Nat) (zT : Nat → Nat) (zR : Nat → Nat → Nat) (zI : Nat → Nat → Int32) (zJ : Nat → Nat → Int64) (zc : Nat) (zia : Int32) (zib : Int32) (ziy : Int32) (zin : Int32) (hs : SKP zL zT zR) (hw : WT zT zR zI) (t_zc : zT zc = 1) (b_zin : 0 ≤ zin.toInt ∧ zin.toInt ≤ 20) (hx1 : (zI zc 8).toInt ≤ 5) : Met l yX0_addStretch wsX0_addStretch ({ frames := 0, cells := 0, slots := 0, locals := 0 } : Room) (va_Pc [.ref zc, .int zia, .int zib, .int ziy, .int zin] (PRE dC dI cy (WL cy zL zT zR zI zJ) sz)) (va_Qv (fun (u : (Nat → Nat → Int32)) => (WM [108, 2200, 2300] (OW zT zR zc) zT zR zI u) ∧ ((u zc 8).toInt = (zI zc 8).toInt + 1)) (fun u t => POST dC dI cy (va_A (WL cy zL zT zR zI zJ) sz) (WL cy zL zT zR u zJ) t) (va_A (WL cy zL zT zR zI zJ) sz)) 0 0 (va_A (WL cy zL zT zR zI zJ) sz) := by
  refine Met.ofW (cc := cX0_addStretch) (maxL := 5) (ret := none) (by decide) rfl ?_
  intro p e s m args below meth c s₁ B hml hv
  obtain ⟨rfl, hsz, hP, hK, hD0, hN⟩ := hv
  have hx := B.exec
  have hb := B.bytes
  have hr := B.returns
  have hts := atoms_spec (ws := wsX0_addStretch) B.pre
  have hown : s.vm.findClass RX0 = some m.cls := findClass_of_methodNamed B.named
  have hlocks := B.notSynchronized
  subst hsz
  have hD := hD0.self (sz := s.heap.size)
  generalize hAe : va_A (WL cy zL zT zR zI zJ) s.heap.size = A at hD ⊢
  have hA : ∀ q : Nat, s.heap.size ≤ q → A q := fun q h => by rw [← hAe]; exact Or.inr h
  have hS : va_S A s.heap s.heap [] := va_S.rf
  have hP : va_P (dC, dI) vwCl (WL cy zL zT zR zI zJ) s.heap := hP
  have hl := lv_entry ([.ref zc, .int zia, .int zib, .int ziy, .int zin] : List Value) (n := 5) (Nat.le_of_ble_eq_true rfl)
  rw [lg_entry_eq]
  generalize (lg_sl ([.ref zc, .int zia, .int zib, .int ziy, .int zin] : List Value) ++ List.replicate (5 - (lg_sl ([.ref zc, .int zia, .int zib, .int ziy, .int zin] : List Value)).length) Slot.unset).toArray = ls at hl ⊢
  have hl : lv_has ls 5 [(0, .ref zc), (1, .int zia), (2, .int zib), (3, .int ziy), (4, .int zin)] := hl
  refine w_q (fun Q hQ => ?_)
  have h_zI : WM [108, 2200, 2300] (OW zT zR zc) zT zR zI zI := WM.rf hw
  refine lv_aload_n hx hb dX0_addStretch_0 rfl (lv_at hl 0 rfl) ?_
  refine ht_getr (C := RX0) (T := TX0) (N := 11) hx hb hts (by decide +kernel) hown hK hP hs t_zc (by decide) rfl rfl 3 (by decide) (hts (.fieldLink RX0 21 "DripStone$Candle" "stretchKinds" "[I") (by decide +kernel)) (fun _ h9 => h9) rfl dX0_addStretch_1 ?_
  have t_1 : zT (zR zc 3) = 22 := sk_f hs t_zc (by decide) rfl (by decide)
  refine lv_aload_n hx hb dX0_addStretch_4 rfl (lv_at hl 0 rfl) ?_
  refine ht_geti (C := RX0) (T := TX0) (N := 11) hx hb hts (by decide +kernel) hown hK hP hs t_zc (by decide) rfl rfl 8 (by decide) (hts (.fieldLink RX0 44 "DripStone$Candle" "stretches" "I") (by decide +kernel)) (fun _ h9 => h9) rfl dX0_addStretch_5 ?_
  refine lv_topi (fun zi_2 ezi_2 => ?_)
  have tzi_2 : 0 ≤ zi_2.toInt ∧ zi_2.toInt ≤ 6 := by rw [ezi_2]; exact h_zI.at t_zc _ rfl
  have lzi_2 : (zI zc 8).toInt = zi_2.toInt := by rw [ezi_2]
  refine lv_iload_n hx hb dX0_addStretch_8 rfl (lv_at hl 1 rfl) ?_
  refine ht_iast (v := zia) (n := 6) (q := 0) hx hb hK hP hD hS hs t_1 (by decide) rfl rfl ⟨by omega, by omega⟩ dX0_addStretch_9 (fun H locs hP hD hS => ?_)
  have h_zI_3 : WM [108, 2200, 2300] (OW zT zR zc) zT zR zI (u2 zI (zR zc 3) zi_2.toNatClampNeg zia) := h_zI.putA hs t_1 rfl (rgF _) (by decide) (fun h => absurd h (by decide)) (by decide) (Or.inr ⟨3, by rw [t_zc]; decide, rfl⟩)
  generalize uzI_3 : u2 zI (zR zc 3) zi_2.toNatClampNeg zia = zI_3 at hP hD h_zI_3
  refine lv_aload_n hx hb dX0_addStretch_10 rfl (lv_at hl 0 rfl) ?_
  refine ht_getr (C := RX0) (T := TX0) (N := 11) hx hb hts (by decide +kernel) hown hK hP hs t_zc (by decide) rfl rfl 4 (by decide) (hts (.fieldLink RX0 24 "DripStone$Candle" "firsts" "[I") (by decide +kernel)) (fun _ h9 => h9) rfl dX0_addStretch_11 ?_
  have t_4 : zT (zR zc 4) = 22 := sk_f hs t_zc (by decide) rfl (by decide)
  refine lv_aload_n hx hb dX0_addStretch_14 rfl (lv_at hl 0 rfl) ?_
  refine ht_geti (C := RX0) (T := TX0) (N := 11) hx hb hts (by decide +kernel) hown hK hP hs t_zc (by decide) rfl rfl 8 (by decide) (hts (.fieldLink RX0 44 "DripStone$Candle" "stretches" "I") (by decide +kernel)) (fun _ h9 => h9) rfl dX0_addStretch_15 ?_
  refine lv_topi (fun zi_5 ezi_5 => ?_)
  obtain rfl : zi_2 = zi_5 := (ezi_5.trans ((show zI_3 zc 8 = zI zc 8 from by rw [← uzI_3]; exact u2_n (tne t_zc t_1 (by decide))).trans ezi_2.symm)).symm
  refine lv_iload_n hx hb dX0_addStretch_18 rfl (lv_at hl 2 rfl) ?_
  refine ht_iast (v := zib) (n := 6) (q := 0) hx hb hK hP hD hS hs t_4 (by decide) rfl rfl ⟨by omega, by omega⟩ dX0_addStretch_19 (fun H locs hP hD hS => ?_)
  have h_zI_6 : WM [108, 2200, 2300] (OW zT zR zc) zT zR zI (u2 zI_3 (zR zc 4) zi_2.toNatClampNeg zib) := h_zI_3.putA hs t_4 rfl (rgF _) (by decide) (fun h => absurd h (by decide)) (by decide) (Or.inr ⟨4, by rw [t_zc]; decide, rfl⟩)
  generalize uzI_6 : u2 zI_3 (zR zc 4) zi_2.toNatClampNeg zib = zI_6 at hP hD h_zI_6
  refine lv_aload_n hx hb dX0_addStretch_20 rfl (lv_at hl 0 rfl) ?_
  refine ht_getr (C := RX0) (T := TX0) (N := 11) hx hb hts (by decide +kernel) hown hK hP hs t_zc (by decide) rfl rfl 5 (by decide) (hts (.fieldLink RX0 27 "DripStone$Candle" "lasts" "[I") (by decide +kernel)) (fun _ h9 => h9) rfl dX0_addStretch_21 ?_
  have t_7 : zT (zR zc 5) = 22 := sk_f hs t_zc (by decide) rfl (by decide)
  refine lv_aload_n hx hb dX0_addStretch_24 rfl (lv_at hl 0 rfl) ?_
  refine ht_geti (C := RX0) (T := TX0) (N := 11) hx hb hts (by decide +kernel) hown hK hP hs t_zc (by decide) rfl rfl 8 (by decide) (hts (.fieldLink RX0 44 "DripStone$Candle" "stretches" "I") (by decide +kernel)) (fun _ h9 => h9) rfl dX0_addStretch_25 ?_
  refine lv_topi (fun zi_8 ezi_8 => ?_)
  obtain rfl : zi_2 = zi_8 := (ezi_8.trans ((show zI_6 zc 8 = zI_3 zc 8 from by rw [← uzI_6]; exact u2_n (tne t_zc t_4 (by decide))).trans ((show zI_3 zc 8 = zI zc 8 from by rw [← uzI_3]; exact u2_n (tne t_zc t_1 (by decide))).trans ezi_2.symm))).symm
  refine lv_iload_n hx hb dX0_addStretch_28 rfl (lv_at hl 3 rfl) ?_
  refine ht_iast (v := ziy) (n := 6) (q := 0) hx hb hK hP hD hS hs t_7 (by decide) rfl rfl ⟨by omega, by omega⟩ dX0_addStretch_29 (fun H locs hP hD hS => ?_)
  have h_zI_9 : WM [108, 2200, 2300] (OW zT zR zc) zT zR zI (u2 zI_6 (zR zc 5) zi_2.toNatClampNeg ziy) := h_zI_6.putA hs t_7 rfl (rgF _) (by decide) (fun h => absurd h (by decide)) (by decide) (Or.inr ⟨5, by rw [t_zc]; decide, rfl⟩)
  generalize uzI_9 : u2 zI_6 (zR zc 5) zi_2.toNatClampNeg ziy = zI_9 at hP hD h_zI_9
  refine lv_aload_n hx hb dX0_addStretch_30 rfl (lv_at hl 0 rfl) ?_
  refine ht_getr (C := RX0) (T := TX0) (N := 11) hx hb hts (by decide +kernel) hown hK hP hs t_zc (by decide) rfl rfl 6 (by decide) (hts (.fieldLink RX0 30 "DripStone$Candle" "sizes" "[I") (by decide +kernel)) (fun _ h9 => h9) rfl dX0_addStretch_31 ?_
  have t_10 : zT (zR zc 6) = 23 := sk_f hs t_zc (by decide) rfl (by decide)
  refine lv_aload_n hx hb dX0_addStretch_34 rfl (lv_at hl 0 rfl) ?_
  refine ht_geti (C := RX0) (T := TX0) (N := 11) hx hb hts (by decide +kernel) hown hK hP hs t_zc (by decide) rfl rfl 8 (by decide) (hts (.fieldLink RX0 44 "DripStone$Candle" "stretches" "I") (by decide +kernel)) (fun _ h9 => h9) rfl dX0_addStretch_35 ?_
  refine lv_topi (fun zi_11 ezi_11 => ?_)
  obtain rfl : zi_2 = zi_11 := (ezi_11.trans ((show zI_9 zc 8 = zI_6 zc 8 from by rw [← uzI_9]; exact u2_n (tne t_zc t_7 (by decide))).trans ((show zI_6 zc 8 = zI_3 zc 8 from by rw [← uzI_6]; exact u2_n (tne t_zc t_4 (by decide))).trans ((show zI_3 zc 8 = zI zc 8 from by rw [← uzI_3]; exact u2_n (tne t_zc t_1 (by decide))).trans ezi_2.symm)))).symm
  refine lv_iload hx hb dX0_addStretch_38 (lv_at hl 4 rfl) ?_
  refine ht_iast (v := zin) (n := 6) (q := 0) hx hb hK hP hD hS hs t_10 (by decide) rfl rfl ⟨by omega, by omega⟩ dX0_addStretch_40 (fun H locs hP hD hS => ?_)
  have h_zI_12 : WM [108, 2200, 2300] (OW zT zR zc) zT zR zI (u2 zI_9 (zR zc 6) zi_2.toNatClampNeg zin) := h_zI_9.putA hs t_10 rfl (by omega) (by decide) (fun h => absurd h (by decide)) (by decide) (Or.inr ⟨6, by rw [t_zc]; decide, rfl⟩)
  generalize uzI_12 : u2 zI_9 (zR zc 6) zi_2.toNatClampNeg zin = zI_12 at hP hD h_zI_12
  refine lv_aload_n hx hb dX0_addStretch_41 rfl (lv_at hl 0 rfl) ?_
  refine lv_dup hx hb dX0_addStretch_42 rfl ?_
  refine ht_geti (C := RX0) (T := TX0) (N := 11) hx hb hts (by decide +kernel) hown hK hP hs t_zc (by decide) rfl rfl 8 (by decide) (hts (.fieldLink RX0 44 "DripStone$Candle" "stretches" "I") (by decide +kernel)) (fun _ h9 => h9) rfl dX0_addStretch_43 ?_
  refine lv_topi (fun zi_13 ezi_13 => ?_)
  obtain rfl : zi_2 = zi_13 := (ezi_13.trans ((show zI_12 zc 8 = zI_9 zc 8 from by rw [← uzI_12]; exact u2_n (tne t_zc t_10 (by decide))).trans ((show zI_9 zc 8 = zI_6 zc 8 from by rw [← uzI_9]; exact u2_n (tne t_zc t_7 (by decide))).trans ((show zI_6 zc 8 = zI_3 zc 8 from by rw [← uzI_6]; exact u2_n (tne t_zc t_4 (by decide))).trans ((show zI_3 zc 8 = zI zc 8 from by rw [← uzI_3]; exact u2_n (tne t_zc t_1 (by decide))).trans ezi_2.symm))))).symm
  refine lv_iconst (v := 1) hx hb dX0_addStretch_46 (by decide) ?_
  refine lv_iadd hx hb dX0_addStretch_47 ?_
  refine lv_topi (fun zi_14 ezi_14 => ?_)
  have tzi_14 : zi_14.toInt = zi_2.toInt + (1 : Int) := by rw [ezi_14]; exact tiadd (rfl) (show (1 : Int32).toInt = 1 by decide) (by omega) (by omega)
  refine ht_puti (v := zi_14) (ty := .int) (C := RX0) (T := TX0) (N := 11) hx hb hts (by decide +kernel) tyX0 tyX0_ok nmX0 hown hK hP hD hS hs t_zc (by decide) rfl rfl 8 (by decide) (hts (.fieldLink RX0 44 "DripStone$Candle" "stretches" "I") (by decide +kernel)) (fun _ h9 => h9) rfl (by decide +kernel) rfl rfl rfl dX0_addStretch_48 (fun H locs hP hD hS => ?_)
  have h_zI_15 : WM [108, 2200, 2300] (OW zT zR zc) zT zR zI (u2 zI_12 zc 8 zi_14) := h_zI_12.put hs t_zc rfl (by omega) (by decide) (fun h => absurd h (by decide)) (by decide) (Or.inl rfl)
  generalize uzI_15 : u2 zI_12 zc 8 zi_14 = zI_15 at hP hD h_zI_15
  subst hQ
  exact W.vret hx hb hr (fun t ht hW => ⟨⟨zI_15, rfl, ⟨h_zI_15, (show (zI_15 zc 8).toInt = (zI zc 8).toInt + 1 from (by rw [show zI_15 zc 8 = zi_14 from (by rw [← uzI_15]; exact u2_s)]; omega))⟩, ⟨by rw [ht]; exact hP, va_K.moved hW.alike hK, hD⟩⟩, hS.F ht⟩) hS.2.2 dX0_addStretch_51
set_option maxHeartbeats 8000000 in
set_option maxRecDepth 100000 in
theorem t_X0_cutFrom (l : Launch) (dC : Nat → ClassId) (dI : Nat → Nat → Nat) (cy : Nat → ClassId) (sz : Nat) (zL : List Nat) (zT : Nat → Nat) (zR : Nat → Nat → Nat) (zI : Nat → Nat → Int32) (zJ : Nat → Nat → Int64) (zc : Nat) (zit : Int32) (hs : SKP zL zT zR) (hw : WT zT zR zI) (t_zc : zT zc = 1) (b_zit : 0 ≤ zit.toInt ∧ zit.toInt ≤ 11) : Met l yX0_cutFrom wsX0_cutFrom ({ frames := 1, cells := 0, slots := 0, locals := 24 } : Room) (va_Pc [.ref zc, .int zit] (PRE dC dI cy (WL cy zL zT zR zI zJ) sz)) (va_Qv (fun (u : (Nat → Nat → Int32)) => (WM [107, 108, 110, 2200, 2300] (OW zT zR zc) zT zR zI u)) (fun u t => POST dC dI cy (va_A (WL cy zL zT zR zI zJ) sz) (WL cy zL zT zR u zJ) t) (va_A (WL cy zL zT zR zI zJ) sz)) 0 0 (va_A (WL cy zL zT zR zI zJ) sz) := by
  refine Met.ofW (cc := cX0_cutFrom) (maxL := 4) (ret := none) (by decide) rfl ?_
  intro p e s m args below meth c s₁ B hml hv
  obtain ⟨rfl, hsz, hP, hK, hD0, hN⟩ := hv
  have hx := B.exec
  have hb := B.bytes
  have hr := B.returns
  have hts := atoms_spec (ws := wsX0_cutFrom) B.pre
  have hown : s.vm.findClass RX0 = some m.cls := findClass_of_methodNamed B.named
  have hlocks := B.notSynchronized
  subst hsz
  have hD := hD0.self (sz := s.heap.size)
  generalize hAe : va_A (WL cy zL zT zR zI zJ) s.heap.size = A at hD ⊢
  have hA : ∀ q : Nat, s.heap.size ≤ q → A q := fun q h => by rw [← hAe]; exact Or.inr h
  have hS : va_S A s.heap s.heap [] := va_S.rf
  have hP : va_P (dC, dI) vwCl (WL cy zL zT zR zI zJ) s.heap := hP
  have hl := lv_entry ([.ref zc, .int zit] : List Value) (n := 4) (Nat.le_of_ble_eq_true rfl)
  rw [lg_entry_eq]
  generalize (lg_sl ([.ref zc, .int zit] : List Value) ++ List.replicate (4 - (lg_sl ([.ref zc, .int zit] : List Value)).length) Slot.unset).toArray = ls at hl ⊢
  have hl : lv_has ls 4 [(0, .ref zc), (1, .int zit)] := hl
  refine w_q (fun Q hQ => ?_)
  have h_zI : WM [107, 108, 110, 2200, 2300] (OW zT zR zc) zT zR zI zI := WM.rf hw
  refine lv_aload_n hx hb dX0_cutFrom_0 rfl (lv_at hl 0 rfl) ?_
  refine ht_geti (C := RX0) (T := TX0) (N := 11) hx hb hts (by decide +kernel) hown hK hP hs t_zc (by decide) rfl rfl 8 (by decide) (hts (.fieldLink RX0 44 "DripStone$Candle" "stretches" "I") (by decide +kernel)) (fun _ h9 => h9) rfl dX0_cutFrom_1 ?_
  refine lv_topi (fun zi_1 ezi_1 => ?_)
  have tzi_1 : 0 ≤ zi_1.toInt ∧ zi_1.toInt ≤ 6 := by rw [ezi_1]; exact h_zI.at t_zc _ rfl
  have lzi_1 : (zI zc 8).toInt = zi_1.toInt := by rw [ezi_1]
  refine lv_istore_n (lv' := [(2, .int zi_1), (0, .ref zc), (1, .int zit)]) hx hb dX0_cutFrom_4 rfl hl (by decide) rfl (fun ls hl => ?_)
  refine lv_aload_n hx hb dX0_cutFrom_5 rfl (lv_at hl 1 rfl) ?_
  refine lv_iload_n hx hb dX0_cutFrom_6 rfl (lv_at hl 2 rfl) ?_
  refine ht_puti (v := zit) (ty := .int) (C := RX0) (T := TX0) (N := 11) hx hb hts (by decide +kernel) tyX0 tyX0_ok nmX0 hown hK hP hD hS hs t_zc (by decide) rfl rfl 7 (by decide) (hts (.fieldLink RX0 37 "DripStone$Candle" "things" "I") (by decide +kernel)) (fun _ h9 => h9) rfl (by decide +kernel) rfl rfl rfl dX0_cutFrom_7 (fun H locs hP hD hS => ?_)
  have h_zI_2 : WM [107, 108, 110, 2200, 2300] (OW zT zR zc) zT zR zI (u2 zI zc 7 zit) := h_zI.put hs t_zc rfl (by omega) (by decide) (fun h => absurd h (by decide)) (by decide) (Or.inl rfl)
  generalize uzI_2 : u2 zI zc 7 zit = zI_2 at hP hD h_zI_2
  refine lv_aload_n hx hb dX0_cutFrom_10 rfl (lv_at hl 1 rfl) ?_
  refine lv_iconst (v := 0) hx hb dX0_cutFrom_11 (by decide) ?_
  refine ht_puti (v := (0 : Int32)) (ty := .boolean) (C := RX0) (T := TX0) (N := 11) hx hb hts (by decide +kernel) tyX0 tyX0_ok nmX0 hown hK hP hD hS hs t_zc (by decide) rfl rfl 10 (by decide) (hts (.fieldLink RX0 47 "DripStone$Candle" "made" "Z") (by decide +kernel)) (fun _ h9 => h9) rfl (by decide +kernel) rfl rfl rfl dX0_cutFrom_12 (fun H locs hP hD hS => ?_)
  have h_zI_3 : WM [107, 108, 110, 2200, 2300] (OW zT zR zc) zT zR zI (u2 zI_2 zc 10 (0 : Int32)) := h_zI_2.put hs t_zc rfl (by decide) (by decide) (fun h => absurd h (by decide)) (by decide) (Or.inl rfl)
  generalize uzI_3 : u2 zI_2 zc 10 (0 : Int32) = zI_3 at hP hD h_zI_3
  refine lv_aload_n hx hb dX0_cutFrom_15 rfl (lv_at hl 1 rfl) ?_
  refine lv_iconst (v := 0) hx hb dX0_cutFrom_16 (by decide) ?_
  refine ht_puti (v := (0 : Int32)) (ty := .int) (C := RX0) (T := TX0) (N := 11) hx hb hts (by decide +kernel) tyX0 tyX0_ok nmX0 hown hK hP hD hS hs t_zc (by decide) rfl rfl 8 (by decide) (hts (.fieldLink RX0 44 "DripStone$Candle" "stretches" "I") (by decide +kernel)) (fun _ h9 => h9) rfl (by decide +kernel) rfl rfl rfl dX0_cutFrom_17 (fun H locs hP hD hS => ?_)
  have h_zI_4 : WM [107, 108, 110, 2200, 2300] (OW zT zR zc) zT zR zI (u2 zI_3 zc 8 (0 : Int32)) := h_zI_3.put hs t_zc rfl (by decide) (by decide) (fun h => absurd h (by decide)) (by decide) (Or.inl rfl)
  generalize uzI_4 : u2 zI_3 zc 8 (0 : Int32) = zI_4 at hP hD h_zI_4
  refine lv_iconst (v := 0) hx hb dX0_cutFrom_20 (by decide) ?_
  refine lv_istore_n (lv' := [(3, .int 0), (2, .int zi_1), (0, .ref zc), (1, .int zit)]) hx hb dX0_cutFrom_21 rfl hl (by decide) rfl (fun ls hl => ?_)
  have lp_127 : ∀ (n : Nat) (zi_101 : Int32) (zI_102 : Nat → Nat → Int32) (zi_103 : Int32) (H : Heap) (locs : List Loc) (ls : Array Slot), (zi_1.toInt - zi_101.toInt).toNat = n → (0 ≤ zi_101.toInt ∧ zi_101.toInt ≤ 6) → (WM [107, 108, 110, 2200, 2300] (OW zT zR zc) zT zR zI zI_102) → (0 ≤ zi_103.toInt ∧ zi_103.toInt ≤ 6) → (zi_103.toInt ≤ zi_101.toInt) → (zI_102 zc 8 = zi_103) → va_P (dC, dI) vwCl (WL cy zL zT zR zI_102 zJ) H → va_D A (WL cy zL zT zR zI_102 zJ) → va_S A s.heap H locs → lv_has ls 4 [(0, .ref zc), (1, .int zit), (2, .int zi_1), (3, .int zi_101)] → W p l e ({ frames := 1, cells := 0, slots := 0, locals := 24 } : Room) s m ([.ref zc, .int zit] : List Value).toArray below meth c H locs 0 0 Q (F0 m 22 ls []) := by
    intro n
    induction n using Nat.strongRecOn with
    | _ n ih_127 =>
      intro zi_101 zI_102 zi_103 H locs ls hn b_zi_101 h_zI_102 b_zi_103 e_lp_127_0 e_lp_127_1 hP hD hS hl
      refine lv_iload_n hx hb dX0_cutFrom_22 rfl (lv_at hl 3 rfl) ?_
      refine lv_iload_n hx hb dX0_cutFrom_23 rfl (lv_at hl 2 rfl) ?_
      refine lv_icmp_ge (tgt := 71) hx hb dX0_cutFrom_24 (by decide) (fun c_128 => ?_) (fun c_128 => ?_)
      · have f_129 : zi_101.toInt ≥ zi_1.toInt := ic_ge (rfl) (rfl) c_128
        subst hQ
        exact W.vret hx hb hr (fun t ht hW => ⟨⟨zI_102, rfl, h_zI_102, ⟨by rw [ht]; exact hP, va_K.moved hW.alike hK, hD⟩⟩, hS.F ht⟩) hS.2.2 dX0_cutFrom_71
      · have f_129 : ¬ (zi_101.toInt ≥ zi_1.toInt) := ic_nge (rfl) (rfl) c_128
        refine lv_aload_n hx hb dX0_cutFrom_27 rfl (lv_at hl 0 rfl) ?_
        refine ht_getr (C := RX0) (T := TX0) (N := 11) hx hb hts (by decide +kernel) hown hK hP hs t_zc (by decide) rfl rfl 5 (by decide) (hts (.fieldLink RX0 27 "DripStone$Candle" "lasts" "[I") (by decide +kernel)) (fun _ h9 => h9) rfl dX0_cutFrom_28 ?_
        have t_130 : zT (zR zc 5) = 22 := sk_f hs t_zc (by decide) rfl (by decide)
        refine lv_iload_n hx hb dX0_cutFrom_31 rfl (lv_at hl 3 rfl) ?_
        refine ht_iald (n := 6) (q := 0) hx hb hK hP hs t_130 (by decide) rfl rfl ⟨by omega, by omega⟩ dX0_cutFrom_32 ?_
        refine lv_topi (fun zi_131 ezi_131 => ?_)
        refine lv_iload_n hx hb dX0_cutFrom_33 rfl (lv_at hl 1 rfl) ?_
        refine lv_icmp_ge (tgt := 65) hx hb dX0_cutFrom_34 (by decide) (fun c_132 => ?_) (fun c_132 => ?_)
        · have f_133 : zi_131.toInt ≥ zit.toInt := ic_ge (rfl) (rfl) c_132
          obtain ⟨zi_134, ezi_134⟩ : ∃ y : Int32, y = zi_101 + 1 := ⟨_, rfl⟩
          have tzi_134 : zi_134.toInt = zi_101.toInt + 1 := by rw [ezi_134]; exact tadd rfl (show (1 : Int32).toInt = 1 by decide) (by omega) (by omega)
          refine lv_iinc (v := zi_134) (lv' := [(3, .int zi_134), (0, .ref zc), (1, .int zit), (2, .int zi_1)]) hx hb dX0_cutFrom_65 hl (k := 3) rfl (by rw [ezi_134]; rfl) (by decide) rfl (fun ls hl => ?_)
          refine lv_goto (tgt := 22) hx hb dX0_cutFrom_68 (by decide) ?_
          exact ih_127 (zi_1.toInt - zi_134.toInt).toNat (by omega) zi_134 zI_102 zi_103 _ _ _ rfl (by omega) h_zI_102 (by omega) (by omega) e_lp_127_1 hP hD hS (lv_sub hl [1, 2, 3, 0] rfl)
        · have f_133 : ¬ (zi_131.toInt ≥ zit.toInt) := ic_nge (rfl) (rfl) c_132
          refine lv_aload_n hx hb dX0_cutFrom_37 rfl (lv_at hl 0 rfl) ?_
          refine lv_aload_n hx hb dX0_cutFrom_38 rfl (lv_at hl 0 rfl) ?_
          refine ht_getr (C := RX0) (T := TX0) (N := 11) hx hb hts (by decide +kernel) hown hK hP hs t_zc (by decide) rfl rfl 3 (by decide) (hts (.fieldLink RX0 21 "DripStone$Candle" "stretchKinds" "[I") (by decide +kernel)) (fun _ h9 => h9) rfl dX0_cutFrom_39 ?_
          have t_135 : zT (zR zc 3) = 22 := sk_f hs t_zc (by decide) rfl (by decide)
          refine lv_iload_n hx hb dX0_cutFrom_42 rfl (lv_at hl 3 rfl) ?_
          refine ht_iald (n := 6) (q := 0) hx hb hK hP hs t_135 (by decide) rfl rfl ⟨by omega, by omega⟩ dX0_cutFrom_43 ?_
          refine lv_topi (fun zi_136 ezi_136 => ?_)
          refine lv_aload_n hx hb dX0_cutFrom_44 rfl (lv_at hl 0 rfl) ?_
          refine ht_getr (C := RX0) (T := TX0) (N := 11) hx hb hts (by decide +kernel) hown hK hP hs t_zc (by decide) rfl rfl 4 (by decide) (hts (.fieldLink RX0 24 "DripStone$Candle" "firsts" "[I") (by decide +kernel)) (fun _ h9 => h9) rfl dX0_cutFrom_45 ?_
          have t_137 : zT (zR zc 4) = 22 := sk_f hs t_zc (by decide) rfl (by decide)
          refine lv_iload_n hx hb dX0_cutFrom_48 rfl (lv_at hl 3 rfl) ?_
          refine ht_iald (n := 6) (q := 0) hx hb hK hP hs t_137 (by decide) rfl rfl ⟨by omega, by omega⟩ dX0_cutFrom_49 ?_
          refine lv_topi (fun zi_138 ezi_138 => ?_)
          refine lv_aload_n hx hb dX0_cutFrom_50 rfl (lv_at hl 0 rfl) ?_
          refine ht_getr (C := RX0) (T := TX0) (N := 11) hx hb hts (by decide +kernel) hown hK hP hs t_zc (by decide) rfl rfl 5 (by decide) (hts (.fieldLink RX0 27 "DripStone$Candle" "lasts" "[I") (by decide +kernel)) (fun _ h9 => h9) rfl dX0_cutFrom_51 ?_
          refine lv_iload_n hx hb dX0_cutFrom_54 rfl (lv_at hl 3 rfl) ?_
          refine ht_iald (n := 6) (q := 0) hx hb hK hP hs t_130 (by decide) rfl rfl ⟨by omega, by omega⟩ dX0_cutFrom_55 ?_
          refine lv_topi (fun zi_139 ezi_139 => ?_)
          obtain rfl : zi_131 = zi_139 := (ezi_139.trans ezi_131.symm).symm
          refine lv_aload_n hx hb dX0_cutFrom_56 rfl (lv_at hl 0 rfl) ?_
          refine ht_getr (C := RX0) (T := TX0) (N := 11) hx hb hts (by decide +kernel) hown hK hP hs t_zc (by decide) rfl rfl 6 (by decide) (hts (.fieldLink RX0 30 "DripStone$Candle" "sizes" "[I") (by decide +kernel)) (fun _ h9 => h9) rfl dX0_cutFrom_57 ?_
          have t_140 : zT (zR zc 6) = 23 := sk_f hs t_zc (by decide) rfl (by decide)
          refine lv_iload_n hx hb dX0_cutFrom_60 rfl (lv_at hl 3 rfl) ?_
          refine ht_iald (n := 6) (q := 0) hx hb hK hP hs t_140 (by decide) rfl rfl ⟨by omega, by omega⟩ dX0_cutFrom_61 ?_
          refine lv_topi (fun zi_141 ezi_141 => ?_)
          have tzi_141 : 0 ≤ zi_141.toInt ∧ zi_141.toInt ≤ 20 := by rw [ezi_141]; exact h_zI_102.at t_140 _ rfl
          have lk_142 : (zI_102 zc 8).toInt = zi_103.toInt := congrArg Int32.toInt e_lp_127_1
          refine hj_v (ws := (WL cy zL zT zR zI_102 zJ)) (w1 := fun (u : (Nat → Nat → Int32)) => (WL cy zL zT zR u zJ)) (va_runV (As := [.int zi_136, .int zi_138, .int zi_131, .int zi_141]) (rest := []) ⟨hx, hb, hml, hown, hts⟩ (t_X0_addStretch l dC dI cy H.size zL zT zR zI_102 zJ zc zi_136 zi_138 zi_131 zi_141 hs h_zI_102.1 t_zc (by omega) (by omega)) (cwV 4 hts gX0_cutFrom_X0_addStretch rfl rfl rfl (by decide +kernel) ⟨(Nat.le_of_ble_eq_true rfl), (Nat.le_of_ble_eq_true rfl)⟩) (PRE.v hP hK hD hN (ht_recv hK hP hs t_zc (by decide) rfl rfl)) rfl rfl hl.1 rfl (lv_room (Nat.le_of_ble_eq_true rfl)) dX0_cutFrom_62 ⟨(Nat.le_of_ble_eq_true rfl), (Nat.le_of_ble_eq_true rfl)⟩) hP hD hS hA (fun zI_146 H locs hw_144 hP hD hS => ?_)
          obtain ⟨k_zI_146, ps_147⟩ : (WM [108, 2200, 2300] (OW zT zR zc) zT zR zI_102 zI_146) ∧ ((zI_146 zc 8).toInt = (zI_102 zc 8).toInt + 1) := hw_144
          have h_zI_146 : WM [107, 108, 110, 2200, 2300] (OW zT zR zc) zT zR zI zI_146 := h_zI_102.tr k_zI_146 (by decide) (fun _ h => h)
          obtain ⟨zi_148, ezi_148⟩ : ∃ y : Int32, y = zI_146 zc 8 := ⟨_, rfl⟩
          have tzi_148 : 0 ≤ zi_148.toInt ∧ zi_148.toInt ≤ 6 := by rw [ezi_148]; exact h_zI_146.at t_zc _ rfl
          have lzi_148 : (zI_146 zc 8).toInt = zi_148.toInt := by rw [ezi_148]
          have lk_149 : (zI_146 zc 8).toInt = zi_148.toInt := congrArg Int32.toInt ezi_148.symm
          obtain ⟨zi_150, ezi_150⟩ : ∃ y : Int32, y = zi_101 + 1 := ⟨_, rfl⟩
          have tzi_150 : zi_150.toInt = zi_101.toInt + 1 := by rw [ezi_150]; exact tadd rfl (show (1 : Int32).toInt = 1 by decide) (by omega) (by omega)
          refine lv_iinc (v := zi_150) (lv' := [(3, .int zi_150), (0, .ref zc), (1, .int zit), (2, .int zi_1)]) hx hb dX0_cutFrom_65 hl (k := 3) rfl (by rw [ezi_150]; rfl) (by decide) rfl (fun ls hl => ?_)
          refine lv_goto (tgt := 22) hx hb dX0_cutFrom_68 (by decide) ?_
          exact ih_127 (zi_1.toInt - zi_150.toInt).toNat (by omega) zi_150 zI_146 zi_148 _ _ _ rfl (by omega) h_zI_146 (by omega) (by omega) ezi_148.symm hP hD hS (lv_sub hl [1, 2, 3, 0] rfl)
  have qc_0 : (0 : Int32).toInt = 0 := by decide
  exact lp_127 _ (0 : Int32) zI_4 (0 : Int32) _ _ _ rfl (by decide) h_zI_4 (by decide) (by omega) (by rw [← uzI_4]; exact u2_s) hP hD hS (lv_sub hl [2, 3, 1, 0] rfl)
set_option maxHeartbeats 8000000 in
set_option maxRecDepth 100000 in
theorem t_X2_add (l : Launch) (dC : Nat → ClassId) (dI : Nat → Nat → Nat) (cy : Nat → ClassId) (sz : Nat) (zL : List Nat) (zT : Nat → Nat) (zR : Nat → Nat → Nat) (zI : Nat → Nat → Int32) (zJ : Nat → Nat → Int64) (zd : Nat) (zia : Int32) (zib : Int32) (ziy : Int32) (ziz : Int32) (zin : Int32) (hs : SKP zL zT zR) (hw : WT zT zR zI) (t_zd : zT zd = 3) (b_zia : 0 ≤ zia.toInt ∧ zia.toInt ≤ 1) (b_zib : 0 ≤ zib.toInt ∧ zib.toInt ≤ 11) (b_ziy : 0 ≤ ziy.toInt ∧ ziy.toInt ≤ 23) (b_ziz : 0 ≤ ziz.toInt ∧ ziz.toInt ≤ 23) (hx1 : (zI zd 6).toInt ≤ 7) : Met l yX2_add wsX2_add ({ frames := 0, cells := 0, slots := 0, locals := 0 } : Room) (va_Pc [.ref zd, .int zia, .int zib, .int ziy, .int ziz, .int zin] (PRE dC dI cy (WL cy zL zT zR zI zJ) sz)) (va_Qv (fun (u : (Nat → Nat → Int32)) => (WM [306, 2400, 2500, 2600, 2700] AL zT zR zI u) ∧ ((u zd 6).toInt = (zI zd 6).toInt + 1)) (fun u t => POST dC dI cy (va_A (WL cy zL zT zR zI zJ) sz) (WL cy zL zT zR u zJ) t) (va_A (WL cy zL zT zR zI zJ) sz)) 0 0 (va_A (WL cy zL zT zR zI zJ) sz) := by
  refine Met.ofW (cc := cX2_add) (maxL := 6) (ret := none) (by decide) rfl ?_
  intro p e s m args below meth c s₁ B hml hv
  obtain ⟨rfl, hsz, hP, hK, hD0, hN⟩ := hv
  have hx := B.exec
  have hb := B.bytes
  have hr := B.returns
  have hts := atoms_spec (ws := wsX2_add) B.pre
  have hown : s.vm.findClass RX2 = some m.cls := findClass_of_methodNamed B.named
  have hlocks := B.notSynchronized
  subst hsz
  have hD := hD0.self (sz := s.heap.size)
  generalize hAe : va_A (WL cy zL zT zR zI zJ) s.heap.size = A at hD ⊢
  have hA : ∀ q : Nat, s.heap.size ≤ q → A q := fun q h => by rw [← hAe]; exact Or.inr h
  have hS : va_S A s.heap s.heap [] := va_S.rf
  have hP : va_P (dC, dI) vwCl (WL cy zL zT zR zI zJ) s.heap := hP
  have hl := lv_entry ([.ref zd, .int zia, .int zib, .int ziy, .int ziz, .int zin] : List Value) (n := 6) (Nat.le_of_ble_eq_true rfl)
  rw [lg_entry_eq]
  generalize (lg_sl ([.ref zd, .int zia, .int zib, .int ziy, .int ziz, .int zin] : List Value) ++ List.replicate (6 - (lg_sl ([.ref zd, .int zia, .int zib, .int ziy, .int ziz, .int zin] : List Value)).length) Slot.unset).toArray = ls at hl ⊢
  have hl : lv_has ls 6 [(0, .ref zd), (1, .int zia), (2, .int zib), (3, .int ziy), (4, .int ziz), (5, .int zin)] := hl
  refine w_q (fun Q hQ => ?_)
  have h_zI : WM [306, 2400, 2500, 2600, 2700] AL zT zR zI zI := WM.rf hw
  refine lv_aload_n hx hb dX2_add_0 rfl (lv_at hl 0 rfl) ?_
  refine ht_getr (C := RX2) (T := TX2) (N := 7) hx hb hts (by decide +kernel) hown hK hP hs t_zd (by decide) rfl rfl 0 (by decide) (hts (.fieldLink RX2 9 "DripStone$Dates" "candles" "[I") (by decide +kernel)) (fun _ h9 => h9) rfl dX2_add_1 ?_
  have t_1 : zT (zR zd 0) = 24 := sk_f hs t_zd (by decide) rfl (by decide)
  refine lv_aload_n hx hb dX2_add_4 rfl (lv_at hl 0 rfl) ?_
  refine ht_geti (C := RX2) (T := TX2) (N := 7) hx hb hts (by decide +kernel) hown hK hP hs t_zd (by decide) rfl rfl 6 (by decide) (hts (.fieldLink RX2 30 "DripStone$Dates" "held" "I") (by decide +kernel)) (fun _ h9 => h9) rfl dX2_add_5 ?_
  refine lv_topi (fun zi_2 ezi_2 => ?_)
  have tzi_2 : 0 ≤ zi_2.toInt ∧ zi_2.toInt ≤ 8 := by rw [ezi_2]; exact h_zI.at t_zd _ rfl
  have lzi_2 : (zI zd 6).toInt = zi_2.toInt := by rw [ezi_2]
  refine lv_iload_n hx hb dX2_add_8 rfl (lv_at hl 1 rfl) ?_
  refine ht_iast (v := zia) (n := 8) (q := 0) hx hb hK hP hD hS hs t_1 (by decide) rfl rfl ⟨by omega, by omega⟩ dX2_add_9 (fun H locs hP hD hS => ?_)
  have h_zI_3 : WM [306, 2400, 2500, 2600, 2700] AL zT zR zI (u2 zI (zR zd 0) zi_2.toNatClampNeg zia) := h_zI.putA hs t_1 rfl (by omega) (by decide) (fun h => absurd h (by decide)) (by decide) trivial
  generalize uzI_3 : u2 zI (zR zd 0) zi_2.toNatClampNeg zia = zI_3 at hP hD h_zI_3
  refine lv_aload_n hx hb dX2_add_10 rfl (lv_at hl 0 rfl) ?_
  refine ht_getr (C := RX2) (T := TX2) (N := 7) hx hb hts (by decide +kernel) hown hK hP hs t_zd (by decide) rfl rfl 1 (by decide) (hts (.fieldLink RX2 15 "DripStone$Dates" "things" "[I") (by decide +kernel)) (fun _ h9 => h9) rfl dX2_add_11 ?_
  have t_4 : zT (zR zd 1) = 25 := sk_f hs t_zd (by decide) rfl (by decide)
  refine lv_aload_n hx hb dX2_add_14 rfl (lv_at hl 0 rfl) ?_
  refine ht_geti (C := RX2) (T := TX2) (N := 7) hx hb hts (by decide +kernel) hown hK hP hs t_zd (by decide) rfl rfl 6 (by decide) (hts (.fieldLink RX2 30 "DripStone$Dates" "held" "I") (by decide +kernel)) (fun _ h9 => h9) rfl dX2_add_15 ?_
  refine lv_topi (fun zi_5 ezi_5 => ?_)
  obtain rfl : zi_2 = zi_5 := (ezi_5.trans ((show zI_3 zd 6 = zI zd 6 from by rw [← uzI_3]; exact u2_n (tne t_zd t_1 (by decide))).trans ezi_2.symm)).symm
  refine lv_iload_n hx hb dX2_add_18 rfl (lv_at hl 2 rfl) ?_
  refine ht_iast (v := zib) (n := 8) (q := 0) hx hb hK hP hD hS hs t_4 (by decide) rfl rfl ⟨by omega, by omega⟩ dX2_add_19 (fun H locs hP hD hS => ?_)
  have h_zI_6 : WM [306, 2400, 2500, 2600, 2700] AL zT zR zI (u2 zI_3 (zR zd 1) zi_2.toNatClampNeg zib) := h_zI_3.putA hs t_4 rfl (by omega) (by decide) (fun h => absurd h (by decide)) (by decide) trivial
  generalize uzI_6 : u2 zI_3 (zR zd 1) zi_2.toNatClampNeg zib = zI_6 at hP hD h_zI_6
  refine lv_aload_n hx hb dX2_add_20 rfl (lv_at hl 0 rfl) ?_
  refine ht_getr (C := RX2) (T := TX2) (N := 7) hx hb hts (by decide +kernel) hown hK hP hs t_zd (by decide) rfl rfl 2 (by decide) (hts (.fieldLink RX2 18 "DripStone$Dates" "froms" "[I") (by decide +kernel)) (fun _ h9 => h9) rfl dX2_add_21 ?_
  have t_7 : zT (zR zd 2) = 26 := sk_f hs t_zd (by decide) rfl (by decide)
  refine lv_aload_n hx hb dX2_add_24 rfl (lv_at hl 0 rfl) ?_
  refine ht_geti (C := RX2) (T := TX2) (N := 7) hx hb hts (by decide +kernel) hown hK hP hs t_zd (by decide) rfl rfl 6 (by decide) (hts (.fieldLink RX2 30 "DripStone$Dates" "held" "I") (by decide +kernel)) (fun _ h9 => h9) rfl dX2_add_25 ?_
  refine lv_topi (fun zi_8 ezi_8 => ?_)
  obtain rfl : zi_2 = zi_8 := (ezi_8.trans ((show zI_6 zd 6 = zI_3 zd 6 from by rw [← uzI_6]; exact u2_n (tne t_zd t_4 (by decide))).trans ((show zI_3 zd 6 = zI zd 6 from by rw [← uzI_3]; exact u2_n (tne t_zd t_1 (by decide))).trans ezi_2.symm))).symm
  refine lv_iload_n hx hb dX2_add_28 rfl (lv_at hl 3 rfl) ?_
  refine ht_iast (v := ziy) (n := 8) (q := 0) hx hb hK hP hD hS hs t_7 (by decide) rfl rfl ⟨by omega, by omega⟩ dX2_add_29 (fun H locs hP hD hS => ?_)
  have h_zI_9 : WM [306, 2400, 2500, 2600, 2700] AL zT zR zI (u2 zI_6 (zR zd 2) zi_2.toNatClampNeg ziy) := h_zI_6.putA hs t_7 rfl (by omega) (by decide) (fun h => absurd h (by decide)) (by decide) trivial
  generalize uzI_9 : u2 zI_6 (zR zd 2) zi_2.toNatClampNeg ziy = zI_9 at hP hD h_zI_9
  refine lv_aload_n hx hb dX2_add_30 rfl (lv_at hl 0 rfl) ?_
  refine ht_getr (C := RX2) (T := TX2) (N := 7) hx hb hts (by decide +kernel) hown hK hP hs t_zd (by decide) rfl rfl 3 (by decide) (hts (.fieldLink RX2 21 "DripStone$Dates" "tos" "[I") (by decide +kernel)) (fun _ h9 => h9) rfl dX2_add_31 ?_
  have t_10 : zT (zR zd 3) = 26 := sk_f hs t_zd (by decide) rfl (by decide)
  refine lv_aload_n hx hb dX2_add_34 rfl (lv_at hl 0 rfl) ?_
  refine ht_geti (C := RX2) (T := TX2) (N := 7) hx hb hts (by decide +kernel) hown hK hP hs t_zd (by decide) rfl rfl 6 (by decide) (hts (.fieldLink RX2 30 "DripStone$Dates" "held" "I") (by decide +kernel)) (fun _ h9 => h9) rfl dX2_add_35 ?_
  refine lv_topi (fun zi_11 ezi_11 => ?_)
  obtain rfl : zi_2 = zi_11 := (ezi_11.trans ((show zI_9 zd 6 = zI_6 zd 6 from by rw [← uzI_9]; exact u2_n (tne t_zd t_7 (by decide))).trans ((show zI_6 zd 6 = zI_3 zd 6 from by rw [← uzI_6]; exact u2_n (tne t_zd t_4 (by decide))).trans ((show zI_3 zd 6 = zI zd 6 from by rw [← uzI_3]; exact u2_n (tne t_zd t_1 (by decide))).trans ezi_2.symm)))).symm
  refine lv_iload hx hb dX2_add_38 (lv_at hl 4 rfl) ?_
  refine ht_iast (v := ziz) (n := 8) (q := 0) hx hb hK hP hD hS hs t_10 (by decide) rfl rfl ⟨by omega, by omega⟩ dX2_add_40 (fun H locs hP hD hS => ?_)
  have h_zI_12 : WM [306, 2400, 2500, 2600, 2700] AL zT zR zI (u2 zI_9 (zR zd 3) zi_2.toNatClampNeg ziz) := h_zI_9.putA hs t_10 rfl (by omega) (by decide) (fun h => absurd h (by decide)) (by decide) trivial
  generalize uzI_12 : u2 zI_9 (zR zd 3) zi_2.toNatClampNeg ziz = zI_12 at hP hD h_zI_12
  refine lv_aload_n hx hb dX2_add_41 rfl (lv_at hl 0 rfl) ?_
  refine ht_getr (C := RX2) (T := TX2) (N := 7) hx hb hts (by decide +kernel) hown hK hP hs t_zd (by decide) rfl rfl 4 (by decide) (hts (.fieldLink RX2 24 "DripStone$Dates" "dirts" "[I") (by decide +kernel)) (fun _ h9 => h9) rfl dX2_add_42 ?_
  have t_13 : zT (zR zd 4) = 27 := sk_f hs t_zd (by decide) rfl (by decide)
  refine lv_aload_n hx hb dX2_add_45 rfl (lv_at hl 0 rfl) ?_
  refine ht_geti (C := RX2) (T := TX2) (N := 7) hx hb hts (by decide +kernel) hown hK hP hs t_zd (by decide) rfl rfl 6 (by decide) (hts (.fieldLink RX2 30 "DripStone$Dates" "held" "I") (by decide +kernel)) (fun _ h9 => h9) rfl dX2_add_46 ?_
  refine lv_topi (fun zi_14 ezi_14 => ?_)
  obtain rfl : zi_2 = zi_14 := (ezi_14.trans ((show zI_12 zd 6 = zI_9 zd 6 from by rw [← uzI_12]; exact u2_n (tne t_zd t_10 (by decide))).trans ((show zI_9 zd 6 = zI_6 zd 6 from by rw [← uzI_9]; exact u2_n (tne t_zd t_7 (by decide))).trans ((show zI_6 zd 6 = zI_3 zd 6 from by rw [← uzI_6]; exact u2_n (tne t_zd t_4 (by decide))).trans ((show zI_3 zd 6 = zI zd 6 from by rw [← uzI_3]; exact u2_n (tne t_zd t_1 (by decide))).trans ezi_2.symm))))).symm
  refine lv_iload hx hb dX2_add_49 (lv_at hl 5 rfl) ?_
  refine ht_iast (v := zin) (n := 8) (q := 0) hx hb hK hP hD hS hs t_13 (by decide) rfl rfl ⟨by omega, by omega⟩ dX2_add_51 (fun H locs hP hD hS => ?_)
  have h_zI_15 : WM [306, 2400, 2500, 2600, 2700] AL zT zR zI (u2 zI_12 (zR zd 4) zi_2.toNatClampNeg zin) := h_zI_12.putA hs t_13 rfl (rgF _) (by decide) (fun h => absurd h (by decide)) (by decide) trivial
  generalize uzI_15 : u2 zI_12 (zR zd 4) zi_2.toNatClampNeg zin = zI_15 at hP hD h_zI_15
  refine lv_aload_n hx hb dX2_add_52 rfl (lv_at hl 0 rfl) ?_
  refine ht_getr (C := RX2) (T := TX2) (N := 7) hx hb hts (by decide +kernel) hown hK hP hs t_zd (by decide) rfl rfl 5 (by decide) (hts (.fieldLink RX2 27 "DripStone$Dates" "reasons" "[I") (by decide +kernel)) (fun _ h9 => h9) rfl dX2_add_53 ?_
  have t_16 : zT (zR zd 5) = 27 := sk_f hs t_zd (by decide) rfl (by decide)
  refine lv_aload_n hx hb dX2_add_56 rfl (lv_at hl 0 rfl) ?_
  refine ht_geti (C := RX2) (T := TX2) (N := 7) hx hb hts (by decide +kernel) hown hK hP hs t_zd (by decide) rfl rfl 6 (by decide) (hts (.fieldLink RX2 30 "DripStone$Dates" "held" "I") (by decide +kernel)) (fun _ h9 => h9) rfl dX2_add_57 ?_
  refine lv_topi (fun zi_17 ezi_17 => ?_)
  obtain rfl : zi_2 = zi_17 := (ezi_17.trans ((show zI_15 zd 6 = zI_12 zd 6 from by rw [← uzI_15]; exact u2_n (tne t_zd t_13 (by decide))).trans ((show zI_12 zd 6 = zI_9 zd 6 from by rw [← uzI_12]; exact u2_n (tne t_zd t_10 (by decide))).trans ((show zI_9 zd 6 = zI_6 zd 6 from by rw [← uzI_9]; exact u2_n (tne t_zd t_7 (by decide))).trans ((show zI_6 zd 6 = zI_3 zd 6 from by rw [← uzI_6]; exact u2_n (tne t_zd t_4 (by decide))).trans ((show zI_3 zd 6 = zI zd 6 from by rw [← uzI_3]; exact u2_n (tne t_zd t_1 (by decide))).trans ezi_2.symm)))))).symm
  refine lv_iconst (v := 0) hx hb dX2_add_60 (by decide) ?_
  refine ht_iast (v := (0 : Int32)) (n := 8) (q := 0) hx hb hK hP hD hS hs t_16 (by decide) rfl rfl ⟨by omega, by omega⟩ dX2_add_61 (fun H locs hP hD hS => ?_)
  have h_zI_18 : WM [306, 2400, 2500, 2600, 2700] AL zT zR zI (u2 zI_15 (zR zd 5) zi_2.toNatClampNeg (0 : Int32)) := h_zI_15.putA hs t_16 rfl (rgF _) (by decide) (fun h => absurd h (by decide)) (by decide) trivial
  generalize uzI_18 : u2 zI_15 (zR zd 5) zi_2.toNatClampNeg (0 : Int32) = zI_18 at hP hD h_zI_18
  refine lv_aload_n hx hb dX2_add_62 rfl (lv_at hl 0 rfl) ?_
  refine lv_dup hx hb dX2_add_63 rfl ?_
  refine ht_geti (C := RX2) (T := TX2) (N := 7) hx hb hts (by decide +kernel) hown hK hP hs t_zd (by decide) rfl rfl 6 (by decide) (hts (.fieldLink RX2 30 "DripStone$Dates" "held" "I") (by decide +kernel)) (fun _ h9 => h9) rfl dX2_add_64 ?_
  refine lv_topi (fun zi_19 ezi_19 => ?_)
  obtain rfl : zi_2 = zi_19 := (ezi_19.trans ((show zI_18 zd 6 = zI_15 zd 6 from by rw [← uzI_18]; exact u2_n (tne t_zd t_16 (by decide))).trans ((show zI_15 zd 6 = zI_12 zd 6 from by rw [← uzI_15]; exact u2_n (tne t_zd t_13 (by decide))).trans ((show zI_12 zd 6 = zI_9 zd 6 from by rw [← uzI_12]; exact u2_n (tne t_zd t_10 (by decide))).trans ((show zI_9 zd 6 = zI_6 zd 6 from by rw [← uzI_9]; exact u2_n (tne t_zd t_7 (by decide))).trans ((show zI_6 zd 6 = zI_3 zd 6 from by rw [← uzI_6]; exact u2_n (tne t_zd t_4 (by decide))).trans ((show zI_3 zd 6 = zI zd 6 from by rw [← uzI_3]; exact u2_n (tne t_zd t_1 (by decide))).trans ezi_2.symm))))))).symm
  refine lv_iconst (v := 1) hx hb dX2_add_67 (by decide) ?_
  refine lv_iadd hx hb dX2_add_68 ?_
  refine lv_topi (fun zi_20 ezi_20 => ?_)
  have tzi_20 : zi_20.toInt = zi_2.toInt + (1 : Int) := by rw [ezi_20]; exact tiadd (rfl) (show (1 : Int32).toInt = 1 by decide) (by omega) (by omega)
  refine ht_puti (v := zi_20) (ty := .int) (C := RX2) (T := TX2) (N := 7) hx hb hts (by decide +kernel) tyX2 tyX2_ok nmX2 hown hK hP hD hS hs t_zd (by decide) rfl rfl 6 (by decide) (hts (.fieldLink RX2 30 "DripStone$Dates" "held" "I") (by decide +kernel)) (fun _ h9 => h9) rfl (by decide +kernel) rfl rfl rfl dX2_add_69 (fun H locs hP hD hS => ?_)
  have h_zI_21 : WM [306, 2400, 2500, 2600, 2700] AL zT zR zI (u2 zI_18 zd 6 zi_20) := h_zI_18.put hs t_zd rfl (by omega) (by decide) (fun h => absurd h (by decide)) (by decide) trivial
  generalize uzI_21 : u2 zI_18 zd 6 zi_20 = zI_21 at hP hD h_zI_21
  subst hQ
  exact W.vret hx hb hr (fun t ht hW => ⟨⟨zI_21, rfl, ⟨h_zI_21, (show (zI_21 zd 6).toInt = (zI zd 6).toInt + 1 from (by rw [show zI_21 zd 6 = zi_20 from (by rw [← uzI_21]; exact u2_s)]; omega))⟩, ⟨by rw [ht]; exact hP, va_K.moved hW.alike hK, hD⟩⟩, hS.F ht⟩) hS.2.2 dX2_add_72
set_option maxHeartbeats 8000000 in
set_option maxRecDepth 100000 in
theorem t_X2_removeFrom (l : Launch) (dC : Nat → ClassId) (dI : Nat → Nat → Nat) (cy : Nat → ClassId) (sz : Nat) (zL : List Nat) (zT : Nat → Nat) (zR : Nat → Nat → Nat) (zI : Nat → Nat → Int32) (zJ : Nat → Nat → Int64) (zd : Nat) (zia : Int32) (zib : Int32) (hs : SKP zL zT zR) (hw : WT zT zR zI) (t_zd : zT zd = 3) : Met l yX2_removeFrom wsX2_removeFrom ({ frames := 1, cells := 0, slots := 0, locals := 25 } : Room) (va_Pc [.ref zd, .int zia, .int zib] (PRE dC dI cy (WL cy zL zT zR zI zJ) sz)) (va_Qv (fun (u : (Nat → Nat → Int32)) => (WM [306, 2400, 2500, 2600, 2700] AL zT zR zI u)) (fun u t => POST dC dI cy (va_A (WL cy zL zT zR zI zJ) sz) (WL cy zL zT zR u zJ) t) (va_A (WL cy zL zT zR zI zJ) sz)) 0 0 (va_A (WL cy zL zT zR zI zJ) sz) := by
  refine Met.ofW (cc := cX2_removeFrom) (maxL := 6) (ret := none) (by decide) rfl ?_
  intro p e s m args below meth c s₁ B hml hv
  obtain ⟨rfl, hsz, hP, hK, hD0, hN⟩ := hv
  have hx := B.exec
  have hb := B.bytes
  have hr := B.returns
  have hts := atoms_spec (ws := wsX2_removeFrom) B.pre
  have hown : s.vm.findClass RX2 = some m.cls := findClass_of_methodNamed B.named
  have hlocks := B.notSynchronized
  subst hsz
  have hD := hD0.self (sz := s.heap.size)
  generalize hAe : va_A (WL cy zL zT zR zI zJ) s.heap.size = A at hD ⊢
  have hA : ∀ q : Nat, s.heap.size ≤ q → A q := fun q h => by rw [← hAe]; exact Or.inr h
  have hS : va_S A s.heap s.heap [] := va_S.rf
  have hP : va_P (dC, dI) vwCl (WL cy zL zT zR zI zJ) s.heap := hP
  have hl := lv_entry ([.ref zd, .int zia, .int zib] : List Value) (n := 6) (Nat.le_of_ble_eq_true rfl)
  rw [lg_entry_eq]
  generalize (lg_sl ([.ref zd, .int zia, .int zib] : List Value) ++ List.replicate (6 - (lg_sl ([.ref zd, .int zia, .int zib] : List Value)).length) Slot.unset).toArray = ls at hl ⊢
  have hl : lv_has ls 6 [(0, .ref zd), (1, .int zia), (2, .int zib)] := hl
  refine w_q (fun Q hQ => ?_)
  have h_zI : WM [306, 2400, 2500, 2600, 2700] AL zT zR zI zI := WM.rf hw
  refine lv_aload_n hx hb dX2_removeFrom_0 rfl (lv_at hl 0 rfl) ?_
  refine ht_geti (C := RX2) (T := TX2) (N := 7) hx hb hts (by decide +kernel) hown hK hP hs t_zd (by decide) rfl rfl 6 (by decide) (hts (.fieldLink RX2 30 "DripStone$Dates" "held" "I") (by decide +kernel)) (fun _ h9 => h9) rfl dX2_removeFrom_1 ?_
  refine lv_topi (fun zi_1 ezi_1 => ?_)
  have tzi_1 : 0 ≤ zi_1.toInt ∧ zi_1.toInt ≤ 8 := by rw [ezi_1]; exact h_zI.at t_zd _ rfl
  have lzi_1 : (zI zd 6).toInt = zi_1.toInt := by rw [ezi_1]
  refine lv_istore_n (lv' := [(3, .int zi_1), (0, .ref zd), (1, .int zia), (2, .int zib)]) hx hb dX2_removeFrom_4 rfl hl (by decide) rfl (fun ls hl => ?_)
  refine lv_aload_n hx hb dX2_removeFrom_5 rfl (lv_at hl 1 rfl) ?_
  refine lv_iconst (v := 0) hx hb dX2_removeFrom_6 (by decide) ?_
  refine ht_puti (v := (0 : Int32)) (ty := .int) (C := RX2) (T := TX2) (N := 7) hx hb hts (by decide +kernel) tyX2 tyX2_ok nmX2 hown hK hP hD hS hs t_zd (by decide) rfl rfl 6 (by decide) (hts (.fieldLink RX2 30 "DripStone$Dates" "held" "I") (by decide +kernel)) (fun _ h9 => h9) rfl (by decide +kernel) rfl rfl rfl dX2_removeFrom_7 (fun H locs hP hD hS => ?_)
  have h_zI_2 : WM [306, 2400, 2500, 2600, 2700] AL zT zR zI (u2 zI zd 6 (0 : Int32)) := h_zI.put hs t_zd rfl (by decide) (by decide) (fun h => absurd h (by decide)) (by decide) trivial
  generalize uzI_2 : u2 zI zd 6 (0 : Int32) = zI_2 at hP hD h_zI_2
  refine lv_iconst (v := 0) hx hb dX2_removeFrom_10 (by decide) ?_
  refine lv_istore (lv' := [(4, .int 0), (3, .int zi_1), (0, .ref zd), (1, .int zia), (2, .int zib)]) hx hb dX2_removeFrom_11 hl (by decide) rfl (fun ls hl => ?_)
  have lp_289 : ∀ (n : Nat) (zi_230 : Int32) (zI_231 : Nat → Nat → Int32) (zi_232 : Int32) (H : Heap) (locs : List Loc) (ls : Array Slot), (zi_1.toInt - zi_230.toInt).toNat = n → (0 ≤ zi_230.toInt ∧ zi_230.toInt ≤ 8) → (WM [306, 2400, 2500, 2600, 2700] AL zT zR zI zI_231) → (0 ≤ zi_232.toInt ∧ zi_232.toInt ≤ 8) → (zi_232.toInt ≤ zi_230.toInt) → (zI_231 zd 6 = zi_232) → va_P (dC, dI) vwCl (WL cy zL zT zR zI_231 zJ) H → va_D A (WL cy zL zT zR zI_231 zJ) → va_S A s.heap H locs → lv_has ls 6 [(0, .ref zd), (1, .int zia), (2, .int zib), (3, .int zi_1), (4, .int zi_230)] → W p l e ({ frames := 1, cells := 0, slots := 0, locals := 25 } : Room) s m ([.ref zd, .int zia, .int zib] : List Value).toArray below meth c H locs 0 0 Q (F0 m 13 ls []) := by
    intro n
    induction n using Nat.strongRecOn with
    | _ n ih_289 =>
      intro zi_230 zI_231 zi_232 H locs ls hn b_zi_230 h_zI_231 b_zi_232 e_lp_289_0 e_lp_289_1 hP hD hS hl
      refine lv_iload hx hb dX2_removeFrom_13 (lv_at hl 4 rfl) ?_
      refine lv_iload_n hx hb dX2_removeFrom_15 rfl (lv_at hl 3 rfl) ?_
      refine lv_icmp_ge (tgt := 108) hx hb dX2_removeFrom_16 (by decide) (fun c_290 => ?_) (fun c_290 => ?_)
      · have f_291 : zi_230.toInt ≥ zi_1.toInt := ic_ge (rfl) (rfl) c_290
        subst hQ
        exact W.vret hx hb hr (fun t ht hW => ⟨⟨zI_231, rfl, h_zI_231, ⟨by rw [ht]; exact hP, va_K.moved hW.alike hK, hD⟩⟩, hS.F ht⟩) hS.2.2 dX2_removeFrom_108
      · have f_291 : ¬ (zi_230.toInt ≥ zi_1.toInt) := ic_nge (rfl) (rfl) c_290
        refine lv_aload_n hx hb dX2_removeFrom_19 rfl (lv_at hl 0 rfl) ?_
        refine ht_getr (C := RX2) (T := TX2) (N := 7) hx hb hts (by decide +kernel) hown hK hP hs t_zd (by decide) rfl rfl 0 (by decide) (hts (.fieldLink RX2 9 "DripStone$Dates" "candles" "[I") (by decide +kernel)) (fun _ h9 => h9) rfl dX2_removeFrom_20 ?_
        have t_292 : zT (zR zd 0) = 24 := sk_f hs t_zd (by decide) rfl (by decide)
        refine lv_iload hx hb dX2_removeFrom_23 (lv_at hl 4 rfl) ?_
        refine ht_iald (n := 8) (q := 0) hx hb hK hP hs t_292 (by decide) rfl rfl ⟨by omega, by omega⟩ dX2_removeFrom_25 ?_
        refine lv_topi (fun zi_293 ezi_293 => ?_)
        have tzi_293 : 0 ≤ zi_293.toInt ∧ zi_293.toInt ≤ 1 := by rw [ezi_293]; exact h_zI_231.at t_292 _ rfl
        refine lv_iload_n hx hb dX2_removeFrom_26 rfl (lv_at hl 1 rfl) ?_
        refine lv_icmp_ne (tgt := 41) hx hb dX2_removeFrom_27 (by decide) (fun c_294 => ?_) (fun c_294 => ?_)
        · have f_295 : zi_293.toInt ≠ zia.toInt := ic_ne (rfl) (rfl) c_294
          refine lv_aload_n hx hb dX2_removeFrom_41 rfl (lv_at hl 0 rfl) ?_
          refine ht_getr (C := RX2) (T := TX2) (N := 7) hx hb hts (by decide +kernel) hown hK hP hs t_zd (by decide) rfl rfl 5 (by decide) (hts (.fieldLink RX2 27 "DripStone$Dates" "reasons" "[I") (by decide +kernel)) (fun _ h9 => h9) rfl dX2_removeFrom_42 ?_
          have t_296 : zT (zR zd 5) = 27 := sk_f hs t_zd (by decide) rfl (by decide)
          refine lv_iload hx hb dX2_removeFrom_45 (lv_at hl 4 rfl) ?_
          refine ht_iald (n := 8) (q := 0) hx hb hK hP hs t_296 (by decide) rfl rfl ⟨by omega, by omega⟩ dX2_removeFrom_47 ?_
          refine lv_topi (fun zi_297 ezi_297 => ?_)
          refine lv_istore (lv' := [(5, .int zi_297), (0, .ref zd), (1, .int zia), (2, .int zib), (3, .int zi_1), (4, .int zi_230)]) hx hb dX2_removeFrom_48 hl (by decide) rfl (fun ls hl => ?_)
          refine lv_aload_n hx hb dX2_removeFrom_50 rfl (lv_at hl 1 rfl) ?_
          refine lv_aload_n hx hb dX2_removeFrom_51 rfl (lv_at hl 1 rfl) ?_
          refine ht_getr (C := RX2) (T := TX2) (N := 7) hx hb hts (by decide +kernel) hown hK hP hs t_zd (by decide) rfl rfl 0 (by decide) (hts (.fieldLink RX2 9 "DripStone$Dates" "candles" "[I") (by decide +kernel)) (fun _ h9 => h9) rfl dX2_removeFrom_52 ?_
          refine lv_iload hx hb dX2_removeFrom_55 (lv_at hl 5 rfl) ?_
          refine ht_iald (n := 8) (q := 0) hx hb hK hP hs t_292 (by decide) rfl rfl ⟨by omega, by omega⟩ dX2_removeFrom_57 ?_
          refine lv_topi (fun zi_298 ezi_298 => ?_)
          obtain rfl : zi_293 = zi_298 := (ezi_298.trans ezi_293.symm).symm
          refine lv_aload_n hx hb dX2_removeFrom_58 rfl (lv_at hl 1 rfl) ?_
          refine ht_getr (C := RX2) (T := TX2) (N := 7) hx hb hts (by decide +kernel) hown hK hP hs t_zd (by decide) rfl rfl 1 (by decide) (hts (.fieldLink RX2 15 "DripStone$Dates" "things" "[I") (by decide +kernel)) (fun _ h9 => h9) rfl dX2_removeFrom_59 ?_
          have t_299 : zT (zR zd 1) = 25 := sk_f hs t_zd (by decide) rfl (by decide)
          refine lv_iload hx hb dX2_removeFrom_62 (lv_at hl 5 rfl) ?_
          refine ht_iald (n := 8) (q := 0) hx hb hK hP hs t_299 (by decide) rfl rfl ⟨by omega, by omega⟩ dX2_removeFrom_64 ?_
          refine lv_topi (fun zi_300 ezi_300 => ?_)
          have tzi_300 : 0 ≤ zi_300.toInt ∧ zi_300.toInt ≤ 11 := by rw [ezi_300]; exact h_zI_231.at t_299 _ rfl
          refine lv_aload_n hx hb dX2_removeFrom_65 rfl (lv_at hl 1 rfl) ?_
          refine ht_getr (C := RX2) (T := TX2) (N := 7) hx hb hts (by decide +kernel) hown hK hP hs t_zd (by decide) rfl rfl 2 (by decide) (hts (.fieldLink RX2 18 "DripStone$Dates" "froms" "[I") (by decide +kernel)) (fun _ h9 => h9) rfl dX2_removeFrom_66 ?_
          have t_301 : zT (zR zd 2) = 26 := sk_f hs t_zd (by decide) rfl (by decide)
          refine lv_iload hx hb dX2_removeFrom_69 (lv_at hl 5 rfl) ?_
          refine ht_iald (n := 8) (q := 0) hx hb hK hP hs t_301 (by decide) rfl rfl ⟨by omega, by omega⟩ dX2_removeFrom_71 ?_
          refine lv_topi (fun zi_302 ezi_302 => ?_)
          have tzi_302 : 0 ≤ zi_302.toInt ∧ zi_302.toInt ≤ 23 := by rw [ezi_302]; exact h_zI_231.at t_301 _ rfl
          refine lv_aload_n hx hb dX2_removeFrom_72 rfl (lv_at hl 1 rfl) ?_
          refine ht_getr (C := RX2) (T := TX2) (N := 7) hx hb hts (by decide +kernel) hown hK hP hs t_zd (by decide) rfl rfl 3 (by decide) (hts (.fieldLink RX2 21 "DripStone$Dates" "tos" "[I") (by decide +kernel)) (fun _ h9 => h9) rfl dX2_removeFrom_73 ?_
          have t_303 : zT (zR zd 3) = 26 := sk_f hs t_zd (by decide) rfl (by decide)
          refine lv_iload hx hb dX2_removeFrom_76 (lv_at hl 5 rfl) ?_
          refine ht_iald (n := 8) (q := 0) hx hb hK hP hs t_303 (by decide) rfl rfl ⟨by omega, by omega⟩ dX2_removeFrom_78 ?_
          refine lv_topi (fun zi_304 ezi_304 => ?_)
          have tzi_304 : 0 ≤ zi_304.toInt ∧ zi_304.toInt ≤ 23 := by rw [ezi_304]; exact h_zI_231.at t_303 _ rfl
          refine lv_aload_n hx hb dX2_removeFrom_79 rfl (lv_at hl 1 rfl) ?_
          refine ht_getr (C := RX2) (T := TX2) (N := 7) hx hb hts (by decide +kernel) hown hK hP hs t_zd (by decide) rfl rfl 4 (by decide) (hts (.fieldLink RX2 24 "DripStone$Dates" "dirts" "[I") (by decide +kernel)) (fun _ h9 => h9) rfl dX2_removeFrom_80 ?_
          have t_305 : zT (zR zd 4) = 27 := sk_f hs t_zd (by decide) rfl (by decide)
          refine lv_iload hx hb dX2_removeFrom_83 (lv_at hl 5 rfl) ?_
          refine ht_iald (n := 8) (q := 0) hx hb hK hP hs t_305 (by decide) rfl rfl ⟨by omega, by omega⟩ dX2_removeFrom_85 ?_
          refine lv_topi (fun zi_306 ezi_306 => ?_)
          have lk_307 : (zI_231 zd 6).toInt = zi_232.toInt := congrArg Int32.toInt e_lp_289_1
          refine hj_v (ws := (WL cy zL zT zR zI_231 zJ)) (w1 := fun (u : (Nat → Nat → Int32)) => (WL cy zL zT zR u zJ)) (va_runV (As := [.int zi_293, .int zi_300, .int zi_302, .int zi_304, .int zi_306]) (rest := []) ⟨hx, hb, hml, hown, hts⟩ (t_X2_add l dC dI cy H.size zL zT zR zI_231 zJ zd zi_293 zi_300 zi_302 zi_304 zi_306 hs h_zI_231.1 t_zd (by omega) (by omega) (by omega) (by omega) (by omega)) (cwV 5 hts gX2_removeFrom_X2_add rfl rfl rfl (by decide +kernel) ⟨(Nat.le_of_ble_eq_true rfl), (Nat.le_of_ble_eq_true rfl)⟩) (PRE.v hP hK hD hN (ht_recv hK hP hs t_zd (by decide) rfl rfl)) rfl rfl hl.1 rfl (lv_room (Nat.le_of_ble_eq_true rfl)) dX2_removeFrom_86 ⟨(Nat.le_of_ble_eq_true rfl), (Nat.le_of_ble_eq_true rfl)⟩) hP hD hS hA (fun zI_311 H locs hw_309 hP hD hS => ?_)
          obtain ⟨k_zI_311, ps_312⟩ : (WM [306, 2400, 2500, 2600, 2700] AL zT zR zI_231 zI_311) ∧ ((zI_311 zd 6).toInt = (zI_231 zd 6).toInt + 1) := hw_309
          have h_zI_311 : WM [306, 2400, 2500, 2600, 2700] AL zT zR zI zI_311 := h_zI_231.tr k_zI_311 (by decide) (fun _ _ => trivial)
          obtain ⟨zi_313, ezi_313⟩ : ∃ y : Int32, y = zI_311 zd 6 := ⟨_, rfl⟩
          have tzi_313 : 0 ≤ zi_313.toInt ∧ zi_313.toInt ≤ 8 := by rw [ezi_313]; exact h_zI_311.at t_zd _ rfl
          have lzi_313 : (zI_311 zd 6).toInt = zi_313.toInt := by rw [ezi_313]
          have lk_314 : (zI_311 zd 6).toInt = zi_313.toInt := congrArg Int32.toInt ezi_313.symm
          refine lv_aload_n hx hb dX2_removeFrom_89 rfl (lv_at hl 1 rfl) ?_
          refine ht_getr (C := RX2) (T := TX2) (N := 7) hx hb hts (by decide +kernel) hown hK hP hs t_zd (by decide) rfl rfl 5 (by decide) (hts (.fieldLink RX2 27 "DripStone$Dates" "reasons" "[I") (by decide +kernel)) (fun _ h9 => h9) rfl dX2_removeFrom_90 ?_
          refine lv_aload_n hx hb dX2_removeFrom_93 rfl (lv_at hl 1 rfl) ?_
          refine ht_geti (C := RX2) (T := TX2) (N := 7) hx hb hts (by decide +kernel) hown hK hP hs t_zd (by decide) rfl rfl 6 (by decide) (hts (.fieldLink RX2 30 "DripStone$Dates" "held" "I") (by decide +kernel)) (fun _ h9 => h9) rfl dX2_removeFrom_94 ?_
          refine lv_topi (fun zi_315 ezi_315 => ?_)
          obtain rfl : zi_313 = zi_315 := (ezi_315.trans ezi_313.symm).symm
          refine lv_iconst (v := 1) hx hb dX2_removeFrom_97 (by decide) ?_
          refine lv_isub hx hb dX2_removeFrom_98 ?_
          refine lv_topi (fun zi_316 ezi_316 => ?_)
          have tzi_316 : zi_316.toInt = zi_313.toInt - (1 : Int) := by rw [ezi_316]; exact tisub (rfl) (show (1 : Int32).toInt = 1 by decide) (by omega) (by omega)
          refine lv_iload hx hb dX2_removeFrom_99 (lv_at hl 0 rfl) ?_
          refine ht_iast (v := zi_297) (n := 8) (q := 0) hx hb hK hP hD hS hs t_296 (by decide) rfl rfl ⟨by omega, by omega⟩ dX2_removeFrom_101 (fun H locs hP hD hS => ?_)
          have h_zI_317 : WM [306, 2400, 2500, 2600, 2700] AL zT zR zI (u2 zI_311 (zR zd 5) zi_316.toNatClampNeg zi_297) := h_zI_311.putA hs t_296 rfl (rgF _) (by decide) (fun h => absurd h (by decide)) (by decide) trivial
          generalize uzI_317 : u2 zI_311 (zR zd 5) zi_316.toNatClampNeg zi_297 = zI_317 at hP hD h_zI_317
          obtain ⟨zi_318, ezi_318⟩ : ∃ y : Int32, y = zi_230 + 1 := ⟨_, rfl⟩
          have tzi_318 : zi_318.toInt = zi_230.toInt + 1 := by rw [ezi_318]; exact tadd rfl (show (1 : Int32).toInt = 1 by decide) (by omega) (by omega)
          refine lv_iinc (v := zi_318) (lv' := [(4, .int zi_318), (5, .int zi_297), (0, .ref zd), (1, .int zia), (2, .int zib), (3, .int zi_1)]) hx hb dX2_removeFrom_102 hl (k := 5) rfl (by rw [ezi_318]; rfl) (by decide) rfl (fun ls hl => ?_)
          refine lv_goto (tgt := 13) hx hb dX2_removeFrom_105 (by decide) ?_
          exact ih_289 (zi_1.toInt - zi_318.toInt).toNat (by omega) zi_318 zI_317 zi_313 _ _ _ rfl (by omega) h_zI_317 (by omega) (by omega) ((show zI_317 zd 6 = zI_311 zd 6 from by rw [← uzI_317]; exact u2_n (tne t_zd t_296 (by decide))).trans ezi_313.symm) hP hD hS (lv_sub hl [2, 3, 4, 5, 0] rfl)
        · have f_295 : ¬ (zi_293.toInt ≠ zia.toInt) := ic_nne (rfl) (rfl) c_294
          refine lv_aload_n hx hb dX2_removeFrom_30 rfl (lv_at hl 0 rfl) ?_
          refine ht_getr (C := RX2) (T := TX2) (N := 7) hx hb hts (by decide +kernel) hown hK hP hs t_zd (by decide) rfl rfl 1 (by decide) (hts (.fieldLink RX2 15 "DripStone$Dates" "things" "[I") (by decide +kernel)) (fun _ h9 => h9) rfl dX2_removeFrom_31 ?_
          have t_319 : zT (zR zd 1) = 25 := sk_f hs t_zd (by decide) rfl (by decide)
          refine lv_iload hx hb dX2_removeFrom_34 (lv_at hl 4 rfl) ?_
          refine ht_iald (n := 8) (q := 0) hx hb hK hP hs t_319 (by decide) rfl rfl ⟨by omega, by omega⟩ dX2_removeFrom_36 ?_
          refine lv_topi (fun zi_320 ezi_320 => ?_)
          have tzi_320 : 0 ≤ zi_320.toInt ∧ zi_320.toInt ≤ 11 := by rw [ezi_320]; exact h_zI_231.at t_319 _ rfl
          refine lv_iload_n hx hb dX2_removeFrom_37 rfl (lv_at hl 2 rfl) ?_
          refine lv_icmp_ge (tgt := 102) hx hb dX2_removeFrom_38 (by decide) (fun c_321 => ?_) (fun c_321 => ?_)
          · have f_322 : zi_320.toInt ≥ zib.toInt := ic_ge (rfl) (rfl) c_321
            obtain ⟨zi_323, ezi_323⟩ : ∃ y : Int32, y = zi_230 + 1 := ⟨_, rfl⟩
            have tzi_323 : zi_323.toInt = zi_230.toInt + 1 := by rw [ezi_323]; exact tadd rfl (show (1 : Int32).toInt = 1 by decide) (by omega) (by omega)
            refine lv_iinc (v := zi_323) (lv' := [(4, .int zi_323), (0, .ref zd), (1, .int zia), (2, .int zib), (3, .int zi_1)]) hx hb dX2_removeFrom_102 hl (k := 4) rfl (by rw [ezi_323]; rfl) (by decide) rfl (fun ls hl => ?_)
            refine lv_goto (tgt := 13) hx hb dX2_removeFrom_105 (by decide) ?_
            exact ih_289 (zi_1.toInt - zi_323.toInt).toNat (by omega) zi_323 zI_231 zi_232 _ _ _ rfl (by omega) h_zI_231 (by omega) (by omega) e_lp_289_1 hP hD hS (lv_sub hl [1, 2, 3, 4, 0] rfl)
          · have f_322 : ¬ (zi_320.toInt ≥ zib.toInt) := ic_nge (rfl) (rfl) c_321
            refine lv_aload_n hx hb dX2_removeFrom_41 rfl (lv_at hl 0 rfl) ?_
            refine ht_getr (C := RX2) (T := TX2) (N := 7) hx hb hts (by decide +kernel) hown hK hP hs t_zd (by decide) rfl rfl 5 (by decide) (hts (.fieldLink RX2 27 "DripStone$Dates" "reasons" "[I") (by decide +kernel)) (fun _ h9 => h9) rfl dX2_removeFrom_42 ?_
            have t_324 : zT (zR zd 5) = 27 := sk_f hs t_zd (by decide) rfl (by decide)
            refine lv_iload hx hb dX2_removeFrom_45 (lv_at hl 4 rfl) ?_
            refine ht_iald (n := 8) (q := 0) hx hb hK hP hs t_324 (by decide) rfl rfl ⟨by omega, by omega⟩ dX2_removeFrom_47 ?_
            refine lv_topi (fun zi_325 ezi_325 => ?_)
            refine lv_istore (lv' := [(5, .int zi_325), (0, .ref zd), (1, .int zia), (2, .int zib), (3, .int zi_1), (4, .int zi_230)]) hx hb dX2_removeFrom_48 hl (by decide) rfl (fun ls hl => ?_)
            refine lv_aload_n hx hb dX2_removeFrom_50 rfl (lv_at hl 1 rfl) ?_
            refine lv_aload_n hx hb dX2_removeFrom_51 rfl (lv_at hl 1 rfl) ?_
            refine ht_getr (C := RX2) (T := TX2) (N := 7) hx hb hts (by decide +kernel) hown hK hP hs t_zd (by decide) rfl rfl 0 (by decide) (hts (.fieldLink RX2 9 "DripStone$Dates" "candles" "[I") (by decide +kernel)) (fun _ h9 => h9) rfl dX2_removeFrom_52 ?_
            refine lv_iload hx hb dX2_removeFrom_55 (lv_at hl 5 rfl) ?_
            refine ht_iald (n := 8) (q := 0) hx hb hK hP hs t_292 (by decide) rfl rfl ⟨by omega, by omega⟩ dX2_removeFrom_57 ?_
            refine lv_topi (fun zi_326 ezi_326 => ?_)
            obtain rfl : zi_293 = zi_326 := (ezi_326.trans ezi_293.symm).symm
            refine lv_aload_n hx hb dX2_removeFrom_58 rfl (lv_at hl 1 rfl) ?_
            refine ht_getr (C := RX2) (T := TX2) (N := 7) hx hb hts (by decide +kernel) hown hK hP hs t_zd (by decide) rfl rfl 1 (by decide) (hts (.fieldLink RX2 15 "DripStone$Dates" "things" "[I") (by decide +kernel)) (fun _ h9 => h9) rfl dX2_removeFrom_59 ?_
            refine lv_iload hx hb dX2_removeFrom_62 (lv_at hl 5 rfl) ?_
            refine ht_iald (n := 8) (q := 0) hx hb hK hP hs t_319 (by decide) rfl rfl ⟨by omega, by omega⟩ dX2_removeFrom_64 ?_
            refine lv_topi (fun zi_327 ezi_327 => ?_)
            obtain rfl : zi_320 = zi_327 := (ezi_327.trans ezi_320.symm).symm
            refine lv_aload_n hx hb dX2_removeFrom_65 rfl (lv_at hl 1 rfl) ?_
            refine ht_getr (C := RX2) (T := TX2) (N := 7) hx hb hts (by decide +kernel) hown hK hP hs t_zd (by decide) rfl rfl 2 (by decide) (hts (.fieldLink RX2 18 "DripStone$Dates" "froms" "[I") (by decide +kernel)) (fun _ h9 => h9) rfl dX2_removeFrom_66 ?_
            have t_328 : zT (zR zd 2) = 26 := sk_f hs t_zd (by decide) rfl (by decide)
            refine lv_iload hx hb dX2_removeFrom_69 (lv_at hl 5 rfl) ?_
            refine ht_iald (n := 8) (q := 0) hx hb hK hP hs t_328 (by decide) rfl rfl ⟨by omega, by omega⟩ dX2_removeFrom_71 ?_
            refine lv_topi (fun zi_329 ezi_329 => ?_)
            have tzi_329 : 0 ≤ zi_329.toInt ∧ zi_329.toInt ≤ 23 := by rw [ezi_329]; exact h_zI_231.at t_328 _ rfl
            refine lv_aload_n hx hb dX2_removeFrom_72 rfl (lv_at hl 1 rfl) ?_
            refine ht_getr (C := RX2) (T := TX2) (N := 7) hx hb hts (by decide +kernel) hown hK hP hs t_zd (by decide) rfl rfl 3 (by decide) (hts (.fieldLink RX2 21 "DripStone$Dates" "tos" "[I") (by decide +kernel)) (fun _ h9 => h9) rfl dX2_removeFrom_73 ?_
            have t_330 : zT (zR zd 3) = 26 := sk_f hs t_zd (by decide) rfl (by decide)
            refine lv_iload hx hb dX2_removeFrom_76 (lv_at hl 5 rfl) ?_
            refine ht_iald (n := 8) (q := 0) hx hb hK hP hs t_330 (by decide) rfl rfl ⟨by omega, by omega⟩ dX2_removeFrom_78 ?_
            refine lv_topi (fun zi_331 ezi_331 => ?_)
            have tzi_331 : 0 ≤ zi_331.toInt ∧ zi_331.toInt ≤ 23 := by rw [ezi_331]; exact h_zI_231.at t_330 _ rfl
            refine lv_aload_n hx hb dX2_removeFrom_79 rfl (lv_at hl 1 rfl) ?_
            refine ht_getr (C := RX2) (T := TX2) (N := 7) hx hb hts (by decide +kernel) hown hK hP hs t_zd (by decide) rfl rfl 4 (by decide) (hts (.fieldLink RX2 24 "DripStone$Dates" "dirts" "[I") (by decide +kernel)) (fun _ h9 => h9) rfl dX2_removeFrom_80 ?_
            have t_332 : zT (zR zd 4) = 27 := sk_f hs t_zd (by decide) rfl (by decide)
            refine lv_iload hx hb dX2_removeFrom_83 (lv_at hl 5 rfl) ?_
            refine ht_iald (n := 8) (q := 0) hx hb hK hP hs t_332 (by decide) rfl rfl ⟨by omega, by omega⟩ dX2_removeFrom_85 ?_
            refine lv_topi (fun zi_333 ezi_333 => ?_)
            have lk_334 : (zI_231 zd 6).toInt = zi_232.toInt := congrArg Int32.toInt e_lp_289_1
            refine hj_v (ws := (WL cy zL zT zR zI_231 zJ)) (w1 := fun (u : (Nat → Nat → Int32)) => (WL cy zL zT zR u zJ)) (va_runV (As := [.int zi_293, .int zi_320, .int zi_329, .int zi_331, .int zi_333]) (rest := []) ⟨hx, hb, hml, hown, hts⟩ (t_X2_add l dC dI cy H.size zL zT zR zI_231 zJ zd zi_293 zi_320 zi_329 zi_331 zi_333 hs h_zI_231.1 t_zd (by omega) (by omega) (by omega) (by omega) (by omega)) (cwV 5 hts gX2_removeFrom_X2_add rfl rfl rfl (by decide +kernel) ⟨(Nat.le_of_ble_eq_true rfl), (Nat.le_of_ble_eq_true rfl)⟩) (PRE.v hP hK hD hN (ht_recv hK hP hs t_zd (by decide) rfl rfl)) rfl rfl hl.1 rfl (lv_room (Nat.le_of_ble_eq_true rfl)) dX2_removeFrom_86 ⟨(Nat.le_of_ble_eq_true rfl), (Nat.le_of_ble_eq_true rfl)⟩) hP hD hS hA (fun zI_338 H locs hw_336 hP hD hS => ?_)
            obtain ⟨k_zI_338, ps_339⟩ : (WM [306, 2400, 2500, 2600, 2700] AL zT zR zI_231 zI_338) ∧ ((zI_338 zd 6).toInt = (zI_231 zd 6).toInt + 1) := hw_336
            have h_zI_338 : WM [306, 2400, 2500, 2600, 2700] AL zT zR zI zI_338 := h_zI_231.tr k_zI_338 (by decide) (fun _ _ => trivial)
            obtain ⟨zi_340, ezi_340⟩ : ∃ y : Int32, y = zI_338 zd 6 := ⟨_, rfl⟩
            have tzi_340 : 0 ≤ zi_340.toInt ∧ zi_340.toInt ≤ 8 := by rw [ezi_340]; exact h_zI_338.at t_zd _ rfl
            have lzi_340 : (zI_338 zd 6).toInt = zi_340.toInt := by rw [ezi_340]
            have lk_341 : (zI_338 zd 6).toInt = zi_340.toInt := congrArg Int32.toInt ezi_340.symm
            refine lv_aload_n hx hb dX2_removeFrom_89 rfl (lv_at hl 1 rfl) ?_
            refine ht_getr (C := RX2) (T := TX2) (N := 7) hx hb hts (by decide +kernel) hown hK hP hs t_zd (by decide) rfl rfl 5 (by decide) (hts (.fieldLink RX2 27 "DripStone$Dates" "reasons" "[I") (by decide +kernel)) (fun _ h9 => h9) rfl dX2_removeFrom_90 ?_
            refine lv_aload_n hx hb dX2_removeFrom_93 rfl (lv_at hl 1 rfl) ?_
            refine ht_geti (C := RX2) (T := TX2) (N := 7) hx hb hts (by decide +kernel) hown hK hP hs t_zd (by decide) rfl rfl 6 (by decide) (hts (.fieldLink RX2 30 "DripStone$Dates" "held" "I") (by decide +kernel)) (fun _ h9 => h9) rfl dX2_removeFrom_94 ?_
            refine lv_topi (fun zi_342 ezi_342 => ?_)
            obtain rfl : zi_340 = zi_342 := (ezi_342.trans ezi_340.symm).symm
            refine lv_iconst (v := 1) hx hb dX2_removeFrom_97 (by decide) ?_
            refine lv_isub hx hb dX2_removeFrom_98 ?_
            refine lv_topi (fun zi_343 ezi_343 => ?_)
            have tzi_343 : zi_343.toInt = zi_340.toInt - (1 : Int) := by rw [ezi_343]; exact tisub (rfl) (show (1 : Int32).toInt = 1 by decide) (by omega) (by omega)
            refine lv_iload hx hb dX2_removeFrom_99 (lv_at hl 0 rfl) ?_
            refine ht_iast (v := zi_325) (n := 8) (q := 0) hx hb hK hP hD hS hs t_324 (by decide) rfl rfl ⟨by omega, by omega⟩ dX2_removeFrom_101 (fun H locs hP hD hS => ?_)
            have h_zI_344 : WM [306, 2400, 2500, 2600, 2700] AL zT zR zI (u2 zI_338 (zR zd 5) zi_343.toNatClampNeg zi_325) := h_zI_338.putA hs t_324 rfl (rgF _) (by decide) (fun h => absurd h (by decide)) (by decide) trivial
            generalize uzI_344 : u2 zI_338 (zR zd 5) zi_343.toNatClampNeg zi_325 = zI_344 at hP hD h_zI_344
            obtain ⟨zi_345, ezi_345⟩ : ∃ y : Int32, y = zi_230 + 1 := ⟨_, rfl⟩
            have tzi_345 : zi_345.toInt = zi_230.toInt + 1 := by rw [ezi_345]; exact tadd rfl (show (1 : Int32).toInt = 1 by decide) (by omega) (by omega)
            refine lv_iinc (v := zi_345) (lv' := [(4, .int zi_345), (5, .int zi_325), (0, .ref zd), (1, .int zia), (2, .int zib), (3, .int zi_1)]) hx hb dX2_removeFrom_102 hl (k := 5) rfl (by rw [ezi_345]; rfl) (by decide) rfl (fun ls hl => ?_)
            refine lv_goto (tgt := 13) hx hb dX2_removeFrom_105 (by decide) ?_
            exact ih_289 (zi_1.toInt - zi_345.toInt).toNat (by omega) zi_345 zI_344 zi_340 _ _ _ rfl (by omega) h_zI_344 (by omega) (by omega) ((show zI_344 zd 6 = zI_338 zd 6 from by rw [← uzI_344]; exact u2_n (tne t_zd t_324 (by decide))).trans ezi_340.symm) hP hD hS (lv_sub hl [2, 3, 4, 5, 0] rfl)
  have qc_0 : (0 : Int32).toInt = 0 := by decide
  exact lp_289 _ (0 : Int32) zI_2 (0 : Int32) _ _ _ rfl (by decide) h_zI_2 (by decide) (by omega) (by rw [← uzI_2]; exact u2_s) hP hD hS (lv_sub hl [2, 3, 4, 1, 0] rfl)
set_option maxHeartbeats 8000000 in
set_option maxRecDepth 100000 in
theorem t_X2_thrown (l : Launch) (dC : Nat → ClassId) (dI : Nat → Nat → Nat) (cy : Nat → ClassId) (sz : Nat) (zL : List Nat) (zT : Nat → Nat) (zR : Nat → Nat → Nat) (zI : Nat → Nat → Int32) (zJ : Nat → Nat → Int64) (zd : Nat) (hs : SKP zL zT zR) (hw : WT zT zR zI) (t_zd : zT zd = 3) : Met l yX2_thrown wsX2_thrown ({ frames := 0, cells := 0, slots := 0, locals := 0 } : Room) (va_Pc [.ref zd] (PRE dC dI cy (WL cy zL zT zR zI zJ) sz)) (va_Qi (fun (r : Int32) (u : Unit) => True) (fun u t => POST dC dI cy (va_A (WL cy zL zT zR zI zJ) sz) (WL cy zL zT zR zI zJ) t) (va_A (WL cy zL zT zR zI zJ) sz)) 0 0 (va_A (WL cy zL zT zR zI zJ) sz) := by
  refine Met.ofW (cc := cX2_thrown) (maxL := 3) (ret := (some .int)) (by decide) rfl ?_
  intro p e s m args below meth c s₁ B hml hv
  obtain ⟨rfl, hsz, hP, hK, hD0, hN⟩ := hv
  have hx := B.exec
  have hb := B.bytes
  have hr := B.returns
  have hts := atoms_spec (ws := wsX2_thrown) B.pre
  have hown : s.vm.findClass RX2 = some m.cls := findClass_of_methodNamed B.named
  have hlocks := B.notSynchronized
  subst hsz
  have hD := hD0.self (sz := s.heap.size)
  generalize hAe : va_A (WL cy zL zT zR zI zJ) s.heap.size = A at hD ⊢
  have hA : ∀ q : Nat, s.heap.size ≤ q → A q := fun q h => by rw [← hAe]; exact Or.inr h
  have hS : va_S A s.heap s.heap [] := va_S.rf
  have hP : va_P (dC, dI) vwCl (WL cy zL zT zR zI zJ) s.heap := hP
  have hl := lv_entry ([.ref zd] : List Value) (n := 3) (Nat.le_of_ble_eq_true rfl)
  rw [lg_entry_eq]
  generalize (lg_sl ([.ref zd] : List Value) ++ List.replicate (3 - (lg_sl ([.ref zd] : List Value)).length) Slot.unset).toArray = ls at hl ⊢
  have hl : lv_has ls 3 [(0, .ref zd)] := hl
  refine w_q (fun Q hQ => ?_)
  have h_zI : WM [] AL zT zR zI zI := WM.rf hw
  refine lv_iconst (v := 0) hx hb dX2_thrown_0 (by decide) ?_
  refine lv_istore_n (lv' := [(1, .int 0), (0, .ref zd)]) hx hb dX2_thrown_1 rfl hl (by decide) rfl (fun ls hl => ?_)
  refine lv_iconst (v := 0) hx hb dX2_thrown_2 (by decide) ?_
  refine lv_istore_n (lv' := [(2, .int 0), (1, .int 0), (0, .ref zd)]) hx hb dX2_thrown_3 rfl hl (by decide) rfl (fun ls hl => ?_)
  have lp_304 : ∀ (n : Nat) (zi_66 : Int32) (zi_67 : Int32) (H : Heap) (locs : List Loc) (ls : Array Slot), (8 - zi_67.toInt).toNat = n → (0 ≤ zi_67.toInt ∧ zi_67.toInt ≤ 8) → va_P (dC, dI) vwCl (WL cy zL zT zR zI zJ) H → va_D A (WL cy zL zT zR zI zJ) → va_S A s.heap H locs → lv_has ls 3 [(0, .ref zd), (1, .int zi_66), (2, .int zi_67)] → W p l e ({ frames := 0, cells := 0, slots := 0, locals := 0 } : Room) s m ([.ref zd] : List Value).toArray below meth c H locs 0 0 Q (F0 m 4 ls []) := by
    intro n
    induction n using Nat.strongRecOn with
    | _ n ih_304 =>
      intro zi_66 zi_67 H locs ls hn b_zi_67 hP hD hS hl
      refine lv_iload_n hx hb dX2_thrown_4 rfl (lv_at hl 2 rfl) ?_
      refine lv_aload_n hx hb dX2_thrown_5 rfl (lv_at hl 0 rfl) ?_
      refine ht_geti (C := RX2) (T := TX2) (N := 7) hx hb hts (by decide +kernel) hown hK hP hs t_zd (by decide) rfl rfl 6 (by decide) (hts (.fieldLink RX2 30 "DripStone$Dates" "held" "I") (by decide +kernel)) (fun _ h9 => h9) rfl dX2_thrown_6 ?_
      refine lv_topi (fun zi_305 ezi_305 => ?_)
      have tzi_305 : 0 ≤ zi_305.toInt ∧ zi_305.toInt ≤ 8 := by rw [ezi_305]; exact h_zI.at t_zd _ rfl
      refine lv_icmp_ge (tgt := 35) hx hb dX2_thrown_9 (by decide) (fun c_306 => ?_) (fun c_306 => ?_)
      · have f_307 : zi_67.toInt ≥ zi_305.toInt := ic_ge (rfl) (rfl) c_306
        refine lv_iload_n hx hb dX2_thrown_35 rfl (lv_at hl 1 rfl) ?_
        subst hQ
        exact W.iret (v := zi_66) hx hb hr (fun t ht hW => ⟨⟨zi_66, (), rfl, trivial, ⟨by rw [ht]; exact hP, va_K.moved hW.alike hK, hD⟩⟩, hS.F ht⟩) hS.2.2 dX2_thrown_36
      · have f_307 : ¬ (zi_67.toInt ≥ zi_305.toInt) := ic_nge (rfl) (rfl) c_306
        refine lv_iload_n hx hb dX2_thrown_12 rfl (lv_at hl 1 rfl) ?_
        refine lv_aload_n hx hb dX2_thrown_13 rfl (lv_at hl 0 rfl) ?_
        refine ht_getr (C := RX2) (T := TX2) (N := 7) hx hb hts (by decide +kernel) hown hK hP hs t_zd (by decide) rfl rfl 5 (by decide) (hts (.fieldLink RX2 27 "DripStone$Dates" "reasons" "[I") (by decide +kernel)) (fun _ h9 => h9) rfl dX2_thrown_14 ?_
        have t_308 : zT (zR zd 5) = 27 := sk_f hs t_zd (by decide) rfl (by decide)
        refine lv_iload_n hx hb dX2_thrown_17 rfl (lv_at hl 2 rfl) ?_
        refine ht_iald (n := 8) (q := 0) hx hb hK hP hs t_308 (by decide) rfl rfl ⟨by omega, by omega⟩ dX2_thrown_18 ?_
        refine lv_topi (fun zi_309 ezi_309 => ?_)
        have jn_313 : ∀ (zi_312 : Int32) (H : Heap) (locs : List Loc) (ls : Array Slot), (0 ≤ zi_312.toInt ∧ zi_312.toInt ≤ 1) → va_P (dC, dI) vwCl (WL cy zL zT zR zI zJ) H → va_D A (WL cy zL zT zR zI zJ) → va_S A s.heap H locs → lv_has ls 3 [(0, .ref zd), (1, .int zi_66), (2, .int zi_67)] → W p l e ({ frames := 0, cells := 0, slots := 0, locals := 0 } : Room) s m ([.ref zd] : List Value).toArray below meth c H locs 0 0 Q (F0 m 27 ls [.int zi_312, .int zi_66]) := by
          intro zi_312 H locs ls b_zi_312 hP hD hS hl
          refine lv_iadd hx hb dX2_thrown_27 ?_
          refine lv_topi (fun zi_314 ezi_314 => ?_)
          refine lv_istore_n (lv' := [(1, .int zi_314), (0, .ref zd), (2, .int zi_67)]) hx hb dX2_thrown_28 rfl hl (by decide) rfl (fun ls hl => ?_)
          obtain ⟨zi_315, ezi_315⟩ : ∃ y : Int32, y = zi_67 + 1 := ⟨_, rfl⟩
          have tzi_315 : zi_315.toInt = zi_67.toInt + 1 := by rw [ezi_315]; exact tadd rfl (show (1 : Int32).toInt = 1 by decide) (by omega) (by omega)
          refine lv_iinc (v := zi_315) (lv' := [(2, .int zi_315), (1, .int zi_314), (0, .ref zd)]) hx hb dX2_thrown_29 hl (k := 2) rfl (by rw [ezi_315]; rfl) (by decide) rfl (fun ls hl => ?_)
          refine lv_goto (tgt := 4) hx hb dX2_thrown_32 (by decide) ?_
          exact ih_304 (8 - zi_315.toInt).toNat (by omega) zi_314 zi_315 _ _ _ rfl (by omega) hP hD hS (lv_sub hl [2, 1, 0] rfl)
        refine lv_if_ne (tgt := 26) hx hb dX2_thrown_19 (by decide) (fun c_316 => ?_) (fun c_316 => ?_)
        · have f_317 : zi_309.toInt ≠ 0 := ic_ne (rfl) (by decide) c_316
          refine lv_iconst (v := 1) hx hb dX2_thrown_26 (by decide) ?_
          exact jn_313 (1 : Int32) _ _ _ (by decide) hP hD hS (lv_sub hl [0, 1, 2] rfl)
        · have f_317 : ¬ (zi_309.toInt ≠ 0) := ic_nne (rfl) (by decide) c_316
          refine lv_iconst (v := 0) hx hb dX2_thrown_22 (by decide) ?_
          refine lv_goto (tgt := 27) hx hb dX2_thrown_23 (by decide) ?_
          exact jn_313 (0 : Int32) _ _ _ (by decide) hP hD hS (lv_sub hl [0, 1, 2] rfl)
  exact lp_304 _ (0 : Int32) (0 : Int32) _ _ _ rfl (by decide) hP hD hS (lv_sub hl [2, 1, 0] rfl)
set_option maxHeartbeats 8000000 in
set_option maxRecDepth 100000 in
theorem t_X2_binding (l : Launch) (dC : Nat → ClassId) (dI : Nat → Nat → Nat) (cy : Nat → ClassId) (sz : Nat) (zL : List Nat) (zT : Nat → Nat) (zR : Nat → Nat → Nat) (zI : Nat → Nat → Int32) (zJ : Nat → Nat → Int64) (zd : Nat) (zia : Int32) (hs : SKP zL zT zR) (hw : WT zT zR zI) (t_zd : zT zd = 3) : Met l yX2_binding wsX2_binding ({ frames := 0, cells := 0, slots := 0, locals := 0 } : Room) (va_Pc [.ref zd, .int zia] (PRE dC dI cy (WL cy zL zT zR zI zJ) sz)) (va_Qi (fun (r : Int32) (u : Unit) => True) (fun u t => POST dC dI cy (va_A (WL cy zL zT zR zI zJ) sz) (WL cy zL zT zR zI zJ) t) (va_A (WL cy zL zT zR zI zJ) sz)) 0 0 (va_A (WL cy zL zT zR zI zJ) sz) := by
  refine Met.ofW (cc := cX2_binding) (maxL := 4) (ret := (some .int)) (by decide) rfl ?_
  intro p e s m args below meth c s₁ B hml hv
  obtain ⟨rfl, hsz, hP, hK, hD0, hN⟩ := hv
  have hx := B.exec
  have hb := B.bytes
  have hr := B.returns
  have hts := atoms_spec (ws := wsX2_binding) B.pre
  have hown : s.vm.findClass RX2 = some m.cls := findClass_of_methodNamed B.named
  have hlocks := B.notSynchronized
  subst hsz
  have hD := hD0.self (sz := s.heap.size)
  generalize hAe : va_A (WL cy zL zT zR zI zJ) s.heap.size = A at hD ⊢
  have hA : ∀ q : Nat, s.heap.size ≤ q → A q := fun q h => by rw [← hAe]; exact Or.inr h
  have hS : va_S A s.heap s.heap [] := va_S.rf
  have hP : va_P (dC, dI) vwCl (WL cy zL zT zR zI zJ) s.heap := hP
  have hl := lv_entry ([.ref zd, .int zia] : List Value) (n := 4) (Nat.le_of_ble_eq_true rfl)
  rw [lg_entry_eq]
  generalize (lg_sl ([.ref zd, .int zia] : List Value) ++ List.replicate (4 - (lg_sl ([.ref zd, .int zia] : List Value)).length) Slot.unset).toArray = ls at hl ⊢
  have hl : lv_has ls 4 [(0, .ref zd), (1, .int zia)] := hl
  refine w_q (fun Q hQ => ?_)
  have h_zI : WM [] AL zT zR zI zI := WM.rf hw
  refine lv_iconst (v := 0) hx hb dX2_binding_0 (by decide) ?_
  refine lv_istore_n (lv' := [(2, .int 0), (0, .ref zd), (1, .int zia)]) hx hb dX2_binding_1 rfl hl (by decide) rfl (fun ls hl => ?_)
  refine lv_iconst (v := 0) hx hb dX2_binding_2 (by decide) ?_
  refine lv_istore_n (lv' := [(3, .int 0), (2, .int 0), (0, .ref zd), (1, .int zia)]) hx hb dX2_binding_3 rfl hl (by decide) rfl (fun ls hl => ?_)
  have lp_521 : ∀ (n : Nat) (zi_96 : Int32) (zi_97 : Int32) (H : Heap) (locs : List Loc) (ls : Array Slot), (8 - zi_97.toInt).toNat = n → (0 ≤ zi_97.toInt ∧ zi_97.toInt ≤ 8) → va_P (dC, dI) vwCl (WL cy zL zT zR zI zJ) H → va_D A (WL cy zL zT zR zI zJ) → va_S A s.heap H locs → lv_has ls 4 [(0, .ref zd), (1, .int zia), (2, .int zi_96), (3, .int zi_97)] → W p l e ({ frames := 0, cells := 0, slots := 0, locals := 0 } : Room) s m ([.ref zd, .int zia] : List Value).toArray below meth c H locs 0 0 Q (F0 m 4 ls []) := by
    intro n
    induction n using Nat.strongRecOn with
    | _ n ih_521 =>
      intro zi_96 zi_97 H locs ls hn b_zi_97 hP hD hS hl
      refine lv_iload_n hx hb dX2_binding_4 rfl (lv_at hl 3 rfl) ?_
      refine lv_aload_n hx hb dX2_binding_5 rfl (lv_at hl 0 rfl) ?_
      refine ht_geti (C := RX2) (T := TX2) (N := 7) hx hb hts (by decide +kernel) hown hK hP hs t_zd (by decide) rfl rfl 6 (by decide) (hts (.fieldLink RX2 30 "DripStone$Dates" "held" "I") (by decide +kernel)) (fun _ h9 => h9) rfl dX2_binding_6 ?_
      refine lv_topi (fun zi_522 ezi_522 => ?_)
      have tzi_522 : 0 ≤ zi_522.toInt ∧ zi_522.toInt ≤ 8 := by rw [ezi_522]; exact h_zI.at t_zd _ rfl
      refine lv_icmp_ge (tgt := 43) hx hb dX2_binding_9 (by decide) (fun c_523 => ?_) (fun c_523 => ?_)
      · have f_524 : zi_97.toInt ≥ zi_522.toInt := ic_ge (rfl) (rfl) c_523
        refine lv_iload_n hx hb dX2_binding_43 rfl (lv_at hl 2 rfl) ?_
        subst hQ
        exact W.iret (v := zi_96) hx hb hr (fun t ht hW => ⟨⟨zi_96, (), rfl, trivial, ⟨by rw [ht]; exact hP, va_K.moved hW.alike hK, hD⟩⟩, hS.F ht⟩) hS.2.2 dX2_binding_44
      · have f_524 : ¬ (zi_97.toInt ≥ zi_522.toInt) := ic_nge (rfl) (rfl) c_523
        refine lv_aload_n hx hb dX2_binding_12 rfl (lv_at hl 0 rfl) ?_
        refine ht_getr (C := RX2) (T := TX2) (N := 7) hx hb hts (by decide +kernel) hown hK hP hs t_zd (by decide) rfl rfl 0 (by decide) (hts (.fieldLink RX2 9 "DripStone$Dates" "candles" "[I") (by decide +kernel)) (fun _ h9 => h9) rfl dX2_binding_13 ?_
        have t_525 : zT (zR zd 0) = 24 := sk_f hs t_zd (by decide) rfl (by decide)
        refine lv_iload_n hx hb dX2_binding_16 rfl (lv_at hl 3 rfl) ?_
        refine ht_iald (n := 8) (q := 0) hx hb hK hP hs t_525 (by decide) rfl rfl ⟨by omega, by omega⟩ dX2_binding_17 ?_
        refine lv_topi (fun zi_526 ezi_526 => ?_)
        have tzi_526 : 0 ≤ zi_526.toInt ∧ zi_526.toInt ≤ 1 := by rw [ezi_526]; exact h_zI.at t_525 _ rfl
        refine lv_iload_n hx hb dX2_binding_18 rfl (lv_at hl 1 rfl) ?_
        have jn_536 : ∀ (zi_535 : Int32) (H : Heap) (locs : List Loc) (ls : Array Slot), va_P (dC, dI) vwCl (WL cy zL zT zR zI zJ) H → va_D A (WL cy zL zT zR zI zJ) → va_S A s.heap H locs → lv_has ls 4 [(0, .ref zd), (1, .int zia), (2, .int zi_535), (3, .int zi_97)] → W p l e ({ frames := 0, cells := 0, slots := 0, locals := 0 } : Room) s m ([.ref zd, .int zia] : List Value).toArray below meth c H locs 0 0 Q (F0 m 37 ls []) := by
          intro zi_535 H locs ls  hP hD hS hl
          obtain ⟨zi_537, ezi_537⟩ : ∃ y : Int32, y = zi_97 + 1 := ⟨_, rfl⟩
          have tzi_537 : zi_537.toInt = zi_97.toInt + 1 := by rw [ezi_537]; exact tadd rfl (show (1 : Int32).toInt = 1 by decide) (by omega) (by omega)
          refine lv_iinc (v := zi_537) (lv' := [(3, .int zi_537), (0, .ref zd), (1, .int zia), (2, .int zi_535)]) hx hb dX2_binding_37 hl (k := 3) rfl (by rw [ezi_537]; rfl) (by decide) rfl (fun ls hl => ?_)
          refine lv_goto (tgt := 4) hx hb dX2_binding_40 (by decide) ?_
          exact ih_521 (8 - zi_537.toInt).toNat (by omega) zi_535 zi_537 _ _ _ rfl (by omega) hP hD hS (lv_sub hl [1, 2, 3, 0] rfl)
        refine lv_icmp_ne (tgt := 37) hx hb dX2_binding_19 (by decide) (fun c_538 => ?_) (fun c_538 => ?_)
        · have f_539 : zi_526.toInt ≠ zia.toInt := ic_ne (rfl) (rfl) c_538
          exact jn_536 zi_96 _ _ _  hP hD hS (lv_sub hl [0, 1, 2, 3] rfl)
        · have f_539 : ¬ (zi_526.toInt ≠ zia.toInt) := ic_nne (rfl) (rfl) c_538
          refine lv_aload_n hx hb dX2_binding_22 rfl (lv_at hl 0 rfl) ?_
          refine ht_getr (C := RX2) (T := TX2) (N := 7) hx hb hts (by decide +kernel) hown hK hP hs t_zd (by decide) rfl rfl 5 (by decide) (hts (.fieldLink RX2 27 "DripStone$Dates" "reasons" "[I") (by decide +kernel)) (fun _ h9 => h9) rfl dX2_binding_23 ?_
          have t_540 : zT (zR zd 5) = 27 := sk_f hs t_zd (by decide) rfl (by decide)
          refine lv_iload_n hx hb dX2_binding_26 rfl (lv_at hl 3 rfl) ?_
          refine ht_iald (n := 8) (q := 0) hx hb hK hP hs t_540 (by decide) rfl rfl ⟨by omega, by omega⟩ dX2_binding_27 ?_
          refine lv_topi (fun zi_541 ezi_541 => ?_)
          refine lv_if_ne (tgt := 37) hx hb dX2_binding_28 (by decide) (fun c_542 => ?_) (fun c_542 => ?_)
          · have f_543 : zi_541.toInt ≠ 0 := ic_ne (rfl) (by decide) c_542
            exact jn_536 zi_96 _ _ _  hP hD hS (lv_sub hl [0, 1, 2, 3] rfl)
          · have f_543 : ¬ (zi_541.toInt ≠ 0) := ic_nne (rfl) (by decide) c_542
            refine lv_iload_n hx hb dX2_binding_31 rfl (lv_at hl 2 rfl) ?_
            refine lv_iconst (v := 1) hx hb dX2_binding_32 (by decide) ?_
            refine lv_iload_n hx hb dX2_binding_33 rfl (lv_at hl 3 rfl) ?_
            refine lv_ishl hx hb dX2_binding_34 ?_
            refine lv_topi (fun zi_544 ezi_544 => ?_)
            have rzi_544 := rng zi_544
            refine lv_ior hx hb dX2_binding_35 ?_
            refine lv_topi (fun zi_545 ezi_545 => ?_)
            have rzi_545 := rng zi_545
            refine lv_istore_n (lv' := [(2, .int zi_545), (0, .ref zd), (1, .int zia), (3, .int zi_97)]) hx hb dX2_binding_36 rfl hl (by decide) rfl (fun ls hl => ?_)
            exact jn_536 zi_545 _ _ _  hP hD hS (lv_sub hl [1, 2, 0, 3] rfl)
  exact lp_521 _ (0 : Int32) (0 : Int32) _ _ _ rfl (by decide) hP hD hS (lv_sub hl [2, 3, 1, 0] rfl)
set_option maxHeartbeats 8000000 in
set_option maxRecDepth 100000 in
theorem t_X1_counts (l : Launch) (dC : Nat → ClassId) (dI : Nat → Nat → Nat) (cy : Nat → ClassId) (sz : Nat) (zL : List Nat) (zT : Nat → Nat) (zR : Nat → Nat → Nat) (zI : Nat → Nat → Int32) (zJ : Nat → Nat → Int64) (zm : Nat) (zia : Int32) (zc : Nat) (zit : Int32) (hs : SKP zL zT zR) (hw : WT zT zR zI) (t_zm : zT zm = 2) (t_zc : zT zc = 1) (b_zia : 0 ≤ zia.toInt ∧ zia.toInt ≤ 1) (b_zit : 0 ≤ zit.toInt ∧ zit.toInt ≤ 11) : Met l yX1_counts wsX1_counts ({ frames := 1, cells := 0, slots := 0, locals := 21 } : Room) (va_Pc [.ref zm, .int zia, .ref zc, .int zit] (PRE dC dI cy (WL cy zL zT zR zI zJ) sz)) (va_Qi (fun (r : Int32) (u : Unit) => (0 ≤ r.toInt ∧ r.toInt ≤ 1)) (fun u t => POST dC dI cy (va_A (WL cy zL zT zR zI zJ) sz) (WL cy zL zT zR zI zJ) t) (va_A (WL cy zL zT zR zI zJ) sz)) 0 0 (va_A (WL cy zL zT zR zI zJ) sz) := by
  refine Met.ofW (cc := cX1_counts) (maxL := 6) (ret := (some .boolean)) (by decide) rfl ?_
  intro p e s m args below meth c s₁ B hml hv
  obtain ⟨rfl, hsz, hP, hK, hD0, hN⟩ := hv
  have hx := B.exec
  have hb := B.bytes
  have hr := B.returns
  have hts := atoms_spec (ws := wsX1_counts) B.pre
  have hown : s.vm.findClass RX1 = some m.cls := findClass_of_methodNamed B.named
  have hlocks := B.notSynchronized
  subst hsz
  have hD := hD0.self (sz := s.heap.size)
  generalize hAe : va_A (WL cy zL zT zR zI zJ) s.heap.size = A at hD ⊢
  have hA : ∀ q : Nat, s.heap.size ≤ q → A q := fun q h => by rw [← hAe]; exact Or.inr h
  have hS : va_S A s.heap s.heap [] := va_S.rf
  have hP : va_P (dC, dI) vwCl (WL cy zL zT zR zI zJ) s.heap := hP
  have hl := lv_entry ([.ref zm, .int zia, .ref zc, .int zit] : List Value) (n := 6) (Nat.le_of_ble_eq_true rfl)
  rw [lg_entry_eq]
  generalize (lg_sl ([.ref zm, .int zia, .ref zc, .int zit] : List Value) ++ List.replicate (6 - (lg_sl ([.ref zm, .int zia, .ref zc, .int zit] : List Value)).length) Slot.unset).toArray = ls at hl ⊢
  have hl : lv_has ls 6 [(0, .ref zm), (1, .int zia), (2, .ref zc), (3, .int zit)] := hl
  refine w_q (fun Q hQ => ?_)
  have h_zI : WM [] AL zT zR zI zI := WM.rf hw
  refine lv_aload_n hx hb dX1_counts_0 rfl (lv_at hl 0 rfl) ?_
  refine ht_getr (C := RX1) (T := TX1) (N := 8) hx hb hts (by decide +kernel) hown hK hP hs t_zm (by decide) rfl rfl 0 (by decide) (hts (.fieldLink RX1 9 "DripStone$Claim" "tests" "[I") (by decide +kernel)) (fun _ h9 => h9) rfl dX1_counts_1 ?_
  have t_1 : zT (zR zm 0) = 31 := sk_f hs t_zm (by decide) rfl (by decide)
  refine lv_iload_n hx hb dX1_counts_4 rfl (lv_at hl 1 rfl) ?_
  refine ht_iald (n := 2) (q := 0) hx hb hK hP hs t_1 (by decide) rfl rfl ⟨by omega, by omega⟩ dX1_counts_5 ?_
  refine lv_topi (fun zi_2 ezi_2 => ?_)
  refine lv_bipush (v := 42) hx hb dX1_counts_6 (by decide) ?_
  refine lv_icmp_ne (tgt := 17) hx hb dX1_counts_8 (by decide) (fun c_3 => ?_) (fun c_3 => ?_)
  · have f_4 : zi_2.toInt ≠ (42 : Int) := ic_ne (rfl) (show (42 : Int32).toInt = 42 by decide) c_3
    refine lv_aload_n hx hb dX1_counts_17 rfl (lv_at hl 2 rfl) ?_
    refine ht_getr (C := RX0) (T := TX0) (N := 11) hx hb hts (by decide +kernel) hown hK hP hs t_zc (by decide) rfl rfl 1 (by decide) (hts (.fieldLink RX1 37 "DripStone$Candle" "weights" "[I") (by decide +kernel)) (fun _ h9 => h9) rfl dX1_counts_18 ?_
    have t_5 : zT (zR zc 1) = 21 := sk_f hs t_zc (by decide) rfl (by decide)
    refine lv_iload_n hx hb dX1_counts_21 rfl (lv_at hl 3 rfl) ?_
    refine ht_iald (n := 12) (q := 0) hx hb hK hP hs t_5 (by decide) rfl rfl ⟨by omega, by omega⟩ dX1_counts_22 ?_
    refine lv_topi (fun zi_6 ezi_6 => ?_)
    refine lv_istore (lv' := [(4, .int zi_6), (0, .ref zm), (1, .int zia), (2, .ref zc), (3, .int zit)]) hx hb dX1_counts_23 hl (by decide) rfl (fun ls hl => ?_)
    refine lv_aload_n hx hb dX1_counts_25 rfl (lv_at hl 1 rfl) ?_
    refine ht_getr (C := RX1) (T := TX1) (N := 8) hx hb hts (by decide +kernel) hown hK hP hs t_zm (by decide) rfl rfl 0 (by decide) (hts (.fieldLink RX1 9 "DripStone$Claim" "tests" "[I") (by decide +kernel)) (fun _ h9 => h9) rfl dX1_counts_26 ?_
    refine lv_iload_n hx hb dX1_counts_29 rfl (lv_at hl 2 rfl) ?_
    refine ht_iald (n := 2) (q := 0) hx hb hK hP hs t_1 (by decide) rfl rfl ⟨by omega, by omega⟩ dX1_counts_30 ?_
    refine lv_topi (fun zi_7 ezi_7 => ?_)
    obtain rfl : zi_2 = zi_7 := (ezi_7.trans ezi_2.symm).symm
    refine lv_bipush (v := 60) hx hb dX1_counts_31 (by decide) ?_
    have jn_19 : ∀ (zi_18 : Int32) (H : Heap) (locs : List Loc) (ls : Array Slot), (0 ≤ zi_18.toInt ∧ zi_18.toInt ≤ 1) → va_P (dC, dI) vwCl (WL cy zL zT zR zI zJ) H → va_D A (WL cy zL zT zR zI zJ) → va_S A s.heap H locs → lv_has ls 6 [(0, .ref zm), (1, .int zia), (2, .ref zc), (3, .int zit), (4, .int zi_6)] → W p l e ({ frames := 1, cells := 0, slots := 0, locals := 21 } : Room) s m ([.ref zm, .int zia, .ref zc, .int zit] : List Value).toArray below meth c H locs 0 0 Q (F0 m 71 ls [.int zi_18]) := by
      intro zi_18 H locs ls b_zi_18 hP hD hS hl
      refine lv_istore (lv' := [(5, .int zi_18), (0, .ref zm), (1, .int zia), (2, .ref zc), (3, .int zit), (4, .int zi_6)]) hx hb dX1_counts_71 hl (by decide) rfl (fun ls hl => ?_)
      refine lv_aload_n hx hb dX1_counts_73 rfl (lv_at hl 3 rfl) ?_
      refine ht_getr (C := RX0) (T := TX0) (N := 11) hx hb hts (by decide +kernel) hown hK hP hs t_zc (by decide) rfl rfl 0 (by decide) (hts (.fieldLink RX1 38 "DripStone$Candle" "kinds" "[I") (by decide +kernel)) (fun _ h9 => h9) rfl dX1_counts_74 ?_
      have t_20 : zT (zR zc 0) = 20 := sk_f hs t_zc (by decide) rfl (by decide)
      refine lv_iload_n hx hb dX1_counts_77 rfl (lv_at hl 4 rfl) ?_
      refine ht_iald (n := 12) (q := 0) hx hb hK hP hs t_20 (by decide) rfl rfl ⟨by omega, by omega⟩ dX1_counts_78 ?_
      refine lv_topi (fun zi_21 ezi_21 => ?_)
      refine lv_if_ne (tgt := 91) hx hb dX1_counts_79 (by decide) (fun c_22 => ?_) (fun c_22 => ?_)
      · have f_23 : zi_21.toInt ≠ 0 := ic_ne (rfl) (by decide) c_22
        refine lv_iconst (v := 0) hx hb dX1_counts_91 (by decide) ?_
        subst hQ
        have qc_0 : (0 : Int32).toInt = 0 := by decide
        exact W.zret (v := (0 : Int32)) hx hb hr rfl (fun t ht hW => ⟨⟨(0 : Int32), (), rfl, (show 0 ≤ (0 : Int32).toInt ∧ (0 : Int32).toInt ≤ 1 from by omega), ⟨by rw [ht]; exact hP, va_K.moved hW.alike hK, hD⟩⟩, hS.F ht⟩) hS.2.2 dX1_counts_92
      · have f_23 : ¬ (zi_21.toInt ≠ 0) := ic_nne (rfl) (by decide) c_22
        refine lv_iload hx hb dX1_counts_82 (lv_at hl 0 rfl) ?_
        refine lv_if_eq (tgt := 91) hx hb dX1_counts_84 (by decide) (fun c_24 => ?_) (fun c_24 => ?_)
        · have f_25 : zi_18.toInt = 0 := ic_eq (rfl) (by decide) c_24
          refine lv_iconst (v := 0) hx hb dX1_counts_91 (by decide) ?_
          subst hQ
          have qc_0 : (0 : Int32).toInt = 0 := by decide
          exact W.zret (v := (0 : Int32)) hx hb hr rfl (fun t ht hW => ⟨⟨(0 : Int32), (), rfl, (show 0 ≤ (0 : Int32).toInt ∧ (0 : Int32).toInt ≤ 1 from by omega), ⟨by rw [ht]; exact hP, va_K.moved hW.alike hK, hD⟩⟩, hS.F ht⟩) hS.2.2 dX1_counts_92
        · have f_25 : ¬ (zi_18.toInt = 0) := ic_neq (rfl) (by decide) c_24
          refine lv_iconst (v := 1) hx hb dX1_counts_87 (by decide) ?_
          refine lv_goto (tgt := 92) hx hb dX1_counts_88 (by decide) ?_
          subst hQ
          have qc_1 : (1 : Int32).toInt = 1 := by decide
          exact W.zret (v := (1 : Int32)) hx hb hr rfl (fun t ht hW => ⟨⟨(1 : Int32), (), rfl, (show 0 ≤ (1 : Int32).toInt ∧ (1 : Int32).toInt ≤ 1 from by omega), ⟨by rw [ht]; exact hP, va_K.moved hW.alike hK, hD⟩⟩, hS.F ht⟩) hS.2.2 dX1_counts_92
    refine lv_icmp_ne (tgt := 55) hx hb dX1_counts_33 (by decide) (fun c_26 => ?_) (fun c_26 => ?_)
    · have f_27 : zi_2.toInt ≠ (60 : Int) := ic_ne (rfl) (show (60 : Int32).toInt = 60 by decide) c_26
      refine lv_iload hx hb dX1_counts_55 (lv_at hl 0 rfl) ?_
      refine lv_aload_n hx hb dX1_counts_57 rfl (lv_at hl 1 rfl) ?_
      refine ht_getr (C := RX1) (T := TX1) (N := 8) hx hb hts (by decide +kernel) hown hK hP hs t_zm (by decide) rfl rfl 1 (by decide) (hts (.fieldLink RX1 15 "DripStone$Claim" "weights" "[I") (by decide +kernel)) (fun _ h9 => h9) rfl dX1_counts_58 ?_
      have t_28 : zT (zR zm 1) = 31 := sk_f hs t_zm (by decide) rfl (by decide)
      refine lv_iload_n hx hb dX1_counts_61 rfl (lv_at hl 2 rfl) ?_
      refine ht_iald (n := 2) (q := 0) hx hb hK hP hs t_28 (by decide) rfl rfl ⟨by omega, by omega⟩ dX1_counts_62 ?_
      refine lv_topi (fun zi_29 ezi_29 => ?_)
      refine lv_icmp_le (tgt := 70) hx hb dX1_counts_63 (by decide) (fun c_30 => ?_) (fun c_30 => ?_)
      · have f_31 : zi_6.toInt ≤ zi_29.toInt := ic_le (rfl) (rfl) c_30
        refine lv_iconst (v := 0) hx hb dX1_counts_70 (by decide) ?_
        exact jn_19 (0 : Int32) _ _ _ (by decide) hP hD hS (lv_sub hl [1, 2, 3, 4, 0] rfl)
      · have f_31 : ¬ (zi_6.toInt ≤ zi_29.toInt) := ic_nle (rfl) (rfl) c_30
        refine lv_iconst (v := 1) hx hb dX1_counts_66 (by decide) ?_
        refine lv_goto (tgt := 71) hx hb dX1_counts_67 (by decide) ?_
        exact jn_19 (1 : Int32) _ _ _ (by decide) hP hD hS (lv_sub hl [1, 2, 3, 4, 0] rfl)
    · have f_27 : ¬ (zi_2.toInt ≠ (60 : Int)) := ic_nne (rfl) (show (60 : Int32).toInt = 60 by decide) c_26
      refine lv_iload hx hb dX1_counts_36 (lv_at hl 0 rfl) ?_
      refine lv_aload_n hx hb dX1_counts_38 rfl (lv_at hl 1 rfl) ?_
      refine ht_getr (C := RX1) (T := TX1) (N := 8) hx hb hts (by decide +kernel) hown hK hP hs t_zm (by decide) rfl rfl 1 (by decide) (hts (.fieldLink RX1 15 "DripStone$Claim" "weights" "[I") (by decide +kernel)) (fun _ h9 => h9) rfl dX1_counts_39 ?_
      have t_32 : zT (zR zm 1) = 31 := sk_f hs t_zm (by decide) rfl (by decide)
      refine lv_iload_n hx hb dX1_counts_42 rfl (lv_at hl 2 rfl) ?_
      refine ht_iald (n := 2) (q := 0) hx hb hK hP hs t_32 (by decide) rfl rfl ⟨by omega, by omega⟩ dX1_counts_43 ?_
      refine lv_topi (fun zi_33 ezi_33 => ?_)
      refine lv_icmp_ge (tgt := 51) hx hb dX1_counts_44 (by decide) (fun c_34 => ?_) (fun c_34 => ?_)
      · have f_35 : zi_6.toInt ≥ zi_33.toInt := ic_ge (rfl) (rfl) c_34
        refine lv_iconst (v := 0) hx hb dX1_counts_51 (by decide) ?_
        refine lv_goto (tgt := 71) hx hb dX1_counts_52 (by decide) ?_
        exact jn_19 (0 : Int32) _ _ _ (by decide) hP hD hS (lv_sub hl [1, 2, 3, 4, 0] rfl)
      · have f_35 : ¬ (zi_6.toInt ≥ zi_33.toInt) := ic_nge (rfl) (rfl) c_34
        refine lv_iconst (v := 1) hx hb dX1_counts_47 (by decide) ?_
        refine lv_goto (tgt := 71) hx hb dX1_counts_48 (by decide) ?_
        exact jn_19 (1 : Int32) _ _ _ (by decide) hP hD hS (lv_sub hl [1, 2, 3, 4, 0] rfl)
  · have f_4 : ¬ (zi_2.toInt ≠ (42 : Int)) := ic_nne (rfl) (show (42 : Int32).toInt = 42 by decide) c_3
    refine lv_aload_n hx hb dX1_counts_11 rfl (lv_at hl 2 rfl) ?_
    refine lv_iload_n hx hb dX1_counts_12 rfl (lv_at hl 3 rfl) ?_
    refine hj_i (ws := (WL cy zL zT zR zI zJ)) (w1 := fun (u : Unit) => (WL cy zL zT zR zI zJ)) (va_runV (As := [.int zit]) (rest := []) ⟨hx, hb, hml, hown, hts⟩ (t_X0_isPlace l dC dI cy s.heap.size zL zT zR zI zJ zc zit hs h_zI.1 t_zc (by omega)) (cwV 1 hts gX1_counts_X0_isPlace rfl rfl rfl (by decide +kernel) ⟨(Nat.le_of_ble_eq_true rfl), (Nat.le_of_ble_eq_true rfl)⟩) (PRE.v hP hK hD hN (ht_recv hK hP hs t_zc (by decide) rfl rfl)) rfl rfl hl.1 rfl (lv_room (Nat.le_of_ble_eq_true rfl)) dX1_counts_13 ⟨(Nat.le_of_ble_eq_true rfl), (Nat.le_of_ble_eq_true rfl)⟩) hP hD hS hA (fun zi_36 u_38 H locs hw_37 hP hD hS => ?_)
    obtain ⟨b_zi_36, ps_39⟩ : (0 ≤ zi_36.toInt ∧ zi_36.toInt ≤ 1) ∧ ((zi_36.toInt = 0 ∧ (zI (zR zc 0) zit.toNatClampNeg).toInt = 2) ∨ (zi_36.toInt = 1 ∧ ¬ (zI (zR zc 0) zit.toNatClampNeg).toInt = 2)) := hw_37
    subst hQ
    exact W.zret (v := zi_36) hx hb hr (zb_n2 (by omega)) (fun t ht hW => ⟨⟨zi_36, (), rfl, (show 0 ≤ zi_36.toInt ∧ zi_36.toInt ≤ 1 from by omega), ⟨by rw [ht]; exact hP, va_K.moved hW.alike hK, hD⟩⟩, hS.F ht⟩) hS.2.2 dX1_counts_16
set_option maxHeartbeats 8000000 in
set_option maxRecDepth 100000 in
theorem t_X1_seenInTruth (l : Launch) (dC : Nat → ClassId) (dI : Nat → Nat → Nat) (cy : Nat → ClassId) (sz : Nat) (zL : List Nat) (zT : Nat → Nat) (zR : Nat → Nat → Nat) (zI : Nat → Nat → Int32) (zJ : Nat → Nat → Int64) (zm : Nat) (zia : Int32) (zc : Nat) (hs : SKP zL zT zR) (hw : WT zT zR zI) (t_zm : zT zm = 2) (t_zc : zT zc = 1) (b_zia : 0 ≤ zia.toInt ∧ zia.toInt ≤ 1) : Met l yX1_seenInTruth wsX1_seenInTruth ({ frames := 2, cells := 0, slots := 0, locals := 46 } : Room) (va_Pc [.ref zm, .int zia, .ref zc] (PRE dC dI cy (WL cy zL zT zR zI zJ) sz)) (va_Qi (fun (r : Int32) (u : Unit) => True) (fun u t => POST dC dI cy (va_A (WL cy zL zT zR zI zJ) sz) (WL cy zL zT zR zI zJ) t) (va_A (WL cy zL zT zR zI zJ) sz)) 0 0 (va_A (WL cy zL zT zR zI zJ) sz) := by
  refine Met.ofW (cc := cX1_seenInTruth) (maxL := 5) (ret := (some .int)) (by decide) rfl ?_
  intro p e s m args below meth c s₁ B hml hv
  obtain ⟨rfl, hsz, hP, hK, hD0, hN⟩ := hv
  have hx := B.exec
  have hb := B.bytes
  have hr := B.returns
  have hts := atoms_spec (ws := wsX1_seenInTruth) B.pre
  have hown : s.vm.findClass RX1 = some m.cls := findClass_of_methodNamed B.named
  have hlocks := B.notSynchronized
  subst hsz
  have hD := hD0.self (sz := s.heap.size)
  generalize hAe : va_A (WL cy zL zT zR zI zJ) s.heap.size = A at hD ⊢
  have hA : ∀ q : Nat, s.heap.size ≤ q → A q := fun q h => by rw [← hAe]; exact Or.inr h
  have hS : va_S A s.heap s.heap [] := va_S.rf
  have hP : va_P (dC, dI) vwCl (WL cy zL zT zR zI zJ) s.heap := hP
  have hl := lv_entry ([.ref zm, .int zia, .ref zc] : List Value) (n := 5) (Nat.le_of_ble_eq_true rfl)
  rw [lg_entry_eq]
  generalize (lg_sl ([.ref zm, .int zia, .ref zc] : List Value) ++ List.replicate (5 - (lg_sl ([.ref zm, .int zia, .ref zc] : List Value)).length) Slot.unset).toArray = ls at hl ⊢
  have hl : lv_has ls 5 [(0, .ref zm), (1, .int zia), (2, .ref zc)] := hl
  refine w_q (fun Q hQ => ?_)
  have h_zI : WM [] AL zT zR zI zI := WM.rf hw
  refine lv_iconst (v := 0) hx hb dX1_seenInTruth_0 (by decide) ?_
  refine lv_istore_n (lv' := [(3, .int 0), (0, .ref zm), (1, .int zia), (2, .ref zc)]) hx hb dX1_seenInTruth_1 rfl hl (by decide) rfl (fun ls hl => ?_)
  refine lv_iconst (v := 0) hx hb dX1_seenInTruth_2 (by decide) ?_
  refine lv_istore (lv' := [(4, .int 0), (3, .int 0), (0, .ref zm), (1, .int zia), (2, .ref zc)]) hx hb dX1_seenInTruth_3 hl (by decide) rfl (fun ls hl => ?_)
  have lp_830 : ∀ (n : Nat) (zi_184 : Int32) (zi_185 : Int32) (H : Heap) (locs : List Loc) (ls : Array Slot), (12 - zi_185.toInt).toNat = n → (0 ≤ zi_185.toInt ∧ zi_185.toInt ≤ 12) → va_P (dC, dI) vwCl (WL cy zL zT zR zI zJ) H → va_D A (WL cy zL zT zR zI zJ) → va_S A s.heap H locs → lv_has ls 5 [(0, .ref zm), (1, .int zia), (2, .ref zc), (3, .int zi_184), (4, .int zi_185)] → W p l e ({ frames := 2, cells := 0, slots := 0, locals := 46 } : Room) s m ([.ref zm, .int zia, .ref zc] : List Value).toArray below meth c H locs 0 0 Q (F0 m 5 ls []) := by
    intro n
    induction n using Nat.strongRecOn with
    | _ n ih_830 =>
      intro zi_184 zi_185 H locs ls hn b_zi_185 hP hD hS hl
      refine lv_iload hx hb dX1_seenInTruth_5 (lv_at hl 4 rfl) ?_
      refine lv_aload_n hx hb dX1_seenInTruth_7 rfl (lv_at hl 2 rfl) ?_
      refine ht_geti (C := RX0) (T := TX0) (N := 11) hx hb hts (by decide +kernel) hown hK hP hs t_zc (by decide) rfl rfl 7 (by decide) (hts (.fieldLink RX1 41 "DripStone$Candle" "things" "I") (by decide +kernel)) (fun _ h9 => h9) rfl dX1_seenInTruth_8 ?_
      refine lv_topi (fun zi_831 ezi_831 => ?_)
      have tzi_831 : 0 ≤ zi_831.toInt ∧ zi_831.toInt ≤ 12 := by rw [ezi_831]; exact h_zI.at t_zc _ rfl
      refine lv_icmp_ge (tgt := 59) hx hb dX1_seenInTruth_11 (by decide) (fun c_832 => ?_) (fun c_832 => ?_)
      · have f_833 : zi_185.toInt ≥ zi_831.toInt := ic_ge (rfl) (rfl) c_832
        refine lv_iload_n hx hb dX1_seenInTruth_59 rfl (lv_at hl 3 rfl) ?_
        subst hQ
        exact W.iret (v := zi_184) hx hb hr (fun t ht hW => ⟨⟨zi_184, (), rfl, trivial, ⟨by rw [ht]; exact hP, va_K.moved hW.alike hK, hD⟩⟩, hS.F ht⟩) hS.2.2 dX1_seenInTruth_60
      · have f_833 : ¬ (zi_185.toInt ≥ zi_831.toInt) := ic_nge (rfl) (rfl) c_832
        refine lv_aload_n hx hb dX1_seenInTruth_14 rfl (lv_at hl 0 rfl) ?_
        refine lv_iload_n hx hb dX1_seenInTruth_15 rfl (lv_at hl 1 rfl) ?_
        refine lv_aload_n hx hb dX1_seenInTruth_16 rfl (lv_at hl 2 rfl) ?_
        refine lv_iload hx hb dX1_seenInTruth_17 (lv_at hl 4 rfl) ?_
        refine hj_i (ws := (WL cy zL zT zR zI zJ)) (w1 := fun (u : Unit) => (WL cy zL zT zR zI zJ)) (va_runV (As := [.int zia, .ref zc, .int zi_185]) (rest := []) ⟨hx, hb, hml, hown, hts⟩ (t_X1_counts l dC dI cy H.size zL zT zR zI zJ zm zia zc zi_185 hs h_zI.1 t_zm t_zc (by omega) (by omega)) (cwV 3 hts gX1_seenInTruth_X1_counts rfl rfl rfl (by decide +kernel) ⟨(Nat.le_of_ble_eq_true rfl), (Nat.le_of_ble_eq_true rfl)⟩) (PRE.v hP hK hD hN (ht_recv hK hP hs t_zm (by decide) rfl rfl)) rfl rfl hl.1 rfl (lv_room (Nat.le_of_ble_eq_true rfl)) dX1_seenInTruth_19 ⟨(Nat.le_of_ble_eq_true rfl), (Nat.le_of_ble_eq_true rfl)⟩) hP hD hS hA (fun zi_834 u_836 H locs hw_835 hP hD hS => ?_)
        have b_zi_834 : 0 ≤ zi_834.toInt ∧ zi_834.toInt ≤ 1 := hw_835
        have jn_852 : ∀ (zi_851 : Int32) (H : Heap) (locs : List Loc) (ls : Array Slot), va_P (dC, dI) vwCl (WL cy zL zT zR zI zJ) H → va_D A (WL cy zL zT zR zI zJ) → va_S A s.heap H locs → lv_has ls 5 [(0, .ref zm), (1, .int zia), (2, .ref zc), (3, .int zi_851), (4, .int zi_185)] → W p l e ({ frames := 2, cells := 0, slots := 0, locals := 46 } : Room) s m ([.ref zm, .int zia, .ref zc] : List Value).toArray below meth c H locs 0 0 Q (F0 m 53 ls []) := by
          intro zi_851 H locs ls  hP hD hS hl
          obtain ⟨zi_853, ezi_853⟩ : ∃ y : Int32, y = zi_185 + 1 := ⟨_, rfl⟩
          have tzi_853 : zi_853.toInt = zi_185.toInt + 1 := by rw [ezi_853]; exact tadd rfl (show (1 : Int32).toInt = 1 by decide) (by omega) (by omega)
          refine lv_iinc (v := zi_853) (lv' := [(4, .int zi_853), (0, .ref zm), (1, .int zia), (2, .ref zc), (3, .int zi_851)]) hx hb dX1_seenInTruth_53 hl (k := 4) rfl (by rw [ezi_853]; rfl) (by decide) rfl (fun ls hl => ?_)
          refine lv_goto (tgt := 5) hx hb dX1_seenInTruth_56 (by decide) ?_
          exact ih_830 (12 - zi_853.toInt).toNat (by omega) zi_851 zi_853 _ _ _ rfl (by omega) hP hD hS (lv_sub hl [1, 2, 3, 4, 0] rfl)
        refine lv_if_eq (tgt := 53) hx hb dX1_seenInTruth_22 (by decide) (fun c_854 => ?_) (fun c_854 => ?_)
        · have f_855 : zi_834.toInt = 0 := ic_eq (rfl) (by decide) c_854
          exact jn_852 zi_184 _ _ _  hP hD hS (lv_sub hl [0, 1, 2, 3, 4] rfl)
        · have f_855 : ¬ (zi_834.toInt = 0) := ic_neq (rfl) (by decide) c_854
          refine lv_aload_n hx hb dX1_seenInTruth_25 rfl (lv_at hl 2 rfl) ?_
          refine ht_getr (C := RX0) (T := TX0) (N := 11) hx hb hts (by decide +kernel) hown hK hP hs t_zc (by decide) rfl rfl 2 (by decide) (hts (.fieldLink RX1 49 "DripStone$Candle" "years" "[I") (by decide +kernel)) (fun _ h9 => h9) rfl dX1_seenInTruth_26 ?_
          have t_856 : zT (zR zc 2) = 21 := sk_f hs t_zc (by decide) rfl (by decide)
          refine lv_iload hx hb dX1_seenInTruth_29 (lv_at hl 4 rfl) ?_
          refine ht_iald (n := 12) (q := 0) hx hb hK hP hs t_856 (by decide) rfl rfl ⟨by omega, by omega⟩ dX1_seenInTruth_31 ?_
          refine lv_topi (fun zi_857 ezi_857 => ?_)
          refine lv_aload_n hx hb dX1_seenInTruth_32 rfl (lv_at hl 0 rfl) ?_
          refine ht_getr (C := RX1) (T := TX1) (N := 8) hx hb hts (by decide +kernel) hown hK hP hs t_zm (by decide) rfl rfl 2 (by decide) (hts (.fieldLink RX1 18 "DripStone$Claim" "firsts" "[I") (by decide +kernel)) (fun _ h9 => h9) rfl dX1_seenInTruth_33 ?_
          have t_858 : zT (zR zm 2) = 31 := sk_f hs t_zm (by decide) rfl (by decide)
          refine lv_iload_n hx hb dX1_seenInTruth_36 rfl (lv_at hl 1 rfl) ?_
          refine ht_iald (n := 2) (q := 0) hx hb hK hP hs t_858 (by decide) rfl rfl ⟨by omega, by omega⟩ dX1_seenInTruth_37 ?_
          refine lv_topi (fun zi_859 ezi_859 => ?_)
          refine lv_aload_n hx hb dX1_seenInTruth_38 rfl (lv_at hl 0 rfl) ?_
          refine ht_getr (C := RX1) (T := TX1) (N := 8) hx hb hts (by decide +kernel) hown hK hP hs t_zm (by decide) rfl rfl 3 (by decide) (hts (.fieldLink RX1 21 "DripStone$Claim" "lasts" "[I") (by decide +kernel)) (fun _ h9 => h9) rfl dX1_seenInTruth_39 ?_
          have t_860 : zT (zR zm 3) = 31 := sk_f hs t_zm (by decide) rfl (by decide)
          refine lv_iload_n hx hb dX1_seenInTruth_42 rfl (lv_at hl 1 rfl) ?_
          refine ht_iald (n := 2) (q := 0) hx hb hK hP hs t_860 (by decide) rfl rfl ⟨by omega, by omega⟩ dX1_seenInTruth_43 ?_
          refine lv_topi (fun zi_861 ezi_861 => ?_)
          refine hj0_i (ws := (WL cy zL zT zR zI zJ)) (va_runSN (As := [.int zi_857, .int zi_859, .int zi_861]) (rest := []) ⟨hx, hb, hml, hown, hts⟩ (c_X10_isWithin l dC dI cy H.size zi_857 zi_859 zi_861 zi_859.toInt zi_861.toInt (by first | rfl | decide | omega | exact Int32.toInt_toInt64 _) (by first | rfl | decide | omega | exact Int32.toInt_toInt64 _)) ⟨va_cnB 3 hts ggX1_seenInTruth_X10_isWithin rfl rfl rfl (n0_18 hN) (hts (.initialized RX10) (by decide +kernel)) (by decide +kernel) ⟨(Nat.le_of_ble_eq_true rfl), (Nat.le_of_ble_eq_true rfl)⟩, hts (.static yX10_isWithin) (by decide +kernel), trivial⟩ (PRE.s (hP.sub [] rfl) hK (hD.sub [] (by decide) rfl) hN) rfl rfl hl.1 rfl (lv_room (Nat.le_of_ble_eq_true rfl)) dX1_seenInTruth_44 ⟨(Nat.le_of_ble_eq_true rfl), (Nat.le_of_ble_eq_true rfl)⟩) hP hD hS hA (fun zi_862 u_864 H locs hw_863 hP hD hS => ?_)
          have hw_863 : zi_862 = if zi_859.toInt ≤ zi_857.toInt ∧ zi_857.toInt ≤ zi_861.toInt then 1 else 0 := hw_863
          have b_zi_862 : 0 ≤ zi_862.toInt ∧ zi_862.toInt ≤ 1 := bz_b hw_863
          refine lv_if_eq (tgt := 53) hx hb dX1_seenInTruth_47 (by decide) (fun c_865 => ?_) (fun c_865 => ?_)
          · have f_866 : ¬ (zi_859.toInt ≤ zi_857.toInt ∧ zi_857.toInt ≤ zi_861.toInt) := bz_0 hw_863 c_865
            exact jn_852 zi_184 _ _ _  hP hD hS (lv_sub hl [0, 1, 2, 3, 4] rfl)
          · have f_866 : zi_859.toInt ≤ zi_857.toInt ∧ zi_857.toInt ≤ zi_861.toInt := bz_1 hw_863 c_865
            obtain ⟨zi_867, ezi_867⟩ : ∃ y : Int32, y = zi_184 + 1 := ⟨_, rfl⟩
            refine lv_iinc (v := zi_867) (lv' := [(3, .int zi_867), (0, .ref zm), (1, .int zia), (2, .ref zc), (4, .int zi_185)]) hx hb dX1_seenInTruth_50 hl (k := 3) rfl (by rw [ezi_867]; rfl) (by decide) rfl (fun ls hl => ?_)
            exact jn_852 zi_867 _ _ _  hP hD hS (lv_sub hl [1, 2, 3, 0, 4] rfl)
  exact lp_830 _ (0 : Int32) (0 : Int32) _ _ _ rfl (by decide) hP hD hS (lv_sub hl [2, 3, 4, 1, 0] rfl)
set_option maxHeartbeats 8000000 in
set_option maxRecDepth 100000 in
theorem t_X1_isSo (l : Launch) (dC : Nat → ClassId) (dI : Nat → Nat → Nat) (cy : Nat → ClassId) (sz : Nat) (zL : List Nat) (zT : Nat → Nat) (zR : Nat → Nat → Nat) (zI : Nat → Nat → Int32) (zJ : Nat → Nat → Int64) (zm : Nat) (zia : Int32) (zib : Int32) (hs : SKP zL zT zR) (hw : WT zT zR zI) (t_zm : zT zm = 2) : Met l yX1_isSo wsX1_isSo ({ frames := 0, cells := 0, slots := 0, locals := 0 } : Room) (va_Pc [.ref zm, .int zia, .int zib] (PRE dC dI cy (WL cy zL zT zR zI zJ) sz)) (va_Qi (fun (r : Int32) (u : Unit) => (0 ≤ r.toInt ∧ r.toInt ≤ 1)) (fun u t => POST dC dI cy (va_A (WL cy zL zT zR zI zJ) sz) (WL cy zL zT zR zI zJ) t) (va_A (WL cy zL zT zR zI zJ) sz)) 0 0 (va_A (WL cy zL zT zR zI zJ) sz) := by
  refine Met.ofW (cc := cX1_isSo) (maxL := 5) (ret := (some .boolean)) (by decide) rfl ?_
  intro p e s m args below meth c s₁ B hml hv
  obtain ⟨rfl, hsz, hP, hK, hD0, hN⟩ := hv
  have hx := B.exec
  have hb := B.bytes
  have hr := B.returns
  have hts := atoms_spec (ws := wsX1_isSo) B.pre
  have hown : s.vm.findClass RX1 = some m.cls := findClass_of_methodNamed B.named
  have hlocks := B.notSynchronized
  subst hsz
  have hD := hD0.self (sz := s.heap.size)
  generalize hAe : va_A (WL cy zL zT zR zI zJ) s.heap.size = A at hD ⊢
  have hA : ∀ q : Nat, s.heap.size ≤ q → A q := fun q h => by rw [← hAe]; exact Or.inr h
  have hS : va_S A s.heap s.heap [] := va_S.rf
  have hP : va_P (dC, dI) vwCl (WL cy zL zT zR zI zJ) s.heap := hP
  have hl := lv_entry ([.ref zm, .int zia, .int zib] : List Value) (n := 5) (Nat.le_of_ble_eq_true rfl)
  rw [lg_entry_eq]
  generalize (lg_sl ([.ref zm, .int zia, .int zib] : List Value) ++ List.replicate (5 - (lg_sl ([.ref zm, .int zia, .int zib] : List Value)).length) Slot.unset).toArray = ls at hl ⊢
  have hl : lv_has ls 5 [(0, .ref zm), (1, .int zia), (2, .int zib)] := hl
  refine w_q (fun Q hQ => ?_)
  have h_zI : WM [] AL zT zR zI zI := WM.rf hw
  refine lv_iload_n hx hb dX1_isSo_0 rfl (lv_at hl 1 rfl) ?_
  refine lv_aload_n hx hb dX1_isSo_1 rfl (lv_at hl 0 rfl) ?_
  refine ht_getr (C := RX1) (T := TX1) (N := 8) hx hb hts (by decide +kernel) hown hK hP hs t_zm (by decide) rfl rfl 4 (by decide) (hts (.fieldLink RX1 24 "DripStone$Claim" "goals" "[I") (by decide +kernel)) (fun _ h9 => h9) rfl dX1_isSo_2 ?_
  have t_1 : zT (zR zm 4) = 32 := sk_f hs t_zm (by decide) rfl (by decide)
  refine lv_iconst (v := 0) hx hb dX1_isSo_5 (by decide) ?_
  refine ht_iald (n := 2) (q := 0) hx hb hK hP hs t_1 (by decide) rfl rfl ⟨by decide, by decide⟩ dX1_isSo_6 ?_
  refine lv_topi (fun zi_2 ezi_2 => ?_)
  have tzi_2 : (-1) ≤ zi_2.toInt ∧ zi_2.toInt ≤ 12 := by rw [ezi_2]; exact h_zI.at t_1 _ rfl
  have jn_6 : ∀ (zi_5 : Int32) (H : Heap) (locs : List Loc) (ls : Array Slot), (0 ≤ zi_5.toInt ∧ zi_5.toInt ≤ 1) → va_P (dC, dI) vwCl (WL cy zL zT zR zI zJ) H → va_D A (WL cy zL zT zR zI zJ) → va_S A s.heap H locs → lv_has ls 5 [(0, .ref zm), (1, .int zia), (2, .int zib)] → W p l e ({ frames := 0, cells := 0, slots := 0, locals := 0 } : Room) s m ([.ref zm, .int zia, .int zib] : List Value).toArray below meth c H locs 0 0 Q (F0 m 15 ls [.int zi_5]) := by
    intro zi_5 H locs ls b_zi_5 hP hD hS hl
    refine lv_aload_n hx hb dX1_isSo_15 rfl (lv_at hl 0 rfl) ?_
    refine ht_getr (C := RX1) (T := TX1) (N := 8) hx hb hts (by decide +kernel) hown hK hP hs t_zm (by decide) rfl rfl 5 (by decide) (hts (.fieldLink RX1 27 "DripStone$Claim" "negated" "[Z") (by decide +kernel)) (fun _ h9 => h9) rfl dX1_isSo_16 ?_
    have t_7 : zT (zR zm 5) = 33 := sk_f hs t_zm (by decide) rfl (by decide)
    refine lv_iconst (v := 0) hx hb dX1_isSo_19 (by decide) ?_
    refine ht_zald (n := 2) (q := 2) hx hb hK hP hs t_7 (by decide) rfl rfl ⟨by decide, by decide⟩ dX1_isSo_20 ?_
    refine lv_topi (fun zi_8 ezi_8 => ?_)
    have jn_12 : ∀ (zi_11 : Int32) (H : Heap) (locs : List Loc) (ls : Array Slot), (0 ≤ zi_11.toInt ∧ zi_11.toInt ≤ 1) → va_P (dC, dI) vwCl (WL cy zL zT zR zI zJ) H → va_D A (WL cy zL zT zR zI zJ) → va_S A s.heap H locs → lv_has ls 5 [(0, .ref zm), (1, .int zia), (2, .int zib)] → W p l e ({ frames := 0, cells := 0, slots := 0, locals := 0 } : Room) s m ([.ref zm, .int zia, .int zib] : List Value).toArray below meth c H locs 0 0 Q (F0 m 29 ls [.int zi_11]) := by
      intro zi_11 H locs ls b_zi_11 hP hD hS hl
      refine lv_istore_n (lv' := [(3, .int zi_11), (0, .ref zm), (1, .int zia), (2, .int zib)]) hx hb dX1_isSo_29 rfl hl (by decide) rfl (fun ls hl => ?_)
      refine lv_iload_n hx hb dX1_isSo_30 rfl (lv_at hl 3 rfl) ?_
      refine lv_aload_n hx hb dX1_isSo_31 rfl (lv_at hl 1 rfl) ?_
      refine ht_getr (C := RX1) (T := TX1) (N := 8) hx hb hts (by decide +kernel) hown hK hP hs t_zm (by decide) rfl rfl 4 (by decide) (hts (.fieldLink RX1 24 "DripStone$Claim" "goals" "[I") (by decide +kernel)) (fun _ h9 => h9) rfl dX1_isSo_32 ?_
      refine lv_iconst (v := 1) hx hb dX1_isSo_35 (by decide) ?_
      refine ht_iald (n := 2) (q := 0) hx hb hK hP hs t_1 (by decide) rfl rfl ⟨by decide, by decide⟩ dX1_isSo_36 ?_
      refine lv_topi (fun zi_13 ezi_13 => ?_)
      have tzi_13 : (-1) ≤ zi_13.toInt ∧ zi_13.toInt ≤ 12 := by rw [ezi_13]; exact h_zI.at t_1 _ rfl
      have jn_17 : ∀ (zi_16 : Int32) (H : Heap) (locs : List Loc) (ls : Array Slot), (0 ≤ zi_16.toInt ∧ zi_16.toInt ≤ 1) → va_P (dC, dI) vwCl (WL cy zL zT zR zI zJ) H → va_D A (WL cy zL zT zR zI zJ) → va_S A s.heap H locs → lv_has ls 5 [(0, .ref zm), (1, .int zia), (2, .int zib), (3, .int zi_11)] → W p l e ({ frames := 0, cells := 0, slots := 0, locals := 0 } : Room) s m ([.ref zm, .int zia, .int zib] : List Value).toArray below meth c H locs 0 0 Q (F0 m 45 ls [.int zi_16]) := by
        intro zi_16 H locs ls b_zi_16 hP hD hS hl
        refine lv_aload_n hx hb dX1_isSo_45 rfl (lv_at hl 0 rfl) ?_
        refine ht_getr (C := RX1) (T := TX1) (N := 8) hx hb hts (by decide +kernel) hown hK hP hs t_zm (by decide) rfl rfl 5 (by decide) (hts (.fieldLink RX1 27 "DripStone$Claim" "negated" "[Z") (by decide +kernel)) (fun _ h9 => h9) rfl dX1_isSo_46 ?_
        refine lv_iconst (v := 1) hx hb dX1_isSo_49 (by decide) ?_
        refine ht_zald (n := 2) (q := 2) hx hb hK hP hs t_7 (by decide) rfl rfl ⟨by decide, by decide⟩ dX1_isSo_50 ?_
        refine lv_topi (fun zi_18 ezi_18 => ?_)
        have jn_22 : ∀ (zi_21 : Int32) (H : Heap) (locs : List Loc) (ls : Array Slot), (0 ≤ zi_21.toInt ∧ zi_21.toInt ≤ 1) → va_P (dC, dI) vwCl (WL cy zL zT zR zI zJ) H → va_D A (WL cy zL zT zR zI zJ) → va_S A s.heap H locs → lv_has ls 5 [(0, .ref zm), (1, .int zia), (2, .int zib), (3, .int zi_11)] → W p l e ({ frames := 0, cells := 0, slots := 0, locals := 0 } : Room) s m ([.ref zm, .int zia, .int zib] : List Value).toArray below meth c H locs 0 0 Q (F0 m 59 ls [.int zi_21]) := by
          intro zi_21 H locs ls b_zi_21 hP hD hS hl
          refine lv_istore (lv' := [(4, .int zi_21), (0, .ref zm), (1, .int zia), (2, .int zib), (3, .int zi_11)]) hx hb dX1_isSo_59 hl (by decide) rfl (fun ls hl => ?_)
          refine lv_aload_n hx hb dX1_isSo_61 rfl (lv_at hl 1 rfl) ?_
          refine ht_geti (C := RX1) (T := TX1) (N := 8) hx hb hts (by decide +kernel) hown hK hP hs t_zm (by decide) rfl rfl 6 (by decide) (hts (.fieldLink RX1 56 "DripStone$Claim" "atoms" "I") (by decide +kernel)) (fun _ h9 => h9) rfl dX1_isSo_62 ?_
          refine lv_topi (fun zi_23 ezi_23 => ?_)
          have tzi_23 : 0 ≤ zi_23.toInt ∧ zi_23.toInt ≤ 2 := by rw [ezi_23]; exact h_zI.at t_zm _ rfl
          refine lv_iconst (v := 1) hx hb dX1_isSo_65 (by decide) ?_
          refine lv_icmp_ne (tgt := 71) hx hb dX1_isSo_66 (by decide) (fun c_24 => ?_) (fun c_24 => ?_)
          · have f_25 : zi_23.toInt ≠ (1 : Int) := ic_ne (rfl) (show (1 : Int32).toInt = 1 by decide) c_24
            refine lv_aload_n hx hb dX1_isSo_71 rfl (lv_at hl 1 rfl) ?_
            refine ht_geti (C := RX1) (T := TX1) (N := 8) hx hb hts (by decide +kernel) hown hK hP hs t_zm (by decide) rfl rfl 7 (by decide) (hts (.fieldLink RX1 59 "DripStone$Claim" "either" "Z") (by decide +kernel)) (fun _ h9 => h9) rfl dX1_isSo_72 ?_
            refine lv_topi (fun zi_26 ezi_26 => ?_)
            have tzi_26 : 0 ≤ zi_26.toInt ∧ zi_26.toInt ≤ 1 := by rw [ezi_26]; exact h_zI.at t_zm _ rfl
            refine lv_if_eq (tgt := 95) hx hb dX1_isSo_75 (by decide) (fun c_27 => ?_) (fun c_27 => ?_)
            · have f_28 : zi_26.toInt = 0 := ic_eq (rfl) (by decide) c_27
              refine lv_iload_n hx hb dX1_isSo_95 rfl (lv_at hl 4 rfl) ?_
              refine lv_if_eq (tgt := 108) hx hb dX1_isSo_96 (by decide) (fun c_29 => ?_) (fun c_29 => ?_)
              · have f_30 : zi_11.toInt = 0 := ic_eq (rfl) (by decide) c_29
                refine lv_iconst (v := 0) hx hb dX1_isSo_108 (by decide) ?_
                subst hQ
                have qc_0 : (0 : Int32).toInt = 0 := by decide
                exact W.zret (v := (0 : Int32)) hx hb hr rfl (fun t ht hW => ⟨⟨(0 : Int32), (), rfl, (show 0 ≤ (0 : Int32).toInt ∧ (0 : Int32).toInt ≤ 1 from by omega), ⟨by rw [ht]; exact hP, va_K.moved hW.alike hK, hD⟩⟩, hS.F ht⟩) hS.2.2 dX1_isSo_109
              · have f_30 : ¬ (zi_11.toInt = 0) := ic_neq (rfl) (by decide) c_29
                refine lv_iload hx hb dX1_isSo_99 (lv_at hl 0 rfl) ?_
                refine lv_if_eq (tgt := 108) hx hb dX1_isSo_101 (by decide) (fun c_31 => ?_) (fun c_31 => ?_)
                · have f_32 : zi_21.toInt = 0 := ic_eq (rfl) (by decide) c_31
                  refine lv_iconst (v := 0) hx hb dX1_isSo_108 (by decide) ?_
                  subst hQ
                  have qc_0 : (0 : Int32).toInt = 0 := by decide
                  exact W.zret (v := (0 : Int32)) hx hb hr rfl (fun t ht hW => ⟨⟨(0 : Int32), (), rfl, (show 0 ≤ (0 : Int32).toInt ∧ (0 : Int32).toInt ≤ 1 from by omega), ⟨by rw [ht]; exact hP, va_K.moved hW.alike hK, hD⟩⟩, hS.F ht⟩) hS.2.2 dX1_isSo_109
                · have f_32 : ¬ (zi_21.toInt = 0) := ic_neq (rfl) (by decide) c_31
                  refine lv_iconst (v := 1) hx hb dX1_isSo_104 (by decide) ?_
                  refine lv_goto (tgt := 109) hx hb dX1_isSo_105 (by decide) ?_
                  subst hQ
                  have qc_1 : (1 : Int32).toInt = 1 := by decide
                  exact W.zret (v := (1 : Int32)) hx hb hr rfl (fun t ht hW => ⟨⟨(1 : Int32), (), rfl, (show 0 ≤ (1 : Int32).toInt ∧ (1 : Int32).toInt ≤ 1 from by omega), ⟨by rw [ht]; exact hP, va_K.moved hW.alike hK, hD⟩⟩, hS.F ht⟩) hS.2.2 dX1_isSo_109
            · have f_28 : ¬ (zi_26.toInt = 0) := ic_neq (rfl) (by decide) c_27
              refine lv_iload_n hx hb dX1_isSo_78 rfl (lv_at hl 4 rfl) ?_
              refine lv_if_ne (tgt := 87) hx hb dX1_isSo_79 (by decide) (fun c_33 => ?_) (fun c_33 => ?_)
              · have f_34 : zi_11.toInt ≠ 0 := ic_ne (rfl) (by decide) c_33
                refine lv_iconst (v := 1) hx hb dX1_isSo_87 (by decide) ?_
                refine lv_goto (tgt := 109) hx hb dX1_isSo_88 (by decide) ?_
                subst hQ
                have qc_1 : (1 : Int32).toInt = 1 := by decide
                exact W.zret (v := (1 : Int32)) hx hb hr rfl (fun t ht hW => ⟨⟨(1 : Int32), (), rfl, (show 0 ≤ (1 : Int32).toInt ∧ (1 : Int32).toInt ≤ 1 from by omega), ⟨by rw [ht]; exact hP, va_K.moved hW.alike hK, hD⟩⟩, hS.F ht⟩) hS.2.2 dX1_isSo_109
              · have f_34 : ¬ (zi_11.toInt ≠ 0) := ic_nne (rfl) (by decide) c_33
                refine lv_iload hx hb dX1_isSo_82 (lv_at hl 0 rfl) ?_
                refine lv_if_eq (tgt := 91) hx hb dX1_isSo_84 (by decide) (fun c_35 => ?_) (fun c_35 => ?_)
                · have f_36 : zi_21.toInt = 0 := ic_eq (rfl) (by decide) c_35
                  refine lv_iconst (v := 0) hx hb dX1_isSo_91 (by decide) ?_
                  refine lv_goto (tgt := 109) hx hb dX1_isSo_92 (by decide) ?_
                  subst hQ
                  have qc_0 : (0 : Int32).toInt = 0 := by decide
                  exact W.zret (v := (0 : Int32)) hx hb hr rfl (fun t ht hW => ⟨⟨(0 : Int32), (), rfl, (show 0 ≤ (0 : Int32).toInt ∧ (0 : Int32).toInt ≤ 1 from by omega), ⟨by rw [ht]; exact hP, va_K.moved hW.alike hK, hD⟩⟩, hS.F ht⟩) hS.2.2 dX1_isSo_109
                · have f_36 : ¬ (zi_21.toInt = 0) := ic_neq (rfl) (by decide) c_35
                  refine lv_iconst (v := 1) hx hb dX1_isSo_87 (by decide) ?_
                  refine lv_goto (tgt := 109) hx hb dX1_isSo_88 (by decide) ?_
                  subst hQ
                  have qc_1 : (1 : Int32).toInt = 1 := by decide
                  exact W.zret (v := (1 : Int32)) hx hb hr rfl (fun t ht hW => ⟨⟨(1 : Int32), (), rfl, (show 0 ≤ (1 : Int32).toInt ∧ (1 : Int32).toInt ≤ 1 from by omega), ⟨by rw [ht]; exact hP, va_K.moved hW.alike hK, hD⟩⟩, hS.F ht⟩) hS.2.2 dX1_isSo_109
          · have f_25 : ¬ (zi_23.toInt ≠ (1 : Int)) := ic_nne (rfl) (show (1 : Int32).toInt = 1 by decide) c_24
            refine lv_iload_n hx hb dX1_isSo_69 rfl (lv_at hl 4 rfl) ?_
            subst hQ
            exact W.zret (v := zi_11) hx hb hr (zb_n2 (by omega)) (fun t ht hW => ⟨⟨zi_11, (), rfl, (show 0 ≤ zi_11.toInt ∧ zi_11.toInt ≤ 1 from by omega), ⟨by rw [ht]; exact hP, va_K.moved hW.alike hK, hD⟩⟩, hS.F ht⟩) hS.2.2 dX1_isSo_70
        refine lv_icmp_eq (tgt := 58) hx hb dX1_isSo_51 (by decide) (fun c_37 => ?_) (fun c_37 => ?_)
        · have f_38 : zi_16.toInt = zi_18.toInt := ic_eq (rfl) (rfl) c_37
          refine lv_iconst (v := 0) hx hb dX1_isSo_58 (by decide) ?_
          exact jn_22 (0 : Int32) _ _ _ (by decide) hP hD hS (lv_sub hl [0, 1, 2, 3] rfl)
        · have f_38 : ¬ (zi_16.toInt = zi_18.toInt) := ic_neq (rfl) (rfl) c_37
          refine lv_iconst (v := 1) hx hb dX1_isSo_54 (by decide) ?_
          refine lv_goto (tgt := 59) hx hb dX1_isSo_55 (by decide) ?_
          exact jn_22 (1 : Int32) _ _ _ (by decide) hP hD hS (lv_sub hl [0, 1, 2, 3] rfl)
      refine lv_icmp_lt (tgt := 44) hx hb dX1_isSo_37 (by decide) (fun c_39 => ?_) (fun c_39 => ?_)
      · have f_40 : zib.toInt < zi_13.toInt := ic_lt (rfl) (rfl) c_39
        refine lv_iconst (v := 0) hx hb dX1_isSo_44 (by decide) ?_
        exact jn_17 (0 : Int32) _ _ _ (by decide) hP hD hS (lv_sub hl [1, 2, 3, 0] rfl)
      · have f_40 : ¬ (zib.toInt < zi_13.toInt) := ic_nlt (rfl) (rfl) c_39
        refine lv_iconst (v := 1) hx hb dX1_isSo_40 (by decide) ?_
        refine lv_goto (tgt := 45) hx hb dX1_isSo_41 (by decide) ?_
        exact jn_17 (1 : Int32) _ _ _ (by decide) hP hD hS (lv_sub hl [1, 2, 3, 0] rfl)
    refine lv_icmp_eq (tgt := 28) hx hb dX1_isSo_21 (by decide) (fun c_41 => ?_) (fun c_41 => ?_)
    · have f_42 : zi_5.toInt = zi_8.toInt := ic_eq (rfl) (rfl) c_41
      refine lv_iconst (v := 0) hx hb dX1_isSo_28 (by decide) ?_
      exact jn_12 (0 : Int32) _ _ _ (by decide) hP hD hS (lv_sub hl [0, 1, 2] rfl)
    · have f_42 : ¬ (zi_5.toInt = zi_8.toInt) := ic_neq (rfl) (rfl) c_41
      refine lv_iconst (v := 1) hx hb dX1_isSo_24 (by decide) ?_
      refine lv_goto (tgt := 29) hx hb dX1_isSo_25 (by decide) ?_
      exact jn_12 (1 : Int32) _ _ _ (by decide) hP hD hS (lv_sub hl [0, 1, 2] rfl)
  refine lv_icmp_lt (tgt := 14) hx hb dX1_isSo_7 (by decide) (fun c_43 => ?_) (fun c_43 => ?_)
  · have f_44 : zia.toInt < zi_2.toInt := ic_lt (rfl) (rfl) c_43
    refine lv_iconst (v := 0) hx hb dX1_isSo_14 (by decide) ?_
    exact jn_6 (0 : Int32) _ _ _ (by decide) hP hD hS (lv_sub hl [0, 1, 2] rfl)
  · have f_44 : ¬ (zia.toInt < zi_2.toInt) := ic_nlt (rfl) (rfl) c_43
    refine lv_iconst (v := 1) hx hb dX1_isSo_10 (by decide) ?_
    refine lv_goto (tgt := 15) hx hb dX1_isSo_11 (by decide) ?_
    exact jn_6 (1 : Int32) _ _ _ (by decide) hP hD hS (lv_sub hl [0, 1, 2] rfl)
set_option maxHeartbeats 8000000 in
set_option maxRecDepth 100000 in
theorem t_X1_latest (l : Launch) (dC : Nat → ClassId) (dI : Nat → Nat → Nat) (cy : Nat → ClassId) (sz : Nat) (zL : List Nat) (zT : Nat → Nat) (zR : Nat → Nat → Nat) (zI : Nat → Nat → Int32) (zJ : Nat → Nat → Int64) (zm : Nat) (hs : SKP zL zT zR) (hw : WT zT zR zI) (t_zm : zT zm = 2) : Met l yX1_latest wsX1_latest ({ frames := 1, cells := 0, slots := 0, locals := 30 } : Room) (va_Pc [.ref zm] (PRE dC dI cy (WL cy zL zT zR zI zJ) sz)) (va_Qi (fun (r : Int32) (u : Unit) => True) (fun u t => POST dC dI cy (va_A (WL cy zL zT zR zI zJ) sz) (WL cy zL zT zR zI zJ) t) (va_A (WL cy zL zT zR zI zJ) sz)) 0 0 (va_A (WL cy zL zT zR zI zJ) sz) := by
  refine Met.ofW (cc := cX1_latest) (maxL := 1) (ret := (some .int)) (by decide) rfl ?_
  intro p e s m args below meth c s₁ B hml hv
  obtain ⟨rfl, hsz, hP, hK, hD0, hN⟩ := hv
  have hx := B.exec
  have hb := B.bytes
  have hr := B.returns
  have hts := atoms_spec (ws := wsX1_latest) B.pre
  have hown : s.vm.findClass RX1 = some m.cls := findClass_of_methodNamed B.named
  have hlocks := B.notSynchronized
  subst hsz
  have hD := hD0.self (sz := s.heap.size)
  generalize hAe : va_A (WL cy zL zT zR zI zJ) s.heap.size = A at hD ⊢
  have hA : ∀ q : Nat, s.heap.size ≤ q → A q := fun q h => by rw [← hAe]; exact Or.inr h
  have hS : va_S A s.heap s.heap [] := va_S.rf
  have hP : va_P (dC, dI) vwCl (WL cy zL zT zR zI zJ) s.heap := hP
  have hl := lv_entry ([.ref zm] : List Value) (n := 1) (Nat.le_of_ble_eq_true rfl)
  rw [lg_entry_eq]
  generalize (lg_sl ([.ref zm] : List Value) ++ List.replicate (1 - (lg_sl ([.ref zm] : List Value)).length) Slot.unset).toArray = ls at hl ⊢
  have hl : lv_has ls 1 [(0, .ref zm)] := hl
  refine w_q (fun Q hQ => ?_)
  have h_zI : WM [] AL zT zR zI zI := WM.rf hw
  refine lv_aload_n hx hb dX1_latest_0 rfl (lv_at hl 0 rfl) ?_
  refine ht_geti (C := RX1) (T := TX1) (N := 8) hx hb hts (by decide +kernel) hown hK hP hs t_zm (by decide) rfl rfl 6 (by decide) (hts (.fieldLink RX1 56 "DripStone$Claim" "atoms" "I") (by decide +kernel)) (fun _ h9 => h9) rfl dX1_latest_1 ?_
  refine lv_topi (fun zi_1 ezi_1 => ?_)
  have tzi_1 : 0 ≤ zi_1.toInt ∧ zi_1.toInt ≤ 2 := by rw [ezi_1]; exact h_zI.at t_zm _ rfl
  refine lv_iconst (v := 1) hx hb dX1_latest_4 (by decide) ?_
  refine lv_icmp_ne (tgt := 17) hx hb dX1_latest_5 (by decide) (fun c_2 => ?_) (fun c_2 => ?_)
  · have f_3 : zi_1.toInt ≠ (1 : Int) := ic_ne (rfl) (show (1 : Int32).toInt = 1 by decide) c_2
    refine lv_aload_n hx hb dX1_latest_17 rfl (lv_at hl 0 rfl) ?_
    refine ht_getr (C := RX1) (T := TX1) (N := 8) hx hb hts (by decide +kernel) hown hK hP hs t_zm (by decide) rfl rfl 3 (by decide) (hts (.fieldLink RX1 21 "DripStone$Claim" "lasts" "[I") (by decide +kernel)) (fun _ h9 => h9) rfl dX1_latest_18 ?_
    have t_4 : zT (zR zm 3) = 31 := sk_f hs t_zm (by decide) rfl (by decide)
    refine lv_iconst (v := 0) hx hb dX1_latest_21 (by decide) ?_
    refine ht_iald (n := 2) (q := 0) hx hb hK hP hs t_4 (by decide) rfl rfl ⟨by decide, by decide⟩ dX1_latest_22 ?_
    refine lv_topi (fun zi_5 ezi_5 => ?_)
    refine lv_aload_n hx hb dX1_latest_23 rfl (lv_at hl 0 rfl) ?_
    refine ht_getr (C := RX1) (T := TX1) (N := 8) hx hb hts (by decide +kernel) hown hK hP hs t_zm (by decide) rfl rfl 3 (by decide) (hts (.fieldLink RX1 21 "DripStone$Claim" "lasts" "[I") (by decide +kernel)) (fun _ h9 => h9) rfl dX1_latest_24 ?_
    refine lv_iconst (v := 1) hx hb dX1_latest_27 (by decide) ?_
    refine ht_iald (n := 2) (q := 0) hx hb hK hP hs t_4 (by decide) rfl rfl ⟨by decide, by decide⟩ dX1_latest_28 ?_
    refine lv_topi (fun zi_6 ezi_6 => ?_)
    refine va_mmax hx hb (by rw [hml]; exact hl.1.symm) hown (hts (.methodLink RX1 63 Lib.Math.max.name) (by decide +kernel)) (hts (.static Lib.Math.max.name) (by decide +kernel)) (hts (.initialized "java/lang/Math") (by decide +kernel)) (hts (.code Lib.Math.max.name Lib.Math.max.code 2 (some .int)) (by decide +kernel)) (Nat.le_of_ble_eq_true rfl) (Nat.le_of_ble_eq_true rfl) (Nat.le_of_ble_eq_true rfl) (Nat.le_of_ble_eq_true rfl) dX1_latest_29 ?_
    refine lv_topi (fun zi_7 ezi_7 => ?_)
    have tzi_7 : (zi_5.toInt < zi_6.toInt → zi_7.toInt = zi_6.toInt) ∧ (¬ zi_5.toInt < zi_6.toInt → zi_7.toInt = zi_5.toInt) := mx_s ezi_7 (rfl) (rfl)
    subst hQ
    exact W.iret (v := zi_7) hx hb hr (fun t ht hW => ⟨⟨zi_7, (), rfl, trivial, ⟨by rw [ht]; exact hP, va_K.moved hW.alike hK, hD⟩⟩, hS.F ht⟩) hS.2.2 dX1_latest_32
  · have f_3 : ¬ (zi_1.toInt ≠ (1 : Int)) := ic_nne (rfl) (show (1 : Int32).toInt = 1 by decide) c_2
    refine lv_aload_n hx hb dX1_latest_8 rfl (lv_at hl 0 rfl) ?_
    refine ht_getr (C := RX1) (T := TX1) (N := 8) hx hb hts (by decide +kernel) hown hK hP hs t_zm (by decide) rfl rfl 3 (by decide) (hts (.fieldLink RX1 21 "DripStone$Claim" "lasts" "[I") (by decide +kernel)) (fun _ h9 => h9) rfl dX1_latest_9 ?_
    have t_8 : zT (zR zm 3) = 31 := sk_f hs t_zm (by decide) rfl (by decide)
    refine lv_iconst (v := 0) hx hb dX1_latest_12 (by decide) ?_
    refine ht_iald (n := 2) (q := 0) hx hb hK hP hs t_8 (by decide) rfl rfl ⟨by decide, by decide⟩ dX1_latest_13 ?_
    refine lv_topi (fun zi_9 ezi_9 => ?_)
    refine lv_goto (tgt := 32) hx hb dX1_latest_14 (by decide) ?_
    subst hQ
    exact W.iret (v := zi_9) hx hb hr (fun t ht hW => ⟨⟨zi_9, (), rfl, trivial, ⟨by rw [ht]; exact hP, va_K.moved hW.alike hK, hD⟩⟩, hS.F ht⟩) hS.2.2 dX1_latest_32
set_option maxHeartbeats 8000000 in
set_option maxRecDepth 100000 in
theorem t_X7_refusal (l : Launch) (dC : Nat → ClassId) (dI : Nat → Nat → Nat) (cy : Nat → ClassId) (sz : Nat) (zL : List Nat) (zT : Nat → Nat) (zR : Nat → Nat → Nat) (zI : Nat → Nat → Int32) (zJ : Nat → Nat → Int64) (zs : Nat) (zia : Int32) (zif : Int32) (zin : Int32) (hs : SKP zL zT zR) (hw : WT zT zR zI) (t_zs : zT zs = 8) (b_zin : 1 ≤ zin.toInt ∧ zin.toInt ≤ 24) : Met l yX7_refusal wsX7_refusal ({ frames := 0, cells := 0, slots := 0, locals := 0 } : Room) (va_Pc [.ref zs, .int zia, .int zif, .int zin] (PRE dC dI cy (WL cy zL zT zR zI zJ) sz)) (va_Qi (fun (r : Int32) (u : Unit) => ((-13) ≤ r.toInt ∧ r.toInt ≤ 0) ∧ (¬ (r.toInt = 0) ∨ (0 ≤ zif.toInt ∧ zif.toInt ≤ 24)) ∧ (¬ (r.toInt = 0) ∨ zif.toInt + zin.toInt ≤ 24) ∧ (r.toInt = RFS (zI zs 3).toInt (zI zs 1).toInt (zI zs 2).toInt zia.toInt zif.toInt zin.toInt)) (fun u t => POST dC dI cy (va_A (WL cy zL zT zR zI zJ) sz) (WL cy zL zT zR zI zJ) t) (va_A (WL cy zL zT zR zI zJ) sz)) 0 0 (va_A (WL cy zL zT zR zI zJ) sz) := by
  refine Met.ofW (cc := cX7_refusal) (maxL := 4) (ret := (some .int)) (by decide) rfl ?_
  intro p e s m args below meth c s₁ B hml hv
  obtain ⟨rfl, hsz, hP, hK, hD0, hN⟩ := hv
  have hx := B.exec
  have hb := B.bytes
  have hr := B.returns
  have hts := atoms_spec (ws := wsX7_refusal) B.pre
  have hown : s.vm.findClass RX7 = some m.cls := findClass_of_methodNamed B.named
  have hlocks := B.notSynchronized
  subst hsz
  have hD := hD0.self (sz := s.heap.size)
  generalize hAe : va_A (WL cy zL zT zR zI zJ) s.heap.size = A at hD ⊢
  have hA : ∀ q : Nat, s.heap.size ≤ q → A q := fun q h => by rw [← hAe]; exact Or.inr h
  have hS : va_S A s.heap s.heap [] := va_S.rf
  have hP : va_P (dC, dI) vwCl (WL cy zL zT zR zI zJ) s.heap := hP
  have hl := lv_entry ([.ref zs, .int zia, .int zif, .int zin] : List Value) (n := 4) (Nat.le_of_ble_eq_true rfl)
  rw [lg_entry_eq]
  generalize (lg_sl ([.ref zs, .int zia, .int zif, .int zin] : List Value) ++ List.replicate (4 - (lg_sl ([.ref zs, .int zia, .int zif, .int zin] : List Value)).length) Slot.unset).toArray = ls at hl ⊢
  have hl : lv_has ls 4 [(0, .ref zs), (1, .int zia), (2, .int zif), (3, .int zin)] := hl
  refine w_q (fun Q hQ => ?_)
  have h_zI : WM [] AL zT zR zI zI := WM.rf hw
  refine lv_aload_n hx hb dX7_refusal_0 rfl (lv_at hl 0 rfl) ?_
  refine ht_geti (C := RX7) (T := TX7) (N := 4) hx hb hts (by decide +kernel) hown hK hP hs t_zs (by decide) rfl rfl 3 (by decide) (hts (.fieldLink RX7 15 "DripStone$Sheet" "there" "Z") (by decide +kernel)) (fun _ h9 => h9) rfl dX7_refusal_1 ?_
  refine lv_topi (fun zi_1 ezi_1 => ?_)
  have tzi_1 : 0 ≤ zi_1.toInt ∧ zi_1.toInt ≤ 1 := by rw [ezi_1]; exact h_zI.at t_zs _ rfl
  have lzi_1 : (zI zs 3).toInt = zi_1.toInt := by rw [ezi_1]
  refine lv_if_ne (tgt := 10) hx hb dX7_refusal_4 (by decide) (fun c_2 => ?_) (fun c_2 => ?_)
  · have f_3 : zi_1.toInt ≠ 0 := ic_ne (rfl) (by decide) c_2
    refine lv_aload_n hx hb dX7_refusal_10 rfl (lv_at hl 0 rfl) ?_
    refine ht_geti (C := RX7) (T := TX7) (N := 4) hx hb hts (by decide +kernel) hown hK hP hs t_zs (by decide) rfl rfl 1 (by decide) (hts (.fieldLink RX7 19 "DripStone$Sheet" "lane" "I") (by decide +kernel)) (fun _ h9 => h9) rfl dX7_refusal_11 ?_
    refine lv_topi (fun zi_4 ezi_4 => ?_)
    have tzi_4 : 0 ≤ zi_4.toInt ∧ zi_4.toInt ≤ 2 := by rw [ezi_4]; exact h_zI.at t_zs _ rfl
    have lzi_4 : (zI zs 1).toInt = zi_4.toInt := by rw [ezi_4]
    refine lv_iload_n hx hb dX7_refusal_14 rfl (lv_at hl 1 rfl) ?_
    refine lv_icmp_eq (tgt := 21) hx hb dX7_refusal_15 (by decide) (fun c_5 => ?_) (fun c_5 => ?_)
    · have f_6 : zi_4.toInt = zia.toInt := ic_eq (rfl) (rfl) c_5
      refine lv_iload_n hx hb dX7_refusal_21 rfl (lv_at hl 2 rfl) ?_
      refine lv_if_lt (tgt := 35) hx hb dX7_refusal_22 (by decide) (fun c_7 => ?_) (fun c_7 => ?_)
      · have f_8 : zif.toInt < 0 := ic_lt (rfl) (by decide) c_7
        refine lv_bipush (v := (-13)) hx hb dX7_refusal_35 (by decide) ?_
        refine lv_goto (tgt := 41) hx hb dX7_refusal_37 (by decide) ?_
        subst hQ
        have qc_m13 : (-13 : Int32).toInt = -13 := by decide
        exact W.iret (v := (-13 : Int32)) hx hb hr (fun t ht hW => ⟨⟨(-13 : Int32), (), rfl, ⟨(show (-13) ≤ (-13 : Int32).toInt ∧ (-13 : Int32).toInt ≤ 0 from by omega), (show ¬ ((-13 : Int32).toInt = 0) ∨ (0 ≤ zif.toInt ∧ zif.toInt ≤ 24) from by omega), (show ¬ ((-13 : Int32).toInt = 0) ∨ zif.toInt + zin.toInt ≤ 24 from by omega), (show (-13 : Int32).toInt = RFS (zI zs 3).toInt (zI zs 1).toInt (zI zs 2).toInt zia.toInt zif.toInt zin.toInt from (by have qv9 := (show ((-13) : Int32).toInt = -13 from by decide); unfold RFS; split <;> first | omega | (split <;> first | omega | (split <;> omega))))⟩, ⟨by rw [ht]; exact hP, va_K.moved hW.alike hK, hD⟩⟩, hS.F ht⟩) hS.2.2 dX7_refusal_41
      · have f_8 : ¬ (zif.toInt < 0) := ic_nlt (rfl) (by decide) c_7
        refine lv_iload_n hx hb dX7_refusal_25 rfl (lv_at hl 2 rfl) ?_
        refine lv_aload_n hx hb dX7_refusal_26 rfl (lv_at hl 0 rfl) ?_
        refine ht_geti (C := RX7) (T := TX7) (N := 4) hx hb hts (by decide +kernel) hown hK hP hs t_zs (by decide) rfl rfl 2 (by decide) (hts (.fieldLink RX7 23 "DripStone$Sheet" "size" "I") (by decide +kernel)) (fun _ h9 => h9) rfl dX7_refusal_27 ?_
        refine lv_topi (fun zi_9 ezi_9 => ?_)
        have tzi_9 : 0 ≤ zi_9.toInt ∧ zi_9.toInt ≤ 24 := by rw [ezi_9]; exact h_zI.at t_zs _ rfl
        have lzi_9 : (zI zs 2).toInt = zi_9.toInt := by rw [ezi_9]
        refine lv_iload_n hx hb dX7_refusal_30 rfl (lv_at hl 3 rfl) ?_
        refine lv_isub hx hb dX7_refusal_31 ?_
        refine lv_topi (fun zi_10 ezi_10 => ?_)
        have tzi_10 : zi_10.toInt = zi_9.toInt - zin.toInt := by rw [ezi_10]; exact tisub (rfl) (rfl) (by omega) (by omega)
        refine lv_icmp_le (tgt := 40) hx hb dX7_refusal_32 (by decide) (fun c_11 => ?_) (fun c_11 => ?_)
        · have f_12 : zif.toInt ≤ zi_10.toInt := ic_le (rfl) (rfl) c_11
          refine lv_iconst (v := 0) hx hb dX7_refusal_40 (by decide) ?_
          subst hQ
          have qc_0 : (0 : Int32).toInt = 0 := by decide
          exact W.iret (v := (0 : Int32)) hx hb hr (fun t ht hW => ⟨⟨(0 : Int32), (), rfl, ⟨(show (-13) ≤ (0 : Int32).toInt ∧ (0 : Int32).toInt ≤ 0 from by omega), (show ¬ ((0 : Int32).toInt = 0) ∨ (0 ≤ zif.toInt ∧ zif.toInt ≤ 24) from by omega), (show ¬ ((0 : Int32).toInt = 0) ∨ zif.toInt + zin.toInt ≤ 24 from by omega), (show (0 : Int32).toInt = RFS (zI zs 3).toInt (zI zs 1).toInt (zI zs 2).toInt zia.toInt zif.toInt zin.toInt from (by have qv9 := (show (0 : Int32).toInt = 0 from by decide); unfold RFS; split <;> first | omega | (split <;> first | omega | (split <;> omega))))⟩, ⟨by rw [ht]; exact hP, va_K.moved hW.alike hK, hD⟩⟩, hS.F ht⟩) hS.2.2 dX7_refusal_41
        · have f_12 : ¬ (zif.toInt ≤ zi_10.toInt) := ic_nle (rfl) (rfl) c_11
          refine lv_bipush (v := (-13)) hx hb dX7_refusal_35 (by decide) ?_
          refine lv_goto (tgt := 41) hx hb dX7_refusal_37 (by decide) ?_
          subst hQ
          have qc_m13 : (-13 : Int32).toInt = -13 := by decide
          exact W.iret (v := (-13 : Int32)) hx hb hr (fun t ht hW => ⟨⟨(-13 : Int32), (), rfl, ⟨(show (-13) ≤ (-13 : Int32).toInt ∧ (-13 : Int32).toInt ≤ 0 from by omega), (show ¬ ((-13 : Int32).toInt = 0) ∨ (0 ≤ zif.toInt ∧ zif.toInt ≤ 24) from by omega), (show ¬ ((-13 : Int32).toInt = 0) ∨ zif.toInt + zin.toInt ≤ 24 from by omega), (show (-13 : Int32).toInt = RFS (zI zs 3).toInt (zI zs 1).toInt (zI zs 2).toInt zia.toInt zif.toInt zin.toInt from (by have qv9 := (show ((-13) : Int32).toInt = -13 from by decide); unfold RFS; split <;> first | omega | (split <;> first | omega | (split <;> omega))))⟩, ⟨by rw [ht]; exact hP, va_K.moved hW.alike hK, hD⟩⟩, hS.F ht⟩) hS.2.2 dX7_refusal_41
    · have f_6 : ¬ (zi_4.toInt = zia.toInt) := ic_neq (rfl) (rfl) c_5
      refine lv_bipush (v := (-12)) hx hb dX7_refusal_18 (by decide) ?_
      subst hQ
      have qc_m12 : (-12 : Int32).toInt = -12 := by decide
      exact W.iret (v := (-12 : Int32)) hx hb hr (fun t ht hW => ⟨⟨(-12 : Int32), (), rfl, ⟨(show (-13) ≤ (-12 : Int32).toInt ∧ (-12 : Int32).toInt ≤ 0 from by omega), (show ¬ ((-12 : Int32).toInt = 0) ∨ (0 ≤ zif.toInt ∧ zif.toInt ≤ 24) from by omega), (show ¬ ((-12 : Int32).toInt = 0) ∨ zif.toInt + zin.toInt ≤ 24 from by omega), (show (-12 : Int32).toInt = RFS (zI zs 3).toInt (zI zs 1).toInt (zI zs 2).toInt zia.toInt zif.toInt zin.toInt from (by have qv9 := (show ((-12) : Int32).toInt = -12 from by decide); unfold RFS; split <;> first | omega | (split <;> first | omega | (split <;> omega))))⟩, ⟨by rw [ht]; exact hP, va_K.moved hW.alike hK, hD⟩⟩, hS.F ht⟩) hS.2.2 dX7_refusal_20
  · have f_3 : ¬ (zi_1.toInt ≠ 0) := ic_nne (rfl) (by decide) c_2
    refine lv_bipush (v := (-11)) hx hb dX7_refusal_7 (by decide) ?_
    subst hQ
    have qc_m11 : (-11 : Int32).toInt = -11 := by decide
    exact W.iret (v := (-11 : Int32)) hx hb hr (fun t ht hW => ⟨⟨(-11 : Int32), (), rfl, ⟨(show (-13) ≤ (-11 : Int32).toInt ∧ (-11 : Int32).toInt ≤ 0 from by omega), (show ¬ ((-11 : Int32).toInt = 0) ∨ (0 ≤ zif.toInt ∧ zif.toInt ≤ 24) from by omega), (show ¬ ((-11 : Int32).toInt = 0) ∨ zif.toInt + zin.toInt ≤ 24 from by omega), (show (-11 : Int32).toInt = RFS (zI zs 3).toInt (zI zs 1).toInt (zI zs 2).toInt zia.toInt zif.toInt zin.toInt from (by have qv9 := (show ((-11) : Int32).toInt = -11 from by decide); unfold RFS; split <;> first | omega | (split <;> first | omega | (split <;> omega))))⟩, ⟨by rw [ht]; exact hP, va_K.moved hW.alike hK, hD⟩⟩, hS.F ht⟩) hS.2.2 dX7_refusal_9
set_option maxHeartbeats 8000000 in
set_option maxRecDepth 100000 in
theorem t_X7_write (l : Launch) (dC : Nat → ClassId) (dI : Nat → Nat → Nat) (cy : Nat → ClassId) (sz : Nat) (zL : List Nat) (zT : Nat → Nat) (zR : Nat → Nat → Nat) (zI : Nat → Nat → Int32) (zJ : Nat → Nat → Int64) (zs : Nat) (zia : Int32) (zib : Int32) (hs : SKP zL zT zR) (hw : WT zT zR zI) (t_zs : zT zs = 8) (b_zia : 0 ≤ zia.toInt ∧ zia.toInt ≤ 23) : Met l yX7_write wsX7_write ({ frames := 0, cells := 0, slots := 0, locals := 0 } : Room) (va_Pc [.ref zs, .int zia, .int zib] (PRE dC dI cy (WL cy zL zT zR zI zJ) sz)) (va_Qv (fun (u : (Nat → Nat → Int32)) => (WM [3600] AL zT zR zI u) ∧ (WRT zT zI u (zR zs 0) zia.toNatClampNeg (NAR (zI zs 1).toInt zib))) (fun u t => POST dC dI cy (va_A (WL cy zL zT zR zI zJ) sz) (WL cy zL zT zR u zJ) t) (va_A (WL cy zL zT zR zI zJ) sz)) 0 0 (va_A (WL cy zL zT zR zI zJ) sz) := by
  refine Met.ofW (cc := cX7_write) (maxL := 3) (ret := none) (by decide) rfl ?_
  intro p e s m args below meth c s₁ B hml hv
  obtain ⟨rfl, hsz, hP, hK, hD0, hN⟩ := hv
  have hx := B.exec
  have hb := B.bytes
  have hr := B.returns
  have hts := atoms_spec (ws := wsX7_write) B.pre
  have hown : s.vm.findClass RX7 = some m.cls := findClass_of_methodNamed B.named
  have hlocks := B.notSynchronized
  subst hsz
  have hD := hD0.self (sz := s.heap.size)
  generalize hAe : va_A (WL cy zL zT zR zI zJ) s.heap.size = A at hD ⊢
  have hA : ∀ q : Nat, s.heap.size ≤ q → A q := fun q h => by rw [← hAe]; exact Or.inr h
  have hS : va_S A s.heap s.heap [] := va_S.rf
  have hP : va_P (dC, dI) vwCl (WL cy zL zT zR zI zJ) s.heap := hP
  have hl := lv_entry ([.ref zs, .int zia, .int zib] : List Value) (n := 3) (Nat.le_of_ble_eq_true rfl)
  rw [lg_entry_eq]
  generalize (lg_sl ([.ref zs, .int zia, .int zib] : List Value) ++ List.replicate (3 - (lg_sl ([.ref zs, .int zia, .int zib] : List Value)).length) Slot.unset).toArray = ls at hl ⊢
  have hl : lv_has ls 3 [(0, .ref zs), (1, .int zia), (2, .int zib)] := hl
  refine w_q (fun Q hQ => ?_)
  have h_zI : WM [3600] AL zT zR zI zI := WM.rf hw
  refine lv_aload_n hx hb dX7_write_0 rfl (lv_at hl 0 rfl) ?_
  refine ht_getr (C := RX7) (T := TX7) (N := 4) hx hb hts (by decide +kernel) hown hK hP hs t_zs (by decide) rfl rfl 0 (by decide) (hts (.fieldLink RX7 9 "DripStone$Sheet" "items" "[I") (by decide +kernel)) (fun _ h9 => h9) rfl dX7_write_1 ?_
  have t_1 : zT (zR zs 0) = 36 := sk_f hs t_zs (by decide) rfl (by decide)
  refine lv_iload_n hx hb dX7_write_4 rfl (lv_at hl 1 rfl) ?_
  refine lv_aload_n hx hb dX7_write_5 rfl (lv_at hl 0 rfl) ?_
  refine ht_geti (C := RX7) (T := TX7) (N := 4) hx hb hts (by decide +kernel) hown hK hP hs t_zs (by decide) rfl rfl 1 (by decide) (hts (.fieldLink RX7 19 "DripStone$Sheet" "lane" "I") (by decide +kernel)) (fun _ h9 => h9) rfl dX7_write_6 ?_
  refine lv_topi (fun zi_2 ezi_2 => ?_)
  have tzi_2 : 0 ≤ zi_2.toInt ∧ zi_2.toInt ≤ 2 := by rw [ezi_2]; exact h_zI.at t_zs _ rfl
  have lzi_2 : (zI zs 1).toInt = zi_2.toInt := by rw [ezi_2]
  refine lv_if_ne (tgt := 17) hx hb dX7_write_9 (by decide) (fun c_3 => ?_) (fun c_3 => ?_)
  · have f_4 : zi_2.toInt ≠ 0 := ic_ne (rfl) (by decide) c_3
    refine lv_aload_n hx hb dX7_write_17 rfl (lv_at hl 0 rfl) ?_
    refine ht_geti (C := RX7) (T := TX7) (N := 4) hx hb hts (by decide +kernel) hown hK hP hs t_zs (by decide) rfl rfl 1 (by decide) (hts (.fieldLink RX7 19 "DripStone$Sheet" "lane" "I") (by decide +kernel)) (fun _ h9 => h9) rfl dX7_write_18 ?_
    refine lv_topi (fun zi_5 ezi_5 => ?_)
    obtain rfl : zi_2 = zi_5 := (ezi_5.trans ezi_2.symm).symm
    refine lv_iconst (v := 1) hx hb dX7_write_21 (by decide) ?_
    refine lv_icmp_ne (tgt := 30) hx hb dX7_write_22 (by decide) (fun c_6 => ?_) (fun c_6 => ?_)
    · have f_7 : zi_2.toInt ≠ (1 : Int) := ic_ne (rfl) (show (1 : Int32).toInt = 1 by decide) c_6
      refine lv_iload_n hx hb dX7_write_30 rfl (lv_at hl 2 rfl) ?_
      refine ht_iast (v := zib) (n := 24) (q := 0) hx hb hK hP hD hS hs t_1 (by decide) rfl rfl ⟨by omega, by omega⟩ dX7_write_31 (fun H locs hP hD hS => ?_)
      have h_zI_8 : WM [3600] AL zT zR zI (u2 zI (zR zs 0) zia.toNatClampNeg zib) := h_zI.putA hs t_1 rfl (rgF _) (by decide) (fun h => absurd h (by decide)) (by decide) trivial
      generalize uzI_8 : u2 zI (zR zs 0) zia.toNatClampNeg zib = zI_8 at hP hD h_zI_8
      subst hQ
      exact W.vret hx hb hr (fun t ht hW => ⟨⟨zI_8, rfl, ⟨h_zI_8, (show WRT zT zI zI_8 (zR zs 0) zia.toNatClampNeg (NAR (zI zs 1).toInt zib) from ⟨by rw [← uzI_8, u2_s]; unfold NAR; rw [if_neg (by omega), if_neg (by omega)], fun b9 j9 tb9 h9 => by rw [← uzI_8]; exact if_neg h9⟩)⟩, ⟨by rw [ht]; exact hP, va_K.moved hW.alike hK, hD⟩⟩, hS.F ht⟩) hS.2.2 dX7_write_32
    · have f_7 : ¬ (zi_2.toInt ≠ (1 : Int)) := ic_nne (rfl) (show (1 : Int32).toInt = 1 by decide) c_6
      refine lv_iload_n hx hb dX7_write_25 rfl (lv_at hl 2 rfl) ?_
      refine lv_i2s (v := zib.toInt16.toInt32) hx hb dX7_write_26 rfl ?_
      refine lv_topi (fun zi_9 ezi_9 => ?_)
      refine lv_goto (tgt := 31) hx hb dX7_write_27 (by decide) ?_
      refine ht_iast (v := zi_9) (n := 24) (q := 0) hx hb hK hP hD hS hs t_1 (by decide) rfl rfl ⟨by omega, by omega⟩ dX7_write_31 (fun H locs hP hD hS => ?_)
      have h_zI_10 : WM [3600] AL zT zR zI (u2 zI (zR zs 0) zia.toNatClampNeg zi_9) := h_zI.putA hs t_1 rfl (rgF _) (by decide) (fun h => absurd h (by decide)) (by decide) trivial
      generalize uzI_10 : u2 zI (zR zs 0) zia.toNatClampNeg zi_9 = zI_10 at hP hD h_zI_10
      subst hQ
      exact W.vret hx hb hr (fun t ht hW => ⟨⟨zI_10, rfl, ⟨h_zI_10, (show WRT zT zI zI_10 (zR zs 0) zia.toNatClampNeg (NAR (zI zs 1).toInt zib) from ⟨by rw [← uzI_10, u2_s]; unfold NAR; rw [if_neg (by omega), if_pos (by omega)]; exact ezi_9, fun b9 j9 tb9 h9 => by rw [← uzI_10]; exact if_neg h9⟩)⟩, ⟨by rw [ht]; exact hP, va_K.moved hW.alike hK, hD⟩⟩, hS.F ht⟩) hS.2.2 dX7_write_32
  · have f_4 : ¬ (zi_2.toInt ≠ 0) := ic_nne (rfl) (by decide) c_3
    refine lv_iload_n hx hb dX7_write_12 rfl (lv_at hl 2 rfl) ?_
    refine lv_i2b (v := zib.toInt8.toInt32) hx hb dX7_write_13 rfl ?_
    refine lv_topi (fun zi_11 ezi_11 => ?_)
    refine lv_goto (tgt := 31) hx hb dX7_write_14 (by decide) ?_
    refine ht_iast (v := zi_11) (n := 24) (q := 0) hx hb hK hP hD hS hs t_1 (by decide) rfl rfl ⟨by omega, by omega⟩ dX7_write_31 (fun H locs hP hD hS => ?_)
    have h_zI_12 : WM [3600] AL zT zR zI (u2 zI (zR zs 0) zia.toNatClampNeg zi_11) := h_zI.putA hs t_1 rfl (rgF _) (by decide) (fun h => absurd h (by decide)) (by decide) trivial
    generalize uzI_12 : u2 zI (zR zs 0) zia.toNatClampNeg zi_11 = zI_12 at hP hD h_zI_12
    subst hQ
    exact W.vret hx hb hr (fun t ht hW => ⟨⟨zI_12, rfl, ⟨h_zI_12, (show WRT zT zI zI_12 (zR zs 0) zia.toNatClampNeg (NAR (zI zs 1).toInt zib) from ⟨by rw [← uzI_12, u2_s]; unfold NAR; rw [if_pos (by omega)]; exact ezi_11, fun b9 j9 tb9 h9 => by rw [← uzI_12]; exact if_neg h9⟩)⟩, ⟨by rw [ht]; exact hP, va_K.moved hW.alike hK, hD⟩⟩, hS.F ht⟩) hS.2.2 dX7_write_32
set_option maxHeartbeats 8000000 in
set_option maxRecDepth 100000 in
theorem t_X7_begin (l : Launch) (dC : Nat → ClassId) (dI : Nat → Nat → Nat) (cy : Nat → ClassId) (sz : Nat) (zL : List Nat) (zT : Nat → Nat) (zR : Nat → Nat → Nat) (zI : Nat → Nat → Int32) (zJ : Nat → Nat → Int64) (zs : Nat) (zia : Int32) (zib : Int32) (hs : SKP zL zT zR) (hw : WT zT zR zI) (t_zs : zT zs = 8) (b_zia : 0 ≤ zia.toInt ∧ zia.toInt ≤ 2) (b_zib : 0 ≤ zib.toInt ∧ zib.toInt ≤ 24) : Met l yX7_begin wsX7_begin ({ frames := 1, cells := 0, slots := 0, locals := 23 } : Room) (va_Pc [.ref zs, .int zia, .int zib] (PRE dC dI cy (WL cy zL zT zR zI zJ) sz)) (va_Qv (fun (u : (Nat → Nat → Int32)) => (WM [801, 802, 803, 3600] AL zT zR zI u) ∧ ((u zs 1).toInt = zia.toInt) ∧ ((u zs 2).toInt = zib.toInt) ∧ ((u zs 3).toInt = 1) ∧ (OTH zT zI u zs) ∧ (FZW zT zI u (zR zs 0))) (fun u t => POST dC dI cy (va_A (WL cy zL zT zR zI zJ) sz) (WL cy zL zT zR u zJ) t) (va_A (WL cy zL zT zR zI zJ) sz)) 0 0 (va_A (WL cy zL zT zR zI zJ) sz) := by
  refine Met.ofW (cc := cX7_begin) (maxL := 3) (ret := none) (by decide) rfl ?_
  intro p e s m args below meth c s₁ B hml hv
  obtain ⟨rfl, hsz, hP, hK, hD0, hN⟩ := hv
  have hx := B.exec
  have hb := B.bytes
  have hr := B.returns
  have hts := atoms_spec (ws := wsX7_begin) B.pre
  have hown : s.vm.findClass RX7 = some m.cls := findClass_of_methodNamed B.named
  have hlocks := B.notSynchronized
  subst hsz
  have hD := hD0.self (sz := s.heap.size)
  generalize hAe : va_A (WL cy zL zT zR zI zJ) s.heap.size = A at hD ⊢
  have hA : ∀ q : Nat, s.heap.size ≤ q → A q := fun q h => by rw [← hAe]; exact Or.inr h
  have hS : va_S A s.heap s.heap [] := va_S.rf
  have hP : va_P (dC, dI) vwCl (WL cy zL zT zR zI zJ) s.heap := hP
  have hl := lv_entry ([.ref zs, .int zia, .int zib] : List Value) (n := 3) (Nat.le_of_ble_eq_true rfl)
  rw [lg_entry_eq]
  generalize (lg_sl ([.ref zs, .int zia, .int zib] : List Value) ++ List.replicate (3 - (lg_sl ([.ref zs, .int zia, .int zib] : List Value)).length) Slot.unset).toArray = ls at hl ⊢
  have hl : lv_has ls 3 [(0, .ref zs), (1, .int zia), (2, .int zib)] := hl
  refine w_q (fun Q hQ => ?_)
  have h_zI : WM [801, 802, 803, 3600] AL zT zR zI zI := WM.rf hw
  refine lv_aload_n hx hb dX7_begin_0 rfl (lv_at hl 0 rfl) ?_
  refine lv_iconst (v := 1) hx hb dX7_begin_1 (by decide) ?_
  refine ht_puti (v := (1 : Int32)) (ty := .boolean) (C := RX7) (T := TX7) (N := 4) hx hb hts (by decide +kernel) tyX7 tyX7_ok nmX7 hown hK hP hD hS hs t_zs (by decide) rfl rfl 3 (by decide) (hts (.fieldLink RX7 15 "DripStone$Sheet" "there" "Z") (by decide +kernel)) (fun _ h9 => h9) rfl (by decide +kernel) rfl rfl rfl dX7_begin_2 (fun H locs hP hD hS => ?_)
  have h_zI_1 : WM [801, 802, 803, 3600] AL zT zR zI (u2 zI zs 3 (1 : Int32)) := h_zI.put hs t_zs rfl (by decide) (by decide) (fun h => absurd h (by decide)) (by decide) trivial
  generalize uzI_1 : u2 zI zs 3 (1 : Int32) = zI_1 at hP hD h_zI_1
  refine lv_aload_n hx hb dX7_begin_5 rfl (lv_at hl 0 rfl) ?_
  refine lv_iload_n hx hb dX7_begin_6 rfl (lv_at hl 1 rfl) ?_
  refine ht_puti (v := zia) (ty := .int) (C := RX7) (T := TX7) (N := 4) hx hb hts (by decide +kernel) tyX7 tyX7_ok nmX7 hown hK hP hD hS hs t_zs (by decide) rfl rfl 1 (by decide) (hts (.fieldLink RX7 19 "DripStone$Sheet" "lane" "I") (by decide +kernel)) (fun _ h9 => h9) rfl (by decide +kernel) rfl rfl rfl dX7_begin_7 (fun H locs hP hD hS => ?_)
  have h_zI_2 : WM [801, 802, 803, 3600] AL zT zR zI (u2 zI_1 zs 1 zia) := h_zI_1.put hs t_zs rfl (by omega) (by decide) (fun h => absurd h (by decide)) (by decide) trivial
  generalize uzI_2 : u2 zI_1 zs 1 zia = zI_2 at hP hD h_zI_2
  refine lv_aload_n hx hb dX7_begin_10 rfl (lv_at hl 0 rfl) ?_
  refine lv_iload_n hx hb dX7_begin_11 rfl (lv_at hl 2 rfl) ?_
  refine ht_puti (v := zib) (ty := .int) (C := RX7) (T := TX7) (N := 4) hx hb hts (by decide +kernel) tyX7 tyX7_ok nmX7 hown hK hP hD hS hs t_zs (by decide) rfl rfl 2 (by decide) (hts (.fieldLink RX7 23 "DripStone$Sheet" "size" "I") (by decide +kernel)) (fun _ h9 => h9) rfl (by decide +kernel) rfl rfl rfl dX7_begin_12 (fun H locs hP hD hS => ?_)
  have h_zI_3 : WM [801, 802, 803, 3600] AL zT zR zI (u2 zI_2 zs 2 zib) := h_zI_2.put hs t_zs rfl (by omega) (by decide) (fun h => absurd h (by decide)) (by decide) trivial
  generalize uzI_3 : u2 zI_2 zs 2 zib = zI_3 at hP hD h_zI_3
  refine lv_aload_n hx hb dX7_begin_15 rfl (lv_at hl 0 rfl) ?_
  refine ht_getr (C := RX7) (T := TX7) (N := 4) hx hb hts (by decide +kernel) hown hK hP hs t_zs (by decide) rfl rfl 0 (by decide) (hts (.fieldLink RX7 9 "DripStone$Sheet" "items" "[I") (by decide +kernel)) (fun _ h9 => h9) rfl dX7_begin_16 ?_
  have t_4 : zT (zR zs 0) = 36 := sk_f hs t_zs (by decide) rfl (by decide)
  refine lv_iconst (v := 0) hx hb dX7_begin_19 (by decide) ?_
  refine hj_v (ws := (WL cy zL zT zR zI_3 zJ)) (w1 := fun (u : (Nat → Nat → Int32)) => (WL cy zL zT zR u zJ)) (va_runS (As := [.ref (zR zs 0), .int 0]) (rest := []) ⟨hx, hb, hml, hown, hts⟩ (t_J7_fill_53178 l dC dI cy H.size zL zT zR zI_3 zJ (zR zs 0) hs h_zI_3.1 t_4) (va_cwS 2 hts gX7_begin_J7_fill_53178 rfl rfl rfl (by decide +kernel) ⟨(Nat.le_of_ble_eq_true rfl), (Nat.le_of_ble_eq_true rfl)⟩) (PRE.s hP hK hD hN) rfl rfl hl.1 rfl (lv_room (Nat.le_of_ble_eq_true rfl)) dX7_begin_20 ⟨(Nat.le_of_ble_eq_true rfl), (Nat.le_of_ble_eq_true rfl)⟩) hP hD hS hA (fun zI_8 H locs hw_6 hP hD hS => ?_)
  obtain ⟨k_zI_8, ps_9⟩ : (WM [3600] AL zT zR zI_3 zI_8) ∧ (FZ zI_3 zI_8 (zR zs 0) 24) := hw_6
  have h_zI_8 : WM [801, 802, 803, 3600] AL zT zR zI zI_8 := h_zI_3.tr k_zI_8 (by decide) (fun _ _ => trivial)
  subst hQ
  exact W.vret hx hb hr (fun t ht hW => ⟨⟨zI_8, rfl, ⟨h_zI_8, (show (zI_8 zs 1).toInt = zia.toInt from (congrArg Int32.toInt (show zI_8 zs 1 = zia from ((k_zI_8.2 zs 1 (Or.inl (by rw [t_zs]; decide))).trans ((show zI_3 zs 1 = zI_2 zs 1 from by rw [← uzI_3]; exact u2_k (by decide)).trans (by rw [← uzI_2]; exact u2_s)))))), (show (zI_8 zs 2).toInt = zib.toInt from (congrArg Int32.toInt (show zI_8 zs 2 = zib from ((k_zI_8.2 zs 2 (Or.inl (by rw [t_zs]; decide))).trans (by rw [← uzI_3]; exact u2_s))))), (show (zI_8 zs 3).toInt = 1 from (by rw [show zI_8 zs 3 = (1 : Int32) from ((k_zI_8.2 zs 3 (Or.inl (by rw [t_zs]; decide))).trans ((show zI_3 zs 3 = zI_2 zs 3 from by rw [← uzI_3]; exact u2_k (by decide)).trans ((show zI_2 zs 3 = zI_1 zs 3 from by rw [← uzI_2]; exact u2_k (by decide)).trans (by rw [← uzI_1]; exact u2_s))))]; decide)), (show OTH zT zI zI_8 zs from (fun a9 ta9 ha9 => ⟨((k_zI_8.2 a9 1 (Or.inl (by rw [ta9]; decide))).trans ((show zI_3 a9 1 = zI_2 a9 1 from by rw [← uzI_3]; exact u2_n ha9).trans ((show zI_2 a9 1 = zI_1 a9 1 from by rw [← uzI_2]; exact u2_n ha9).trans ((show zI_1 a9 1 = zI a9 1 from by rw [← uzI_1]; exact u2_n ha9).trans rfl)))), ((k_zI_8.2 a9 2 (Or.inl (by rw [ta9]; decide))).trans ((show zI_3 a9 2 = zI_2 a9 2 from by rw [← uzI_3]; exact u2_n ha9).trans ((show zI_2 a9 2 = zI_1 a9 2 from by rw [← uzI_2]; exact u2_n ha9).trans ((show zI_1 a9 2 = zI a9 2 from by rw [← uzI_1]; exact u2_n ha9).trans rfl)))), ((k_zI_8.2 a9 3 (Or.inl (by rw [ta9]; decide))).trans ((show zI_3 a9 3 = zI_2 a9 3 from by rw [← uzI_3]; exact u2_n ha9).trans ((show zI_2 a9 3 = zI_1 a9 3 from by rw [← uzI_2]; exact u2_n ha9).trans ((show zI_1 a9 3 = zI a9 3 from by rw [← uzI_1]; exact u2_n ha9).trans rfl))))⟩)), (show FZW zT zI zI_8 (zR zs 0) from (FZW.mk9 ps_9 (fun b9 tb9 => ((show zI_3 b9 = zI_2 b9 from by rw [← uzI_3]; exact u2_a (tne tb9 t_zs (by decide))).trans ((show zI_2 b9 = zI_1 b9 from by rw [← uzI_2]; exact u2_a (tne tb9 t_zs (by decide))).trans ((show zI_1 b9 = zI b9 from by rw [← uzI_1]; exact u2_a (tne tb9 t_zs (by decide))).trans rfl))))))⟩, ⟨by rw [ht]; exact hP, va_K.moved hW.alike hK, hD⟩⟩, hS.F ht⟩) hS.2.2 dX7_begin_23
