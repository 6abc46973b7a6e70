set_option maxHeartbeats 8000000 in
set_option maxRecDepth 100000 in
theorem t_X11_keepFirst (l : Launch) (dC : Nat → ClassId) (dI : Nat → Nat → Nat) (cy : Nat → ClassId) (sz : Nat) (zL : List Nat) (zT : Nat → Nat) (zR : Nat → Nat → Nat) (zI : Nat → Nat → Int32) (zJ : Nat → Nat → Int64) (zy : Nat) (hs : SKP zL zT zR) (hw : WT zT zR zI) (t_zy : zT zy = 18) (hz : ZI (zI (zR zy 0))) : Met l yX11_keepFirst wsX11_keepFirst ({ frames := 5, cells := 0, slots := 0, locals := 114 } : Room) (va_Pc [.ref zy] (PRE dC dI cy (WL cy zL zT zR zI zJ) sz)) (va_Qv (fun (u : (Nat → Nat → Int32) × (Nat → Nat → Int64)) => (WM [1806, 1807, 1819, 10300, 10400, 10500, 10600, 10700, 10800] AL zT zR zI u.1) ∧ (PO (zI (zR zy 0)) (u.1 (zR zy 8)) (0 : Int32).toInt (u.1 zy 6).toInt) ∧ (0 ≤ (u.2 zy 20).toInt ∧ (u.2 zy 20).toInt ≤ 1000000000)) (fun u t => POST dC dI cy (va_A (WL cy zL zT zR zI zJ) sz) (WL cy zL zT zR u.1 u.2) t) (va_A (WL cy zL zT zR zI zJ) sz)) 0 0 (va_A (WL cy zL zT zR zI zJ) sz) := by
  refine Met.ofW (cc := cX11_keepFirst) (maxL := 3) (ret := none) (by decide) rfl ?_
  intro p e s m args below meth c s₁ B hml hv
  obtain ⟨rfl, hsz, hP, hK, hD0, hN⟩ := hv
  have hx := B.exec
  have hb := B.bytes
  have hr := B.returns
  have hts := atoms_spec (ws := wsX11_keepFirst) B.pre
  have hown : s.vm.findClass RX11 = some m.cls := findClass_of_methodNamed B.named
  have hlocks := B.notSynchronized
  subst hsz
  have hD := hD0.self (sz := s.heap.size)
  generalize hAe : va_A (WL cy zL zT zR zI zJ) s.heap.size = A at hD ⊢
  have hA : ∀ q : Nat, s.heap.size ≤ q → A q := fun q h => by rw [← hAe]; exact Or.inr h
  have hS : va_S A s.heap s.heap [] := va_S.rf
  have hP : va_P (dC, dI) vwCl (WL cy zL zT zR zI zJ) s.heap := hP
  have hl := lv_entry ([.ref zy] : List Value) (n := 3) (Nat.le_of_ble_eq_true rfl)
  rw [lg_entry_eq]
  generalize (lg_sl ([.ref zy] : List Value) ++ List.replicate (3 - (lg_sl ([.ref zy] : List Value)).length) Slot.unset).toArray = ls at hl ⊢
  have hl : lv_has ls 3 [(0, .ref zy)] := hl
  refine w_q (fun Q hQ => ?_)
  have h_zI : WM [1806, 1807, 1819, 10300, 10400, 10500, 10600, 10700, 10800] AL zT zR zI zI := WM.rf hw
  refine lv_aload_n hx hb dX11_keepFirst_0 rfl (lv_at hl 0 rfl) ?_
  refine lv_iconst (v := 0) hx hb dX11_keepFirst_1 (by decide) ?_
  have qc_0 : (0 : Int32).toInt = 0 := by decide
  refine hj_v (ws := (WL cy zL zT zR zI zJ)) (w1 := fun (u : (Nat → Nat → Int32) × (Nat → Nat → Int64)) => (WL cy zL zT zR u.1 u.2)) (va_runV (As := [.int 0]) (rest := []) ⟨hx, hb, hml, hown, hts⟩ (t_X11_countNow l dC dI cy s.heap.size zL zT zR zI zJ zy (0 : Int32) hs h_zI.1 t_zy (by decide) hz) (cwV 1 hts gX11_keepFirst_X11_countNow rfl rfl rfl (by decide +kernel) ⟨(Nat.le_of_ble_eq_true rfl), (Nat.le_of_ble_eq_true rfl)⟩) (PRE.v hP hK hD hN (ht_recv hK hP hs t_zy (by decide) rfl rfl)) rfl rfl hl.1 rfl (lv_room (Nat.le_of_ble_eq_true rfl)) dX11_keepFirst_2 ⟨(Nat.le_of_ble_eq_true rfl), (Nat.le_of_ble_eq_true rfl)⟩) hP hD hS hA (fun u_3 H locs hw_2 hP hD hS => ?_)
  obtain ⟨zI_4, zJ_5⟩ := u_3
  obtain ⟨k_zI_4, ps_6, ps_7, ps_8, ps_9, ps_10⟩ : (WM [1806, 1807, 10300, 10400, 10500, 10600, 10700] AL zT zR zI zI_4) ∧ (PO (zI (zR zy 0)) (zI_4 (zR zy 8)) (0 : Int32).toInt (zI_4 zy 6).toInt) ∧ ((zI_4 zy 6).toInt = PLZ (zI (zR zy 0)) (0 : Int32).toInt) ∧ (zJ_5 zy 15 = CT zR zI_4 zy) ∧ (0 ≤ (zJ_5 zy 15).toInt ∧ (zJ_5 zy 15).toInt ≤ 1000000000) ∧ (zJ_5 zy 20 = zJ zy 20) := hw_2
  have h_zI_4 : WM [1806, 1807, 1819, 10300, 10400, 10500, 10600, 10700, 10800] AL zT zR zI zI_4 := h_zI.tr k_zI_4 (by decide) (fun _ _ => trivial)
  obtain ⟨zi_11, ezi_11⟩ : ∃ y : Int32, y = zI_4 zy 6 := ⟨_, rfl⟩
  have tzi_11 : 0 ≤ zi_11.toInt ∧ zi_11.toInt ≤ 12 := by rw [ezi_11]; exact h_zI_4.at t_zy _ rfl
  have lzi_11 : (zI_4 zy 6).toInt = zi_11.toInt := by rw [ezi_11]
  have lk_12 : (zI_4 zy 6).toInt = zi_11.toInt := congrArg Int32.toInt ezi_11.symm
  refine lv_aload_n hx hb dX11_keepFirst_5 rfl (lv_at hl 0 rfl) ?_
  refine lv_aload_n hx hb dX11_keepFirst_6 rfl (lv_at hl 0 rfl) ?_
  refine ht_geti (C := RX11) (T := TX11) (N := 28) hx hb hts (by decide +kernel) hown hK hP hs t_zy (by decide) rfl rfl 6 (by decide) (hts (.fieldLink RX11 192 "DripStoneModel" "places" "I") (by decide +kernel)) (fun _ h9 => h9) rfl dX11_keepFirst_7 ?_
  refine lv_topi (fun zi_13 ezi_13 => ?_)
  obtain rfl : zi_11 = zi_13 := (ezi_13.trans ezi_11.symm).symm
  refine ht_puti (v := zi_11) (ty := .int) (C := RX11) (T := TX11) (N := 28) hx hb hts (by decide +kernel) tyX11 tyX11_ok nmX11 hown hK hP hD hS hs t_zy (by decide) rfl rfl 19 (by decide) (hts (.fieldLink RX11 282 "DripStoneModel" "firstPlaces" "I") (by decide +kernel)) (fun _ h9 => h9) rfl (by decide +kernel) rfl rfl rfl dX11_keepFirst_10 (fun H locs hP hD hS => ?_)
  have h_zI_14 : WM [1806, 1807, 1819, 10300, 10400, 10500, 10600, 10700, 10800] AL zT zR zI (u2 zI_4 zy 19 zi_11) := h_zI_4.put hs t_zy rfl (by omega) (by decide) (fun h => absurd h (by decide)) (by decide) trivial
  generalize uzI_14 : u2 zI_4 zy 19 zi_11 = zI_14 at hP hD h_zI_14
  refine lv_aload_n hx hb dX11_keepFirst_13 rfl (lv_at hl 0 rfl) ?_
  refine lv_aload_n hx hb dX11_keepFirst_14 rfl (lv_at hl 0 rfl) ?_
  refine ht_getl (C := RX11) (T := TX11) (N := 28) hx hb hts (by decide +kernel) hown hK hP hs t_zy (by decide) rfl rfl 15 (by decide) (hts (.fieldLink RX11 217 "DripStoneModel" "total" "J") (by decide +kernel)) (fun _ h9 => h9) rfl dX11_keepFirst_15 ?_
  refine lv_topl (fun zj_15 ezj_15 => ?_)
  refine ht_putl (v := zj_15) (ty := .long) (C := RX11) (T := TX11) (N := 28) hx hb hts (by decide +kernel) tyX11 tyX11_ok nmX11 hown hK hP hD hS hs t_zy (by decide) rfl rfl 20 (by decide) (hts (.fieldLink RX11 285 "DripStoneModel" "firstTotal" "J") (by decide +kernel)) (fun _ h9 => h9) rfl (by decide +kernel) rfl rfl rfl dX11_keepFirst_18 (fun H locs hP hD hS => ?_)
  generalize uzJ_16 : u2 zJ_5 zy 20 zj_15 = zJ_16 at hP hD
  have bd_17 : 0 ≤ (zJ_16 zy 20).toInt ∧ (zJ_16 zy 20).toInt ≤ 1000000000 := by rw [← uzJ_16, u2_s, ezj_15]; exact ps_9
  refine lv_iconst (v := 0) hx hb dX11_keepFirst_21 (by decide) ?_
  refine lv_istore_n (lv' := [(1, .int 0), (0, .ref zy)]) hx hb dX11_keepFirst_22 rfl hl (by decide) rfl (fun ls hl => ?_)
  have lp_223 : ∀ (n : Nat) (zi_189 : Int32) (zI_190 : Nat → Nat → Int32) (zJ_191 : Nat → Nat → Int64) (H : Heap) (locs : List Loc) (ls : Array Slot), (12 - zi_189.toInt).toNat = n → (0 ≤ zi_189.toInt ∧ zi_189.toInt ≤ 12) → (WM [1806, 1807, 1819, 10300, 10400, 10500, 10600, 10700, 10800] AL zT zR zI zI_190) → (0 ≤ (zJ_191 zy 20).toInt ∧ (zJ_191 zy 20).toInt ≤ 1000000000) → (PO (zI (zR zy 0)) (zI_190 (zR zy 8)) (0 : Int32).toInt zi_11.toInt) → (ZI (zI_190 (zR zy 0))) → (zI_190 zy 6 = zi_11) → va_P (dC, dI) vwCl (WL cy zL zT zR zI_190 zJ_191) H → va_D A (WL cy zL zT zR zI_190 zJ_191) → va_S A s.heap H locs → lv_has ls 3 [(0, .ref zy), (1, .int zi_189)] → W p l e ({ frames := 5, cells := 0, slots := 0, locals := 114 } : Room) s m ([.ref zy] : List Value).toArray below meth c H locs 0 0 Q (F0 m 23 ls []) := by
    intro n
    induction n using Nat.strongRecOn with
    | _ n ih_223 =>
      intro zi_189 zI_190 zJ_191 H locs ls hn b_zi_189 h_zI_190 e_lp_223_0 e_lp_223_1 e_lp_223_2 e_lp_223_3 hP hD hS hl
      refine lv_iload_n hx hb dX11_keepFirst_23 rfl (lv_at hl 1 rfl) ?_
      refine lv_aload_n hx hb dX11_keepFirst_24 rfl (lv_at hl 0 rfl) ?_
      refine ht_geti (C := RX11) (T := TX11) (N := 28) hx hb hts (by decide +kernel) hown hK hP hs t_zy (by decide) rfl rfl 6 (by decide) (hts (.fieldLink RX11 192 "DripStoneModel" "places" "I") (by decide +kernel)) (fun _ h9 => h9) rfl dX11_keepFirst_25 ?_
      refine lv_topi (fun zi_224 ezi_224 => ?_)
      obtain rfl : zi_11 = zi_224 := (ezi_224.trans e_lp_223_3).symm
      refine lv_icmp_ge (tgt := 80) hx hb dX11_keepFirst_28 (by decide) (fun c_225 => ?_) (fun c_225 => ?_)
      · have f_226 : zi_189.toInt ≥ zi_11.toInt := ic_ge (rfl) (rfl) c_225
        subst hQ
        exact W.vret hx hb hr (fun t ht hW => ⟨⟨(zI_190, zJ_191), rfl, ⟨h_zI_190, (show PO (zI (zR zy 0)) (zI_190 (zR zy 8)) (0 : Int32).toInt (zI_190 zy 6).toInt from (by rw [e_lp_223_3]; exact e_lp_223_1)), (show 0 ≤ (zJ_191 zy 20).toInt ∧ (zJ_191 zy 20).toInt ≤ 1000000000 from e_lp_223_0)⟩, ⟨by rw [ht]; exact hP, va_K.moved hW.alike hK, hD⟩⟩, hS.F ht⟩) hS.2.2 dX11_keepFirst_80
      · have f_226 : ¬ (zi_189.toInt ≥ zi_11.toInt) := ic_nge (rfl) (rfl) c_225
        refine lv_aload_n hx hb dX11_keepFirst_31 rfl (lv_at hl 0 rfl) ?_
        refine ht_getr (C := RX11) (T := TX11) (N := 28) hx hb hts (by decide +kernel) hown hK hP hs t_zy (by decide) rfl rfl 18 (by decide) (hts (.fieldLink RX11 47 "DripStoneModel" "firstThing" "[I") (by decide +kernel)) (fun _ h9 => h9) rfl dX11_keepFirst_32 ?_
        have t_227 : zT (zR zy 18) = 108 := sk_f hs t_zy (by decide) rfl (by decide)
        refine lv_iload_n hx hb dX11_keepFirst_35 rfl (lv_at hl 1 rfl) ?_
        refine lv_aload_n hx hb dX11_keepFirst_36 rfl (lv_at hl 0 rfl) ?_
        refine ht_getr (C := RX11) (T := TX11) (N := 28) hx hb hts (by decide +kernel) hown hK hP hs t_zy (by decide) rfl rfl 8 (by decide) (hts (.fieldLink RX11 19 "DripStoneModel" "placeThing" "[I") (by decide +kernel)) (fun _ h9 => h9) rfl dX11_keepFirst_37 ?_
        have t_228 : zT (zR zy 8) = 103 := sk_f hs t_zy (by decide) rfl (by decide)
        refine lv_iload_n hx hb dX11_keepFirst_40 rfl (lv_at hl 1 rfl) ?_
        refine ht_iald (n := 12) (q := 0) hx hb hK hP hs t_228 (by decide) rfl rfl ⟨by omega, by omega⟩ dX11_keepFirst_41 ?_
        refine lv_topi (fun zi_229 ezi_229 => ?_)
        have tzi_229 : 0 ≤ zi_229.toInt ∧ zi_229.toInt ≤ 11 := by rw [ezi_229]; exact h_zI_190.at t_228 _ rfl
        have la_230 : zi_229.toInt = zA (zI_190 (zR zy 8)) (zi_189.toInt) := (congrArg Int32.toInt (show zI_190 (zR zy 8) zi_189.toNatClampNeg = zi_229 from ezi_229.symm).symm).trans (congrArg (zA (zI_190 (zR zy 8))) (show zi_189.toInt = zi_189.toInt from by omega))
        refine ht_iast (v := zi_229) (n := 12) (q := 0) hx hb hK hP hD hS hs t_227 (by decide) rfl rfl ⟨by omega, by omega⟩ dX11_keepFirst_42 (fun H locs hP hD hS => ?_)
        have h_zI_231 : WM [1806, 1807, 1819, 10300, 10400, 10500, 10600, 10700, 10800] AL zT zR zI (u2 zI_190 (zR zy 18) zi_189.toNatClampNeg zi_229) := h_zI_190.putA hs t_227 rfl (by omega) (by decide) (fun h => absurd h (by decide)) (by decide) trivial
        generalize uzI_231 : u2 zI_190 (zR zy 18) zi_189.toNatClampNeg zi_229 = zI_231 at hP hD h_zI_231
        refine lv_iconst (v := 0) hx hb dX11_keepFirst_43 (by decide) ?_
        refine lv_istore_n (lv' := [(2, .int 0), (0, .ref zy), (1, .int zi_189)]) hx hb dX11_keepFirst_44 rfl hl (by decide) rfl (fun ls hl => ?_)
        have lp_244 : ∀ (n : Nat) (zi_232 : Int32) (zJ_233 : Nat → Nat → Int64) (H : Heap) (locs : List Loc) (ls : Array Slot), (24 - zi_232.toInt).toNat = n → (0 ≤ zi_232.toInt ∧ zi_232.toInt ≤ 24) → (0 ≤ (zJ_233 zy 20).toInt ∧ (zJ_233 zy 20).toInt ≤ 1000000000) → (ZI (zI_231 (zR zy 0))) → (zI_231 zy 6 = zi_11) → va_P (dC, dI) vwCl (WL cy zL zT zR zI_231 zJ_233) H → va_D A (WL cy zL zT zR zI_231 zJ_233) → va_S A s.heap H locs → lv_has ls 3 [(0, .ref zy), (1, .int zi_189), (2, .int zi_232)] → W p l e ({ frames := 5, cells := 0, slots := 0, locals := 114 } : Room) s m ([.ref zy] : List Value).toArray below meth c H locs 0 0 Q (F0 m 45 ls []) := by
          intro n
          induction n using Nat.strongRecOn with
          | _ n ih_244 =>
            intro zi_232 zJ_233 H locs ls hn b_zi_232 e_lp_244_0 e_lp_244_1 e_lp_244_2 hP hD hS hl
            refine lv_iload_n hx hb dX11_keepFirst_45 rfl (lv_at hl 2 rfl) ?_
            refine lv_bipush (v := 24) hx hb dX11_keepFirst_46 (by decide) ?_
            refine lv_icmp_ge (tgt := 74) hx hb dX11_keepFirst_48 (by decide) (fun c_245 => ?_) (fun c_245 => ?_)
            · have f_246 : zi_232.toInt ≥ (24 : Int) := ic_ge (rfl) (show (24 : Int32).toInt = 24 by decide) c_245
              obtain ⟨zi_247, ezi_247⟩ : ∃ y : Int32, y = zi_189 + 1 := ⟨_, rfl⟩
              have tzi_247 : zi_247.toInt = zi_189.toInt + 1 := by rw [ezi_247]; exact tadd rfl (show (1 : Int32).toInt = 1 by decide) (by omega) (by omega)
              refine lv_iinc (v := zi_247) (lv' := [(1, .int zi_247), (0, .ref zy), (2, .int zi_232)]) hx hb dX11_keepFirst_74 hl (k := 1) rfl (by rw [ezi_247]; rfl) (by decide) rfl (fun ls hl => ?_)
              refine lv_goto (tgt := 23) hx hb dX11_keepFirst_77 (by decide) ?_
              exact ih_223 (12 - zi_247.toInt).toNat (by omega) zi_247 zI_231 zJ_233 _ _ _ rfl (by omega) h_zI_231 e_lp_244_0 (by rw [(show zI_231 (zR zy 8) = zI_190 (zR zy 8) from by rw [← uzI_231]; exact u2_a (tne t_228 t_227 (by decide)))]; exact e_lp_223_1) e_lp_244_1 e_lp_244_2 hP hD hS (lv_sub hl [1, 0] rfl)
            · have f_246 : ¬ (zi_232.toInt ≥ (24 : Int)) := ic_nge (rfl) (show (24 : Int32).toInt = 24 by decide) c_245
              refine lv_aload_n hx hb dX11_keepFirst_51 rfl (lv_at hl 0 rfl) ?_
              refine ht_getr (C := RX11) (T := TX11) (N := 28) hx hb hts (by decide +kernel) hown hK hP hs t_zy (by decide) rfl rfl 17 (by decide) (hts (.fieldLink RX11 44 "DripStoneModel" "firsts" "[J") (by decide +kernel)) (fun _ h9 => h9) rfl dX11_keepFirst_52 ?_
              have t_248 : zT (zR zy 17) = 116 := sk_f hs t_zy (by decide) rfl (by decide)
              refine lv_bipush (v := 24) hx hb dX11_keepFirst_55 (by decide) ?_
              refine lv_iload_n hx hb dX11_keepFirst_57 rfl (lv_at hl 1 rfl) ?_
              refine lv_imul hx hb dX11_keepFirst_58 ?_
              refine lv_topi (fun zi_249 ezi_249 => ?_)
              have tzi_249 : zi_249.toInt = (24 : Int) * zi_189.toInt := by rw [ezi_249]; exact timul (show (24 : Int32).toInt = 24 by decide) (rfl) (by omega) (by omega)
              refine lv_iload_n hx hb dX11_keepFirst_59 rfl (lv_at hl 2 rfl) ?_
              refine lv_iadd hx hb dX11_keepFirst_60 ?_
              refine lv_topi (fun zi_250 ezi_250 => ?_)
              have tzi_250 : zi_250.toInt = zi_249.toInt + zi_232.toInt := by rw [ezi_250]; exact tiadd (rfl) (rfl) (by omega) (by omega)
              refine lv_aload_n hx hb dX11_keepFirst_61 rfl (lv_at hl 0 rfl) ?_
              refine lv_iload_n hx hb dX11_keepFirst_62 rfl (lv_at hl 1 rfl) ?_
              refine lv_iload_n hx hb dX11_keepFirst_63 rfl (lv_at hl 2 rfl) ?_
              refine hj_l (ws := (WL cy zL zT zR zI_231 zJ_233)) (w1 := fun (u : Unit) => (WL cy zL zT zR zI_231 zJ_233)) (va_runV (As := [.int zi_189, .int zi_232]) (rest := [.int zi_250, .ref (zR zy 17)]) ⟨hx, hb, hml, hown, hts⟩ (t_X11_waysAt l dC dI cy H.size zL zT zR zI_231 zJ_233 zy zi_189 zi_232 hs h_zI_231.1 t_zy (by omega) (by omega)) (cwV 2 hts gX11_keepFirst_X11_waysAt rfl rfl rfl (by decide +kernel) ⟨(Nat.le_of_ble_eq_true rfl), (Nat.le_of_ble_eq_true rfl)⟩) (PRE.v hP hK hD hN (ht_recv hK hP hs t_zy (by decide) rfl rfl)) rfl rfl hl.1 rfl (lv_room (Nat.le_of_ble_eq_true rfl)) dX11_keepFirst_64 ⟨(Nat.le_of_ble_eq_true rfl), (Nat.le_of_ble_eq_true rfl)⟩) hP hD hS hA (fun zj_251 u_253 H locs hw_252 hP hD hS => ?_)
              refine ht_last (v := zj_251) (n := 288) (q := 1) hx hb hK hP hD hS hs t_248 (by decide) rfl rfl ⟨by omega, by omega⟩ dX11_keepFirst_67 (fun H locs hP hD hS => ?_)
              generalize uzJ_254 : u2 zJ_233 (zR zy 17) zi_250.toNatClampNeg zj_251 = zJ_254 at hP hD
              obtain ⟨zi_255, ezi_255⟩ : ∃ y : Int32, y = zi_232 + 1 := ⟨_, rfl⟩
              have tzi_255 : zi_255.toInt = zi_232.toInt + 1 := by rw [ezi_255]; exact tadd rfl (show (1 : Int32).toInt = 1 by decide) (by omega) (by omega)
              refine lv_iinc (v := zi_255) (lv' := [(2, .int zi_255), (0, .ref zy), (1, .int zi_189)]) hx hb dX11_keepFirst_68 hl (k := 2) rfl (by rw [ezi_255]; rfl) (by decide) rfl (fun ls hl => ?_)
              refine lv_goto (tgt := 45) hx hb dX11_keepFirst_71 (by decide) ?_
              exact ih_244 (24 - zi_255.toInt).toNat (by omega) zi_255 zJ_254 _ _ _ rfl (by omega) (by rw [(show zJ_254 zy 20 = zJ_233 zy 20 from by rw [← uzJ_254]; exact u2_n (tne t_zy t_248 (by decide)))]; exact e_lp_244_0) e_lp_244_1 e_lp_244_2 hP hD hS (lv_sub hl [1, 2, 0] rfl)
        have t_256 : zT (zR zy 0) = 100 := sk_f hs t_zy (by decide) rfl (by decide)
        have zz_257 : ZI (zI_231 (zR zy 0)) := by rw [(show zI_231 (zR zy 0) = zI_190 (zR zy 0) from by rw [← uzI_231]; exact u2_a (tne t_256 t_227 (by decide)))]; exact e_lp_223_2
        exact lp_244 _ (0 : Int32) zJ_191 _ _ _ rfl (by decide) e_lp_223_0 zz_257 ((show zI_231 zy 6 = zI_190 zy 6 from by rw [← uzI_231]; exact u2_n (tne t_zy t_227 (by decide))).trans e_lp_223_3) hP hD hS (lv_sub hl [1, 2, 0] rfl)
  have t_258 : zT (zR zy 8) = 103 := sk_f hs t_zy (by decide) rfl (by decide)
  have t_259 : zT (zR zy 0) = 100 := sk_f hs t_zy (by decide) rfl (by decide)
  have zz_260 : ZI (zI_14 (zR zy 0)) := by rw [(show zI_14 (zR zy 0) = zI_4 (zR zy 0) from by rw [← uzI_14]; exact u2_a (tne t_259 t_zy (by decide))), (k_zI_4.2.row t_259 (by decide) (by decide))]; exact hz
  exact lp_223 _ (0 : Int32) zI_14 zJ_16 _ _ _ rfl (by decide) h_zI_14 bd_17 (by rw [(show zI_14 (zR zy 8) = zI_4 (zR zy 8) from by rw [← uzI_14]; exact u2_a (tne t_258 t_zy (by decide)))]; exact PX.e ps_6 rfl (congrArg Int32.toInt ezi_11.symm)) zz_260 ((show zI_14 zy 6 = zI_4 zy 6 from by rw [← uzI_14]; exact u2_k (by decide)).trans ezi_11.symm) hP hD hS (lv_sub hl [1, 0] rfl)
set_option maxHeartbeats 8000000 in
set_option maxRecDepth 100000 in
theorem t_X11_together (l : Launch) (dC : Nat → ClassId) (dI : Nat → Nat → Nat) (cy : Nat → ClassId) (sz : Nat) (zL : List Nat) (zT : Nat → Nat) (zR : Nat → Nat → Nat) (zI : Nat → Nat → Int32) (zJ : Nat → Nat → Int64) (zy : Nat) (zip : Int32) (ziq : Int32) (hs : SKP zL zT zR) (hw : WT zT zR zI) (t_zy : zT zy = 18) (b_zip : 0 ≤ zip.toInt ∧ zip.toInt ≤ 11) (b_ziq : 0 ≤ ziq.toInt ∧ ziq.toInt ≤ 11) : Met l yX11_together wsX11_together ({ frames := 2, cells := 0, slots := 0, locals := 47 } : Room) (va_Pc [.ref zy, .int zip, .int ziq] (PRE dC dI cy (WL cy zL zT zR zI zJ) sz)) (va_Ql (fun (r : Int64) (u : Unit) => True) (fun u t => POST dC dI cy (va_A (WL cy zL zT zR zI zJ) sz) (WL cy zL zT zR zI zJ) t) (va_A (WL cy zL zT zR zI zJ) sz)) 0 0 (va_A (WL cy zL zT zR zI zJ) sz) := by
  refine Met.ofW (cc := cX11_together) (maxL := 6) (ret := (some .long)) (by decide) rfl ?_
  intro p e s m args below meth c s₁ B hml hv
  obtain ⟨rfl, hsz, hP, hK, hD0, hN⟩ := hv
  have hx := B.exec
  have hb := B.bytes
  have hr := B.returns
  have hts := atoms_spec (ws := wsX11_together) B.pre
  have hown : s.vm.findClass RX11 = some m.cls := findClass_of_methodNamed B.named
  have hlocks := B.notSynchronized
  subst hsz
  have hD := hD0.self (sz := s.heap.size)
  generalize hAe : va_A (WL cy zL zT zR zI zJ) s.heap.size = A at hD ⊢
  have hA : ∀ q : Nat, s.heap.size ≤ q → A q := fun q h => by rw [← hAe]; exact Or.inr h
  have hS : va_S A s.heap s.heap [] := va_S.rf
  have hP : va_P (dC, dI) vwCl (WL cy zL zT zR zI zJ) s.heap := hP
  have hl := lv_entry ([.ref zy, .int zip, .int ziq] : List Value) (n := 6) (Nat.le_of_ble_eq_true rfl)
  rw [lg_entry_eq]
  generalize (lg_sl ([.ref zy, .int zip, .int ziq] : List Value) ++ List.replicate (6 - (lg_sl ([.ref zy, .int zip, .int ziq] : List Value)).length) Slot.unset).toArray = ls at hl ⊢
  have hl : lv_has ls 6 [(0, .ref zy), (1, .int zip), (2, .int ziq)] := hl
  refine w_q (fun Q hQ => ?_)
  have h_zI : WM [] AL zT zR zI zI := WM.rf hw
  refine lv_lconst (v := 0) hx hb dX11_together_0 (by decide) ?_
  refine lv_lstore_n (lv' := [(3, .long 0), (0, .ref zy), (1, .int zip), (2, .int ziq)]) hx hb dX11_together_1 rfl hl (by decide) rfl (fun ls hl => ?_)
  refine lv_iconst (v := 0) hx hb dX11_together_2 (by decide) ?_
  refine lv_istore (lv' := [(5, .int 0), (3, .long 0), (0, .ref zy), (1, .int zip), (2, .int ziq)]) hx hb dX11_together_3 hl (by decide) rfl (fun ls hl => ?_)
  have lp_65 : ∀ (n : Nat) (zj_51 : Int64) (zi_52 : Int32) (H : Heap) (locs : List Loc) (ls : Array Slot), (24 - zi_52.toInt).toNat = n → (0 ≤ zi_52.toInt ∧ zi_52.toInt ≤ 24) → va_P (dC, dI) vwCl (WL cy zL zT zR zI zJ) H → va_D A (WL cy zL zT zR zI zJ) → va_S A s.heap H locs → lv_has ls 6 [(0, .ref zy), (1, .int zip), (2, .int ziq), (3, .long zj_51), (5, .int zi_52)] → W p l e ({ frames := 2, cells := 0, slots := 0, locals := 47 } : Room) s m ([.ref zy, .int zip, .int ziq] : List Value).toArray below meth c H locs 0 0 Q (F0 m 5 ls []) := by
    intro n
    induction n using Nat.strongRecOn with
    | _ n ih_65 =>
      intro zj_51 zi_52 H locs ls hn b_zi_52 hP hD hS hl
      refine lv_iload hx hb dX11_together_5 (lv_at hl 4 rfl) ?_
      refine lv_bipush (v := 24) hx hb dX11_together_7 (by decide) ?_
      refine lv_icmp_ge (tgt := 41) hx hb dX11_together_9 (by decide) (fun c_66 => ?_) (fun c_66 => ?_)
      · have f_67 : zi_52.toInt ≥ (24 : Int) := ic_ge (rfl) (show (24 : Int32).toInt = 24 by decide) c_66
        refine lv_lload_n hx hb dX11_together_41 rfl (lv_at hl 3 rfl) ?_
        subst hQ
        exact W.lret (v := zj_51) hx hb hr (fun t ht hW => ⟨⟨zj_51, (), rfl, trivial, ⟨by rw [ht]; exact hP, va_K.moved hW.alike hK, hD⟩⟩, hS.F ht⟩) hS.2.2 dX11_together_42
      · have f_67 : ¬ (zi_52.toInt ≥ (24 : Int)) := ic_nge (rfl) (show (24 : Int32).toInt = 24 by decide) c_66
        refine lv_lload_n hx hb dX11_together_12 rfl (lv_at hl 3 rfl) ?_
        refine lv_aload_n hx hb dX11_together_13 rfl (lv_at hl 0 rfl) ?_
        refine ht_getr (C := RX11) (T := TX11) (N := 28) hx hb hts (by decide +kernel) hown hK hP hs t_zy (by decide) rfl rfl 17 (by decide) (hts (.fieldLink RX11 44 "DripStoneModel" "firsts" "[J") (by decide +kernel)) (fun _ h9 => h9) rfl dX11_together_14 ?_
        have t_68 : zT (zR zy 17) = 116 := sk_f hs t_zy (by decide) rfl (by decide)
        refine lv_bipush (v := 24) hx hb dX11_together_17 (by decide) ?_
        refine lv_iload_n hx hb dX11_together_19 rfl (lv_at hl 1 rfl) ?_
        refine lv_imul hx hb dX11_together_20 ?_
        refine lv_topi (fun zi_69 ezi_69 => ?_)
        have tzi_69 : zi_69.toInt = (24 : Int) * zip.toInt := by rw [ezi_69]; exact timul (show (24 : Int32).toInt = 24 by decide) (rfl) (by omega) (by omega)
        refine lv_iload hx hb dX11_together_21 (lv_at hl 4 rfl) ?_
        refine lv_iadd hx hb dX11_together_23 ?_
        refine lv_topi (fun zi_70 ezi_70 => ?_)
        have tzi_70 : zi_70.toInt = zi_69.toInt + zi_52.toInt := by rw [ezi_70]; exact tiadd (rfl) (rfl) (by omega) (by omega)
        refine ht_lald (n := 288) (q := 1) hx hb hK hP hs t_68 (by decide) rfl rfl ⟨by omega, by omega⟩ dX11_together_24 ?_
        refine lv_topl (fun zj_71 ezj_71 => ?_)
        refine lv_aload_n hx hb dX11_together_25 rfl (lv_at hl 0 rfl) ?_
        refine lv_iload_n hx hb dX11_together_26 rfl (lv_at hl 2 rfl) ?_
        refine lv_iload hx hb dX11_together_27 (lv_at hl 4 rfl) ?_
        refine hj_l (ws := (WL cy zL zT zR zI zJ)) (w1 := fun (u : Unit) => (WL cy zL zT zR zI zJ)) (va_runV (As := [.int ziq, .int zi_52]) (rest := [.long zj_71, .long zj_51]) ⟨hx, hb, hml, hown, hts⟩ (t_X11_waysAt l dC dI cy H.size zL zT zR zI zJ zy ziq zi_52 hs h_zI.1 t_zy (by omega) (by omega)) (cwV 2 hts gX11_together_X11_waysAt rfl rfl rfl (by decide +kernel) ⟨(Nat.le_of_ble_eq_true rfl), (Nat.le_of_ble_eq_true rfl)⟩) (PRE.v hP hK hD hN (ht_recv hK hP hs t_zy (by decide) rfl rfl)) rfl rfl hl.1 rfl (lv_room (Nat.le_of_ble_eq_true rfl)) dX11_together_29 ⟨(Nat.le_of_ble_eq_true rfl), (Nat.le_of_ble_eq_true rfl)⟩) hP hD hS hA (fun zj_72 u_74 H locs hw_73 hP hD hS => ?_)
        refine lv_lmul hx hb dX11_together_32 ?_
        refine lv_topl (fun zj_75 ezj_75 => ?_)
        refine lv_ladd hx hb dX11_together_33 ?_
        refine lv_topl (fun zj_76 ezj_76 => ?_)
        refine lv_lstore_n (lv' := [(3, .long zj_76), (0, .ref zy), (1, .int zip), (2, .int ziq), (5, .int zi_52)]) hx hb dX11_together_34 rfl hl (by decide) rfl (fun ls hl => ?_)
        obtain ⟨zi_77, ezi_77⟩ : ∃ y : Int32, y = zi_52 + 1 := ⟨_, rfl⟩
        have tzi_77 : zi_77.toInt = zi_52.toInt + 1 := by rw [ezi_77]; exact tadd rfl (show (1 : Int32).toInt = 1 by decide) (by omega) (by omega)
        refine lv_iinc (v := zi_77) (lv' := [(5, .int zi_77), (3, .long zj_76), (0, .ref zy), (1, .int zip), (2, .int ziq)]) hx hb dX11_together_35 hl (k := 4) rfl (by rw [ezi_77]; rfl) (by decide) rfl (fun ls hl => ?_)
        refine lv_goto (tgt := 5) hx hb dX11_together_38 (by decide) ?_
        exact ih_65 (24 - zi_77.toInt).toNat (by omega) zj_76 zi_77 _ _ _ rfl (by omega) hP hD hS (lv_sub hl [2, 3, 4, 1, 0] rfl)
  exact lp_65 _ (0 : Int64) (0 : Int32) _ _ _ rfl (by decide) hP hD hS (lv_sub hl [2, 3, 4, 1, 0] rfl)
set_option maxHeartbeats 8000000 in
set_option maxRecDepth 100000 in
theorem t_X11_oneYear (l : Launch) (dC : Nat → ClassId) (dI : Nat → Nat → Nat) (cy : Nat → ClassId) (sz : Nat) (zL : List Nat) (zT : Nat → Nat) (zR : Nat → Nat → Nat) (zI : Nat → Nat → Int32) (zJ : Nat → Nat → Int64) (zy : Nat) (zia : Int32) (zib : Int32) (zic : Int32) (hs : SKP zL zT zR) (hw : WT zT zR zI) (t_zy : zT zy = 18) (hz : ZI (zI (zR zy 0))) : Met l yX11_oneYear wsX11_oneYear ({ frames := 6, cells := 0, slots := 0, locals := 136 } : Room) (va_Pc [.ref zy, .int zia, .int zib, .int zic] (PRE dC dI cy (WL cy zL zT zR zI zJ) sz)) (va_Ql (fun (r : Int64) (u : (Nat → Nat → Int32) × (Nat → Nat → Int64)) => (WM [1806, 1807, 1819, 10300, 10400, 10500, 10600, 10700, 10800] AL zT zR zI u.1)) (fun u t => POST dC dI cy (va_A (WL cy zL zT zR zI zJ) sz) (WL cy zL zT zR u.1 u.2) t) (va_A (WL cy zL zT zR zI zJ) sz)) 0 0 (va_A (WL cy zL zT zR zI zJ) sz) := by
  refine Met.ofW (cc := cX11_oneYear) (maxL := 5) (ret := (some .long)) (by decide) rfl ?_
  intro p e s m args below meth c s₁ B hml hv
  obtain ⟨rfl, hsz, hP, hK, hD0, hN⟩ := hv
  have hx := B.exec
  have hb := B.bytes
  have hr := B.returns
  have hts := atoms_spec (ws := wsX11_oneYear) B.pre
  have hown : s.vm.findClass RX11 = some m.cls := findClass_of_methodNamed B.named
  have hlocks := B.notSynchronized
  subst hsz
  have hD := hD0.self (sz := s.heap.size)
  generalize hAe : va_A (WL cy zL zT zR zI zJ) s.heap.size = A at hD ⊢
  have hA : ∀ q : Nat, s.heap.size ≤ q → A q := fun q h => by rw [← hAe]; exact Or.inr h
  have hS : va_S A s.heap s.heap [] := va_S.rf
  have hP : va_P (dC, dI) vwCl (WL cy zL zT zR zI zJ) s.heap := hP
  have hl := lv_entry ([.ref zy, .int zia, .int zib, .int zic] : List Value) (n := 5) (Nat.le_of_ble_eq_true rfl)
  rw [lg_entry_eq]
  generalize (lg_sl ([.ref zy, .int zia, .int zib, .int zic] : List Value) ++ List.replicate (5 - (lg_sl ([.ref zy, .int zia, .int zib, .int zic] : List Value)).length) Slot.unset).toArray = ls at hl ⊢
  have hl : lv_has ls 5 [(0, .ref zy), (1, .int zia), (2, .int zib), (3, .int zic)] := hl
  refine w_q (fun Q hQ => ?_)
  have h_zI : WM [1806, 1807, 1819, 10300, 10400, 10500, 10600, 10700, 10800] AL zT zR zI zI := WM.rf hw
  refine lv_aload_n hx hb dX11_oneYear_0 rfl (lv_at hl 0 rfl) ?_
  refine lv_iconst (v := 0) hx hb dX11_oneYear_1 (by decide) ?_
  refine lv_iload_n hx hb dX11_oneYear_2 rfl (lv_at hl 1 rfl) ?_
  have qc_0 : (0 : Int32).toInt = 0 := by decide
  refine hj_i (ws := (WL cy zL zT zR zI zJ)) (w1 := fun (u : Unit) => (WL cy zL zT zR zI zJ)) (va_runV (As := [.int 0, .int zia]) (rest := []) ⟨hx, hb, hml, hown, hts⟩ (t_X11_isThing l dC dI cy s.heap.size zL zT zR zI zJ zy (0 : Int32) zia hs h_zI.1 t_zy (by decide) hz) (cwV 2 hts gX11_oneYear_X11_isThing rfl rfl rfl (by decide +kernel) ⟨(Nat.le_of_ble_eq_true rfl), (Nat.le_of_ble_eq_true rfl)⟩) (PRE.v hP hK hD hN (ht_recv hK hP hs t_zy (by decide) rfl rfl)) rfl rfl hl.1 rfl (lv_room (Nat.le_of_ble_eq_true rfl)) dX11_oneYear_3 ⟨(Nat.le_of_ble_eq_true rfl), (Nat.le_of_ble_eq_true rfl)⟩) hP hD hS hA (fun zi_1 u_3 H locs hw_2 hP hD hS => ?_)
  obtain ⟨b_zi_1, ps_4, ps_5⟩ : (0 ≤ zi_1.toInt ∧ zi_1.toInt ≤ 1) ∧ (zi_1.toInt = 0 ∨ (0 ≤ zia.toInt ∧ zia.toInt ≤ 11)) ∧ (zi_1.toInt = 0 ∨ zia.toInt < zA (zI (zR zy 0)) (5 + (0 : Int32).toInt)) := hw_2
  refine lv_if_eq (tgt := 28) hx hb dX11_oneYear_6 (by decide) (fun c_6 => ?_) (fun c_6 => ?_)
  · have f_7 : zi_1.toInt = 0 := ic_eq (rfl) (by decide) c_6
    refine lv_ldc2 (v := (-1)) hx hb hown (hts (.constantLong RX11 236 (-1)) (by decide +kernel)) dX11_oneYear_28 ?_
    subst hQ
    exact W.lret (v := (-1 : Int64)) hx hb hr (fun t ht hW => ⟨⟨(-1 : Int64), (zI, zJ), rfl, h_zI, ⟨by rw [ht]; exact hP, va_K.moved hW.alike hK, hD⟩⟩, hS.F ht⟩) hS.2.2 dX11_oneYear_31
  · have f_7 : ¬ (zi_1.toInt = 0) := ic_neq (rfl) (by decide) c_6
    have b9_zia : 0 ≤ zia.toInt ∧ zia.toInt ≤ 11 := by omega
    refine lv_aload_n hx hb dX11_oneYear_9 rfl (lv_at hl 0 rfl) ?_
    refine lv_iconst (v := 1) hx hb dX11_oneYear_10 (by decide) ?_
    refine lv_iload_n hx hb dX11_oneYear_11 rfl (lv_at hl 2 rfl) ?_
    have qc_1 : (1 : Int32).toInt = 1 := by decide
    refine hj_i (ws := (WL cy zL zT zR zI zJ)) (w1 := fun (u : Unit) => (WL cy zL zT zR zI zJ)) (va_runV (As := [.int 1, .int zib]) (rest := []) ⟨hx, hb, hml, hown, hts⟩ (t_X11_isThing l dC dI cy H.size zL zT zR zI zJ zy (1 : Int32) zib hs h_zI.1 t_zy (by decide) hz) (cwV 2 hts gX11_oneYear_X11_isThing rfl rfl rfl (by decide +kernel) ⟨(Nat.le_of_ble_eq_true rfl), (Nat.le_of_ble_eq_true rfl)⟩) (PRE.v hP hK hD hN (ht_recv hK hP hs t_zy (by decide) rfl rfl)) rfl rfl hl.1 rfl (lv_room (Nat.le_of_ble_eq_true rfl)) dX11_oneYear_12 ⟨(Nat.le_of_ble_eq_true rfl), (Nat.le_of_ble_eq_true rfl)⟩) hP hD hS hA (fun zi_8 u_10 H locs hw_9 hP hD hS => ?_)
    obtain ⟨b_zi_8, ps_11, ps_12⟩ : (0 ≤ zi_8.toInt ∧ zi_8.toInt ≤ 1) ∧ (zi_8.toInt = 0 ∨ (0 ≤ zib.toInt ∧ zib.toInt ≤ 11)) ∧ (zi_8.toInt = 0 ∨ zib.toInt < zA (zI (zR zy 0)) (5 + (1 : Int32).toInt)) := hw_9
    refine lv_if_eq (tgt := 28) hx hb dX11_oneYear_15 (by decide) (fun c_13 => ?_) (fun c_13 => ?_)
    · have f_14 : zi_8.toInt = 0 := ic_eq (rfl) (by decide) c_13
      refine lv_ldc2 (v := (-1)) hx hb hown (hts (.constantLong RX11 236 (-1)) (by decide +kernel)) dX11_oneYear_28 ?_
      subst hQ
      exact W.lret (v := (-1 : Int64)) hx hb hr (fun t ht hW => ⟨⟨(-1 : Int64), (zI, zJ), rfl, h_zI, ⟨by rw [ht]; exact hP, va_K.moved hW.alike hK, hD⟩⟩, hS.F ht⟩) hS.2.2 dX11_oneYear_31
    · have f_14 : ¬ (zi_8.toInt = 0) := ic_neq (rfl) (by decide) c_13
      have b9_zib : 0 ≤ zib.toInt ∧ zib.toInt ≤ 11 := by omega
      refine lv_iload_n hx hb dX11_oneYear_18 rfl (lv_at hl 3 rfl) ?_
      refine lv_i2l (v := zic.toInt64) hx hb dX11_oneYear_19 rfl ?_
      refine lv_topl (fun zj_15 ezj_15 => ?_)
      have tzj_15 : zj_15.toInt = zic.toInt := by rw [ezj_15]; exact Int32.toInt_toInt64 _
      refine lv_lconst (v := 0) hx hb dX11_oneYear_20 (by decide) ?_
      refine lv_lconst (v := 1) hx hb dX11_oneYear_21 (by decide) ?_
      refine hj0_i (ws := (WL cy zL zT zR zI zJ)) (va_runS (As := [.long zj_15, .long 0, .long 1]) (rest := []) ⟨hx, hb, hml, hown, hts⟩ (c_X11_in l dC dI cy H.size zj_15 0 1 0 1 zj_15.toInt (by first | rfl | decide | omega | exact Int32.toInt_toInt64 _) (by first | rfl | decide | omega | exact Int32.toInt_toInt64 _) (by first | rfl | decide | omega | exact Int32.toInt_toInt64 _)) (va_cwS 3 hts gX11_oneYear_X11_in rfl rfl rfl (by decide +kernel) ⟨(Nat.le_of_ble_eq_true rfl), (Nat.le_of_ble_eq_true rfl)⟩) (PRE.s (hP.sub [] rfl) hK (hD.sub [] (by decide) rfl) hN) rfl rfl hl.1 rfl (lv_room (Nat.le_of_ble_eq_true rfl)) dX11_oneYear_22 ⟨(Nat.le_of_ble_eq_true rfl), (Nat.le_of_ble_eq_true rfl)⟩) hP hD hS hA (fun zi_16 u_18 H locs hw_17 hP hD hS => ?_)
      have hw_17 : zi_16 = if 0 ≤ zj_15.toInt ∧ zj_15.toInt ≤ 1 then 1 else 0 := hw_17
      have b_zi_16 : 0 ≤ zi_16.toInt ∧ zi_16.toInt ≤ 1 := bz_b hw_17
      refine lv_if_ne (tgt := 32) hx hb dX11_oneYear_25 (by decide) (fun c_19 => ?_) (fun c_19 => ?_)
      · have f_20 : 0 ≤ zj_15.toInt ∧ zj_15.toInt ≤ 1 := bz_1 hw_17 c_19
        refine lv_aload_n hx hb dX11_oneYear_32 rfl (lv_at hl 0 rfl) ?_
        refine lv_iconst (v := 0) hx hb dX11_oneYear_33 (by decide) ?_
        refine lv_iload_n hx hb dX11_oneYear_34 rfl (lv_at hl 1 rfl) ?_
        refine hj_i (ws := (WL cy zL zT zR zI zJ)) (w1 := fun (u : Unit) => (WL cy zL zT zR zI zJ)) (va_runV (As := [.int 0, .int zia]) (rest := []) ⟨hx, hb, hml, hown, hts⟩ (t_X11_kindOf l dC dI cy H.size zL zT zR zI zJ zy (0 : Int32) zia hs h_zI.1 t_zy (by decide) (by omega) hz) (cwV 2 hts gX11_oneYear_X11_kindOf rfl rfl rfl (by decide +kernel) ⟨(Nat.le_of_ble_eq_true rfl), (Nat.le_of_ble_eq_true rfl)⟩) (PRE.v hP hK hD hN (ht_recv hK hP hs t_zy (by decide) rfl rfl)) rfl rfl hl.1 rfl (lv_room (Nat.le_of_ble_eq_true rfl)) dX11_oneYear_35 ⟨(Nat.le_of_ble_eq_true rfl), (Nat.le_of_ble_eq_true rfl)⟩) hP hD hS hA (fun zi_21 u_23 H locs hw_22 hP hD hS => ?_)
        have ps_24 : zi_21.toInt = zA (zI (zR zy 0)) (158 + 12 * (0 : Int32).toInt + zia.toInt) := hw_22
        have rzi_21 := rng zi_21
        refine lv_iconst (v := 2) hx hb dX11_oneYear_38 (by decide) ?_
        refine lv_icmp_eq (tgt := 52) hx hb dX11_oneYear_39 (by decide) (fun c_25 => ?_) (fun c_25 => ?_)
        · have f_26 : zi_21.toInt = (2 : Int) := ic_eq (rfl) (show (2 : Int32).toInt = 2 by decide) c_25
          refine lv_ldc2 (v := (-12)) hx hb hown (hts (.constantLong RX11 288 (-12)) (by decide +kernel)) dX11_oneYear_52 ?_
          subst hQ
          exact W.lret (v := (-12 : Int64)) hx hb hr (fun t ht hW => ⟨⟨(-12 : Int64), (zI, zJ), rfl, h_zI, ⟨by rw [ht]; exact hP, va_K.moved hW.alike hK, hD⟩⟩, hS.F ht⟩) hS.2.2 dX11_oneYear_55
        · have f_26 : ¬ (zi_21.toInt = (2 : Int)) := ic_neq (rfl) (show (2 : Int32).toInt = 2 by decide) c_25
          refine lv_aload_n hx hb dX11_oneYear_42 rfl (lv_at hl 0 rfl) ?_
          refine lv_iconst (v := 1) hx hb dX11_oneYear_43 (by decide) ?_
          refine lv_iload_n hx hb dX11_oneYear_44 rfl (lv_at hl 2 rfl) ?_
          refine hj_i (ws := (WL cy zL zT zR zI zJ)) (w1 := fun (u : Unit) => (WL cy zL zT zR zI zJ)) (va_runV (As := [.int 1, .int zib]) (rest := []) ⟨hx, hb, hml, hown, hts⟩ (t_X11_kindOf l dC dI cy H.size zL zT zR zI zJ zy (1 : Int32) zib hs h_zI.1 t_zy (by decide) (by omega) hz) (cwV 2 hts gX11_oneYear_X11_kindOf rfl rfl rfl (by decide +kernel) ⟨(Nat.le_of_ble_eq_true rfl), (Nat.le_of_ble_eq_true rfl)⟩) (PRE.v hP hK hD hN (ht_recv hK hP hs t_zy (by decide) rfl rfl)) rfl rfl hl.1 rfl (lv_room (Nat.le_of_ble_eq_true rfl)) dX11_oneYear_45 ⟨(Nat.le_of_ble_eq_true rfl), (Nat.le_of_ble_eq_true rfl)⟩) hP hD hS hA (fun zi_27 u_29 H locs hw_28 hP hD hS => ?_)
          have ps_30 : zi_27.toInt = zA (zI (zR zy 0)) (158 + 12 * (1 : Int32).toInt + zib.toInt) := hw_28
          have rzi_27 := rng zi_27
          refine lv_iconst (v := 2) hx hb dX11_oneYear_48 (by decide) ?_
          refine lv_icmp_ne (tgt := 56) hx hb dX11_oneYear_49 (by decide) (fun c_31 => ?_) (fun c_31 => ?_)
          · have f_32 : zi_27.toInt ≠ (2 : Int) := ic_ne (rfl) (show (2 : Int32).toInt = 2 by decide) c_31
            refine lv_aload_n hx hb dX11_oneYear_56 rfl (lv_at hl 0 rfl) ?_
            refine hj_v (ws := (WL cy zL zT zR zI zJ)) (w1 := fun (u : (Nat → Nat → Int32) × (Nat → Nat → Int64)) => (WL cy zL zT zR u.1 u.2)) (va_runV (As := []) (rest := []) ⟨hx, hb, hml, hown, hts⟩ (t_X11_keepFirst l dC dI cy H.size zL zT zR zI zJ zy hs h_zI.1 t_zy hz) (cwV 0 hts gX11_oneYear_X11_keepFirst rfl rfl rfl (by decide +kernel) ⟨(Nat.le_of_ble_eq_true rfl), (Nat.le_of_ble_eq_true rfl)⟩) (PRE.v hP hK hD hN (ht_recv hK hP hs t_zy (by decide) rfl rfl)) rfl rfl hl.1 rfl (lv_room (Nat.le_of_ble_eq_true rfl)) dX11_oneYear_57 ⟨(Nat.le_of_ble_eq_true rfl), (Nat.le_of_ble_eq_true rfl)⟩) hP hD hS hA (fun u_35 H locs hw_34 hP hD hS => ?_)
            obtain ⟨zI_36, zJ_37⟩ := u_35
            obtain ⟨k_zI_36, ps_38, ps_39⟩ : (WM [1806, 1807, 1819, 10300, 10400, 10500, 10600, 10700, 10800] AL zT zR zI zI_36) ∧ (PO (zI (zR zy 0)) (zI_36 (zR zy 8)) (0 : Int32).toInt (zI_36 zy 6).toInt) ∧ (0 ≤ (zJ_37 zy 20).toInt ∧ (zJ_37 zy 20).toInt ≤ 1000000000) := hw_34
            have h_zI_36 : WM [1806, 1807, 1819, 10300, 10400, 10500, 10600, 10700, 10800] AL zT zR zI zI_36 := h_zI.tr k_zI_36 (by decide) (fun _ _ => trivial)
            obtain ⟨zi_40, ezi_40⟩ : ∃ y : Int32, y = zI_36 zy 6 := ⟨_, rfl⟩
            have tzi_40 : 0 ≤ zi_40.toInt ∧ zi_40.toInt ≤ 12 := by rw [ezi_40]; exact h_zI_36.at t_zy _ rfl
            have lk_41 : (zI_36 zy 6).toInt = zi_40.toInt := congrArg Int32.toInt ezi_40.symm
            refine lv_aload_n hx hb dX11_oneYear_60 rfl (lv_at hl 0 rfl) ?_
            refine lv_iload_n hx hb dX11_oneYear_61 rfl (lv_at hl 1 rfl) ?_
            have t_42 : zT (zR zy 0) = 100 := sk_f hs t_zy (by decide) rfl (by decide)
            refine hj_i (ws := (WL cy zL zT zR zI_36 zJ_37)) (w1 := fun (u : Unit) => (WL cy zL zT zR zI_36 zJ_37)) (va_runV (As := [.int zia]) (rest := []) ⟨hx, hb, hml, hown, hts⟩ (t_X11_placeOf l dC dI cy H.size zL zT zR zI_36 zJ_37 zy zia hs h_zI_36.1 t_zy (PO.at ps_38 (by omega) (by omega) (by omega))) (cwV 1 hts gX11_oneYear_X11_placeOf rfl rfl rfl (by decide +kernel) ⟨(Nat.le_of_ble_eq_true rfl), (Nat.le_of_ble_eq_true rfl)⟩) (PRE.v hP hK hD hN (ht_recv hK hP hs t_zy (by decide) rfl rfl)) rfl rfl hl.1 rfl (lv_room (Nat.le_of_ble_eq_true rfl)) dX11_oneYear_62 ⟨(Nat.le_of_ble_eq_true rfl), (Nat.le_of_ble_eq_true rfl)⟩) hP hD hS hA (fun zi_43 u_45 H locs hw_44 hP hD hS => ?_)
            obtain ⟨b_zi_43, ps_46⟩ : ((-4) ≤ zi_43.toInt ∧ zi_43.toInt ≤ 11) ∧ (0 ≤ zi_43.toInt ∧ zi_43.toInt < (zI_36 zy 6).toInt) := hw_44
            have b8_zi_43 : 0 ≤ zi_43.toInt ∧ zi_43.toInt ≤ 11 := by omega
            refine lv_istore (lv' := [(4, .int zi_43), (0, .ref zy), (1, .int zia), (2, .int zib), (3, .int zic)]) hx hb dX11_oneYear_65 hl (by decide) rfl (fun ls hl => ?_)
            refine lv_aload_n hx hb dX11_oneYear_67 rfl (lv_at hl 1 rfl) ?_
            refine lv_iconst (v := 1) hx hb dX11_oneYear_68 (by decide) ?_
            have zz_47 : ZI (zI_36 (zR zy 0)) := by rw [(k_zI_36.2.row t_42 (by decide) (by decide))]; exact hz
            refine hj_v (ws := (WL cy zL zT zR zI_36 zJ_37)) (w1 := fun (u : (Nat → Nat → Int32) × (Nat → Nat → Int64)) => (WL cy zL zT zR u.1 u.2)) (va_runV (As := [.int 1]) (rest := []) ⟨hx, hb, hml, hown, hts⟩ (t_X11_countNow l dC dI cy H.size zL zT zR zI_36 zJ_37 zy (1 : Int32) hs h_zI_36.1 t_zy (by decide) zz_47) (cwV 1 hts gX11_oneYear_X11_countNow rfl rfl rfl (by decide +kernel) ⟨(Nat.le_of_ble_eq_true rfl), (Nat.le_of_ble_eq_true rfl)⟩) (PRE.v hP hK hD hN (ht_recv hK hP hs t_zy (by decide) rfl rfl)) rfl rfl hl.1 rfl (lv_room (Nat.le_of_ble_eq_true rfl)) dX11_oneYear_69 ⟨(Nat.le_of_ble_eq_true rfl), (Nat.le_of_ble_eq_true rfl)⟩) hP hD hS hA (fun u_50 H locs hw_49 hP hD hS => ?_)
            obtain ⟨zI_51, zJ_52⟩ := u_50
            obtain ⟨k_zI_51, ps_53, ps_54, ps_55, ps_56, ps_57⟩ : (WM [1806, 1807, 10300, 10400, 10500, 10600, 10700] AL zT zR zI_36 zI_51) ∧ (PO (zI_36 (zR zy 0)) (zI_51 (zR zy 8)) (1 : Int32).toInt (zI_51 zy 6).toInt) ∧ ((zI_51 zy 6).toInt = PLZ (zI_36 (zR zy 0)) (1 : Int32).toInt) ∧ (zJ_52 zy 15 = CT zR zI_51 zy) ∧ (0 ≤ (zJ_52 zy 15).toInt ∧ (zJ_52 zy 15).toInt ≤ 1000000000) ∧ (zJ_52 zy 20 = zJ_37 zy 20) := hw_49
            have h_zI_51 : WM [1806, 1807, 1819, 10300, 10400, 10500, 10600, 10700, 10800] AL zT zR zI zI_51 := h_zI_36.tr k_zI_51 (by decide) (fun _ _ => trivial)
            obtain ⟨zi_58, ezi_58⟩ : ∃ y : Int32, y = zI_51 zy 6 := ⟨_, rfl⟩
            have tzi_58 : 0 ≤ zi_58.toInt ∧ zi_58.toInt ≤ 12 := by rw [ezi_58]; exact h_zI_51.at t_zy _ rfl
            have lk_59 : (zI_51 zy 6).toInt = zi_58.toInt := congrArg Int32.toInt ezi_58.symm
            refine lv_aload_n hx hb dX11_oneYear_72 rfl (lv_at hl 1 rfl) ?_
            refine ht_getl (C := RX11) (T := TX11) (N := 28) hx hb hts (by decide +kernel) hown hK hP hs t_zy (by decide) rfl rfl 20 (by decide) (hts (.fieldLink RX11 285 "DripStoneModel" "firstTotal" "J") (by decide +kernel)) (fun _ h9 => h9) rfl dX11_oneYear_73 ?_
            refine lv_topl (fun zj_60 ezj_60 => ?_)
            refine lv_lconst (v := 0) hx hb dX11_oneYear_76 (by decide) ?_
            refine W.lcmp hx hb dX11_oneYear_77 ?_
            refine lv_topi (fun zi_61 ezi_61 => ?_)
            refine lv_if_eq (tgt := 90) hx hb dX11_oneYear_78 (by decide) (fun c_62 => ?_) (fun c_62 => ?_)
            · have f_63 : zj_60.toInt = (0 : Int) := lk_eq ezi_61 (rfl) (show (0 : Int64).toInt = 0 by decide) c_62
              refine lv_ldc2 (v := (-4)) hx hb hown (hts (.constantLong RX11 293 (-4)) (by decide +kernel)) dX11_oneYear_90 ?_
              subst hQ
              exact W.lret (v := (-4 : Int64)) hx hb hr (fun t ht hW => ⟨⟨(-4 : Int64), (zI_51, zJ_52), rfl, h_zI_51, ⟨by rw [ht]; exact hP, va_K.moved hW.alike hK, hD⟩⟩, hS.F ht⟩) hS.2.2 dX11_oneYear_93
            · have f_63 : ¬ (zj_60.toInt = (0 : Int)) := lk_neq ezi_61 (rfl) (show (0 : Int64).toInt = 0 by decide) c_62
              refine lv_aload_n hx hb dX11_oneYear_81 rfl (lv_at hl 1 rfl) ?_
              refine ht_getl (C := RX11) (T := TX11) (N := 28) hx hb hts (by decide +kernel) hown hK hP hs t_zy (by decide) rfl rfl 15 (by decide) (hts (.fieldLink RX11 217 "DripStoneModel" "total" "J") (by decide +kernel)) (fun _ h9 => h9) rfl dX11_oneYear_82 ?_
              refine lv_topl (fun zj_64 ezj_64 => ?_)
              refine lv_lconst (v := 0) hx hb dX11_oneYear_85 (by decide) ?_
              refine W.lcmp hx hb dX11_oneYear_86 ?_
              refine lv_topi (fun zi_65 ezi_65 => ?_)
              refine lv_if_ne (tgt := 94) hx hb dX11_oneYear_87 (by decide) (fun c_66 => ?_) (fun c_66 => ?_)
              · have f_67 : ¬ (zj_64.toInt = (0 : Int)) := lk_ne ezi_65 (rfl) (show (0 : Int64).toInt = 0 by decide) c_66
                refine lv_aload_n hx hb dX11_oneYear_94 rfl (lv_at hl 1 rfl) ?_
                refine lv_iload hx hb dX11_oneYear_95 (lv_at hl 0 rfl) ?_
                refine lv_aload_n hx hb dX11_oneYear_97 rfl (lv_at hl 1 rfl) ?_
                refine lv_iload_n hx hb dX11_oneYear_98 rfl (lv_at hl 3 rfl) ?_
                refine hj_i (ws := (WL cy zL zT zR zI_51 zJ_52)) (w1 := fun (u : Unit) => (WL cy zL zT zR zI_51 zJ_52)) (va_runV (As := [.int zib]) (rest := [.int zi_43, .ref zy]) ⟨hx, hb, hml, hown, hts⟩ (t_X11_placeOf l dC dI cy H.size zL zT zR zI_51 zJ_52 zy zib hs h_zI_51.1 t_zy (by have q9 := ps_53; rw [show zI_36 (zR zy 0) = zI (zR zy 0) from h_zI_36.2.row t_42 (by decide) (by decide)] at q9; exact PO.at q9 (by omega) (by omega) (by omega))) (cwV 1 hts gX11_oneYear_X11_placeOf rfl rfl rfl (by decide +kernel) ⟨(Nat.le_of_ble_eq_true rfl), (Nat.le_of_ble_eq_true rfl)⟩) (PRE.v hP hK hD hN (ht_recv hK hP hs t_zy (by decide) rfl rfl)) rfl rfl hl.1 rfl (lv_room (Nat.le_of_ble_eq_true rfl)) dX11_oneYear_99 ⟨(Nat.le_of_ble_eq_true rfl), (Nat.le_of_ble_eq_true rfl)⟩) hP hD hS hA (fun zi_68 u_70 H locs hw_69 hP hD hS => ?_)
                obtain ⟨b_zi_68, ps_71⟩ : ((-4) ≤ zi_68.toInt ∧ zi_68.toInt ≤ 11) ∧ (0 ≤ zi_68.toInt ∧ zi_68.toInt < (zI_51 zy 6).toInt) := hw_69
                have b8_zi_68 : 0 ≤ zi_68.toInt ∧ zi_68.toInt ≤ 11 := by omega
                refine hj_l (ws := (WL cy zL zT zR zI_51 zJ_52)) (w1 := fun (u : Unit) => (WL cy zL zT zR zI_51 zJ_52)) (va_runV (As := [.int zi_43, .int zi_68]) (rest := []) ⟨hx, hb, hml, hown, hts⟩ (t_X11_together l dC dI cy H.size zL zT zR zI_51 zJ_52 zy zi_43 zi_68 hs h_zI_51.1 t_zy (by omega) (by omega)) (cwV 2 hts gX11_oneYear_X11_together rfl rfl rfl (by decide +kernel) ⟨(Nat.le_of_ble_eq_true rfl), (Nat.le_of_ble_eq_true rfl)⟩) (PRE.v hP hK hD hN (ht_recv hK hP hs t_zy (by decide) rfl rfl)) rfl rfl hl.1 rfl (lv_room (Nat.le_of_ble_eq_true rfl)) dX11_oneYear_102 ⟨(Nat.le_of_ble_eq_true rfl), (Nat.le_of_ble_eq_true rfl)⟩) hP hD hS hA (fun zj_72 u_74 H locs hw_73 hP hD hS => ?_)
                refine lv_aload_n hx hb dX11_oneYear_105 rfl (lv_at hl 1 rfl) ?_
                refine ht_getl (C := RX11) (T := TX11) (N := 28) hx hb hts (by decide +kernel) hown hK hP hs t_zy (by decide) rfl rfl 20 (by decide) (hts (.fieldLink RX11 285 "DripStoneModel" "firstTotal" "J") (by decide +kernel)) (fun _ h9 => h9) rfl dX11_oneYear_106 ?_
                refine lv_topl (fun zj_75 ezj_75 => ?_)
                refine lv_aload_n hx hb dX11_oneYear_109 rfl (lv_at hl 1 rfl) ?_
                refine ht_getl (C := RX11) (T := TX11) (N := 28) hx hb hts (by decide +kernel) hown hK hP hs t_zy (by decide) rfl rfl 15 (by decide) (hts (.fieldLink RX11 217 "DripStoneModel" "total" "J") (by decide +kernel)) (fun _ h9 => h9) rfl dX11_oneYear_110 ?_
                refine lv_topl (fun zj_76 ezj_76 => ?_)
                refine lv_lmul hx hb dX11_oneYear_113 ?_
                refine lv_topl (fun zj_77 ezj_77 => ?_)
                refine lv_iload_n hx hb dX11_oneYear_114 rfl (lv_at hl 4 rfl) ?_
                refine hj0_l (ws := (WL cy zL zT zR zI_51 zJ_52)) (va_runS (As := [.long zj_72, .long zj_77, .int zic]) (rest := []) ⟨hx, hb, hml, hown, hts⟩ (c_X11_part l dC dI cy H.size zj_72 zj_77 zic (mulnz ezj_77 (by rw [(show zj_75 = zJ_52 zy 20 from ezj_75), ps_57]; exact ps_39) (by rw [(show zj_75 = zJ_52 zy 20 from ezj_75), (show zJ_52 zy 20 = zj_60 from ezj_60.symm)]; omega) (by rw [(show zj_76 = zJ_52 zy 15 from ezj_76)]; exact ps_56) (by rw [(show zj_76 = zJ_52 zy 15 from ezj_76), (show zJ_52 zy 15 = zj_64 from ezj_64.symm)]; omega))) (va_cwS 3 hts gX11_oneYear_X11_part rfl rfl rfl (by decide +kernel) ⟨(Nat.le_of_ble_eq_true rfl), (Nat.le_of_ble_eq_true rfl)⟩) (PRE.s (hP.sub [] rfl) hK (hD.sub [] (by decide) rfl) hN) rfl rfl hl.1 rfl (lv_room (Nat.le_of_ble_eq_true rfl)) dX11_oneYear_115 ⟨(Nat.le_of_ble_eq_true rfl), (Nat.le_of_ble_eq_true rfl)⟩) hP hD hS hA (fun zj_78 u_80 H locs hw_79 hP hD hS => ?_)
                subst hQ
                exact W.lret (v := zj_78) hx hb hr (fun t ht hW => ⟨⟨zj_78, (zI_51, zJ_52), rfl, h_zI_51, ⟨by rw [ht]; exact hP, va_K.moved hW.alike hK, hD⟩⟩, hS.F ht⟩) hS.2.2 dX11_oneYear_118
              · have f_67 : zj_64.toInt = (0 : Int) := lk_nne ezi_65 (rfl) (show (0 : Int64).toInt = 0 by decide) c_66
                refine lv_ldc2 (v := (-4)) hx hb hown (hts (.constantLong RX11 293 (-4)) (by decide +kernel)) dX11_oneYear_90 ?_
                subst hQ
                exact W.lret (v := (-4 : Int64)) hx hb hr (fun t ht hW => ⟨⟨(-4 : Int64), (zI_51, zJ_52), rfl, h_zI_51, ⟨by rw [ht]; exact hP, va_K.moved hW.alike hK, hD⟩⟩, hS.F ht⟩) hS.2.2 dX11_oneYear_93
          · have f_32 : ¬ (zi_27.toInt ≠ (2 : Int)) := ic_nne (rfl) (show (2 : Int32).toInt = 2 by decide) c_31
            refine lv_ldc2 (v := (-12)) hx hb hown (hts (.constantLong RX11 288 (-12)) (by decide +kernel)) dX11_oneYear_52 ?_
            subst hQ
            exact W.lret (v := (-12 : Int64)) hx hb hr (fun t ht hW => ⟨⟨(-12 : Int64), (zI, zJ), rfl, h_zI, ⟨by rw [ht]; exact hP, va_K.moved hW.alike hK, hD⟩⟩, hS.F ht⟩) hS.2.2 dX11_oneYear_55
      · have f_20 : ¬ (0 ≤ zj_15.toInt ∧ zj_15.toInt ≤ 1) := bz_0 hw_17 c_19
        refine lv_ldc2 (v := (-1)) hx hb hown (hts (.constantLong RX11 236 (-1)) (by decide +kernel)) dX11_oneYear_28 ?_
        subst hQ
        exact W.lret (v := (-1 : Int64)) hx hb hr (fun t ht hW => ⟨⟨(-1 : Int64), (zI, zJ), rfl, h_zI, ⟨by rw [ht]; exact hP, va_K.moved hW.alike hK, hD⟩⟩, hS.F ht⟩) hS.2.2 dX11_oneYear_31
set_option maxHeartbeats 8000000 in
set_option maxRecDepth 100000 in
theorem t_X11_tie (l : Launch) (dC : Nat → ClassId) (dI : Nat → Nat → Nat) (cy : Nat → ClassId) (sz : Nat) (zL : List Nat) (zT : Nat → Nat) (zR : Nat → Nat → Nat) (zI : Nat → Nat → Int32) (zJ : Nat → Nat → Int64) (zy : Nat) (zia : Int32) (hs : SKP zL zT zR) (hw : WT zT zR zI) (t_zy : zT zy = 18) (hz : ZI (zI (zR zy 0))) : Met l yX11_tie wsX11_tie ({ frames := 6, cells := 0, slots := 0, locals := 136 } : Room) (va_Pc [.ref zy, .int zia] (PRE dC dI cy (WL cy zL zT zR zI zJ) sz)) (va_Ql (fun (r : Int64) (u : (Nat → Nat → Int32) × (Nat → Nat → Int64)) => (WM [1806, 1807, 1819, 10300, 10400, 10500, 10600, 10700, 10800] AL zT zR zI u.1)) (fun u t => POST dC dI cy (va_A (WL cy zL zT zR zI zJ) sz) (WL cy zL zT zR u.1 u.2) t) (va_A (WL cy zL zT zR zI zJ) sz)) 0 0 (va_A (WL cy zL zT zR zI zJ) sz) := by
  refine Met.ofW (cc := cX11_tie) (maxL := 8) (ret := (some .long)) (by decide) rfl ?_
  intro p e s m args below meth c s₁ B hml hv
  obtain ⟨rfl, hsz, hP, hK, hD0, hN⟩ := hv
  have hx := B.exec
  have hb := B.bytes
  have hr := B.returns
  have hts := atoms_spec (ws := wsX11_tie) B.pre
  have hown : s.vm.findClass RX11 = some m.cls := findClass_of_methodNamed B.named
  have hlocks := B.notSynchronized
  subst hsz
  have hD := hD0.self (sz := s.heap.size)
  generalize hAe : va_A (WL cy zL zT zR zI zJ) s.heap.size = A at hD ⊢
  have hA : ∀ q : Nat, s.heap.size ≤ q → A q := fun q h => by rw [← hAe]; exact Or.inr h
  have hS : va_S A s.heap s.heap [] := va_S.rf
  have hP : va_P (dC, dI) vwCl (WL cy zL zT zR zI zJ) s.heap := hP
  have hl := lv_entry ([.ref zy, .int zia] : List Value) (n := 8) (Nat.le_of_ble_eq_true rfl)
  rw [lg_entry_eq]
  generalize (lg_sl ([.ref zy, .int zia] : List Value) ++ List.replicate (8 - (lg_sl ([.ref zy, .int zia] : List Value)).length) Slot.unset).toArray = ls at hl ⊢
  have hl : lv_has ls 8 [(0, .ref zy), (1, .int zia)] := hl
  refine w_q (fun Q hQ => ?_)
  have h_zI : WM [1806, 1807, 1819, 10300, 10400, 10500, 10600, 10700, 10800] AL zT zR zI zI := WM.rf hw
  refine lv_iload_n hx hb dX11_tie_0 rfl (lv_at hl 1 rfl) ?_
  refine lv_i2l (v := zia.toInt64) hx hb dX11_tie_1 rfl ?_
  refine lv_topl (fun zj_1 ezj_1 => ?_)
  have tzj_1 : zj_1.toInt = zia.toInt := by rw [ezj_1]; exact Int32.toInt_toInt64 _
  refine lv_lconst (v := 0) hx hb dX11_tie_2 (by decide) ?_
  refine lv_ldc2 (v := 2) hx hb hown (hts (.constantLong RX11 180 2) (by decide +kernel)) dX11_tie_3 ?_
  refine hj0_i (ws := (WL cy zL zT zR zI zJ)) (va_runS (As := [.long zj_1, .long 0, .long 2]) (rest := []) ⟨hx, hb, hml, hown, hts⟩ (c_X11_in l dC dI cy s.heap.size zj_1 0 2 0 2 zj_1.toInt (by first | rfl | decide | omega | exact Int32.toInt_toInt64 _) (by first | rfl | decide | omega | exact Int32.toInt_toInt64 _) (by first | rfl | decide | omega | exact Int32.toInt_toInt64 _)) (va_cwS 3 hts gX11_tie_X11_in rfl rfl rfl (by decide +kernel) ⟨(Nat.le_of_ble_eq_true rfl), (Nat.le_of_ble_eq_true rfl)⟩) (PRE.s (hP.sub [] rfl) hK (hD.sub [] (by decide) rfl) hN) rfl rfl hl.1 rfl (lv_room (Nat.le_of_ble_eq_true rfl)) dX11_tie_6 ⟨(Nat.le_of_ble_eq_true rfl), (Nat.le_of_ble_eq_true rfl)⟩) hP hD hS hA (fun zi_2 u_4 H locs hw_3 hP hD hS => ?_)
  have hw_3 : zi_2 = if 0 ≤ zj_1.toInt ∧ zj_1.toInt ≤ 2 then 1 else 0 := hw_3
  have b_zi_2 : 0 ≤ zi_2.toInt ∧ zi_2.toInt ≤ 1 := bz_b hw_3
  refine lv_if_ne (tgt := 16) hx hb dX11_tie_9 (by decide) (fun c_5 => ?_) (fun c_5 => ?_)
  · have f_6 : 0 ≤ zj_1.toInt ∧ zj_1.toInt ≤ 2 := bz_1 hw_3 c_5
    refine lv_aload_n hx hb dX11_tie_16 rfl (lv_at hl 0 rfl) ?_
    refine lv_iconst (v := 0) hx hb dX11_tie_17 (by decide) ?_
    have qc_0 : (0 : Int32).toInt = 0 := by decide
    refine hj_i (ws := (WL cy zL zT zR zI zJ)) (w1 := fun (u : Unit) => (WL cy zL zT zR zI zJ)) (va_runV (As := [.int 0]) (rest := []) ⟨hx, hb, hml, hown, hts⟩ (t_X11_placesOf l dC dI cy H.size zL zT zR zI zJ zy (0 : Int32) hs h_zI.1 t_zy (by decide) hz) (cwV 1 hts gX11_tie_X11_placesOf rfl rfl rfl (by decide +kernel) ⟨(Nat.le_of_ble_eq_true rfl), (Nat.le_of_ble_eq_true rfl)⟩) (PRE.v hP hK hD hN (ht_recv hK hP hs t_zy (by decide) rfl rfl)) rfl rfl hl.1 rfl (lv_room (Nat.le_of_ble_eq_true rfl)) dX11_tie_18 ⟨(Nat.le_of_ble_eq_true rfl), (Nat.le_of_ble_eq_true rfl)⟩) hP hD hS hA (fun zi_7 u_9 H locs hw_8 hP hD hS => ?_)
    obtain ⟨b_zi_7, ps_10⟩ : (0 ≤ zi_7.toInt ∧ zi_7.toInt ≤ 12) ∧ (zi_7.toInt = PLZ (zI (zR zy 0)) (0 : Int32).toInt) := hw_8
    refine lv_if_eq (tgt := 32) hx hb dX11_tie_21 (by decide) (fun c_11 => ?_) (fun c_11 => ?_)
    · have f_12 : zi_7.toInt = 0 := ic_eq (rfl) (by decide) c_11
      refine lv_ldc2 (v := (-2)) hx hb hown (hts (.constantLong RX11 238 (-2)) (by decide +kernel)) dX11_tie_32 ?_
      subst hQ
      exact W.lret (v := (-2 : Int64)) hx hb hr (fun t ht hW => ⟨⟨(-2 : Int64), (zI, zJ), rfl, h_zI, ⟨by rw [ht]; exact hP, va_K.moved hW.alike hK, hD⟩⟩, hS.F ht⟩) hS.2.2 dX11_tie_35
    · have f_12 : ¬ (zi_7.toInt = 0) := ic_neq (rfl) (by decide) c_11
      refine lv_aload_n hx hb dX11_tie_24 rfl (lv_at hl 0 rfl) ?_
      refine lv_iconst (v := 1) hx hb dX11_tie_25 (by decide) ?_
      have qc_1 : (1 : Int32).toInt = 1 := by decide
      refine hj_i (ws := (WL cy zL zT zR zI zJ)) (w1 := fun (u : Unit) => (WL cy zL zT zR zI zJ)) (va_runV (As := [.int 1]) (rest := []) ⟨hx, hb, hml, hown, hts⟩ (t_X11_placesOf l dC dI cy H.size zL zT zR zI zJ zy (1 : Int32) hs h_zI.1 t_zy (by decide) hz) (cwV 1 hts gX11_tie_X11_placesOf rfl rfl rfl (by decide +kernel) ⟨(Nat.le_of_ble_eq_true rfl), (Nat.le_of_ble_eq_true rfl)⟩) (PRE.v hP hK hD hN (ht_recv hK hP hs t_zy (by decide) rfl rfl)) rfl rfl hl.1 rfl (lv_room (Nat.le_of_ble_eq_true rfl)) dX11_tie_26 ⟨(Nat.le_of_ble_eq_true rfl), (Nat.le_of_ble_eq_true rfl)⟩) hP hD hS hA (fun zi_13 u_15 H locs hw_14 hP hD hS => ?_)
      obtain ⟨b_zi_13, ps_16⟩ : (0 ≤ zi_13.toInt ∧ zi_13.toInt ≤ 12) ∧ (zi_13.toInt = PLZ (zI (zR zy 0)) (1 : Int32).toInt) := hw_14
      refine lv_if_ne (tgt := 36) hx hb dX11_tie_29 (by decide) (fun c_17 => ?_) (fun c_17 => ?_)
      · have f_18 : zi_13.toInt ≠ 0 := ic_ne (rfl) (by decide) c_17
        refine lv_aload_n hx hb dX11_tie_36 rfl (lv_at hl 0 rfl) ?_
        refine hj_v (ws := (WL cy zL zT zR zI zJ)) (w1 := fun (u : (Nat → Nat → Int32) × (Nat → Nat → Int64)) => (WL cy zL zT zR u.1 u.2)) (va_runV (As := []) (rest := []) ⟨hx, hb, hml, hown, hts⟩ (t_X11_keepFirst l dC dI cy H.size zL zT zR zI zJ zy hs h_zI.1 t_zy hz) (cwV 0 hts gX11_tie_X11_keepFirst rfl rfl rfl (by decide +kernel) ⟨(Nat.le_of_ble_eq_true rfl), (Nat.le_of_ble_eq_true rfl)⟩) (PRE.v hP hK hD hN (ht_recv hK hP hs t_zy (by decide) rfl rfl)) rfl rfl hl.1 rfl (lv_room (Nat.le_of_ble_eq_true rfl)) dX11_tie_37 ⟨(Nat.le_of_ble_eq_true rfl), (Nat.le_of_ble_eq_true rfl)⟩) hP hD hS hA (fun u_21 H locs hw_20 hP hD hS => ?_)
        obtain ⟨zI_22, zJ_23⟩ := u_21
        obtain ⟨k_zI_22, ps_24, ps_25⟩ : (WM [1806, 1807, 1819, 10300, 10400, 10500, 10600, 10700, 10800] AL zT zR zI zI_22) ∧ (PO (zI (zR zy 0)) (zI_22 (zR zy 8)) (0 : Int32).toInt (zI_22 zy 6).toInt) ∧ (0 ≤ (zJ_23 zy 20).toInt ∧ (zJ_23 zy 20).toInt ≤ 1000000000) := hw_20
        have h_zI_22 : WM [1806, 1807, 1819, 10300, 10400, 10500, 10600, 10700, 10800] AL zT zR zI zI_22 := h_zI.tr k_zI_22 (by decide) (fun _ _ => trivial)
        obtain ⟨zi_26, ezi_26⟩ : ∃ y : Int32, y = zI_22 zy 6 := ⟨_, rfl⟩
        have tzi_26 : 0 ≤ zi_26.toInt ∧ zi_26.toInt ≤ 12 := by rw [ezi_26]; exact h_zI_22.at t_zy _ rfl
        have lk_27 : (zI_22 zy 6).toInt = zi_26.toInt := congrArg Int32.toInt ezi_26.symm
        refine lv_aload_n hx hb dX11_tie_40 rfl (lv_at hl 0 rfl) ?_
        refine lv_iconst (v := 1) hx hb dX11_tie_41 (by decide) ?_
        have t_28 : zT (zR zy 0) = 100 := sk_f hs t_zy (by decide) rfl (by decide)
        have zz_29 : ZI (zI_22 (zR zy 0)) := by rw [(k_zI_22.2.row t_28 (by decide) (by decide))]; exact hz
        refine hj_v (ws := (WL cy zL zT zR zI_22 zJ_23)) (w1 := fun (u : (Nat → Nat → Int32) × (Nat → Nat → Int64)) => (WL cy zL zT zR u.1 u.2)) (va_runV (As := [.int 1]) (rest := []) ⟨hx, hb, hml, hown, hts⟩ (t_X11_countNow l dC dI cy H.size zL zT zR zI_22 zJ_23 zy (1 : Int32) hs h_zI_22.1 t_zy (by decide) zz_29) (cwV 1 hts gX11_tie_X11_countNow rfl rfl rfl (by decide +kernel) ⟨(Nat.le_of_ble_eq_true rfl), (Nat.le_of_ble_eq_true rfl)⟩) (PRE.v hP hK hD hN (ht_recv hK hP hs t_zy (by decide) rfl rfl)) rfl rfl hl.1 rfl (lv_room (Nat.le_of_ble_eq_true rfl)) dX11_tie_42 ⟨(Nat.le_of_ble_eq_true rfl), (Nat.le_of_ble_eq_true rfl)⟩) hP hD hS hA (fun u_32 H locs hw_31 hP hD hS => ?_)
        obtain ⟨zI_33, zJ_34⟩ := u_32
        obtain ⟨k_zI_33, ps_35, ps_36, ps_37, ps_38, ps_39⟩ : (WM [1806, 1807, 10300, 10400, 10500, 10600, 10700] AL zT zR zI_22 zI_33) ∧ (PO (zI_22 (zR zy 0)) (zI_33 (zR zy 8)) (1 : Int32).toInt (zI_33 zy 6).toInt) ∧ ((zI_33 zy 6).toInt = PLZ (zI_22 (zR zy 0)) (1 : Int32).toInt) ∧ (zJ_34 zy 15 = CT zR zI_33 zy) ∧ (0 ≤ (zJ_34 zy 15).toInt ∧ (zJ_34 zy 15).toInt ≤ 1000000000) ∧ (zJ_34 zy 20 = zJ_23 zy 20) := hw_31
        have h_zI_33 : WM [1806, 1807, 1819, 10300, 10400, 10500, 10600, 10700, 10800] AL zT zR zI zI_33 := h_zI_22.tr k_zI_33 (by decide) (fun _ _ => trivial)
        obtain ⟨zi_40, ezi_40⟩ : ∃ y : Int32, y = zI_33 zy 6 := ⟨_, rfl⟩
        have tzi_40 : 0 ≤ zi_40.toInt ∧ zi_40.toInt ≤ 12 := by rw [ezi_40]; exact h_zI_33.at t_zy _ rfl
        have lk_41 : (zI_33 zy 6).toInt = zi_40.toInt := congrArg Int32.toInt ezi_40.symm
        refine lv_aload_n hx hb dX11_tie_45 rfl (lv_at hl 0 rfl) ?_
        refine ht_getl (C := RX11) (T := TX11) (N := 28) hx hb hts (by decide +kernel) hown hK hP hs t_zy (by decide) rfl rfl 20 (by decide) (hts (.fieldLink RX11 285 "DripStoneModel" "firstTotal" "J") (by decide +kernel)) (fun _ h9 => h9) rfl dX11_tie_46 ?_
        refine lv_topl (fun zj_42 ezj_42 => ?_)
        refine lv_lconst (v := 0) hx hb dX11_tie_49 (by decide) ?_
        refine W.lcmp hx hb dX11_tie_50 ?_
        refine lv_topi (fun zi_43 ezi_43 => ?_)
        refine lv_if_eq (tgt := 63) hx hb dX11_tie_51 (by decide) (fun c_44 => ?_) (fun c_44 => ?_)
        · have f_45 : zj_42.toInt = (0 : Int) := lk_eq ezi_43 (rfl) (show (0 : Int64).toInt = 0 by decide) c_44
          refine lv_ldc2 (v := (-4)) hx hb hown (hts (.constantLong RX11 293 (-4)) (by decide +kernel)) dX11_tie_63 ?_
          subst hQ
          exact W.lret (v := (-4 : Int64)) hx hb hr (fun t ht hW => ⟨⟨(-4 : Int64), (zI_33, zJ_34), rfl, h_zI_33, ⟨by rw [ht]; exact hP, va_K.moved hW.alike hK, hD⟩⟩, hS.F ht⟩) hS.2.2 dX11_tie_66
        · have f_45 : ¬ (zj_42.toInt = (0 : Int)) := lk_neq ezi_43 (rfl) (show (0 : Int64).toInt = 0 by decide) c_44
          refine lv_aload_n hx hb dX11_tie_54 rfl (lv_at hl 0 rfl) ?_
          refine ht_getl (C := RX11) (T := TX11) (N := 28) hx hb hts (by decide +kernel) hown hK hP hs t_zy (by decide) rfl rfl 15 (by decide) (hts (.fieldLink RX11 217 "DripStoneModel" "total" "J") (by decide +kernel)) (fun _ h9 => h9) rfl dX11_tie_55 ?_
          refine lv_topl (fun zj_46 ezj_46 => ?_)
          refine lv_lconst (v := 0) hx hb dX11_tie_58 (by decide) ?_
          refine W.lcmp hx hb dX11_tie_59 ?_
          refine lv_topi (fun zi_47 ezi_47 => ?_)
          refine lv_if_ne (tgt := 67) hx hb dX11_tie_60 (by decide) (fun c_48 => ?_) (fun c_48 => ?_)
          · have f_49 : ¬ (zj_46.toInt = (0 : Int)) := lk_ne ezi_47 (rfl) (show (0 : Int64).toInt = 0 by decide) c_48
            refine lv_iconst (v := 0) hx hb dX11_tie_67 (by decide) ?_
            refine lv_istore_n (lv' := [(2, .int 0), (0, .ref zy), (1, .int zia)]) hx hb dX11_tie_68 rfl hl (by decide) rfl (fun ls hl => ?_)
            refine lv_iconst (v := 0) hx hb dX11_tie_69 (by decide) ?_
            refine lv_istore_n (lv' := [(3, .int 0), (2, .int 0), (0, .ref zy), (1, .int zia)]) hx hb dX11_tie_70 rfl hl (by decide) rfl (fun ls hl => ?_)
            refine lv_ldc2 (v := (-1)) hx hb hown (hts (.constantLong RX11 236 (-1)) (by decide +kernel)) dX11_tie_71 ?_
            refine lv_lstore (lv' := [(4, .long (-1)), (3, .int 0), (2, .int 0), (0, .ref zy), (1, .int zia)]) hx hb dX11_tie_74 hl (by decide) rfl (fun ls hl => ?_)
            refine lv_iconst (v := 0) hx hb dX11_tie_76 (by decide) ?_
            refine lv_istore (lv' := [(6, .int 0), (4, .long (-1)), (3, .int 0), (2, .int 0), (0, .ref zy), (1, .int zia)]) hx hb dX11_tie_77 hl (by decide) rfl (fun ls hl => ?_)
            have lp_300 : ∀ (n : Nat) (zi_204 : Int32) (zi_205 : Int32) (zj_206 : Int64) (zi_207 : Int32) (H : Heap) (locs : List Loc) (ls : Array Slot), (12 - zi_207.toInt).toNat = n → (0 ≤ zi_204.toInt ∧ zi_204.toInt ≤ 11) → (0 ≤ zi_205.toInt ∧ zi_205.toInt ≤ 11) → (0 ≤ zi_207.toInt ∧ zi_207.toInt ≤ 12) → (ZI (zI_33 (zR zy 0))) → va_P (dC, dI) vwCl (WL cy zL zT zR zI_33 zJ_34) H → va_D A (WL cy zL zT zR zI_33 zJ_34) → va_S A s.heap H locs → lv_has ls 8 [(0, .ref zy), (1, .int zia), (2, .int zi_204), (3, .int zi_205), (4, .long zj_206), (6, .int zi_207)] → W p l e ({ frames := 6, cells := 0, slots := 0, locals := 136 } : Room) s m ([.ref zy, .int zia] : List Value).toArray below meth c H locs 0 0 Q (F0 m 79 ls []) := by
              intro n
              induction n using Nat.strongRecOn with
              | _ n ih_300 =>
                intro zi_204 zi_205 zj_206 zi_207 H locs ls hn b_zi_204 b_zi_205 b_zi_207 e_lp_300_0 hP hD hS hl
                refine lv_iload hx hb dX11_tie_79 (lv_at hl 5 rfl) ?_
                refine lv_aload_n hx hb dX11_tie_81 rfl (lv_at hl 0 rfl) ?_
                refine ht_geti (C := RX11) (T := TX11) (N := 28) hx hb hts (by decide +kernel) hown hK hP hs t_zy (by decide) rfl rfl 19 (by decide) (hts (.fieldLink RX11 282 "DripStoneModel" "firstPlaces" "I") (by decide +kernel)) (fun _ h9 => h9) rfl dX11_tie_82 ?_
                refine lv_topi (fun zi_301 ezi_301 => ?_)
                have tzi_301 : 0 ≤ zi_301.toInt ∧ zi_301.toInt ≤ 12 := by rw [ezi_301]; exact h_zI_33.at t_zy _ rfl
                refine lv_icmp_ge (tgt := 152) hx hb dX11_tie_85 (by decide) (fun c_302 => ?_) (fun c_302 => ?_)
                · have f_303 : zi_207.toInt ≥ zi_301.toInt := ic_ge (rfl) (rfl) c_302
                  refine lv_iload_n hx hb dX11_tie_152 rfl (lv_at hl 1 rfl) ?_
                  refine lv_if_ne (tgt := 161) hx hb dX11_tie_153 (by decide) (fun c_304 => ?_) (fun c_304 => ?_)
                  · have f_305 : zia.toInt ≠ 0 := ic_ne (rfl) (by decide) c_304
                    refine lv_iload_n hx hb dX11_tie_161 rfl (lv_at hl 1 rfl) ?_
                    refine lv_iconst (v := 1) hx hb dX11_tie_162 (by decide) ?_
                    refine lv_icmp_ne (tgt := 171) hx hb dX11_tie_163 (by decide) (fun c_306 => ?_) (fun c_306 => ?_)
                    · have f_307 : zia.toInt ≠ (1 : Int) := ic_ne (rfl) (show (1 : Int32).toInt = 1 by decide) c_306
                      refine lv_lload hx hb dX11_tie_171 (lv_at hl 4 rfl) ?_
                      subst hQ
                      exact W.lret (v := zj_206) hx hb hr (fun t ht hW => ⟨⟨zj_206, (zI_33, zJ_34), rfl, h_zI_33, ⟨by rw [ht]; exact hP, va_K.moved hW.alike hK, hD⟩⟩, hS.F ht⟩) hS.2.2 dX11_tie_173
                    · have f_307 : ¬ (zia.toInt ≠ (1 : Int)) := ic_nne (rfl) (show (1 : Int32).toInt = 1 by decide) c_306
                      refine lv_iload_n hx hb dX11_tie_166 rfl (lv_at hl 3 rfl) ?_
                      refine lv_i2l (v := zi_205.toInt64) hx hb dX11_tie_167 rfl ?_
                      refine lv_topl (fun zj_308 ezj_308 => ?_)
                      have tzj_308 : zj_308.toInt = zi_205.toInt := by rw [ezj_308]; exact Int32.toInt_toInt64 _
                      refine lv_goto (tgt := 173) hx hb dX11_tie_168 (by decide) ?_
                      subst hQ
                      exact W.lret (v := zj_308) hx hb hr (fun t ht hW => ⟨⟨zj_308, (zI_33, zJ_34), rfl, h_zI_33, ⟨by rw [ht]; exact hP, va_K.moved hW.alike hK, hD⟩⟩, hS.F ht⟩) hS.2.2 dX11_tie_173
                  · have f_305 : ¬ (zia.toInt ≠ 0) := ic_nne (rfl) (by decide) c_304
                    refine lv_iload_n hx hb dX11_tie_156 rfl (lv_at hl 2 rfl) ?_
                    refine lv_i2l (v := zi_204.toInt64) hx hb dX11_tie_157 rfl ?_
                    refine lv_topl (fun zj_309 ezj_309 => ?_)
                    have tzj_309 : zj_309.toInt = zi_204.toInt := by rw [ezj_309]; exact Int32.toInt_toInt64 _
                    refine lv_goto (tgt := 173) hx hb dX11_tie_158 (by decide) ?_
                    subst hQ
                    exact W.lret (v := zj_309) hx hb hr (fun t ht hW => ⟨⟨zj_309, (zI_33, zJ_34), rfl, h_zI_33, ⟨by rw [ht]; exact hP, va_K.moved hW.alike hK, hD⟩⟩, hS.F ht⟩) hS.2.2 dX11_tie_173
                · have f_303 : ¬ (zi_207.toInt ≥ zi_301.toInt) := ic_nge (rfl) (rfl) c_302
                  refine lv_iconst (v := 0) hx hb dX11_tie_88 (by decide) ?_
                  refine lv_istore (lv' := [(7, .int 0), (0, .ref zy), (1, .int zia), (2, .int zi_204), (3, .int zi_205), (4, .long zj_206), (6, .int zi_207)]) hx hb dX11_tie_89 hl (by decide) rfl (fun ls hl => ?_)
                  have lp_333 : ∀ (n : Nat) (zi_310 : Int32) (zi_311 : Int32) (zj_312 : Int64) (zi_313 : Int32) (H : Heap) (locs : List Loc) (ls : Array Slot), (12 - zi_313.toInt).toNat = n → (0 ≤ zi_310.toInt ∧ zi_310.toInt ≤ 11) → (0 ≤ zi_311.toInt ∧ zi_311.toInt ≤ 11) → (0 ≤ zi_313.toInt ∧ zi_313.toInt ≤ 12) → (ZI (zI_33 (zR zy 0))) → va_P (dC, dI) vwCl (WL cy zL zT zR zI_33 zJ_34) H → va_D A (WL cy zL zT zR zI_33 zJ_34) → va_S A s.heap H locs → lv_has ls 8 [(0, .ref zy), (1, .int zia), (2, .int zi_310), (3, .int zi_311), (4, .long zj_312), (6, .int zi_207), (7, .int zi_313)] → W p l e ({ frames := 6, cells := 0, slots := 0, locals := 136 } : Room) s m ([.ref zy, .int zia] : List Value).toArray below meth c H locs 0 0 Q (F0 m 91 ls []) := by
                    intro n
                    induction n using Nat.strongRecOn with
                    | _ n ih_333 =>
                      intro zi_310 zi_311 zj_312 zi_313 H locs ls hn b_zi_310 b_zi_311 b_zi_313 e_lp_333_0 hP hD hS hl
                      refine lv_iload hx hb dX11_tie_91 (lv_at hl 6 rfl) ?_
                      refine lv_aload_n hx hb dX11_tie_93 rfl (lv_at hl 0 rfl) ?_
                      refine ht_geti (C := RX11) (T := TX11) (N := 28) hx hb hts (by decide +kernel) hown hK hP hs t_zy (by decide) rfl rfl 6 (by decide) (hts (.fieldLink RX11 192 "DripStoneModel" "places" "I") (by decide +kernel)) (fun _ h9 => h9) rfl dX11_tie_94 ?_
                      refine lv_topi (fun zi_334 ezi_334 => ?_)
                      obtain rfl : zi_40 = zi_334 := (ezi_334.trans ezi_40.symm).symm
                      refine lv_icmp_ge (tgt := 146) hx hb dX11_tie_97 (by decide) (fun c_335 => ?_) (fun c_335 => ?_)
                      · have f_336 : zi_313.toInt ≥ zi_40.toInt := ic_ge (rfl) (rfl) c_335
                        obtain ⟨zi_337, ezi_337⟩ : ∃ y : Int32, y = zi_207 + 1 := ⟨_, rfl⟩
                        have tzi_337 : zi_337.toInt = zi_207.toInt + 1 := by rw [ezi_337]; exact tadd rfl (show (1 : Int32).toInt = 1 by decide) (by omega) (by omega)
                        refine lv_iinc (v := zi_337) (lv' := [(6, .int zi_337), (0, .ref zy), (1, .int zia), (2, .int zi_310), (3, .int zi_311), (4, .long zj_312), (7, .int zi_313)]) hx hb dX11_tie_146 hl (k := 5) rfl (by rw [ezi_337]; rfl) (by decide) rfl (fun ls hl => ?_)
                        refine lv_goto (tgt := 79) hx hb dX11_tie_149 (by decide) ?_
                        exact ih_300 (12 - zi_337.toInt).toNat (by omega) zi_310 zi_311 zj_312 zi_337 _ _ _ rfl (by omega) (by omega) (by omega) e_lp_333_0 hP hD hS (lv_sub hl [1, 2, 3, 4, 5, 0] rfl)
                      · have f_336 : ¬ (zi_313.toInt ≥ zi_40.toInt) := ic_nge (rfl) (rfl) c_335
                        refine lv_aload_n hx hb dX11_tie_100 rfl (lv_at hl 0 rfl) ?_
                        refine lv_iload hx hb dX11_tie_101 (lv_at hl 5 rfl) ?_
                        refine lv_iload hx hb dX11_tie_103 (lv_at hl 6 rfl) ?_
                        refine hj_l (ws := (WL cy zL zT zR zI_33 zJ_34)) (w1 := fun (u : Unit) => (WL cy zL zT zR zI_33 zJ_34)) (va_runV (As := [.int zi_207, .int zi_313]) (rest := []) ⟨hx, hb, hml, hown, hts⟩ (t_X11_together l dC dI cy H.size zL zT zR zI_33 zJ_34 zy zi_207 zi_313 hs h_zI_33.1 t_zy (by omega) (by omega)) (cwV 2 hts gX11_tie_X11_together rfl rfl rfl (by decide +kernel) ⟨(Nat.le_of_ble_eq_true rfl), (Nat.le_of_ble_eq_true rfl)⟩) (PRE.v hP hK hD hN (ht_recv hK hP hs t_zy (by decide) rfl rfl)) rfl rfl hl.1 rfl (lv_room (Nat.le_of_ble_eq_true rfl)) dX11_tie_105 ⟨(Nat.le_of_ble_eq_true rfl), (Nat.le_of_ble_eq_true rfl)⟩) hP hD hS hA (fun zj_338 u_340 H locs hw_339 hP hD hS => ?_)
                        refine lv_lload hx hb dX11_tie_108 (lv_at hl 4 rfl) ?_
                        refine W.lcmp hx hb dX11_tie_110 ?_
                        refine lv_topi (fun zi_341 ezi_341 => ?_)
                        refine lv_if_le (tgt := 140) hx hb dX11_tie_111 (by decide) (fun c_342 => ?_) (fun c_342 => ?_)
                        · have f_343 : ¬ (zj_338.toInt > zj_312.toInt) := lk_le ezi_341 (rfl) (rfl) c_342
                          obtain ⟨zi_344, ezi_344⟩ : ∃ y : Int32, y = zi_313 + 1 := ⟨_, rfl⟩
                          have tzi_344 : zi_344.toInt = zi_313.toInt + 1 := by rw [ezi_344]; exact tadd rfl (show (1 : Int32).toInt = 1 by decide) (by omega) (by omega)
                          refine lv_iinc (v := zi_344) (lv' := [(7, .int zi_344), (0, .ref zy), (1, .int zia), (2, .int zi_310), (3, .int zi_311), (4, .long zj_312), (6, .int zi_207)]) hx hb dX11_tie_140 hl (k := 6) rfl (by rw [ezi_344]; rfl) (by decide) rfl (fun ls hl => ?_)
                          refine lv_goto (tgt := 91) hx hb dX11_tie_143 (by decide) ?_
                          exact ih_333 (12 - zi_344.toInt).toNat (by omega) zi_310 zi_311 zj_312 zi_344 _ _ _ rfl (by omega) (by omega) (by omega) e_lp_333_0 hP hD hS (lv_sub hl [1, 2, 3, 4, 5, 6, 0] rfl)
                        · have f_343 : zj_338.toInt > zj_312.toInt := lk_nle ezi_341 (rfl) (rfl) c_342
                          refine lv_aload_n hx hb dX11_tie_114 rfl (lv_at hl 0 rfl) ?_
                          refine lv_iload hx hb dX11_tie_115 (lv_at hl 5 rfl) ?_
                          refine lv_iload hx hb dX11_tie_117 (lv_at hl 6 rfl) ?_
                          refine hj_l (ws := (WL cy zL zT zR zI_33 zJ_34)) (w1 := fun (u : Unit) => (WL cy zL zT zR zI_33 zJ_34)) (va_runV (As := [.int zi_207, .int zi_313]) (rest := []) ⟨hx, hb, hml, hown, hts⟩ (t_X11_together l dC dI cy H.size zL zT zR zI_33 zJ_34 zy zi_207 zi_313 hs h_zI_33.1 t_zy (by omega) (by omega)) (cwV 2 hts gX11_tie_X11_together rfl rfl rfl (by decide +kernel) ⟨(Nat.le_of_ble_eq_true rfl), (Nat.le_of_ble_eq_true rfl)⟩) (PRE.v hP hK hD hN (ht_recv hK hP hs t_zy (by decide) rfl rfl)) rfl rfl hl.1 rfl (lv_room (Nat.le_of_ble_eq_true rfl)) dX11_tie_119 ⟨(Nat.le_of_ble_eq_true rfl), (Nat.le_of_ble_eq_true rfl)⟩) hP hD hS hA (fun zj_345 u_347 H locs hw_346 hP hD hS => ?_)
                          refine lv_lstore (lv' := [(4, .long zj_345), (0, .ref zy), (1, .int zia), (2, .int zi_310), (3, .int zi_311), (6, .int zi_207), (7, .int zi_313)]) hx hb dX11_tie_122 hl (by decide) rfl (fun ls hl => ?_)
                          refine lv_aload_n hx hb dX11_tie_124 rfl (lv_at hl 1 rfl) ?_
                          refine ht_getr (C := RX11) (T := TX11) (N := 28) hx hb hts (by decide +kernel) hown hK hP hs t_zy (by decide) rfl rfl 18 (by decide) (hts (.fieldLink RX11 47 "DripStoneModel" "firstThing" "[I") (by decide +kernel)) (fun _ h9 => h9) rfl dX11_tie_125 ?_
                          have t_348 : zT (zR zy 18) = 108 := sk_f hs t_zy (by decide) rfl (by decide)
                          refine lv_iload hx hb dX11_tie_128 (lv_at hl 5 rfl) ?_
                          refine ht_iald (n := 12) (q := 0) hx hb hK hP hs t_348 (by decide) rfl rfl ⟨by omega, by omega⟩ dX11_tie_130 ?_
                          refine lv_topi (fun zi_349 ezi_349 => ?_)
                          have tzi_349 : 0 ≤ zi_349.toInt ∧ zi_349.toInt ≤ 11 := by rw [ezi_349]; exact h_zI_33.at t_348 _ rfl
                          refine lv_istore_n (lv' := [(2, .int zi_349), (4, .long zj_345), (0, .ref zy), (1, .int zia), (3, .int zi_311), (6, .int zi_207), (7, .int zi_313)]) hx hb dX11_tie_131 rfl hl (by decide) rfl (fun ls hl => ?_)
                          refine lv_aload_n hx hb dX11_tie_132 rfl (lv_at hl 2 rfl) ?_
                          refine ht_getr (C := RX11) (T := TX11) (N := 28) hx hb hts (by decide +kernel) hown hK hP hs t_zy (by decide) rfl rfl 8 (by decide) (hts (.fieldLink RX11 19 "DripStoneModel" "placeThing" "[I") (by decide +kernel)) (fun _ h9 => h9) rfl dX11_tie_133 ?_
                          have t_350 : zT (zR zy 8) = 103 := sk_f hs t_zy (by decide) rfl (by decide)
                          refine lv_iload hx hb dX11_tie_136 (lv_at hl 6 rfl) ?_
                          refine ht_iald (n := 12) (q := 0) hx hb hK hP hs t_350 (by decide) rfl rfl ⟨by omega, by omega⟩ dX11_tie_138 ?_
                          refine lv_topi (fun zi_351 ezi_351 => ?_)
                          have tzi_351 : 0 ≤ zi_351.toInt ∧ zi_351.toInt ≤ 11 := by rw [ezi_351]; exact h_zI_33.at t_350 _ rfl
                          have la_352 : zi_351.toInt = zA (zI_33 (zR zy 8)) (zi_313.toInt) := (congrArg Int32.toInt (show zI_33 (zR zy 8) zi_313.toNatClampNeg = zi_351 from ezi_351.symm).symm).trans (congrArg (zA (zI_33 (zR zy 8))) (show zi_313.toInt = zi_313.toInt from by omega))
                          refine lv_istore_n (lv' := [(3, .int zi_351), (2, .int zi_349), (4, .long zj_345), (0, .ref zy), (1, .int zia), (6, .int zi_207), (7, .int zi_313)]) hx hb dX11_tie_139 rfl hl (by decide) rfl (fun ls hl => ?_)
                          obtain ⟨zi_353, ezi_353⟩ : ∃ y : Int32, y = zi_313 + 1 := ⟨_, rfl⟩
                          have tzi_353 : zi_353.toInt = zi_313.toInt + 1 := by rw [ezi_353]; exact tadd rfl (show (1 : Int32).toInt = 1 by decide) (by omega) (by omega)
                          refine lv_iinc (v := zi_353) (lv' := [(7, .int zi_353), (3, .int zi_351), (2, .int zi_349), (4, .long zj_345), (0, .ref zy), (1, .int zia), (6, .int zi_207)]) hx hb dX11_tie_140 hl (k := 6) rfl (by rw [ezi_353]; rfl) (by decide) rfl (fun ls hl => ?_)
                          refine lv_goto (tgt := 91) hx hb dX11_tie_143 (by decide) ?_
                          exact ih_333 (12 - zi_353.toInt).toNat (by omega) zi_349 zi_351 zj_345 zi_353 _ _ _ rfl (by omega) (by omega) (by omega) e_lp_333_0 hP hD hS (lv_sub hl [4, 5, 2, 1, 3, 6, 0] rfl)
                  exact lp_333 _ zi_204 zi_205 zj_206 (0 : Int32) _ _ _ rfl (by omega) (by omega) (by decide) e_lp_300_0 hP hD hS (lv_sub hl [1, 2, 3, 4, 5, 6, 0] rfl)
            have zz_354 : ZI (zI_33 (zR zy 0)) := by rw [(k_zI_33.2.row t_28 (by decide) (by decide))]; exact zz_29
            exact lp_300 _ (0 : Int32) (0 : Int32) (-1 : Int64) (0 : Int32) _ _ _ rfl (by decide) (by decide) (by decide) zz_354 hP hD hS (lv_sub hl [4, 5, 3, 2, 1, 0] rfl)
          · have f_49 : zj_46.toInt = (0 : Int) := lk_nne ezi_47 (rfl) (show (0 : Int64).toInt = 0 by decide) c_48
            refine lv_ldc2 (v := (-4)) hx hb hown (hts (.constantLong RX11 293 (-4)) (by decide +kernel)) dX11_tie_63 ?_
            subst hQ
            exact W.lret (v := (-4 : Int64)) hx hb hr (fun t ht hW => ⟨⟨(-4 : Int64), (zI_33, zJ_34), rfl, h_zI_33, ⟨by rw [ht]; exact hP, va_K.moved hW.alike hK, hD⟩⟩, hS.F ht⟩) hS.2.2 dX11_tie_66
      · have f_18 : ¬ (zi_13.toInt ≠ 0) := ic_nne (rfl) (by decide) c_17
        refine lv_ldc2 (v := (-2)) hx hb hown (hts (.constantLong RX11 238 (-2)) (by decide +kernel)) dX11_tie_32 ?_
        subst hQ
        exact W.lret (v := (-2 : Int64)) hx hb hr (fun t ht hW => ⟨⟨(-2 : Int64), (zI, zJ), rfl, h_zI, ⟨by rw [ht]; exact hP, va_K.moved hW.alike hK, hD⟩⟩, hS.F ht⟩) hS.2.2 dX11_tie_35
  · have f_6 : ¬ (0 ≤ zj_1.toInt ∧ zj_1.toInt ≤ 2) := bz_0 hw_3 c_5
    refine lv_ldc2 (v := (-1)) hx hb hown (hts (.constantLong RX11 236 (-1)) (by decide +kernel)) dX11_tie_12 ?_
    subst hQ
    exact W.lret (v := (-1 : Int64)) hx hb hr (fun t ht hW => ⟨⟨(-1 : Int64), (zI, zJ), rfl, h_zI, ⟨by rw [ht]; exact hP, va_K.moved hW.alike hK, hD⟩⟩, hS.F ht⟩) hS.2.2 dX11_tie_15
set_option maxHeartbeats 8000000 in
set_option maxRecDepth 100000 in
theorem t_X11_chance (l : Launch) (dC : Nat → ClassId) (dI : Nat → Nat → Nat) (cy : Nat → ClassId) (sz : Nat) (zL : List Nat) (zT : Nat → Nat) (zR : Nat → Nat → Nat) (zI : Nat → Nat → Int32) (zJ : Nat → Nat → Int64) (zy : Nat) (zia : Int32) (zib : Int32) (zic : Int32) (hs : SKP zL zT zR) (hw : WT zT zR zI) (t_zy : zT zy = 18) (hz : ZI (zI (zR zy 0))) : Met l yX11_chance wsX11_chance ({ frames := 6, cells := 0, slots := 0, locals := 138 } : Room) (va_Pc [.ref zy, .int zia, .int zib, .int zic] (PRE dC dI cy (WL cy zL zT zR zI zJ) sz)) (va_Ql (fun (r : Int64) (u : (Nat → Nat → Int32) × (Nat → Nat → Int64)) => (WM [1806, 1807, 10300, 10400, 10500, 10600, 10700] AL zT zR zI u.1)) (fun u t => POST dC dI cy (va_A (WL cy zL zT zR zI zJ) sz) (WL cy zL zT zR u.1 u.2) t) (va_A (WL cy zL zT zR zI zJ) sz)) 0 0 (va_A (WL cy zL zT zR zI zJ) sz) := by
  refine Met.ofW (cc := cX11_chance) (maxL := 5) (ret := (some .long)) (by decide) rfl ?_
  intro p e s m args below meth c s₁ B hml hv
  obtain ⟨rfl, hsz, hP, hK, hD0, hN⟩ := hv
  have hx := B.exec
  have hb := B.bytes
  have hr := B.returns
  have hts := atoms_spec (ws := wsX11_chance) B.pre
  have hown : s.vm.findClass RX11 = some m.cls := findClass_of_methodNamed B.named
  have hlocks := B.notSynchronized
  subst hsz
  have hD := hD0.self (sz := s.heap.size)
  generalize hAe : va_A (WL cy zL zT zR zI zJ) s.heap.size = A at hD ⊢
  have hA : ∀ q : Nat, s.heap.size ≤ q → A q := fun q h => by rw [← hAe]; exact Or.inr h
  have hS : va_S A s.heap s.heap [] := va_S.rf
  have hP : va_P (dC, dI) vwCl (WL cy zL zT zR zI zJ) s.heap := hP
  have hl := lv_entry ([.ref zy, .int zia, .int zib, .int zic] : List Value) (n := 5) (Nat.le_of_ble_eq_true rfl)
  rw [lg_entry_eq]
  generalize (lg_sl ([.ref zy, .int zia, .int zib, .int zic] : List Value) ++ List.replicate (5 - (lg_sl ([.ref zy, .int zia, .int zib, .int zic] : List Value)).length) Slot.unset).toArray = ls at hl ⊢
  have hl : lv_has ls 5 [(0, .ref zy), (1, .int zia), (2, .int zib), (3, .int zic)] := hl
  refine w_q (fun Q hQ => ?_)
  have h_zI : WM [1806, 1807, 10300, 10400, 10500, 10600, 10700] AL zT zR zI zI := WM.rf hw
  refine lv_aload_n hx hb dX11_chance_0 rfl (lv_at hl 0 rfl) ?_
  refine lv_iload_n hx hb dX11_chance_1 rfl (lv_at hl 1 rfl) ?_
  refine hj_i (ws := (WL cy zL zT zR zI zJ)) (w1 := fun (u : Unit) => (WL cy zL zT zR zI zJ)) (va_runV (As := [.int zia]) (rest := []) ⟨hx, hb, hml, hown, hts⟩ (t_X11_isClaim l dC dI cy s.heap.size zL zT zR zI zJ zy zia hs h_zI.1 t_zy hz) (cwV 1 hts gX11_chance_X11_isClaim rfl rfl rfl (by decide +kernel) ⟨(Nat.le_of_ble_eq_true rfl), (Nat.le_of_ble_eq_true rfl)⟩) (PRE.v hP hK hD hN (ht_recv hK hP hs t_zy (by decide) rfl rfl)) rfl rfl hl.1 rfl (lv_room (Nat.le_of_ble_eq_true rfl)) dX11_chance_2 ⟨(Nat.le_of_ble_eq_true rfl), (Nat.le_of_ble_eq_true rfl)⟩) hP hD hS hA (fun zi_1 u_3 H locs hw_2 hP hD hS => ?_)
  obtain ⟨b_zi_1, ps_4, ps_5⟩ : (0 ≤ zi_1.toInt ∧ zi_1.toInt ≤ 1) ∧ (zi_1.toInt = 0 ∨ (0 ≤ zia.toInt ∧ zia.toInt ≤ 3)) ∧ (zi_1.toInt = 0 ∨ zia.toInt < zA (zI (zR zy 0)) (12)) := hw_2
  refine lv_if_eq (tgt := 25) hx hb dX11_chance_5 (by decide) (fun c_6 => ?_) (fun c_6 => ?_)
  · have f_7 : zi_1.toInt = 0 := ic_eq (rfl) (by decide) c_6
    refine lv_ldc2 (v := (-1)) hx hb hown (hts (.constantLong RX11 236 (-1)) (by decide +kernel)) dX11_chance_25 ?_
    subst hQ
    exact W.lret (v := (-1 : Int64)) hx hb hr (fun t ht hW => ⟨⟨(-1 : Int64), (zI, zJ), rfl, h_zI, ⟨by rw [ht]; exact hP, va_K.moved hW.alike hK, hD⟩⟩, hS.F ht⟩) hS.2.2 dX11_chance_28
  · have f_7 : ¬ (zi_1.toInt = 0) := ic_neq (rfl) (by decide) c_6
    have b9_zia : 0 ≤ zia.toInt ∧ zia.toInt ≤ 3 := by omega
    refine lv_iload_n hx hb dX11_chance_8 rfl (lv_at hl 2 rfl) ?_
    refine hj0_i (ws := (WL cy zL zT zR zI zJ)) (va_runS (As := [.int zib]) (rest := []) ⟨hx, hb, hml, hown, hts⟩ (c_X11_isCandle l dC dI cy H.size zib) (va_cwS 1 hts gX11_chance_X11_isCandle rfl rfl rfl (by decide +kernel) ⟨(Nat.le_of_ble_eq_true rfl), (Nat.le_of_ble_eq_true rfl)⟩) (PRE.s (hP.sub [] rfl) hK (hD.sub [] (by decide) rfl) hN) rfl rfl hl.1 rfl (lv_room (Nat.le_of_ble_eq_true rfl)) dX11_chance_9 ⟨(Nat.le_of_ble_eq_true rfl), (Nat.le_of_ble_eq_true rfl)⟩) hP hD hS hA (fun zi_8 u_10 H locs hw_9 hP hD hS => ?_)
    have hw_9 : zi_8 = if 0 ≤ zib.toInt ∧ zib.toInt ≤ 1 then 1 else 0 := hw_9
    have b_zi_8 : 0 ≤ zi_8.toInt ∧ zi_8.toInt ≤ 1 := bz_b hw_9
    refine lv_if_eq (tgt := 25) hx hb dX11_chance_12 (by decide) (fun c_11 => ?_) (fun c_11 => ?_)
    · have f_12 : ¬ (0 ≤ zib.toInt ∧ zib.toInt ≤ 1) := bz_0 hw_9 c_11
      refine lv_ldc2 (v := (-1)) hx hb hown (hts (.constantLong RX11 236 (-1)) (by decide +kernel)) dX11_chance_25 ?_
      subst hQ
      exact W.lret (v := (-1 : Int64)) hx hb hr (fun t ht hW => ⟨⟨(-1 : Int64), (zI, zJ), rfl, h_zI, ⟨by rw [ht]; exact hP, va_K.moved hW.alike hK, hD⟩⟩, hS.F ht⟩) hS.2.2 dX11_chance_28
    · have f_12 : 0 ≤ zib.toInt ∧ zib.toInt ≤ 1 := bz_1 hw_9 c_11
      refine lv_iload_n hx hb dX11_chance_15 rfl (lv_at hl 3 rfl) ?_
      refine lv_i2l (v := zic.toInt64) hx hb dX11_chance_16 rfl ?_
      refine lv_topl (fun zj_13 ezj_13 => ?_)
      have tzj_13 : zj_13.toInt = zic.toInt := by rw [ezj_13]; exact Int32.toInt_toInt64 _
      refine lv_lconst (v := 0) hx hb dX11_chance_17 (by decide) ?_
      refine lv_lconst (v := 1) hx hb dX11_chance_18 (by decide) ?_
      refine hj0_i (ws := (WL cy zL zT zR zI zJ)) (va_runS (As := [.long zj_13, .long 0, .long 1]) (rest := []) ⟨hx, hb, hml, hown, hts⟩ (c_X11_in l dC dI cy H.size zj_13 0 1 0 1 zj_13.toInt (by first | rfl | decide | omega | exact Int32.toInt_toInt64 _) (by first | rfl | decide | omega | exact Int32.toInt_toInt64 _) (by first | rfl | decide | omega | exact Int32.toInt_toInt64 _)) (va_cwS 3 hts gX11_chance_X11_in rfl rfl rfl (by decide +kernel) ⟨(Nat.le_of_ble_eq_true rfl), (Nat.le_of_ble_eq_true rfl)⟩) (PRE.s (hP.sub [] rfl) hK (hD.sub [] (by decide) rfl) hN) rfl rfl hl.1 rfl (lv_room (Nat.le_of_ble_eq_true rfl)) dX11_chance_19 ⟨(Nat.le_of_ble_eq_true rfl), (Nat.le_of_ble_eq_true rfl)⟩) hP hD hS hA (fun zi_14 u_16 H locs hw_15 hP hD hS => ?_)
      have hw_15 : zi_14 = if 0 ≤ zj_13.toInt ∧ zj_13.toInt ≤ 1 then 1 else 0 := hw_15
      have b_zi_14 : 0 ≤ zi_14.toInt ∧ zi_14.toInt ≤ 1 := bz_b hw_15
      refine lv_if_ne (tgt := 29) hx hb dX11_chance_22 (by decide) (fun c_17 => ?_) (fun c_17 => ?_)
      · have f_18 : 0 ≤ zj_13.toInt ∧ zj_13.toInt ≤ 1 := bz_1 hw_15 c_17
        refine lv_aload_n hx hb dX11_chance_29 rfl (lv_at hl 0 rfl) ?_
        refine lv_iload_n hx hb dX11_chance_30 rfl (lv_at hl 2 rfl) ?_
        refine hj_i (ws := (WL cy zL zT zR zI zJ)) (w1 := fun (u : (Nat → Nat → Int32) × (Nat → Nat → Int64)) => (WL cy zL zT zR u.1 u.2)) (va_runV (As := [.int zib]) (rest := []) ⟨hx, hb, hml, hown, hts⟩ (t_X11_lacksAny l dC dI cy H.size zL zT zR zI zJ zy zib hs h_zI.1 t_zy (by omega) hz) (cwV 1 hts gX11_chance_X11_lacksAny rfl rfl rfl (by decide +kernel) ⟨(Nat.le_of_ble_eq_true rfl), (Nat.le_of_ble_eq_true rfl)⟩) (PRE.v hP hK hD hN (ht_recv hK hP hs t_zy (by decide) rfl rfl)) rfl rfl hl.1 rfl (lv_room (Nat.le_of_ble_eq_true rfl)) dX11_chance_31 ⟨(Nat.le_of_ble_eq_true rfl), (Nat.le_of_ble_eq_true rfl)⟩) hP hD hS hA (fun zi_19 u_21 H locs hw_20 hP hD hS => ?_)
        obtain ⟨zI_22, zJ_23⟩ := u_21
        obtain ⟨k_zI_22, b_zi_19, ps_24⟩ : (WM [1806, 1807, 10300, 10400, 10500, 10600, 10700] AL zT zR zI zI_22) ∧ ((-4) ≤ zi_19.toInt ∧ zi_19.toInt ≤ 0) ∧ (zi_19.toInt < 0 ∨ ¬ (zJ_23 zy 15).toInt = 0) := hw_20
        have h_zI_22 : WM [1806, 1807, 10300, 10400, 10500, 10600, 10700] AL zT zR zI zI_22 := h_zI.tr k_zI_22 (by decide) (fun _ _ => trivial)
        refine lv_istore (lv' := [(4, .int zi_19), (0, .ref zy), (1, .int zia), (2, .int zib), (3, .int zic)]) hx hb dX11_chance_34 hl (by decide) rfl (fun ls hl => ?_)
        refine lv_iload hx hb dX11_chance_36 (lv_at hl 0 rfl) ?_
        refine lv_if_ge (tgt := 47) hx hb dX11_chance_38 (by decide) (fun c_25 => ?_) (fun c_25 => ?_)
        · have f_26 : zi_19.toInt ≥ 0 := ic_ge (rfl) (by decide) c_25
          refine lv_aload_n hx hb dX11_chance_47 rfl (lv_at hl 1 rfl) ?_
          refine lv_iload_n hx hb dX11_chance_48 rfl (lv_at hl 2 rfl) ?_
          refine lv_iload_n hx hb dX11_chance_49 rfl (lv_at hl 3 rfl) ?_
          refine lv_iconst (v := 0) hx hb dX11_chance_50 (by decide) ?_
          have qc_0 : (0 : Int32).toInt = 0 := by decide
          have t_27 : zT (zR zy 0) = 100 := sk_f hs t_zy (by decide) rfl (by decide)
          have zz_28 : ZI (zI_22 (zR zy 0)) := by rw [(k_zI_22.2.row t_27 (by decide) (by decide))]; exact hz
          refine hj_l (ws := (WL cy zL zT zR zI_22 zJ_23)) (w1 := fun (u : (Nat → Nat → Int64)) => (WL cy zL zT zR zI_22 u)) (va_runV (As := [.int zia, .int zib, .int 0]) (rest := []) ⟨hx, hb, hml, hown, hts⟩ (t_X11_waysSo l dC dI cy H.size zL zT zR zI_22 zJ_23 zy zia zib (0 : Int32) hs h_zI_22.1 t_zy (by omega) (by omega) zz_28 (by rw [(h_zI_22.2.row t_27 (by decide) (by decide))]; omega)) (cwV 3 hts gX11_chance_X11_waysSo rfl rfl rfl (by decide +kernel) ⟨(Nat.le_of_ble_eq_true rfl), (Nat.le_of_ble_eq_true rfl)⟩) (PRE.v hP hK hD hN (ht_recv hK hP hs t_zy (by decide) rfl rfl)) rfl rfl hl.1 rfl (lv_room (Nat.le_of_ble_eq_true rfl)) dX11_chance_51 ⟨(Nat.le_of_ble_eq_true rfl), (Nat.le_of_ble_eq_true rfl)⟩) hP hD hS hA (fun zj_29 zJ_32 H locs hw_30 hP hD hS => ?_)
          have ps_33 : zJ_32 zy 15 = zJ_23 zy 15 := hw_30
          refine lv_aload_n hx hb dX11_chance_54 rfl (lv_at hl 1 rfl) ?_
          refine ht_getl (C := RX11) (T := TX11) (N := 28) hx hb hts (by decide +kernel) hown hK hP hs t_zy (by decide) rfl rfl 15 (by decide) (hts (.fieldLink RX11 217 "DripStoneModel" "total" "J") (by decide +kernel)) (fun _ h9 => h9) rfl dX11_chance_55 ?_
          refine lv_topl (fun zj_34 ezj_34 => ?_)
          refine lv_iload_n hx hb dX11_chance_58 rfl (lv_at hl 4 rfl) ?_
          refine hj0_l (ws := (WL cy zL zT zR zI_22 zJ_32)) (va_runS (As := [.long zj_29, .long zj_34, .int zic]) (rest := []) ⟨hx, hb, hml, hown, hts⟩ (c_X11_part l dC dI cy H.size zj_29 zj_34 zic (by rw [(show zj_34 = zJ_32 zy 15 from ezj_34), ps_33]; exact ps_24.resolve_left (by omega))) (va_cwS 3 hts gX11_chance_X11_part rfl rfl rfl (by decide +kernel) ⟨(Nat.le_of_ble_eq_true rfl), (Nat.le_of_ble_eq_true rfl)⟩) (PRE.s (hP.sub [] rfl) hK (hD.sub [] (by decide) rfl) hN) rfl rfl hl.1 rfl (lv_room (Nat.le_of_ble_eq_true rfl)) dX11_chance_59 ⟨(Nat.le_of_ble_eq_true rfl), (Nat.le_of_ble_eq_true rfl)⟩) hP hD hS hA (fun zj_35 u_37 H locs hw_36 hP hD hS => ?_)
          subst hQ
          exact W.lret (v := zj_35) hx hb hr (fun t ht hW => ⟨⟨zj_35, (zI_22, zJ_32), rfl, h_zI_22, ⟨by rw [ht]; exact hP, va_K.moved hW.alike hK, hD⟩⟩, hS.F ht⟩) hS.2.2 dX11_chance_62
        · have f_26 : ¬ (zi_19.toInt ≥ 0) := ic_nge (rfl) (by decide) c_25
          refine lv_iload hx hb dX11_chance_41 (lv_at hl 0 rfl) ?_
          refine lv_i2l (v := zi_19.toInt64) hx hb dX11_chance_43 rfl ?_
          refine lv_topl (fun zj_38 ezj_38 => ?_)
          have tzj_38 : zj_38.toInt = zi_19.toInt := by rw [ezj_38]; exact Int32.toInt_toInt64 _
          refine lv_goto (tgt := 62) hx hb dX11_chance_44 (by decide) ?_
          subst hQ
          exact W.lret (v := zj_38) hx hb hr (fun t ht hW => ⟨⟨zj_38, (zI_22, zJ_23), rfl, h_zI_22, ⟨by rw [ht]; exact hP, va_K.moved hW.alike hK, hD⟩⟩, hS.F ht⟩) hS.2.2 dX11_chance_62
      · have f_18 : ¬ (0 ≤ zj_13.toInt ∧ zj_13.toInt ≤ 1) := bz_0 hw_15 c_17
        refine lv_ldc2 (v := (-1)) hx hb hown (hts (.constantLong RX11 236 (-1)) (by decide +kernel)) dX11_chance_25 ?_
        subst hQ
        exact W.lret (v := (-1 : Int64)) hx hb hr (fun t ht hW => ⟨⟨(-1 : Int64), (zI, zJ), rfl, h_zI, ⟨by rw [ht]; exact hP, va_K.moved hW.alike hK, hD⟩⟩, hS.F ht⟩) hS.2.2 dX11_chance_28
set_option maxHeartbeats 8000000 in
set_option maxRecDepth 100000 in
theorem t_X11_looked (l : Launch) (dC : Nat → ClassId) (dI : Nat → Nat → Nat) (cy : Nat → ClassId) (sz : Nat) (zL : List Nat) (zT : Nat → Nat) (zR : Nat → Nat → Nat) (zI : Nat → Nat → Int32) (zJ : Nat → Nat → Int64) (zy : Nat) (zia : Int32) (zib : Int32) (zic : Int32) (zid : Int32) (zie : Int32) (hs : SKP zL zT zR) (hw : WT zT zR zI) (t_zy : zT zy = 18) (hz : ZI (zI (zR zy 0))) : Met l yX11_looked wsX11_looked ({ frames := 6, cells := 0, slots := 0, locals := 138 } : Room) (va_Pc [.ref zy, .int zia, .int zib, .int zic, .int zid, .int zie] (PRE dC dI cy (WL cy zL zT zR zI zJ) sz)) (va_Qi (fun (r : Int32) (u : (Nat → Nat → Int32) × (Nat → Nat → Int64)) => (WM [1806, 1807, 10300, 10400, 10500, 10600, 10700] AL zT zR zI u.1)) (fun u t => POST dC dI cy (va_A (WL cy zL zT zR zI zJ) sz) (WL cy zL zT zR u.1 u.2) t) (va_A (WL cy zL zT zR zI zJ) sz)) 0 0 (va_A (WL cy zL zT zR zI zJ) sz) := by
  refine Met.ofW (cc := cX11_looked) (maxL := 11) (ret := (some .int)) (by decide) rfl ?_
  intro p e s m args below meth c s₁ B hml hv
  obtain ⟨rfl, hsz, hP, hK, hD0, hN⟩ := hv
  have hx := B.exec
  have hb := B.bytes
  have hr := B.returns
  have hts := atoms_spec (ws := wsX11_looked) B.pre
  have hown : s.vm.findClass RX11 = some m.cls := findClass_of_methodNamed B.named
  have hlocks := B.notSynchronized
  subst hsz
  have hD := hD0.self (sz := s.heap.size)
  generalize hAe : va_A (WL cy zL zT zR zI zJ) s.heap.size = A at hD ⊢
  have hA : ∀ q : Nat, s.heap.size ≤ q → A q := fun q h => by rw [← hAe]; exact Or.inr h
  have hS : va_S A s.heap s.heap [] := va_S.rf
  have hP : va_P (dC, dI) vwCl (WL cy zL zT zR zI zJ) s.heap := hP
  have hl := lv_entry ([.ref zy, .int zia, .int zib, .int zic, .int zid, .int zie] : List Value) (n := 11) (Nat.le_of_ble_eq_true rfl)
  rw [lg_entry_eq]
  generalize (lg_sl ([.ref zy, .int zia, .int zib, .int zic, .int zid, .int zie] : List Value) ++ List.replicate (11 - (lg_sl ([.ref zy, .int zia, .int zib, .int zic, .int zid, .int zie] : List Value)).length) Slot.unset).toArray = ls at hl ⊢
  have hl : lv_has ls 11 [(0, .ref zy), (1, .int zia), (2, .int zib), (3, .int zic), (4, .int zid), (5, .int zie)] := hl
  refine w_q (fun Q hQ => ?_)
  have h_zI : WM [1806, 1807, 10300, 10400, 10500, 10600, 10700] AL zT zR zI zI := WM.rf hw
  refine lv_aload_n hx hb dX11_looked_0 rfl (lv_at hl 0 rfl) ?_
  refine lv_iload_n hx hb dX11_looked_1 rfl (lv_at hl 1 rfl) ?_
  refine hj_i (ws := (WL cy zL zT zR zI zJ)) (w1 := fun (u : Unit) => (WL cy zL zT zR zI zJ)) (va_runV (As := [.int zia]) (rest := []) ⟨hx, hb, hml, hown, hts⟩ (t_X11_isClaim l dC dI cy s.heap.size zL zT zR zI zJ zy zia hs h_zI.1 t_zy hz) (cwV 1 hts gX11_looked_X11_isClaim rfl rfl rfl (by decide +kernel) ⟨(Nat.le_of_ble_eq_true rfl), (Nat.le_of_ble_eq_true rfl)⟩) (PRE.v hP hK hD hN (ht_recv hK hP hs t_zy (by decide) rfl rfl)) rfl rfl hl.1 rfl (lv_room (Nat.le_of_ble_eq_true rfl)) dX11_looked_2 ⟨(Nat.le_of_ble_eq_true rfl), (Nat.le_of_ble_eq_true rfl)⟩) hP hD hS hA (fun zi_1 u_3 H locs hw_2 hP hD hS => ?_)
  obtain ⟨b_zi_1, ps_4, ps_5⟩ : (0 ≤ zi_1.toInt ∧ zi_1.toInt ≤ 1) ∧ (zi_1.toInt = 0 ∨ (0 ≤ zia.toInt ∧ zia.toInt ≤ 3)) ∧ (zi_1.toInt = 0 ∨ zia.toInt < zA (zI (zR zy 0)) (12)) := hw_2
  refine lv_if_eq (tgt := 51) hx hb dX11_looked_5 (by decide) (fun c_6 => ?_) (fun c_6 => ?_)
  · have f_7 : zi_1.toInt = 0 := ic_eq (rfl) (by decide) c_6
    refine lv_iconst (v := (-1)) hx hb dX11_looked_51 (by decide) ?_
    subst hQ
    exact W.iret (v := (-1 : Int32)) hx hb hr (fun t ht hW => ⟨⟨(-1 : Int32), (zI, zJ), rfl, h_zI, ⟨by rw [ht]; exact hP, va_K.moved hW.alike hK, hD⟩⟩, hS.F ht⟩) hS.2.2 dX11_looked_52
  · have f_7 : ¬ (zi_1.toInt = 0) := ic_neq (rfl) (by decide) c_6
    have b9_zia : 0 ≤ zia.toInt ∧ zia.toInt ≤ 3 := by omega
    refine lv_iload_n hx hb dX11_looked_8 rfl (lv_at hl 2 rfl) ?_
    refine hj0_i (ws := (WL cy zL zT zR zI zJ)) (va_runS (As := [.int zib]) (rest := []) ⟨hx, hb, hml, hown, hts⟩ (c_X11_isCandle l dC dI cy H.size zib) (va_cwS 1 hts gX11_looked_X11_isCandle rfl rfl rfl (by decide +kernel) ⟨(Nat.le_of_ble_eq_true rfl), (Nat.le_of_ble_eq_true rfl)⟩) (PRE.s (hP.sub [] rfl) hK (hD.sub [] (by decide) rfl) hN) rfl rfl hl.1 rfl (lv_room (Nat.le_of_ble_eq_true rfl)) dX11_looked_9 ⟨(Nat.le_of_ble_eq_true rfl), (Nat.le_of_ble_eq_true rfl)⟩) hP hD hS hA (fun zi_8 u_10 H locs hw_9 hP hD hS => ?_)
    have hw_9 : zi_8 = if 0 ≤ zib.toInt ∧ zib.toInt ≤ 1 then 1 else 0 := hw_9
    have b_zi_8 : 0 ≤ zi_8.toInt ∧ zi_8.toInt ≤ 1 := bz_b hw_9
    refine lv_if_eq (tgt := 51) hx hb dX11_looked_12 (by decide) (fun c_11 => ?_) (fun c_11 => ?_)
    · have f_12 : ¬ (0 ≤ zib.toInt ∧ zib.toInt ≤ 1) := bz_0 hw_9 c_11
      refine lv_iconst (v := (-1)) hx hb dX11_looked_51 (by decide) ?_
      subst hQ
      exact W.iret (v := (-1 : Int32)) hx hb hr (fun t ht hW => ⟨⟨(-1 : Int32), (zI, zJ), rfl, h_zI, ⟨by rw [ht]; exact hP, va_K.moved hW.alike hK, hD⟩⟩, hS.F ht⟩) hS.2.2 dX11_looked_52
    · have f_12 : 0 ≤ zib.toInt ∧ zib.toInt ≤ 1 := bz_1 hw_9 c_11
      refine lv_iload hx hb dX11_looked_15 (lv_at hl 4 rfl) ?_
      refine lv_i2l (v := zid.toInt64) hx hb dX11_looked_17 rfl ?_
      refine lv_topl (fun zj_13 ezj_13 => ?_)
      have tzj_13 : zj_13.toInt = zid.toInt := by rw [ezj_13]; exact Int32.toInt_toInt64 _
      refine lv_lconst (v := 1) hx hb dX11_looked_18 (by decide) ?_
      refine lv_ldc2 (v := 1000) hx hb hown (hts (.constantLong RX11 333 1000) (by decide +kernel)) dX11_looked_19 ?_
      refine hj0_i (ws := (WL cy zL zT zR zI zJ)) (va_runS (As := [.long zj_13, .long 1, .long 1000]) (rest := []) ⟨hx, hb, hml, hown, hts⟩ (c_X11_in l dC dI cy H.size zj_13 1 1000 1 1000 zj_13.toInt (by first | rfl | decide | omega | exact Int32.toInt_toInt64 _) (by first | rfl | decide | omega | exact Int32.toInt_toInt64 _) (by first | rfl | decide | omega | exact Int32.toInt_toInt64 _)) (va_cwS 3 hts gX11_looked_X11_in rfl rfl rfl (by decide +kernel) ⟨(Nat.le_of_ble_eq_true rfl), (Nat.le_of_ble_eq_true rfl)⟩) (PRE.s (hP.sub [] rfl) hK (hD.sub [] (by decide) rfl) hN) rfl rfl hl.1 rfl (lv_room (Nat.le_of_ble_eq_true rfl)) dX11_looked_22 ⟨(Nat.le_of_ble_eq_true rfl), (Nat.le_of_ble_eq_true rfl)⟩) hP hD hS hA (fun zi_14 u_16 H locs hw_15 hP hD hS => ?_)
      have hw_15 : zi_14 = if 1 ≤ zj_13.toInt ∧ zj_13.toInt ≤ 1000 then 1 else 0 := hw_15
      have b_zi_14 : 0 ≤ zi_14.toInt ∧ zi_14.toInt ≤ 1 := bz_b hw_15
      refine lv_if_eq (tgt := 51) hx hb dX11_looked_25 (by decide) (fun c_17 => ?_) (fun c_17 => ?_)
      · have f_18 : ¬ (1 ≤ zj_13.toInt ∧ zj_13.toInt ≤ 1000) := bz_0 hw_15 c_17
        refine lv_iconst (v := (-1)) hx hb dX11_looked_51 (by decide) ?_
        subst hQ
        exact W.iret (v := (-1 : Int32)) hx hb hr (fun t ht hW => ⟨⟨(-1 : Int32), (zI, zJ), rfl, h_zI, ⟨by rw [ht]; exact hP, va_K.moved hW.alike hK, hD⟩⟩, hS.F ht⟩) hS.2.2 dX11_looked_52
      · have f_18 : 1 ≤ zj_13.toInt ∧ zj_13.toInt ≤ 1000 := bz_1 hw_15 c_17
        refine lv_iload_n hx hb dX11_looked_28 rfl (lv_at hl 3 rfl) ?_
        refine lv_i2l (v := zic.toInt64) hx hb dX11_looked_29 rfl ?_
        refine lv_topl (fun zj_19 ezj_19 => ?_)
        have tzj_19 : zj_19.toInt = zic.toInt := by rw [ezj_19]; exact Int32.toInt_toInt64 _
        refine lv_lconst (v := 0) hx hb dX11_looked_30 (by decide) ?_
        refine lv_iload hx hb dX11_looked_31 (lv_at hl 4 rfl) ?_
        refine lv_i2l (v := zid.toInt64) hx hb dX11_looked_33 rfl ?_
        refine lv_topl (fun zj_20 ezj_20 => ?_)
        have tzj_20 : zj_20.toInt = zid.toInt := by rw [ezj_20]; exact Int32.toInt_toInt64 _
        refine hj0_i (ws := (WL cy zL zT zR zI zJ)) (va_runS (As := [.long zj_19, .long 0, .long zj_20]) (rest := []) ⟨hx, hb, hml, hown, hts⟩ (c_X11_in l dC dI cy H.size zj_19 0 zj_20 0 zj_20.toInt zj_19.toInt (by first | rfl | decide | omega | exact Int32.toInt_toInt64 _) (by first | rfl | decide | omega | exact Int32.toInt_toInt64 _) (by first | rfl | decide | omega | exact Int32.toInt_toInt64 _)) (va_cwS 3 hts gX11_looked_X11_in rfl rfl rfl (by decide +kernel) ⟨(Nat.le_of_ble_eq_true rfl), (Nat.le_of_ble_eq_true rfl)⟩) (PRE.s (hP.sub [] rfl) hK (hD.sub [] (by decide) rfl) hN) rfl rfl hl.1 rfl (lv_room (Nat.le_of_ble_eq_true rfl)) dX11_looked_34 ⟨(Nat.le_of_ble_eq_true rfl), (Nat.le_of_ble_eq_true rfl)⟩) hP hD hS hA (fun zi_21 u_23 H locs hw_22 hP hD hS => ?_)
        have hw_22 : zi_21 = if 0 ≤ zj_19.toInt ∧ zj_19.toInt ≤ zj_20.toInt then 1 else 0 := hw_22
        have b_zi_21 : 0 ≤ zi_21.toInt ∧ zi_21.toInt ≤ 1 := bz_b hw_22
        refine lv_if_eq (tgt := 51) hx hb dX11_looked_37 (by decide) (fun c_24 => ?_) (fun c_24 => ?_)
        · have f_25 : ¬ (0 ≤ zj_19.toInt ∧ zj_19.toInt ≤ zj_20.toInt) := bz_0 hw_22 c_24
          refine lv_iconst (v := (-1)) hx hb dX11_looked_51 (by decide) ?_
          subst hQ
          exact W.iret (v := (-1 : Int32)) hx hb hr (fun t ht hW => ⟨⟨(-1 : Int32), (zI, zJ), rfl, h_zI, ⟨by rw [ht]; exact hP, va_K.moved hW.alike hK, hD⟩⟩, hS.F ht⟩) hS.2.2 dX11_looked_52
        · have f_25 : 0 ≤ zj_19.toInt ∧ zj_19.toInt ≤ zj_20.toInt := bz_1 hw_22 c_24
          refine lv_iload hx hb dX11_looked_40 (lv_at hl 5 rfl) ?_
          refine lv_i2l (v := zie.toInt64) hx hb dX11_looked_42 rfl ?_
          refine lv_topl (fun zj_26 ezj_26 => ?_)
          have tzj_26 : zj_26.toInt = zie.toInt := by rw [ezj_26]; exact Int32.toInt_toInt64 _
          refine lv_lconst (v := 0) hx hb dX11_looked_43 (by decide) ?_
          refine lv_lconst (v := 1) hx hb dX11_looked_44 (by decide) ?_
          refine hj0_i (ws := (WL cy zL zT zR zI zJ)) (va_runS (As := [.long zj_26, .long 0, .long 1]) (rest := []) ⟨hx, hb, hml, hown, hts⟩ (c_X11_in l dC dI cy H.size zj_26 0 1 0 1 zj_26.toInt (by first | rfl | decide | omega | exact Int32.toInt_toInt64 _) (by first | rfl | decide | omega | exact Int32.toInt_toInt64 _) (by first | rfl | decide | omega | exact Int32.toInt_toInt64 _)) (va_cwS 3 hts gX11_looked_X11_in rfl rfl rfl (by decide +kernel) ⟨(Nat.le_of_ble_eq_true rfl), (Nat.le_of_ble_eq_true rfl)⟩) (PRE.s (hP.sub [] rfl) hK (hD.sub [] (by decide) rfl) hN) rfl rfl hl.1 rfl (lv_room (Nat.le_of_ble_eq_true rfl)) dX11_looked_45 ⟨(Nat.le_of_ble_eq_true rfl), (Nat.le_of_ble_eq_true rfl)⟩) hP hD hS hA (fun zi_27 u_29 H locs hw_28 hP hD hS => ?_)
          have hw_28 : zi_27 = if 0 ≤ zj_26.toInt ∧ zj_26.toInt ≤ 1 then 1 else 0 := hw_28
          have b_zi_27 : 0 ≤ zi_27.toInt ∧ zi_27.toInt ≤ 1 := bz_b hw_28
          refine lv_if_ne (tgt := 53) hx hb dX11_looked_48 (by decide) (fun c_30 => ?_) (fun c_30 => ?_)
          · have f_31 : 0 ≤ zj_26.toInt ∧ zj_26.toInt ≤ 1 := bz_1 hw_28 c_30
            refine lv_aload_n hx hb dX11_looked_53 rfl (lv_at hl 0 rfl) ?_
            refine lv_iload_n hx hb dX11_looked_54 rfl (lv_at hl 2 rfl) ?_
            refine hj_i (ws := (WL cy zL zT zR zI zJ)) (w1 := fun (u : (Nat → Nat → Int32) × (Nat → Nat → Int64)) => (WL cy zL zT zR u.1 u.2)) (va_runV (As := [.int zib]) (rest := []) ⟨hx, hb, hml, hown, hts⟩ (t_X11_lacksAny l dC dI cy H.size zL zT zR zI zJ zy zib hs h_zI.1 t_zy (by omega) hz) (cwV 1 hts gX11_looked_X11_lacksAny rfl rfl rfl (by decide +kernel) ⟨(Nat.le_of_ble_eq_true rfl), (Nat.le_of_ble_eq_true rfl)⟩) (PRE.v hP hK hD hN (ht_recv hK hP hs t_zy (by decide) rfl rfl)) rfl rfl hl.1 rfl (lv_room (Nat.le_of_ble_eq_true rfl)) dX11_looked_55 ⟨(Nat.le_of_ble_eq_true rfl), (Nat.le_of_ble_eq_true rfl)⟩) hP hD hS hA (fun zi_32 u_34 H locs hw_33 hP hD hS => ?_)
            obtain ⟨zI_35, zJ_36⟩ := u_34
            obtain ⟨k_zI_35, b_zi_32, ps_37⟩ : (WM [1806, 1807, 10300, 10400, 10500, 10600, 10700] AL zT zR zI zI_35) ∧ ((-4) ≤ zi_32.toInt ∧ zi_32.toInt ≤ 0) ∧ (zi_32.toInt < 0 ∨ ¬ (zJ_36 zy 15).toInt = 0) := hw_33
            have h_zI_35 : WM [1806, 1807, 10300, 10400, 10500, 10600, 10700] AL zT zR zI zI_35 := h_zI.tr k_zI_35 (by decide) (fun _ _ => trivial)
            refine lv_istore (lv' := [(6, .int zi_32), (0, .ref zy), (1, .int zia), (2, .int zib), (3, .int zic), (4, .int zid), (5, .int zie)]) hx hb dX11_looked_58 hl (by decide) rfl (fun ls hl => ?_)
            refine lv_iload hx hb dX11_looked_60 (lv_at hl 0 rfl) ?_
            refine lv_if_ge (tgt := 68) hx hb dX11_looked_62 (by decide) (fun c_38 => ?_) (fun c_38 => ?_)
            · have f_39 : zi_32.toInt ≥ 0 := ic_ge (rfl) (by decide) c_38
              refine lv_sipush (v := 326) hx hb dX11_looked_68 (by decide) ?_
              refine lv_bipush (v := 14) hx hb dX11_looked_71 (by decide) ?_
              refine lv_iload_n hx hb dX11_looked_73 rfl (lv_at hl 2 rfl) ?_
              refine lv_imul hx hb dX11_looked_74 ?_
              refine lv_topi (fun zi_40 ezi_40 => ?_)
              have tzi_40 : zi_40.toInt = (14 : Int) * zia.toInt := by rw [ezi_40]; exact timul (show (14 : Int32).toInt = 14 by decide) (rfl) (by omega) (by omega)
              refine lv_iadd hx hb dX11_looked_75 ?_
              refine lv_topi (fun zi_41 ezi_41 => ?_)
              have tzi_41 : zi_41.toInt = (326 : Int) + zi_40.toInt := by rw [ezi_41]; exact tiadd (show (326 : Int32).toInt = 326 by decide) (rfl) (by omega) (by omega)
              refine lv_istore (lv' := [(7, .int zi_41), (6, .int zi_32), (0, .ref zy), (1, .int zia), (2, .int zib), (3, .int zic), (4, .int zid), (5, .int zie)]) hx hb dX11_looked_76 hl (by decide) rfl (fun ls hl => ?_)
              refine lv_aload_n hx hb dX11_looked_78 rfl (lv_at hl 2 rfl) ?_
              refine ht_getr (C := RX11) (T := TX11) (N := 28) hx hb hts (by decide +kernel) hown hK hP hs t_zy (by decide) rfl rfl 0 (by decide) (hts (.fieldLink RX11 7 "DripStoneModel" "z" "[I") (by decide +kernel)) (fun _ h9 => h9) rfl dX11_looked_79 ?_
              have t_42 : zT (zR zy 0) = 100 := sk_f hs t_zy (by decide) rfl (by decide)
              refine lv_iload hx hb dX11_looked_82 (lv_at hl 0 rfl) ?_
              refine lv_bipush (v := 6) hx hb dX11_looked_84 (by decide) ?_
              refine lv_iadd hx hb dX11_looked_86 ?_
              refine lv_topi (fun zi_43 ezi_43 => ?_)
              have tzi_43 : zi_43.toInt = zi_41.toInt + (6 : Int) := by rw [ezi_43]; exact tiadd (rfl) (show (6 : Int32).toInt = 6 by decide) (by omega) (by omega)
              refine ht_iald (n := 392) (q := 0) hx hb hK hP hs t_42 (by decide) rfl rfl ⟨by omega, by omega⟩ dX11_looked_87 ?_
              refine lv_topi (fun zi_44 ezi_44 => ?_)
              have la_45 : zi_44.toInt = zA (zI_35 (zR zy 0)) (332 + 14 * zia.toInt) := (congrArg Int32.toInt (show zI_35 (zR zy 0) zi_43.toNatClampNeg = zi_44 from ezi_44.symm).symm).trans (congrArg (zA (zI_35 (zR zy 0))) (show zi_43.toInt = 332 + 14 * zia.toInt from by omega))
              refine lv_istore (lv' := [(8, .int zi_44), (7, .int zi_41), (6, .int zi_32), (0, .ref zy), (1, .int zia), (2, .int zib), (3, .int zic), (4, .int zid), (5, .int zie)]) hx hb dX11_looked_88 hl (by decide) rfl (fun ls hl => ?_)
              refine lv_aload_n hx hb dX11_looked_90 rfl (lv_at hl 3 rfl) ?_
              refine ht_getr (C := RX11) (T := TX11) (N := 28) hx hb hts (by decide +kernel) hown hK hP hs t_zy (by decide) rfl rfl 0 (by decide) (hts (.fieldLink RX11 7 "DripStoneModel" "z" "[I") (by decide +kernel)) (fun _ h9 => h9) rfl dX11_looked_91 ?_
              refine lv_iload hx hb dX11_looked_94 (lv_at hl 1 rfl) ?_
              refine ht_iald (n := 392) (q := 0) hx hb hK hP hs t_42 (by decide) rfl rfl ⟨by omega, by omega⟩ dX11_looked_96 ?_
              refine lv_topi (fun zi_46 ezi_46 => ?_)
              have la_47 : zi_46.toInt = zA (zI_35 (zR zy 0)) (326 + 14 * zia.toInt) := (congrArg Int32.toInt (show zI_35 (zR zy 0) zi_41.toNatClampNeg = zi_46 from ezi_46.symm).symm).trans (congrArg (zA (zI_35 (zR zy 0))) (show zi_41.toInt = 326 + 14 * zia.toInt from by omega))
              refine lv_iconst (v := 2) hx hb dX11_looked_97 (by decide) ?_
              refine lv_icmp_ne (tgt := 129) hx hb dX11_looked_98 (by decide) (fun c_48 => ?_) (fun c_48 => ?_)
              · have f_49 : zi_46.toInt ≠ (2 : Int) := ic_ne (rfl) (show (2 : Int32).toInt = 2 by decide) c_48
                refine lv_iload hx hb dX11_looked_129 (lv_at hl 0 rfl) ?_
                refine lv_istore (lv' := [(8, .int zi_44), (7, .int zi_41), (6, .int zi_32), (0, .ref zy), (1, .int zia), (2, .int zib), (3, .int zic), (4, .int zid), (5, .int zie)]) hx hb dX11_looked_131 hl (by decide) rfl (fun ls hl => ?_)
                refine lv_iload hx hb dX11_looked_133 (lv_at hl 8 rfl) ?_
                refine lv_if_ne (tgt := 144) hx hb dX11_looked_135 (by decide) (fun c_50 => ?_) (fun c_50 => ?_)
                · have f_51 : zie.toInt ≠ 0 := ic_ne (rfl) (by decide) c_50
                  refine lv_iconst (v := 0) hx hb dX11_looked_144 (by decide) ?_
                  refine lv_istore (lv' := [(9, .int 0), (8, .int zi_44), (7, .int zi_41), (6, .int zi_32), (0, .ref zy), (1, .int zia), (2, .int zib), (3, .int zic), (4, .int zid), (5, .int zie)]) hx hb dX11_looked_145 hl (by decide) rfl (fun ls hl => ?_)
                  refine lv_iconst (v := 0) hx hb dX11_looked_147 (by decide) ?_
                  refine lv_istore (lv' := [(10, .int 0), (9, .int 0), (8, .int zi_44), (7, .int zi_41), (6, .int zi_32), (0, .ref zy), (1, .int zia), (2, .int zib), (3, .int zic), (4, .int zid), (5, .int zie)]) hx hb dX11_looked_148 hl (by decide) rfl (fun ls hl => ?_)
                  have lp_836 : ∀ (n : Nat) (zi_119 : Int32) (zi_120 : Int32) (zJ_121 : Nat → Nat → Int64) (H : Heap) (locs : List Loc) (ls : Array Slot), (2147483647 - zi_120.toInt).toNat = n → (0 ≤ zi_120.toInt) → (ZI (zI_35 (zR zy 0))) → va_P (dC, dI) vwCl (WL cy zL zT zR zI_35 zJ_121) H → va_D A (WL cy zL zT zR zI_35 zJ_121) → va_S A s.heap H locs → lv_has ls 11 [(0, .ref zy), (1, .int zia), (2, .int zib), (3, .int zic), (4, .int zid), (5, .int zie), (6, .int zi_32), (7, .int zi_41), (8, .int zi_44), (9, .int zi_119), (10, .int zi_120)] → W p l e ({ frames := 6, cells := 0, slots := 0, locals := 138 } : Room) s m ([.ref zy, .int zia, .int zib, .int zic, .int zid, .int zie] : List Value).toArray below meth c H locs 0 0 Q (F0 m 150 ls []) := by
                    intro n
                    induction n using Nat.strongRecOn with
                    | _ n ih_836 =>
                      intro zi_119 zi_120 zJ_121 H locs ls hn b_zi_120 e_lp_836_0 hP hD hS hl
                      refine lv_iload hx hb dX11_looked_150 (lv_at hl 10 rfl) ?_
                      refine lv_bipush (v := 24) hx hb dX11_looked_152 (by decide) ?_
                      refine lv_iload hx hb dX11_looked_154 (lv_at hl 8 rfl) ?_
                      have rx_zi_44 := rng zi_44
                      refine lv_isub hx hb dX11_looked_156 ?_
                      refine lv_topi (fun zi_837 ezi_837 => ?_)
                      have rzi_837 := rng zi_837
                      refine lv_icmp_ge (tgt := 199) hx hb dX11_looked_157 (by decide) (fun c_838 => ?_) (fun c_838 => ?_)
                      · have f_839 : zi_120.toInt ≥ zi_837.toInt := ic_ge (rfl) (rfl) c_838
                        refine lv_iload hx hb dX11_looked_199 (lv_at hl 9 rfl) ?_
                        subst hQ
                        exact W.iret (v := zi_119) hx hb hr (fun t ht hW => ⟨⟨zi_119, (zI_35, zJ_121), rfl, h_zI_35, ⟨by rw [ht]; exact hP, va_K.moved hW.alike hK, hD⟩⟩, hS.F ht⟩) hS.2.2 dX11_looked_201
                      · have f_839 : ¬ (zi_120.toInt ≥ zi_837.toInt) := ic_nge (rfl) (rfl) c_838
                        refine lv_iload hx hb dX11_looked_160 (lv_at hl 9 rfl) ?_
                        refine lv_aload_n hx hb dX11_looked_162 rfl (lv_at hl 0 rfl) ?_
                        refine lv_iload_n hx hb dX11_looked_163 rfl (lv_at hl 1 rfl) ?_
                        refine lv_iload_n hx hb dX11_looked_164 rfl (lv_at hl 2 rfl) ?_
                        refine lv_iload hx hb dX11_looked_165 (lv_at hl 10 rfl) ?_
                        refine hj_l (ws := (WL cy zL zT zR zI_35 zJ_121)) (w1 := fun (u : (Nat → Nat → Int64)) => (WL cy zL zT zR zI_35 u)) (va_runV (As := [.int zia, .int zib, .int zi_120]) (rest := [.int zi_119]) ⟨hx, hb, hml, hown, hts⟩ (t_X11_waysSo l dC dI cy H.size zL zT zR zI_35 zJ_121 zy zia zib zi_120 hs h_zI_35.1 t_zy (by omega) (by omega) e_lp_836_0 (by rw [(h_zI_35.2.row t_42 (by decide) (by decide))]; omega)) (cwV 3 hts gX11_looked_X11_waysSo rfl rfl rfl (by decide +kernel) ⟨(Nat.le_of_ble_eq_true rfl), (Nat.le_of_ble_eq_true rfl)⟩) (PRE.v hP hK hD hN (ht_recv hK hP hs t_zy (by decide) rfl rfl)) rfl rfl hl.1 rfl (lv_room (Nat.le_of_ble_eq_true rfl)) dX11_looked_167 ⟨(Nat.le_of_ble_eq_true rfl), (Nat.le_of_ble_eq_true rfl)⟩) hP hD hS hA (fun zj_840 zJ_843 H locs hw_841 hP hD hS => ?_)
                        have ps_844 : zJ_843 zy 15 = zJ_121 zy 15 := hw_841
                        refine lv_iload hx hb dX11_looked_170 (lv_at hl 4 rfl) ?_
                        refine lv_i2l (v := zid.toInt64) hx hb dX11_looked_172 rfl ?_
                        refine lv_topl (fun zj_845 ezj_845 => ?_)
                        have tzj_845 : zj_845.toInt = zid.toInt := by rw [ezj_845]; exact Int32.toInt_toInt64 _
                        refine lv_lmul hx hb dX11_looked_173 ?_
                        refine lv_topl (fun zj_846 ezj_846 => ?_)
                        refine lv_aload_n hx hb dX11_looked_174 rfl (lv_at hl 0 rfl) ?_
                        refine ht_getl (C := RX11) (T := TX11) (N := 28) hx hb hts (by decide +kernel) hown hK hP hs t_zy (by decide) rfl rfl 15 (by decide) (hts (.fieldLink RX11 217 "DripStoneModel" "total" "J") (by decide +kernel)) (fun _ h9 => h9) rfl dX11_looked_175 ?_
                        refine lv_topl (fun zj_847 ezj_847 => ?_)
                        refine lv_iload_n hx hb dX11_looked_178 rfl (lv_at hl 3 rfl) ?_
                        refine lv_i2l (v := zic.toInt64) hx hb dX11_looked_179 rfl ?_
                        refine lv_topl (fun zj_848 ezj_848 => ?_)
                        have tzj_848 : zj_848.toInt = zic.toInt := by rw [ezj_848]; exact Int32.toInt_toInt64 _
                        refine lv_lmul hx hb dX11_looked_180 ?_
                        refine lv_topl (fun zj_849 ezj_849 => ?_)
                        refine W.lcmp hx hb dX11_looked_181 ?_
                        refine lv_topi (fun zi_850 ezi_850 => ?_)
                        refine lv_if_lt (tgt := 189) hx hb dX11_looked_182 (by decide) (fun c_851 => ?_) (fun c_851 => ?_)
                        · have f_852 : zj_846.toInt < zj_849.toInt := lk_lt ezi_850 (rfl) (rfl) c_851
                          refine lv_iconst (v := 0) hx hb dX11_looked_189 (by decide) ?_
                          have rx_zi_119 := rng zi_119
                          refine lv_iadd hx hb dX11_looked_190 ?_
                          refine lv_topi (fun zi_853 ezi_853 => ?_)
                          have tzi_853 : zi_853.toInt = zi_119.toInt + (0 : Int) := by rw [ezi_853]; exact tiadd (rfl) (show (0 : Int32).toInt = 0 by decide) (by omega) (by omega)
                          refine lv_istore (lv' := [(9, .int zi_853), (0, .ref zy), (1, .int zia), (2, .int zib), (3, .int zic), (4, .int zid), (5, .int zie), (6, .int zi_32), (7, .int zi_41), (8, .int zi_44), (10, .int zi_120)]) hx hb dX11_looked_191 hl (by decide) rfl (fun ls hl => ?_)
                          obtain ⟨zi_854, ezi_854⟩ : ∃ y : Int32, y = zi_120 + 1 := ⟨_, rfl⟩
                          have tzi_854 : zi_854.toInt = zi_120.toInt + 1 := by rw [ezi_854]; exact tadd rfl (show (1 : Int32).toInt = 1 by decide) (by omega) (by omega)
                          refine lv_iinc (v := zi_854) (lv' := [(10, .int zi_854), (9, .int zi_853), (0, .ref zy), (1, .int zia), (2, .int zib), (3, .int zic), (4, .int zid), (5, .int zie), (6, .int zi_32), (7, .int zi_41), (8, .int zi_44)]) hx hb dX11_looked_193 hl (k := 10) rfl (by rw [ezi_854]; rfl) (by decide) rfl (fun ls hl => ?_)
                          refine lv_goto (tgt := 150) hx hb dX11_looked_196 (by decide) ?_
                          exact ih_836 (2147483647 - zi_854.toInt).toNat (by omega) zi_853 zi_854 zJ_843 _ _ _ rfl (by omega) e_lp_836_0 hP hD hS (lv_sub hl [2, 3, 4, 5, 6, 7, 8, 9, 10, 1, 0] rfl)
                        · have f_852 : ¬ (zj_846.toInt < zj_849.toInt) := lk_nlt ezi_850 (rfl) (rfl) c_851
                          refine lv_iconst (v := 1) hx hb dX11_looked_185 (by decide) ?_
                          refine lv_goto (tgt := 190) hx hb dX11_looked_186 (by decide) ?_
                          have rx_zi_119 := rng zi_119
                          refine lv_iadd hx hb dX11_looked_190 ?_
                          refine lv_topi (fun zi_855 ezi_855 => ?_)
                          have rzi_855 := rng zi_855
                          refine lv_istore (lv' := [(9, .int zi_855), (0, .ref zy), (1, .int zia), (2, .int zib), (3, .int zic), (4, .int zid), (5, .int zie), (6, .int zi_32), (7, .int zi_41), (8, .int zi_44), (10, .int zi_120)]) hx hb dX11_looked_191 hl (by decide) rfl (fun ls hl => ?_)
                          obtain ⟨zi_856, ezi_856⟩ : ∃ y : Int32, y = zi_120 + 1 := ⟨_, rfl⟩
                          have tzi_856 : zi_856.toInt = zi_120.toInt + 1 := by rw [ezi_856]; exact tadd rfl (show (1 : Int32).toInt = 1 by decide) (by omega) (by omega)
                          refine lv_iinc (v := zi_856) (lv' := [(10, .int zi_856), (9, .int zi_855), (0, .ref zy), (1, .int zia), (2, .int zib), (3, .int zic), (4, .int zid), (5, .int zie), (6, .int zi_32), (7, .int zi_41), (8, .int zi_44)]) hx hb dX11_looked_193 hl (k := 10) rfl (by rw [ezi_856]; rfl) (by decide) rfl (fun ls hl => ?_)
                          refine lv_goto (tgt := 150) hx hb dX11_looked_196 (by decide) ?_
                          exact ih_836 (2147483647 - zi_856.toInt).toNat (by omega) zi_855 zi_856 zJ_843 _ _ _ rfl (by omega) e_lp_836_0 hP hD hS (lv_sub hl [2, 3, 4, 5, 6, 7, 8, 9, 10, 1, 0] rfl)
                  have qc_0 : (0 : Int32).toInt = 0 := by decide
                  have zz_857 : ZI (zI_35 (zR zy 0)) := by rw [(k_zI_35.2.row t_42 (by decide) (by decide))]; exact hz
                  exact lp_836 _ (0 : Int32) (0 : Int32) zJ_36 _ _ _ rfl (by decide) zz_857 hP hD hS (lv_sub hl [5, 6, 7, 8, 9, 10, 4, 3, 2, 1, 0] rfl)
                · have f_51 : ¬ (zie.toInt ≠ 0) := ic_nne (rfl) (by decide) c_50
                  refine lv_bipush (v := 24) hx hb dX11_looked_138 (by decide) ?_
                  refine lv_iload hx hb dX11_looked_140 (lv_at hl 0 rfl) ?_
                  have rx_zi_44 := rng zi_44
                  refine lv_isub hx hb dX11_looked_142 ?_
                  refine lv_topi (fun zi_858 ezi_858 => ?_)
                  have rzi_858 := rng zi_858
                  subst hQ
                  exact W.iret (v := zi_858) hx hb hr (fun t ht hW => ⟨⟨zi_858, (zI_35, zJ_36), rfl, h_zI_35, ⟨by rw [ht]; exact hP, va_K.moved hW.alike hK, hD⟩⟩, hS.F ht⟩) hS.2.2 dX11_looked_143
              · have f_49 : ¬ (zi_46.toInt ≠ (2 : Int)) := ic_nne (rfl) (show (2 : Int32).toInt = 2 by decide) c_48
                refine lv_aload_n hx hb dX11_looked_101 rfl (lv_at hl 3 rfl) ?_
                refine ht_getr (C := RX11) (T := TX11) (N := 28) hx hb hts (by decide +kernel) hown hK hP hs t_zy (by decide) rfl rfl 0 (by decide) (hts (.fieldLink RX11 7 "DripStoneModel" "z" "[I") (by decide +kernel)) (fun _ h9 => h9) rfl dX11_looked_102 ?_
                refine lv_iload hx hb dX11_looked_105 (lv_at hl 1 rfl) ?_
                refine lv_bipush (v := 12) hx hb dX11_looked_107 (by decide) ?_
                refine lv_iadd hx hb dX11_looked_109 ?_
                refine lv_topi (fun zi_859 ezi_859 => ?_)
                have tzi_859 : zi_859.toInt = zi_41.toInt + (12 : Int) := by rw [ezi_859]; exact tiadd (rfl) (show (12 : Int32).toInt = 12 by decide) (by omega) (by omega)
                refine ht_iald (n := 392) (q := 0) hx hb hK hP hs t_42 (by decide) rfl rfl ⟨by omega, by omega⟩ dX11_looked_110 ?_
                refine lv_topi (fun zi_860 ezi_860 => ?_)
                have la_861 : zi_860.toInt = zA (zI_35 (zR zy 0)) (338 + 14 * zia.toInt) := (congrArg Int32.toInt (show zI_35 (zR zy 0) zi_859.toNatClampNeg = zi_860 from ezi_860.symm).symm).trans (congrArg (zA (zI_35 (zR zy 0))) (show zi_859.toInt = 338 + 14 * zia.toInt from by omega))
                refine lv_iload hx hb dX11_looked_111 (lv_at hl 0 rfl) ?_
                refine lv_icmp_le (tgt := 129) hx hb dX11_looked_113 (by decide) (fun c_862 => ?_) (fun c_862 => ?_)
                · have f_863 : zi_860.toInt ≤ zi_44.toInt := ic_le (rfl) (rfl) c_862
                  refine lv_iload hx hb dX11_looked_129 (lv_at hl 0 rfl) ?_
                  refine lv_istore (lv' := [(8, .int zi_44), (7, .int zi_41), (6, .int zi_32), (0, .ref zy), (1, .int zia), (2, .int zib), (3, .int zic), (4, .int zid), (5, .int zie)]) hx hb dX11_looked_131 hl (by decide) rfl (fun ls hl => ?_)
                  refine lv_iload hx hb dX11_looked_133 (lv_at hl 8 rfl) ?_
                  refine lv_if_ne (tgt := 144) hx hb dX11_looked_135 (by decide) (fun c_864 => ?_) (fun c_864 => ?_)
                  · have f_865 : zie.toInt ≠ 0 := ic_ne (rfl) (by decide) c_864
                    refine lv_iconst (v := 0) hx hb dX11_looked_144 (by decide) ?_
                    refine lv_istore (lv' := [(9, .int 0), (8, .int zi_44), (7, .int zi_41), (6, .int zi_32), (0, .ref zy), (1, .int zia), (2, .int zib), (3, .int zic), (4, .int zid), (5, .int zie)]) hx hb dX11_looked_145 hl (by decide) rfl (fun ls hl => ?_)
                    refine lv_iconst (v := 0) hx hb dX11_looked_147 (by decide) ?_
                    refine lv_istore (lv' := [(10, .int 0), (9, .int 0), (8, .int zi_44), (7, .int zi_41), (6, .int zi_32), (0, .ref zy), (1, .int zia), (2, .int zib), (3, .int zic), (4, .int zid), (5, .int zie)]) hx hb dX11_looked_148 hl (by decide) rfl (fun ls hl => ?_)
                    have lp_890 : ∀ (n : Nat) (zi_866 : Int32) (zi_867 : Int32) (zJ_868 : Nat → Nat → Int64) (H : Heap) (locs : List Loc) (ls : Array Slot), (2147483647 - zi_867.toInt).toNat = n → (0 ≤ zi_867.toInt) → (ZI (zI_35 (zR zy 0))) → va_P (dC, dI) vwCl (WL cy zL zT zR zI_35 zJ_868) H → va_D A (WL cy zL zT zR zI_35 zJ_868) → va_S A s.heap H locs → lv_has ls 11 [(0, .ref zy), (1, .int zia), (2, .int zib), (3, .int zic), (4, .int zid), (5, .int zie), (6, .int zi_32), (7, .int zi_41), (8, .int zi_44), (9, .int zi_866), (10, .int zi_867)] → W p l e ({ frames := 6, cells := 0, slots := 0, locals := 138 } : Room) s m ([.ref zy, .int zia, .int zib, .int zic, .int zid, .int zie] : List Value).toArray below meth c H locs 0 0 Q (F0 m 150 ls []) := by
                      intro n
                      induction n using Nat.strongRecOn with
                      | _ n ih_890 =>
                        intro zi_866 zi_867 zJ_868 H locs ls hn b_zi_867 e_lp_890_0 hP hD hS hl
                        refine lv_iload hx hb dX11_looked_150 (lv_at hl 10 rfl) ?_
                        refine lv_bipush (v := 24) hx hb dX11_looked_152 (by decide) ?_
                        refine lv_iload hx hb dX11_looked_154 (lv_at hl 8 rfl) ?_
                        have rx_zi_44 := rng zi_44
                        refine lv_isub hx hb dX11_looked_156 ?_
                        refine lv_topi (fun zi_891 ezi_891 => ?_)
                        have rzi_891 := rng zi_891
                        refine lv_icmp_ge (tgt := 199) hx hb dX11_looked_157 (by decide) (fun c_892 => ?_) (fun c_892 => ?_)
                        · have f_893 : zi_867.toInt ≥ zi_891.toInt := ic_ge (rfl) (rfl) c_892
                          refine lv_iload hx hb dX11_looked_199 (lv_at hl 9 rfl) ?_
                          subst hQ
                          exact W.iret (v := zi_866) hx hb hr (fun t ht hW => ⟨⟨zi_866, (zI_35, zJ_868), rfl, h_zI_35, ⟨by rw [ht]; exact hP, va_K.moved hW.alike hK, hD⟩⟩, hS.F ht⟩) hS.2.2 dX11_looked_201
                        · have f_893 : ¬ (zi_867.toInt ≥ zi_891.toInt) := ic_nge (rfl) (rfl) c_892
                          refine lv_iload hx hb dX11_looked_160 (lv_at hl 9 rfl) ?_
                          refine lv_aload_n hx hb dX11_looked_162 rfl (lv_at hl 0 rfl) ?_
                          refine lv_iload_n hx hb dX11_looked_163 rfl (lv_at hl 1 rfl) ?_
                          refine lv_iload_n hx hb dX11_looked_164 rfl (lv_at hl 2 rfl) ?_
                          refine lv_iload hx hb dX11_looked_165 (lv_at hl 10 rfl) ?_
                          refine hj_l (ws := (WL cy zL zT zR zI_35 zJ_868)) (w1 := fun (u : (Nat → Nat → Int64)) => (WL cy zL zT zR zI_35 u)) (va_runV (As := [.int zia, .int zib, .int zi_867]) (rest := [.int zi_866]) ⟨hx, hb, hml, hown, hts⟩ (t_X11_waysSo l dC dI cy H.size zL zT zR zI_35 zJ_868 zy zia zib zi_867 hs h_zI_35.1 t_zy (by omega) (by omega) e_lp_890_0 (by rw [(h_zI_35.2.row t_42 (by decide) (by decide))]; omega)) (cwV 3 hts gX11_looked_X11_waysSo rfl rfl rfl (by decide +kernel) ⟨(Nat.le_of_ble_eq_true rfl), (Nat.le_of_ble_eq_true rfl)⟩) (PRE.v hP hK hD hN (ht_recv hK hP hs t_zy (by decide) rfl rfl)) rfl rfl hl.1 rfl (lv_room (Nat.le_of_ble_eq_true rfl)) dX11_looked_167 ⟨(Nat.le_of_ble_eq_true rfl), (Nat.le_of_ble_eq_true rfl)⟩) hP hD hS hA (fun zj_894 zJ_897 H locs hw_895 hP hD hS => ?_)
                          have ps_898 : zJ_897 zy 15 = zJ_868 zy 15 := hw_895
                          refine lv_iload hx hb dX11_looked_170 (lv_at hl 4 rfl) ?_
                          refine lv_i2l (v := zid.toInt64) hx hb dX11_looked_172 rfl ?_
                          refine lv_topl (fun zj_899 ezj_899 => ?_)
                          have tzj_899 : zj_899.toInt = zid.toInt := by rw [ezj_899]; exact Int32.toInt_toInt64 _
                          refine lv_lmul hx hb dX11_looked_173 ?_
                          refine lv_topl (fun zj_900 ezj_900 => ?_)
                          refine lv_aload_n hx hb dX11_looked_174 rfl (lv_at hl 0 rfl) ?_
                          refine ht_getl (C := RX11) (T := TX11) (N := 28) hx hb hts (by decide +kernel) hown hK hP hs t_zy (by decide) rfl rfl 15 (by decide) (hts (.fieldLink RX11 217 "DripStoneModel" "total" "J") (by decide +kernel)) (fun _ h9 => h9) rfl dX11_looked_175 ?_
                          refine lv_topl (fun zj_901 ezj_901 => ?_)
                          refine lv_iload_n hx hb dX11_looked_178 rfl (lv_at hl 3 rfl) ?_
                          refine lv_i2l (v := zic.toInt64) hx hb dX11_looked_179 rfl ?_
                          refine lv_topl (fun zj_902 ezj_902 => ?_)
                          have tzj_902 : zj_902.toInt = zic.toInt := by rw [ezj_902]; exact Int32.toInt_toInt64 _
                          refine lv_lmul hx hb dX11_looked_180 ?_
                          refine lv_topl (fun zj_903 ezj_903 => ?_)
                          refine W.lcmp hx hb dX11_looked_181 ?_
                          refine lv_topi (fun zi_904 ezi_904 => ?_)
                          refine lv_if_lt (tgt := 189) hx hb dX11_looked_182 (by decide) (fun c_905 => ?_) (fun c_905 => ?_)
                          · have f_906 : zj_900.toInt < zj_903.toInt := lk_lt ezi_904 (rfl) (rfl) c_905
                            refine lv_iconst (v := 0) hx hb dX11_looked_189 (by decide) ?_
                            have rx_zi_866 := rng zi_866
                            refine lv_iadd hx hb dX11_looked_190 ?_
                            refine lv_topi (fun zi_907 ezi_907 => ?_)
                            have tzi_907 : zi_907.toInt = zi_866.toInt + (0 : Int) := by rw [ezi_907]; exact tiadd (rfl) (show (0 : Int32).toInt = 0 by decide) (by omega) (by omega)
                            refine lv_istore (lv' := [(9, .int zi_907), (0, .ref zy), (1, .int zia), (2, .int zib), (3, .int zic), (4, .int zid), (5, .int zie), (6, .int zi_32), (7, .int zi_41), (8, .int zi_44), (10, .int zi_867)]) hx hb dX11_looked_191 hl (by decide) rfl (fun ls hl => ?_)
                            obtain ⟨zi_908, ezi_908⟩ : ∃ y : Int32, y = zi_867 + 1 := ⟨_, rfl⟩
                            have tzi_908 : zi_908.toInt = zi_867.toInt + 1 := by rw [ezi_908]; exact tadd rfl (show (1 : Int32).toInt = 1 by decide) (by omega) (by omega)
                            refine lv_iinc (v := zi_908) (lv' := [(10, .int zi_908), (9, .int zi_907), (0, .ref zy), (1, .int zia), (2, .int zib), (3, .int zic), (4, .int zid), (5, .int zie), (6, .int zi_32), (7, .int zi_41), (8, .int zi_44)]) hx hb dX11_looked_193 hl (k := 10) rfl (by rw [ezi_908]; rfl) (by decide) rfl (fun ls hl => ?_)
                            refine lv_goto (tgt := 150) hx hb dX11_looked_196 (by decide) ?_
                            exact ih_890 (2147483647 - zi_908.toInt).toNat (by omega) zi_907 zi_908 zJ_897 _ _ _ rfl (by omega) e_lp_890_0 hP hD hS (lv_sub hl [2, 3, 4, 5, 6, 7, 8, 9, 10, 1, 0] rfl)
                          · have f_906 : ¬ (zj_900.toInt < zj_903.toInt) := lk_nlt ezi_904 (rfl) (rfl) c_905
                            refine lv_iconst (v := 1) hx hb dX11_looked_185 (by decide) ?_
                            refine lv_goto (tgt := 190) hx hb dX11_looked_186 (by decide) ?_
                            have rx_zi_866 := rng zi_866
                            refine lv_iadd hx hb dX11_looked_190 ?_
                            refine lv_topi (fun zi_909 ezi_909 => ?_)
                            have rzi_909 := rng zi_909
                            refine lv_istore (lv' := [(9, .int zi_909), (0, .ref zy), (1, .int zia), (2, .int zib), (3, .int zic), (4, .int zid), (5, .int zie), (6, .int zi_32), (7, .int zi_41), (8, .int zi_44), (10, .int zi_867)]) hx hb dX11_looked_191 hl (by decide) rfl (fun ls hl => ?_)
                            obtain ⟨zi_910, ezi_910⟩ : ∃ y : Int32, y = zi_867 + 1 := ⟨_, rfl⟩
                            have tzi_910 : zi_910.toInt = zi_867.toInt + 1 := by rw [ezi_910]; exact tadd rfl (show (1 : Int32).toInt = 1 by decide) (by omega) (by omega)
                            refine lv_iinc (v := zi_910) (lv' := [(10, .int zi_910), (9, .int zi_909), (0, .ref zy), (1, .int zia), (2, .int zib), (3, .int zic), (4, .int zid), (5, .int zie), (6, .int zi_32), (7, .int zi_41), (8, .int zi_44)]) hx hb dX11_looked_193 hl (k := 10) rfl (by rw [ezi_910]; rfl) (by decide) rfl (fun ls hl => ?_)
                            refine lv_goto (tgt := 150) hx hb dX11_looked_196 (by decide) ?_
                            exact ih_890 (2147483647 - zi_910.toInt).toNat (by omega) zi_909 zi_910 zJ_897 _ _ _ rfl (by omega) e_lp_890_0 hP hD hS (lv_sub hl [2, 3, 4, 5, 6, 7, 8, 9, 10, 1, 0] rfl)
                    have qc_0 : (0 : Int32).toInt = 0 := by decide
                    have zz_911 : ZI (zI_35 (zR zy 0)) := by rw [(k_zI_35.2.row t_42 (by decide) (by decide))]; exact hz
                    exact lp_890 _ (0 : Int32) (0 : Int32) zJ_36 _ _ _ rfl (by decide) zz_911 hP hD hS (lv_sub hl [5, 6, 7, 8, 9, 10, 4, 3, 2, 1, 0] rfl)
                  · have f_865 : ¬ (zie.toInt ≠ 0) := ic_nne (rfl) (by decide) c_864
                    refine lv_bipush (v := 24) hx hb dX11_looked_138 (by decide) ?_
                    refine lv_iload hx hb dX11_looked_140 (lv_at hl 0 rfl) ?_
                    have rx_zi_44 := rng zi_44
                    refine lv_isub hx hb dX11_looked_142 ?_
                    refine lv_topi (fun zi_912 ezi_912 => ?_)
                    have rzi_912 := rng zi_912
                    subst hQ
                    exact W.iret (v := zi_912) hx hb hr (fun t ht hW => ⟨⟨zi_912, (zI_35, zJ_36), rfl, h_zI_35, ⟨by rw [ht]; exact hP, va_K.moved hW.alike hK, hD⟩⟩, hS.F ht⟩) hS.2.2 dX11_looked_143
                · have f_863 : ¬ (zi_860.toInt ≤ zi_44.toInt) := ic_nle (rfl) (rfl) c_862
                  refine lv_aload_n hx hb dX11_looked_116 rfl (lv_at hl 3 rfl) ?_
                  refine ht_getr (C := RX11) (T := TX11) (N := 28) hx hb hts (by decide +kernel) hown hK hP hs t_zy (by decide) rfl rfl 0 (by decide) (hts (.fieldLink RX11 7 "DripStoneModel" "z" "[I") (by decide +kernel)) (fun _ h9 => h9) rfl dX11_looked_117 ?_
                  refine lv_iload hx hb dX11_looked_120 (lv_at hl 1 rfl) ?_
                  refine lv_bipush (v := 12) hx hb dX11_looked_122 (by decide) ?_
                  refine lv_iadd hx hb dX11_looked_124 ?_
                  refine lv_topi (fun zi_913 ezi_913 => ?_)
                  have tzi_913 : zi_913.toInt = zi_41.toInt + (12 : Int) := by rw [ezi_913]; exact tiadd (rfl) (show (12 : Int32).toInt = 12 by decide) (by omega) (by omega)
                  refine ht_iald (n := 392) (q := 0) hx hb hK hP hs t_42 (by decide) rfl rfl ⟨by omega, by omega⟩ dX11_looked_125 ?_
                  refine lv_topi (fun zi_914 ezi_914 => ?_)
                  have la_915 : zi_914.toInt = zA (zI_35 (zR zy 0)) (338 + 14 * zia.toInt) := (congrArg Int32.toInt (show zI_35 (zR zy 0) zi_913.toNatClampNeg = zi_914 from ezi_914.symm).symm).trans (congrArg (zA (zI_35 (zR zy 0))) (show zi_913.toInt = 338 + 14 * zia.toInt from by omega))
                  refine lv_goto (tgt := 131) hx hb dX11_looked_126 (by decide) ?_
                  refine lv_istore (lv' := [(8, .int zi_914), (7, .int zi_41), (6, .int zi_32), (0, .ref zy), (1, .int zia), (2, .int zib), (3, .int zic), (4, .int zid), (5, .int zie)]) hx hb dX11_looked_131 hl (by decide) rfl (fun ls hl => ?_)
                  refine lv_iload hx hb dX11_looked_133 (lv_at hl 8 rfl) ?_
                  refine lv_if_ne (tgt := 144) hx hb dX11_looked_135 (by decide) (fun c_916 => ?_) (fun c_916 => ?_)
                  · have f_917 : zie.toInt ≠ 0 := ic_ne (rfl) (by decide) c_916
                    refine lv_iconst (v := 0) hx hb dX11_looked_144 (by decide) ?_
                    refine lv_istore (lv' := [(9, .int 0), (8, .int zi_914), (7, .int zi_41), (6, .int zi_32), (0, .ref zy), (1, .int zia), (2, .int zib), (3, .int zic), (4, .int zid), (5, .int zie)]) hx hb dX11_looked_145 hl (by decide) rfl (fun ls hl => ?_)
                    refine lv_iconst (v := 0) hx hb dX11_looked_147 (by decide) ?_
                    refine lv_istore (lv' := [(10, .int 0), (9, .int 0), (8, .int zi_914), (7, .int zi_41), (6, .int zi_32), (0, .ref zy), (1, .int zia), (2, .int zib), (3, .int zic), (4, .int zid), (5, .int zie)]) hx hb dX11_looked_148 hl (by decide) rfl (fun ls hl => ?_)
                    have lp_942 : ∀ (n : Nat) (zi_918 : Int32) (zi_919 : Int32) (zJ_920 : Nat → Nat → Int64) (H : Heap) (locs : List Loc) (ls : Array Slot), (2147483647 - zi_919.toInt).toNat = n → (0 ≤ zi_919.toInt) → (ZI (zI_35 (zR zy 0))) → va_P (dC, dI) vwCl (WL cy zL zT zR zI_35 zJ_920) H → va_D A (WL cy zL zT zR zI_35 zJ_920) → va_S A s.heap H locs → lv_has ls 11 [(0, .ref zy), (1, .int zia), (2, .int zib), (3, .int zic), (4, .int zid), (5, .int zie), (6, .int zi_32), (7, .int zi_41), (8, .int zi_914), (9, .int zi_918), (10, .int zi_919)] → W p l e ({ frames := 6, cells := 0, slots := 0, locals := 138 } : Room) s m ([.ref zy, .int zia, .int zib, .int zic, .int zid, .int zie] : List Value).toArray below meth c H locs 0 0 Q (F0 m 150 ls []) := by
                      intro n
                      induction n using Nat.strongRecOn with
                      | _ n ih_942 =>
                        intro zi_918 zi_919 zJ_920 H locs ls hn b_zi_919 e_lp_942_0 hP hD hS hl
                        refine lv_iload hx hb dX11_looked_150 (lv_at hl 10 rfl) ?_
                        refine lv_bipush (v := 24) hx hb dX11_looked_152 (by decide) ?_
                        refine lv_iload hx hb dX11_looked_154 (lv_at hl 8 rfl) ?_
                        have rx_zi_914 := rng zi_914
                        refine lv_isub hx hb dX11_looked_156 ?_
                        refine lv_topi (fun zi_943 ezi_943 => ?_)
                        have rzi_943 := rng zi_943
                        refine lv_icmp_ge (tgt := 199) hx hb dX11_looked_157 (by decide) (fun c_944 => ?_) (fun c_944 => ?_)
                        · have f_945 : zi_919.toInt ≥ zi_943.toInt := ic_ge (rfl) (rfl) c_944
                          refine lv_iload hx hb dX11_looked_199 (lv_at hl 9 rfl) ?_
                          subst hQ
                          exact W.iret (v := zi_918) hx hb hr (fun t ht hW => ⟨⟨zi_918, (zI_35, zJ_920), rfl, h_zI_35, ⟨by rw [ht]; exact hP, va_K.moved hW.alike hK, hD⟩⟩, hS.F ht⟩) hS.2.2 dX11_looked_201
                        · have f_945 : ¬ (zi_919.toInt ≥ zi_943.toInt) := ic_nge (rfl) (rfl) c_944
                          refine lv_iload hx hb dX11_looked_160 (lv_at hl 9 rfl) ?_
                          refine lv_aload_n hx hb dX11_looked_162 rfl (lv_at hl 0 rfl) ?_
                          refine lv_iload_n hx hb dX11_looked_163 rfl (lv_at hl 1 rfl) ?_
                          refine lv_iload_n hx hb dX11_looked_164 rfl (lv_at hl 2 rfl) ?_
                          refine lv_iload hx hb dX11_looked_165 (lv_at hl 10 rfl) ?_
                          refine hj_l (ws := (WL cy zL zT zR zI_35 zJ_920)) (w1 := fun (u : (Nat → Nat → Int64)) => (WL cy zL zT zR zI_35 u)) (va_runV (As := [.int zia, .int zib, .int zi_919]) (rest := [.int zi_918]) ⟨hx, hb, hml, hown, hts⟩ (t_X11_waysSo l dC dI cy H.size zL zT zR zI_35 zJ_920 zy zia zib zi_919 hs h_zI_35.1 t_zy (by omega) (by omega) e_lp_942_0 (by rw [(h_zI_35.2.row t_42 (by decide) (by decide))]; omega)) (cwV 3 hts gX11_looked_X11_waysSo rfl rfl rfl (by decide +kernel) ⟨(Nat.le_of_ble_eq_true rfl), (Nat.le_of_ble_eq_true rfl)⟩) (PRE.v hP hK hD hN (ht_recv hK hP hs t_zy (by decide) rfl rfl)) rfl rfl hl.1 rfl (lv_room (Nat.le_of_ble_eq_true rfl)) dX11_looked_167 ⟨(Nat.le_of_ble_eq_true rfl), (Nat.le_of_ble_eq_true rfl)⟩) hP hD hS hA (fun zj_946 zJ_949 H locs hw_947 hP hD hS => ?_)
                          have ps_950 : zJ_949 zy 15 = zJ_920 zy 15 := hw_947
                          refine lv_iload hx hb dX11_looked_170 (lv_at hl 4 rfl) ?_
                          refine lv_i2l (v := zid.toInt64) hx hb dX11_looked_172 rfl ?_
                          refine lv_topl (fun zj_951 ezj_951 => ?_)
                          have tzj_951 : zj_951.toInt = zid.toInt := by rw [ezj_951]; exact Int32.toInt_toInt64 _
                          refine lv_lmul hx hb dX11_looked_173 ?_
                          refine lv_topl (fun zj_952 ezj_952 => ?_)
                          refine lv_aload_n hx hb dX11_looked_174 rfl (lv_at hl 0 rfl) ?_
                          refine ht_getl (C := RX11) (T := TX11) (N := 28) hx hb hts (by decide +kernel) hown hK hP hs t_zy (by decide) rfl rfl 15 (by decide) (hts (.fieldLink RX11 217 "DripStoneModel" "total" "J") (by decide +kernel)) (fun _ h9 => h9) rfl dX11_looked_175 ?_
                          refine lv_topl (fun zj_953 ezj_953 => ?_)
                          refine lv_iload_n hx hb dX11_looked_178 rfl (lv_at hl 3 rfl) ?_
                          refine lv_i2l (v := zic.toInt64) hx hb dX11_looked_179 rfl ?_
                          refine lv_topl (fun zj_954 ezj_954 => ?_)
                          have tzj_954 : zj_954.toInt = zic.toInt := by rw [ezj_954]; exact Int32.toInt_toInt64 _
                          refine lv_lmul hx hb dX11_looked_180 ?_
                          refine lv_topl (fun zj_955 ezj_955 => ?_)
                          refine W.lcmp hx hb dX11_looked_181 ?_
                          refine lv_topi (fun zi_956 ezi_956 => ?_)
                          refine lv_if_lt (tgt := 189) hx hb dX11_looked_182 (by decide) (fun c_957 => ?_) (fun c_957 => ?_)
                          · have f_958 : zj_952.toInt < zj_955.toInt := lk_lt ezi_956 (rfl) (rfl) c_957
                            refine lv_iconst (v := 0) hx hb dX11_looked_189 (by decide) ?_
                            have rx_zi_918 := rng zi_918
                            refine lv_iadd hx hb dX11_looked_190 ?_
                            refine lv_topi (fun zi_959 ezi_959 => ?_)
                            have tzi_959 : zi_959.toInt = zi_918.toInt + (0 : Int) := by rw [ezi_959]; exact tiadd (rfl) (show (0 : Int32).toInt = 0 by decide) (by omega) (by omega)
                            refine lv_istore (lv' := [(9, .int zi_959), (0, .ref zy), (1, .int zia), (2, .int zib), (3, .int zic), (4, .int zid), (5, .int zie), (6, .int zi_32), (7, .int zi_41), (8, .int zi_914), (10, .int zi_919)]) hx hb dX11_looked_191 hl (by decide) rfl (fun ls hl => ?_)
                            obtain ⟨zi_960, ezi_960⟩ : ∃ y : Int32, y = zi_919 + 1 := ⟨_, rfl⟩
                            have tzi_960 : zi_960.toInt = zi_919.toInt + 1 := by rw [ezi_960]; exact tadd rfl (show (1 : Int32).toInt = 1 by decide) (by omega) (by omega)
                            refine lv_iinc (v := zi_960) (lv' := [(10, .int zi_960), (9, .int zi_959), (0, .ref zy), (1, .int zia), (2, .int zib), (3, .int zic), (4, .int zid), (5, .int zie), (6, .int zi_32), (7, .int zi_41), (8, .int zi_914)]) hx hb dX11_looked_193 hl (k := 10) rfl (by rw [ezi_960]; rfl) (by decide) rfl (fun ls hl => ?_)
                            refine lv_goto (tgt := 150) hx hb dX11_looked_196 (by decide) ?_
                            exact ih_942 (2147483647 - zi_960.toInt).toNat (by omega) zi_959 zi_960 zJ_949 _ _ _ rfl (by omega) e_lp_942_0 hP hD hS (lv_sub hl [2, 3, 4, 5, 6, 7, 8, 9, 10, 1, 0] rfl)
                          · have f_958 : ¬ (zj_952.toInt < zj_955.toInt) := lk_nlt ezi_956 (rfl) (rfl) c_957
                            refine lv_iconst (v := 1) hx hb dX11_looked_185 (by decide) ?_
                            refine lv_goto (tgt := 190) hx hb dX11_looked_186 (by decide) ?_
                            have rx_zi_918 := rng zi_918
                            refine lv_iadd hx hb dX11_looked_190 ?_
                            refine lv_topi (fun zi_961 ezi_961 => ?_)
                            have rzi_961 := rng zi_961
                            refine lv_istore (lv' := [(9, .int zi_961), (0, .ref zy), (1, .int zia), (2, .int zib), (3, .int zic), (4, .int zid), (5, .int zie), (6, .int zi_32), (7, .int zi_41), (8, .int zi_914), (10, .int zi_919)]) hx hb dX11_looked_191 hl (by decide) rfl (fun ls hl => ?_)
                            obtain ⟨zi_962, ezi_962⟩ : ∃ y : Int32, y = zi_919 + 1 := ⟨_, rfl⟩
                            have tzi_962 : zi_962.toInt = zi_919.toInt + 1 := by rw [ezi_962]; exact tadd rfl (show (1 : Int32).toInt = 1 by decide) (by omega) (by omega)
                            refine lv_iinc (v := zi_962) (lv' := [(10, .int zi_962), (9, .int zi_961), (0, .ref zy), (1, .int zia), (2, .int zib), (3, .int zic), (4, .int zid), (5, .int zie), (6, .int zi_32), (7, .int zi_41), (8, .int zi_914)]) hx hb dX11_looked_193 hl (k := 10) rfl (by rw [ezi_962]; rfl) (by decide) rfl (fun ls hl => ?_)
                            refine lv_goto (tgt := 150) hx hb dX11_looked_196 (by decide) ?_
                            exact ih_942 (2147483647 - zi_962.toInt).toNat (by omega) zi_961 zi_962 zJ_949 _ _ _ rfl (by omega) e_lp_942_0 hP hD hS (lv_sub hl [2, 3, 4, 5, 6, 7, 8, 9, 10, 1, 0] rfl)
                    have qc_0 : (0 : Int32).toInt = 0 := by decide
                    have zz_963 : ZI (zI_35 (zR zy 0)) := by rw [(k_zI_35.2.row t_42 (by decide) (by decide))]; exact hz
                    exact lp_942 _ (0 : Int32) (0 : Int32) zJ_36 _ _ _ rfl (by decide) zz_963 hP hD hS (lv_sub hl [5, 6, 7, 8, 9, 10, 4, 3, 2, 1, 0] rfl)
                  · have f_917 : ¬ (zie.toInt ≠ 0) := ic_nne (rfl) (by decide) c_916
                    refine lv_bipush (v := 24) hx hb dX11_looked_138 (by decide) ?_
                    refine lv_iload hx hb dX11_looked_140 (lv_at hl 0 rfl) ?_
                    have rx_zi_914 := rng zi_914
                    refine lv_isub hx hb dX11_looked_142 ?_
                    refine lv_topi (fun zi_964 ezi_964 => ?_)
                    have rzi_964 := rng zi_964
                    subst hQ
                    exact W.iret (v := zi_964) hx hb hr (fun t ht hW => ⟨⟨zi_964, (zI_35, zJ_36), rfl, h_zI_35, ⟨by rw [ht]; exact hP, va_K.moved hW.alike hK, hD⟩⟩, hS.F ht⟩) hS.2.2 dX11_looked_143
            · have f_39 : ¬ (zi_32.toInt ≥ 0) := ic_nge (rfl) (by decide) c_38
              refine lv_iload hx hb dX11_looked_65 (lv_at hl 0 rfl) ?_
              subst hQ
              exact W.iret (v := zi_32) hx hb hr (fun t ht hW => ⟨⟨zi_32, (zI_35, zJ_36), rfl, h_zI_35, ⟨by rw [ht]; exact hP, va_K.moved hW.alike hK, hD⟩⟩, hS.F ht⟩) hS.2.2 dX11_looked_67
          · have f_31 : ¬ (0 ≤ zj_26.toInt ∧ zj_26.toInt ≤ 1) := bz_0 hw_28 c_30
            refine lv_iconst (v := (-1)) hx hb dX11_looked_51 (by decide) ?_
            subst hQ
            exact W.iret (v := (-1 : Int32)) hx hb hr (fun t ht hW => ⟨⟨(-1 : Int32), (zI, zJ), rfl, h_zI, ⟨by rw [ht]; exact hP, va_K.moved hW.alike hK, hD⟩⟩, hS.F ht⟩) hS.2.2 dX11_looked_52
set_option maxHeartbeats 8000000 in
set_option maxRecDepth 100000 in
theorem t_X11_fits (l : Launch) (dC : Nat → ClassId) (dI : Nat → Nat → Nat) (cy : Nat → ClassId) (sz : Nat) (zL : List Nat) (zT : Nat → Nat) (zR : Nat → Nat → Nat) (zI : Nat → Nat → Int32) (zJ : Nat → Nat → Int64) (zy : Nat) (zia : Int32) (zib : Int32) (zik : Int32) (zie : Int32) (hs : SKP zL zT zR) (hw : WT zT zR zI) (t_zy : zT zy = 18) (b_zia : 0 ≤ zia.toInt ∧ zia.toInt ≤ 95) (b_zib : 1 ≤ zib.toInt ∧ zib.toInt ≤ 8) (b_zik : 1 ≤ zik.toInt ∧ zik.toInt ≤ 5) (b_zie : 0 ≤ zie.toInt ∧ zie.toInt ≤ 9) (hx1 : zia.toInt + 2 * zib.toInt ≤ 96) (hx2 : YQ (zI (zR zy 27)) zia.toInt zib.toInt) : Met l yX11_fits wsX11_fits ({ frames := 2, cells := 0, slots := 0, locals := 48 } : Room) (va_Pc [.ref zy, .int zia, .int zib, .int zik, .int zie] (PRE dC dI cy (WL cy zL zT zR zI zJ) sz)) (va_Qi (fun (r : Int32) (u : Unit) => (0 ≤ r.toInt ∧ r.toInt ≤ 1) ∧ ((r.toInt = 1 ∧ ALLB (FTr (zI (zR zy 0)) (zik.toInt).toNat (zA (zI (zR zy 27))) zia.toInt zie.toInt) zib.toInt) ∨ (r.toInt = 0 ∧ ¬ ALLB (FTr (zI (zR zy 0)) (zik.toInt).toNat (zA (zI (zR zy 27))) zia.toInt zie.toInt) zib.toInt))) (fun u t => POST dC dI cy (va_A (WL cy zL zT zR zI zJ) sz) (WL cy zL zT zR zI zJ) t) (va_A (WL cy zL zT zR zI zJ) sz)) 0 0 (va_A (WL cy zL zT zR zI zJ) sz) := by
  refine Met.ofW (cc := cX11_fits) (maxL := 10) (ret := (some .boolean)) (by decide) rfl ?_
  intro p e s m args below meth c s₁ B hml hv
  obtain ⟨rfl, hsz, hP, hK, hD0, hN⟩ := hv
  have hx := B.exec
  have hb := B.bytes
  have hr := B.returns
  have hts := atoms_spec (ws := wsX11_fits) B.pre
  have hown : s.vm.findClass RX11 = some m.cls := findClass_of_methodNamed B.named
  have hlocks := B.notSynchronized
  subst hsz
  have hD := hD0.self (sz := s.heap.size)
  generalize hAe : va_A (WL cy zL zT zR zI zJ) s.heap.size = A at hD ⊢
  have hA : ∀ q : Nat, s.heap.size ≤ q → A q := fun q h => by rw [← hAe]; exact Or.inr h
  have hS : va_S A s.heap s.heap [] := va_S.rf
  have hP : va_P (dC, dI) vwCl (WL cy zL zT zR zI zJ) s.heap := hP
  have hl := lv_entry ([.ref zy, .int zia, .int zib, .int zik, .int zie] : List Value) (n := 10) (Nat.le_of_ble_eq_true rfl)
  rw [lg_entry_eq]
  generalize (lg_sl ([.ref zy, .int zia, .int zib, .int zik, .int zie] : List Value) ++ List.replicate (10 - (lg_sl ([.ref zy, .int zia, .int zib, .int zik, .int zie] : List Value)).length) Slot.unset).toArray = ls at hl ⊢
  have hl : lv_has ls 10 [(0, .ref zy), (1, .int zia), (2, .int zib), (3, .int zik), (4, .int zie)] := hl
  refine w_q (fun Q hQ => ?_)
  have h_zI : WM [] AL zT zR zI zI := WM.rf hw
  refine lv_iconst (v := 1) hx hb dX11_fits_0 (by decide) ?_
  refine lv_istore (lv' := [(5, .int 1), (0, .ref zy), (1, .int zia), (2, .int zib), (3, .int zik), (4, .int zie)]) hx hb dX11_fits_1 hl (by decide) rfl (fun ls hl => ?_)
  refine lv_iconst (v := 0) hx hb dX11_fits_3 (by decide) ?_
  refine lv_istore (lv' := [(6, .int 0), (5, .int 1), (0, .ref zy), (1, .int zia), (2, .int zib), (3, .int zik), (4, .int zie)]) hx hb dX11_fits_4 hl (by decide) rfl (fun ls hl => ?_)
  have lp_223 : ∀ (n : Nat) (zi_177 : Int32) (zi_178 : Int32) (H : Heap) (locs : List Loc) (ls : Array Slot), (zib.toInt - zi_178.toInt).toNat = n → (0 ≤ zi_177.toInt ∧ zi_177.toInt ≤ 1) → (0 ≤ zi_178.toInt ∧ zi_178.toInt ≤ 8) → ((zi_177.toInt = 1 ∧ ALLB (FTr (zI (zR zy 0)) (zik.toInt).toNat (zA (zI (zR zy 27))) zia.toInt zie.toInt) zi_178.toInt) ∨ (zi_177.toInt = 0 ∧ ¬ ALLB (FTr (zI (zR zy 0)) (zik.toInt).toNat (zA (zI (zR zy 27))) zia.toInt zie.toInt) zib.toInt)) → va_P (dC, dI) vwCl (WL cy zL zT zR zI zJ) H → va_D A (WL cy zL zT zR zI zJ) → va_S A s.heap H locs → lv_has ls 10 [(0, .ref zy), (1, .int zia), (2, .int zib), (3, .int zik), (4, .int zie), (5, .int zi_177), (6, .int zi_178)] → W p l e ({ frames := 2, cells := 0, slots := 0, locals := 48 } : Room) s m ([.ref zy, .int zia, .int zib, .int zik, .int zie] : List Value).toArray below meth c H locs 0 0 Q (F0 m 6 ls []) := by
    intro n
    induction n using Nat.strongRecOn with
    | _ n ih_223 =>
      intro zi_177 zi_178 H locs ls hn b_zi_177 b_zi_178 e_lp_223_0 hP hD hS hl
      refine lv_iload hx hb dX11_fits_6 (lv_at hl 6 rfl) ?_
      refine lv_iload_n hx hb dX11_fits_8 rfl (lv_at hl 2 rfl) ?_
      refine lv_icmp_ge (tgt := 114) hx hb dX11_fits_9 (by decide) (fun c_224 => ?_) (fun c_224 => ?_)
      · have f_225 : zi_178.toInt ≥ zib.toInt := ic_ge (rfl) (rfl) c_224
        refine lv_iload hx hb dX11_fits_114 (lv_at hl 5 rfl) ?_
        subst hQ
        exact W.zret (v := zi_177) hx hb hr (zb_n2 (by omega)) (fun t ht hW => ⟨⟨zi_177, (), rfl, ⟨(show 0 ≤ zi_177.toInt ∧ zi_177.toInt ≤ 1 from by omega), (show (zi_177.toInt = 1 ∧ ALLB (FTr (zI (zR zy 0)) (zik.toInt).toNat (zA (zI (zR zy 27))) zia.toInt zie.toInt) zib.toInt) ∨ (zi_177.toInt = 0 ∧ ¬ ALLB (FTr (zI (zR zy 0)) (zik.toInt).toNat (zA (zI (zR zy 27))) zia.toInt zie.toInt) zib.toInt) from (e_lp_223_0.imp (fun h9 => ⟨h9.1, ALLB.e h9.2 (by omega)⟩) id))⟩, ⟨by rw [ht]; exact hP, va_K.moved hW.alike hK, hD⟩⟩, hS.F ht⟩) hS.2.2 dX11_fits_116
      · have f_225 : ¬ (zi_178.toInt ≥ zib.toInt) := ic_nge (rfl) (rfl) c_224
        refine lv_iload hx hb dX11_fits_12 (lv_at hl 5 rfl) ?_
        refine lv_if_eq (tgt := 114) hx hb dX11_fits_14 (by decide) (fun c_226 => ?_) (fun c_226 => ?_)
        · have f_227 : zi_177.toInt = 0 := ic_eq (rfl) (by decide) c_226
          refine lv_iload hx hb dX11_fits_114 (lv_at hl 5 rfl) ?_
          subst hQ
          exact W.zret (v := zi_177) hx hb hr (zb_n2 (by omega)) (fun t ht hW => ⟨⟨zi_177, (), rfl, ⟨(show 0 ≤ zi_177.toInt ∧ zi_177.toInt ≤ 1 from by omega), (show (zi_177.toInt = 1 ∧ ALLB (FTr (zI (zR zy 0)) (zik.toInt).toNat (zA (zI (zR zy 27))) zia.toInt zie.toInt) zib.toInt) ∨ (zi_177.toInt = 0 ∧ ¬ ALLB (FTr (zI (zR zy 0)) (zik.toInt).toNat (zA (zI (zR zy 27))) zia.toInt zie.toInt) zib.toInt) from (e_lp_223_0.imp (fun h9 => ⟨h9.1, ALLB.e h9.2 (by omega)⟩) id))⟩, ⟨by rw [ht]; exact hP, va_K.moved hW.alike hK, hD⟩⟩, hS.F ht⟩) hS.2.2 dX11_fits_116
        · have f_227 : ¬ (zi_177.toInt = 0) := ic_neq (rfl) (by decide) c_226
          refine lv_aload_n hx hb dX11_fits_17 rfl (lv_at hl 0 rfl) ?_
          refine ht_getr (C := RX11) (T := TX11) (N := 28) hx hb hts (by decide +kernel) hown hK hP hs t_zy (by decide) rfl rfl 27 (by decide) (hts (.fieldLink RX11 65 "DripStoneModel" "items" "[I") (by decide +kernel)) (fun _ h9 => h9) rfl dX11_fits_18 ?_
          have t_228 : zT (zR zy 27) = 112 := sk_f hs t_zy (by decide) rfl (by decide)
          refine lv_iload_n hx hb dX11_fits_21 rfl (lv_at hl 1 rfl) ?_
          refine lv_iconst (v := 2) hx hb dX11_fits_22 (by decide) ?_
          refine lv_iload hx hb dX11_fits_23 (lv_at hl 6 rfl) ?_
          refine lv_imul hx hb dX11_fits_25 ?_
          refine lv_topi (fun zi_229 ezi_229 => ?_)
          have tzi_229 : zi_229.toInt = (2 : Int) * zi_178.toInt := by rw [ezi_229]; exact timul (show (2 : Int32).toInt = 2 by decide) (rfl) (by omega) (by omega)
          refine lv_iadd hx hb dX11_fits_26 ?_
          refine lv_topi (fun zi_230 ezi_230 => ?_)
          have tzi_230 : zi_230.toInt = zia.toInt + zi_229.toInt := by rw [ezi_230]; exact tiadd (rfl) (rfl) (by omega) (by omega)
          refine ht_iald (n := 96) (q := 0) hx hb hK hP hs t_228 (by decide) rfl rfl ⟨by omega, by omega⟩ dX11_fits_27 ?_
          refine lv_topi (fun zi_231 ezi_231 => ?_)
          have y_232 : 0 ≤ zi_231.toInt ∧ zi_231.toInt ≤ 23 := by rw [← ezi_231.symm]; exact YQ.at hx2 (q := zi_178.toInt) (by omega) (by omega) (by omega)
          have rr_233 := rng zi_231
          refine lv_istore (lv' := [(7, .int zi_231), (0, .ref zy), (1, .int zia), (2, .int zib), (3, .int zik), (4, .int zie), (5, .int zi_177), (6, .int zi_178)]) hx hb dX11_fits_28 hl (by decide) rfl (fun ls hl => ?_)
          refine lv_aload_n hx hb dX11_fits_30 rfl (lv_at hl 1 rfl) ?_
          refine lv_iload hx hb dX11_fits_31 (lv_at hl 0 rfl) ?_
          refine lv_iload_n hx hb dX11_fits_33 rfl (lv_at hl 4 rfl) ?_
          refine hj_i (ws := (WL cy zL zT zR zI zJ)) (w1 := fun (u : Unit) => (WL cy zL zT zR zI zJ)) (va_runV (As := [.int zi_231, .int zik]) (rest := []) ⟨hx, hb, hml, hown, hts⟩ (t_X11_wetBy l dC dI cy H.size zL zT zR zI zJ zy zi_231 zik hs h_zI.1 t_zy (by omega) (by omega)) (cwV 2 hts gX11_fits_X11_wetBy rfl rfl rfl (by decide +kernel) ⟨(Nat.le_of_ble_eq_true rfl), (Nat.le_of_ble_eq_true rfl)⟩) (PRE.v hP hK hD hN (ht_recv hK hP hs t_zy (by decide) rfl rfl)) rfl rfl hl.1 rfl (lv_room (Nat.le_of_ble_eq_true rfl)) dX11_fits_34 ⟨(Nat.le_of_ble_eq_true rfl), (Nat.le_of_ble_eq_true rfl)⟩) hP hD hS hA (fun zi_234 u_236 H locs hw_235 hP hD hS => ?_)
          have ps_237 : zi_234 = WS (zI (zR zy 0)) (zik.toInt).toNat zi_231.toInt 0 := hw_235
          have rzi_234 := rng zi_234
          refine lv_if_le (tgt := 44) hx hb dX11_fits_37 (by decide) (fun c_238 => ?_) (fun c_238 => ?_)
          · have f_239 : zi_234.toInt ≤ 0 := ic_le (rfl) (by decide) c_238
            refine lv_iconst (v := 0) hx hb dX11_fits_44 (by decide) ?_
            refine lv_istore (lv' := [(5, .int 0), (7, .int zi_231), (0, .ref zy), (1, .int zia), (2, .int zib), (3, .int zik), (4, .int zie), (6, .int zi_178)]) hx hb dX11_fits_45 hl (by decide) rfl (fun ls hl => ?_)
            refine lv_iload hx hb dX11_fits_47 (lv_at hl 0 rfl) ?_
            refine lv_if_eq (tgt := 78) hx hb dX11_fits_49 (by decide) (fun c_240 => ?_) (fun c_240 => absurd (by decide) c_240)
            refine lv_lconst (v := 0) hx hb dX11_fits_78 (by decide) ?_
            refine lv_lstore (lv' := [(8, .long 0), (5, .int 0), (7, .int zi_231), (0, .ref zy), (1, .int zia), (2, .int zib), (3, .int zik), (4, .int zie), (6, .int zi_178)]) hx hb dX11_fits_79 hl (by decide) rfl (fun ls hl => ?_)
            refine lv_iload hx hb dX11_fits_81 (lv_at hl 1 rfl) ?_
            refine lv_if_eq (tgt := 105) hx hb dX11_fits_83 (by decide) (fun c_241 => ?_) (fun c_241 => absurd (by decide) c_241)
            refine lv_iconst (v := 0) hx hb dX11_fits_105 (by decide) ?_
            refine lv_istore (lv' := [(5, .int 0), (8, .long 0), (7, .int zi_231), (0, .ref zy), (1, .int zia), (2, .int zib), (3, .int zik), (4, .int zie), (6, .int zi_178)]) hx hb dX11_fits_106 hl (by decide) rfl (fun ls hl => ?_)
            obtain ⟨zi_242, ezi_242⟩ : ∃ y : Int32, y = zi_178 + 1 := ⟨_, rfl⟩
            have tzi_242 : zi_242.toInt = zi_178.toInt + 1 := by rw [ezi_242]; exact tadd rfl (show (1 : Int32).toInt = 1 by decide) (by omega) (by omega)
            refine lv_iinc (v := zi_242) (lv' := [(6, .int zi_242), (5, .int 0), (8, .long 0), (7, .int zi_231), (0, .ref zy), (1, .int zia), (2, .int zib), (3, .int zik), (4, .int zie)]) hx hb dX11_fits_108 hl (k := 8) rfl (by rw [ezi_242]; rfl) (by decide) rfl (fun ls hl => ?_)
            refine lv_goto (tgt := 6) hx hb dX11_fits_111 (by decide) ?_
            have qc_0 : (0 : Int32).toInt = 0 := by decide
            exact ih_223 (zib.toInt - zi_242.toInt).toNat (by omega) (0 : Int32) zi_242 _ _ _ rfl (by decide) (by omega) (Or.inr ⟨by decide, FTr.no1 (i := zi_178.toInt) (((congrArg Int32.toInt (show zI (zR zy 27) zi_230.toNatClampNeg = zi_231 from ezi_231.symm).symm).trans (congrArg (zA (zI (zR zy 27))) (show zi_230.toInt = zia.toInt + 2 * zi_178.toInt from by omega))).symm) (show zi_234 = _ from ps_237) (by omega) (by omega) (by omega)⟩) hP hD hS (lv_sub hl [4, 5, 6, 7, 8, 1, 0] rfl)
          · have f_239 : ¬ (zi_234.toInt ≤ 0) := ic_nle (rfl) (by decide) c_238
            refine lv_iconst (v := 1) hx hb dX11_fits_40 (by decide) ?_
            refine lv_goto (tgt := 45) hx hb dX11_fits_41 (by decide) ?_
            refine lv_istore (lv' := [(5, .int 1), (7, .int zi_231), (0, .ref zy), (1, .int zia), (2, .int zib), (3, .int zik), (4, .int zie), (6, .int zi_178)]) hx hb dX11_fits_45 hl (by decide) rfl (fun ls hl => ?_)
            refine lv_iload hx hb dX11_fits_47 (lv_at hl 0 rfl) ?_
            refine lv_if_eq (tgt := 78) hx hb dX11_fits_49 (by decide) (fun c_243 => absurd c_243 (by decide)) (fun c_243 => ?_)
            refine lv_aload_n hx hb dX11_fits_52 rfl (lv_at hl 2 rfl) ?_
            refine lv_iload hx hb dX11_fits_53 (lv_at hl 1 rfl) ?_
            refine lv_iload_n hx hb dX11_fits_55 rfl (lv_at hl 5 rfl) ?_
            refine hj_i (ws := (WL cy zL zT zR zI zJ)) (w1 := fun (u : Unit) => (WL cy zL zT zR zI zJ)) (va_runV (As := [.int zi_231, .int zik]) (rest := []) ⟨hx, hb, hml, hown, hts⟩ (t_X11_waterBy l dC dI cy H.size zL zT zR zI zJ zy zi_231 zik hs h_zI.1 t_zy (by omega) (by omega) (ne_ws (show zi_234 = _ from ps_237) (by omega))) (cwV 2 hts gX11_fits_X11_waterBy rfl rfl rfl (by decide +kernel) ⟨(Nat.le_of_ble_eq_true rfl), (Nat.le_of_ble_eq_true rfl)⟩) (PRE.v hP hK hD hN (ht_recv hK hP hs t_zy (by decide) rfl rfl)) rfl rfl hl.1 rfl (lv_room (Nat.le_of_ble_eq_true rfl)) dX11_fits_56 ⟨(Nat.le_of_ble_eq_true rfl), (Nat.le_of_ble_eq_true rfl)⟩) hP hD hS hA (fun zi_244 u_246 H locs hw_245 hP hD hS => ?_)
            have ps_247 : zi_244 = WSP (zI (zR zy 0)) (zik.toInt).toNat zi_231.toInt 0 / WS (zI (zR zy 0)) (zik.toInt).toNat zi_231.toInt 0 := hw_245
            have rzi_244 := rng zi_244
            refine lv_i2l (v := zi_244.toInt64) hx hb dX11_fits_59 rfl ?_
            refine lv_topl (fun zj_248 ezj_248 => ?_)
            have tzj_248 : zj_248.toInt = zi_244.toInt := by rw [ezj_248]; exact Int32.toInt_toInt64 _
            refine lv_aload_n hx hb dX11_fits_60 rfl (lv_at hl 2 rfl) ?_
            refine ht_getr (C := RX11) (T := TX11) (N := 28) hx hb hts (by decide +kernel) hown hK hP hs t_zy (by decide) rfl rfl 27 (by decide) (hts (.fieldLink RX11 65 "DripStoneModel" "items" "[I") (by decide +kernel)) (fun _ h9 => h9) rfl dX11_fits_61 ?_
            refine lv_iload_n hx hb dX11_fits_64 rfl (lv_at hl 3 rfl) ?_
            refine lv_iconst (v := 2) hx hb dX11_fits_65 (by decide) ?_
            refine lv_iload hx hb dX11_fits_66 (lv_at hl 7 rfl) ?_
            refine lv_imul hx hb dX11_fits_68 ?_
            refine lv_topi (fun zi_249 ezi_249 => ?_)
            have tzi_249 : zi_249.toInt = (2 : Int) * zi_178.toInt := by rw [ezi_249]; exact timul (show (2 : Int32).toInt = 2 by decide) (rfl) (by omega) (by omega)
            refine lv_iadd hx hb dX11_fits_69 ?_
            refine lv_topi (fun zi_250 ezi_250 => ?_)
            have tzi_250 : zi_250.toInt = zia.toInt + zi_249.toInt := by rw [ezi_250]; exact tiadd (rfl) (rfl) (by omega) (by omega)
            refine lv_iconst (v := 1) hx hb dX11_fits_70 (by decide) ?_
            refine lv_iadd hx hb dX11_fits_71 ?_
            refine lv_topi (fun zi_251 ezi_251 => ?_)
            have tzi_251 : zi_251.toInt = zi_250.toInt + (1 : Int) := by rw [ezi_251]; exact tiadd (rfl) (show (1 : Int32).toInt = 1 by decide) (by omega) (by omega)
            refine ht_iald (n := 96) (q := 0) hx hb hK hP hs t_228 (by decide) rfl rfl ⟨by omega, by omega⟩ dX11_fits_72 ?_
            refine lv_topi (fun zi_252 ezi_252 => ?_)
            have rr_253 := rng zi_252
            refine lv_i2l (v := zi_252.toInt64) hx hb dX11_fits_73 rfl ?_
            refine lv_topl (fun zj_254 ezj_254 => ?_)
            have tzj_254 : zj_254.toInt = zi_252.toInt := by rw [ezj_254]; exact Int32.toInt_toInt64 _
            refine lv_lsub hx hb dX11_fits_74 ?_
            refine lv_topl (fun zj_255 ezj_255 => ?_)
            have ls_256 : zj_255.toInt = zj_248.toInt - zj_254.toInt := LSUB ezj_255 (by omega) (by omega)
            refine lv_goto (tgt := 79) hx hb dX11_fits_75 (by decide) ?_
            refine lv_lstore (lv' := [(8, .long zj_255), (5, .int 1), (7, .int zi_231), (0, .ref zy), (1, .int zia), (2, .int zib), (3, .int zik), (4, .int zie), (6, .int zi_178)]) hx hb dX11_fits_79 hl (by decide) rfl (fun ls hl => ?_)
            refine lv_iload hx hb dX11_fits_81 (lv_at hl 1 rfl) ?_
            refine lv_if_eq (tgt := 105) hx hb dX11_fits_83 (by decide) (fun c_257 => absurd c_257 (by decide)) (fun c_257 => ?_)
            refine lv_lload hx hb dX11_fits_86 (lv_at hl 0 rfl) ?_
            refine lv_iload hx hb dX11_fits_88 (lv_at hl 7 rfl) ?_
            refine lv_ineg hx hb dX11_fits_90 ?_
            refine lv_topi (fun zi_258 ezi_258 => ?_)
            have tzi_258 : zi_258.toInt = - zie.toInt := by rw [ezi_258]; exact tineg rfl (by omega)
            refine lv_i2l (v := zi_258.toInt64) hx hb dX11_fits_91 rfl ?_
            refine lv_topl (fun zj_259 ezj_259 => ?_)
            have tzj_259 : zj_259.toInt = zi_258.toInt := by rw [ezj_259]; exact Int32.toInt_toInt64 _
            refine lv_iload hx hb dX11_fits_92 (lv_at hl 7 rfl) ?_
            refine lv_i2l (v := zie.toInt64) hx hb dX11_fits_94 rfl ?_
            refine lv_topl (fun zj_260 ezj_260 => ?_)
            have tzj_260 : zj_260.toInt = zie.toInt := by rw [ezj_260]; exact Int32.toInt_toInt64 _
            refine hj0_i (ws := (WL cy zL zT zR zI zJ)) (va_runS (As := [.long zj_255, .long zj_259, .long zj_260]) (rest := []) ⟨hx, hb, hml, hown, hts⟩ (c_X11_in l dC dI cy H.size zj_255 zj_259 zj_260 zj_259.toInt zj_260.toInt zj_255.toInt (by first | rfl | decide | omega | exact Int32.toInt_toInt64 _) (by first | rfl | decide | omega | exact Int32.toInt_toInt64 _) (by first | rfl | decide | omega | exact Int32.toInt_toInt64 _)) (va_cwS 3 hts gX11_fits_X11_in rfl rfl rfl (by decide +kernel) ⟨(Nat.le_of_ble_eq_true rfl), (Nat.le_of_ble_eq_true rfl)⟩) (PRE.s (hP.sub [] rfl) hK (hD.sub [] (by decide) rfl) hN) rfl rfl hl.1 rfl (lv_room (Nat.le_of_ble_eq_true rfl)) dX11_fits_95 ⟨(Nat.le_of_ble_eq_true rfl), (Nat.le_of_ble_eq_true rfl)⟩) hP hD hS hA (fun zi_261 u_263 H locs hw_262 hP hD hS => ?_)
            have hw_262 : zi_261 = if zj_259.toInt ≤ zj_255.toInt ∧ zj_255.toInt ≤ zj_260.toInt then 1 else 0 := hw_262
            have b_zi_261 : 0 ≤ zi_261.toInt ∧ zi_261.toInt ≤ 1 := bz_b hw_262
            refine lv_if_eq (tgt := 105) hx hb dX11_fits_98 (by decide) (fun c_264 => ?_) (fun c_264 => ?_)
            · have f_265 : ¬ (zj_259.toInt ≤ zj_255.toInt ∧ zj_255.toInt ≤ zj_260.toInt) := bz_0 hw_262 c_264
              refine lv_iconst (v := 0) hx hb dX11_fits_105 (by decide) ?_
              refine lv_istore (lv' := [(5, .int 0), (8, .long zj_255), (7, .int zi_231), (0, .ref zy), (1, .int zia), (2, .int zib), (3, .int zik), (4, .int zie), (6, .int zi_178)]) hx hb dX11_fits_106 hl (by decide) rfl (fun ls hl => ?_)
              obtain ⟨zi_266, ezi_266⟩ : ∃ y : Int32, y = zi_178 + 1 := ⟨_, rfl⟩
              have tzi_266 : zi_266.toInt = zi_178.toInt + 1 := by rw [ezi_266]; exact tadd rfl (show (1 : Int32).toInt = 1 by decide) (by omega) (by omega)
              refine lv_iinc (v := zi_266) (lv' := [(6, .int zi_266), (5, .int 0), (8, .long zj_255), (7, .int zi_231), (0, .ref zy), (1, .int zia), (2, .int zib), (3, .int zik), (4, .int zie)]) hx hb dX11_fits_108 hl (k := 8) rfl (by rw [ezi_266]; rfl) (by decide) rfl (fun ls hl => ?_)
              refine lv_goto (tgt := 6) hx hb dX11_fits_111 (by decide) ?_
              have qc_0 : (0 : Int32).toInt = 0 := by decide
              exact ih_223 (zib.toInt - zi_266.toInt).toNat (by omega) (0 : Int32) zi_266 _ _ _ rfl (by decide) (by omega) (Or.inr ⟨by decide, FTr.no2 (i := zi_178.toInt) (((congrArg Int32.toInt (show zI (zR zy 27) zi_230.toNatClampNeg = zi_231 from ezi_231.symm).symm).trans (congrArg (zA (zI (zR zy 27))) (show zi_230.toInt = zia.toInt + 2 * zi_178.toInt from by omega))).symm) (((congrArg Int32.toInt (show zI (zR zy 27) zi_251.toNatClampNeg = zi_252 from ezi_252.symm).symm).trans (congrArg (zA (zI (zR zy 27))) (show zi_251.toInt = zia.toInt + 2 * zi_178.toInt + 1 from by omega))).symm) (show zi_244 = _ from ps_247) (by omega) (by omega) (by omega)⟩) hP hD hS (lv_sub hl [4, 5, 6, 7, 8, 1, 0] rfl)
            · have f_265 : zj_259.toInt ≤ zj_255.toInt ∧ zj_255.toInt ≤ zj_260.toInt := bz_1 hw_262 c_264
              refine lv_iconst (v := 1) hx hb dX11_fits_101 (by decide) ?_
              refine lv_goto (tgt := 106) hx hb dX11_fits_102 (by decide) ?_
              refine lv_istore (lv' := [(5, .int 1), (8, .long zj_255), (7, .int zi_231), (0, .ref zy), (1, .int zia), (2, .int zib), (3, .int zik), (4, .int zie), (6, .int zi_178)]) hx hb dX11_fits_106 hl (by decide) rfl (fun ls hl => ?_)
              obtain ⟨zi_267, ezi_267⟩ : ∃ y : Int32, y = zi_178 + 1 := ⟨_, rfl⟩
              have tzi_267 : zi_267.toInt = zi_178.toInt + 1 := by rw [ezi_267]; exact tadd rfl (show (1 : Int32).toInt = 1 by decide) (by omega) (by omega)
              refine lv_iinc (v := zi_267) (lv' := [(6, .int zi_267), (5, .int 1), (8, .long zj_255), (7, .int zi_231), (0, .ref zy), (1, .int zia), (2, .int zib), (3, .int zik), (4, .int zie)]) hx hb dX11_fits_108 hl (k := 8) rfl (by rw [ezi_267]; rfl) (by decide) rfl (fun ls hl => ?_)
              refine lv_goto (tgt := 6) hx hb dX11_fits_111 (by decide) ?_
              have qc_1 : (1 : Int32).toInt = 1 := by decide
              exact ih_223 (zib.toInt - zi_267.toInt).toNat (by omega) (1 : Int32) zi_267 _ _ _ rfl (by decide) (by omega) (Or.inl ⟨by decide, ALLB.s (e_lp_223_0.resolve_right (fun h9 => absurd h9.1 (by omega))).2 (FTr.mk (((congrArg Int32.toInt (show zI (zR zy 27) zi_230.toNatClampNeg = zi_231 from ezi_231.symm).symm).trans (congrArg (zA (zI (zR zy 27))) (show zi_230.toInt = zia.toInt + 2 * zi_178.toInt from by omega))).symm) (((congrArg Int32.toInt (show zI (zR zy 27) zi_251.toNatClampNeg = zi_252 from ezi_252.symm).symm).trans (congrArg (zA (zI (zR zy 27))) (show zi_251.toInt = zia.toInt + 2 * zi_178.toInt + 1 from by omega))).symm) (show zi_234 = _ from ps_237) (show zi_244 = _ from ps_247) (by omega) (by omega) (by omega)) (by omega)⟩) hP hD hS (lv_sub hl [4, 5, 6, 7, 8, 1, 0] rfl)
  have qc_1 : (1 : Int32).toInt = 1 := by decide
  have qc_0 : (0 : Int32).toInt = 0 := by decide
  exact lp_223 _ (1 : Int32) (0 : Int32) _ _ _ rfl (by decide) (by decide) (Or.inl ⟨by decide, ALLB.z⟩) hP hD hS (lv_sub hl [2, 3, 4, 5, 6, 1, 0] rfl)
set_option maxHeartbeats 8000000 in
set_option maxRecDepth 100000 in
theorem t_X11_learn (l : Launch) (dC : Nat → ClassId) (dI : Nat → Nat → Nat) (cy : Nat → ClassId) (sz : Nat) (zL : List Nat) (zT : Nat → Nat) (zR : Nat → Nat → Nat) (zI : Nat → Nat → Int32) (zJ : Nat → Nat → Int64) (zy : Nat) (zia : Int32) (zib : Int32) (zic : Int32) (zid : Int32) (zie : Int32) (hs : SKP zL zT zR) (hw : WT zT zR zI) (t_zy : zT zy = 18) : Met l yX11_learn wsX11_learn ({ frames := 3, cells := 0, slots := 0, locals := 77 } : Room) (va_Pc [.ref zy, .int zia, .int zib, .int zic, .int zid, .int zie] (PRE dC dI cy (WL cy zL zT zR zI zJ) sz)) (va_Qi (fun (r : Int32) (u : Unit) => (¬ (LNok zia.toInt zib.toInt zid.toInt zie.toInt) → r.toInt = -1) ∧ (LNok zia.toInt zib.toInt zid.toInt zie.toInt → ¬ (LKS (zI (zR zy 25) zia.toNatClampNeg).toInt (zI (zR zy 26) zia.toNatClampNeg).toInt zib.toInt zic.toInt (2 * zid.toInt)) = 0 → r.toInt = (LKS (zI (zR zy 25) zia.toNatClampNeg).toInt (zI (zR zy 26) zia.toNatClampNeg).toInt zib.toInt zic.toInt (2 * zid.toInt))) ∧ (LNok zia.toInt zib.toInt zid.toInt zie.toInt → (LKS (zI (zR zy 25) zia.toNatClampNeg).toInt (zI (zR zy 26) zia.toNatClampNeg).toInt zib.toInt zic.toInt (2 * zid.toInt)) = 0 → ¬ YQ (zI (zR zy 27)) (24 * zia.toInt + zic.toInt) zid.toInt → r.toInt = -2) ∧ (LNok zia.toInt zib.toInt zid.toInt zie.toInt → (LKS (zI (zR zy 25) zia.toNatClampNeg).toInt (zI (zR zy 26) zia.toNatClampNeg).toInt zib.toInt zic.toInt (2 * zid.toInt)) = 0 → YQ (zI (zR zy 27)) (24 * zia.toInt + zic.toInt) zid.toInt → LNa (fun k9 => ALLB (FTr (zI (zR zy 0)) k9.toNat (zA (zI (zR zy 27))) (24 * zia.toInt + zic.toInt) zie.toInt) zid.toInt) r)) (fun u t => POST dC dI cy (va_A (WL cy zL zT zR zI zJ) sz) (WL cy zL zT zR zI zJ) t) (va_A (WL cy zL zT zR zI zJ) sz)) 0 0 (va_A (WL cy zL zT zR zI zJ) sz) := by
  refine Met.ofW (cc := cX11_learn) (maxL := 10) (ret := (some .int)) (by decide) rfl ?_
  intro p e s m args below meth c s₁ B hml hv
  obtain ⟨rfl, hsz, hP, hK, hD0, hN⟩ := hv
  have hx := B.exec
  have hb := B.bytes
  have hr := B.returns
  have hts := atoms_spec (ws := wsX11_learn) B.pre
  have hown : s.vm.findClass RX11 = some m.cls := findClass_of_methodNamed B.named
  have hlocks := B.notSynchronized
  subst hsz
  have hD := hD0.self (sz := s.heap.size)
  generalize hAe : va_A (WL cy zL zT zR zI zJ) s.heap.size = A at hD ⊢
  have hA : ∀ q : Nat, s.heap.size ≤ q → A q := fun q h => by rw [← hAe]; exact Or.inr h
  have hS : va_S A s.heap s.heap [] := va_S.rf
  have hP : va_P (dC, dI) vwCl (WL cy zL zT zR zI zJ) s.heap := hP
  have hl := lv_entry ([.ref zy, .int zia, .int zib, .int zic, .int zid, .int zie] : List Value) (n := 10) (Nat.le_of_ble_eq_true rfl)
  rw [lg_entry_eq]
  generalize (lg_sl ([.ref zy, .int zia, .int zib, .int zic, .int zid, .int zie] : List Value) ++ List.replicate (10 - (lg_sl ([.ref zy, .int zia, .int zib, .int zic, .int zid, .int zie] : List Value)).length) Slot.unset).toArray = ls at hl ⊢
  have hl : lv_has ls 10 [(0, .ref zy), (1, .int zia), (2, .int zib), (3, .int zic), (4, .int zid), (5, .int zie)] := hl
  refine w_q (fun Q hQ => ?_)
  have h_zI : WM [] AL zT zR zI zI := WM.rf hw
  refine lv_iload_n hx hb dX11_learn_0 rfl (lv_at hl 1 rfl) ?_
  refine lv_iload_n hx hb dX11_learn_1 rfl (lv_at hl 2 rfl) ?_
  refine hj0_i (ws := (WL cy zL zT zR zI zJ)) (va_runS (As := [.int zia, .int zib]) (rest := []) ⟨hx, hb, hml, hown, hts⟩ (c_X11_isSheet l dC dI cy s.heap.size zia zib) (va_cwS 2 hts gX11_learn_X11_isSheet rfl rfl rfl (by decide +kernel) ⟨(Nat.le_of_ble_eq_true rfl), (Nat.le_of_ble_eq_true rfl)⟩) (PRE.s (hP.sub [] rfl) hK (hD.sub [] (by decide) rfl) hN) rfl rfl hl.1 rfl (lv_room (Nat.le_of_ble_eq_true rfl)) dX11_learn_2 ⟨(Nat.le_of_ble_eq_true rfl), (Nat.le_of_ble_eq_true rfl)⟩) hP hD hS hA (fun zi_1 u_3 H locs hw_2 hP hD hS => ?_)
  have hw_2 : zi_1 = if (0 ≤ zia.toInt ∧ zia.toInt ≤ 3) ∧ 0 ≤ zib.toInt ∧ zib.toInt ≤ 2 then 1 else 0 := hw_2
  have b_zi_1 : 0 ≤ zi_1.toInt ∧ zi_1.toInt ≤ 1 := bz_b hw_2
  refine lv_if_eq (tgt := 34) hx hb dX11_learn_5 (by decide) (fun c_4 => ?_) (fun c_4 => ?_)
  · have f_5 : ¬ ((0 ≤ zia.toInt ∧ zia.toInt ≤ 3) ∧ 0 ≤ zib.toInt ∧ zib.toInt ≤ 2) := bz_0 hw_2 c_4
    refine lv_iconst (v := (-1)) hx hb dX11_learn_34 (by decide) ?_
    subst hQ
    exact W.iret (v := (-1 : Int32)) hx hb hr (fun t ht hW => ⟨⟨(-1 : Int32), (), rfl, ⟨(show ¬ (LNok zia.toInt zib.toInt zid.toInt zie.toInt) → (-1 : Int32).toInt = -1 from (fun _ => by decide)), (show LNok zia.toInt zib.toInt zid.toInt zie.toInt → ¬ (LKS (zI (zR zy 25) zia.toNatClampNeg).toInt (zI (zR zy 26) zia.toNatClampNeg).toInt zib.toInt zic.toInt (2 * zid.toInt)) = 0 → (-1 : Int32).toInt = (LKS (zI (zR zy 25) zia.toNatClampNeg).toInt (zI (zR zy 26) zia.toNatClampNeg).toInt zib.toInt zic.toInt (2 * zid.toInt)) from (fun h9 => absurd h9 (by unfold LNok; omega))), (show LNok zia.toInt zib.toInt zid.toInt zie.toInt → (LKS (zI (zR zy 25) zia.toNatClampNeg).toInt (zI (zR zy 26) zia.toNatClampNeg).toInt zib.toInt zic.toInt (2 * zid.toInt)) = 0 → ¬ YQ (zI (zR zy 27)) (24 * zia.toInt + zic.toInt) zid.toInt → (-1 : Int32).toInt = -2 from (fun h9 => absurd h9 (by unfold LNok; omega))), (show LNok zia.toInt zib.toInt zid.toInt zie.toInt → (LKS (zI (zR zy 25) zia.toNatClampNeg).toInt (zI (zR zy 26) zia.toNatClampNeg).toInt zib.toInt zic.toInt (2 * zid.toInt)) = 0 → YQ (zI (zR zy 27)) (24 * zia.toInt + zic.toInt) zid.toInt → LNa (fun k9 => ALLB (FTr (zI (zR zy 0)) k9.toNat (zA (zI (zR zy 27))) (24 * zia.toInt + zic.toInt) zie.toInt) zid.toInt) (-1 : Int32) from (fun h9 => absurd h9 (by unfold LNok; omega)))⟩, ⟨by rw [ht]; exact hP, va_K.moved hW.alike hK, hD⟩⟩, hS.F ht⟩) hS.2.2 dX11_learn_35
  · have f_5 : (0 ≤ zia.toInt ∧ zia.toInt ≤ 3) ∧ 0 ≤ zib.toInt ∧ zib.toInt ≤ 2 := bz_1 hw_2 c_4
    refine lv_iload hx hb dX11_learn_8 (lv_at hl 4 rfl) ?_
    refine lv_i2l (v := zid.toInt64) hx hb dX11_learn_10 rfl ?_
    refine lv_topl (fun zj_6 ezj_6 => ?_)
    have tzj_6 : zj_6.toInt = zid.toInt := by rw [ezj_6]; exact Int32.toInt_toInt64 _
    refine lv_lconst (v := 1) hx hb dX11_learn_11 (by decide) ?_
    refine lv_ldc2 (v := 8) hx hb hown (hts (.constantLong RX11 104 8) (by decide +kernel)) dX11_learn_12 ?_
    refine hj0_i (ws := (WL cy zL zT zR zI zJ)) (va_runS (As := [.long zj_6, .long 1, .long 8]) (rest := []) ⟨hx, hb, hml, hown, hts⟩ (c_X11_in l dC dI cy H.size zj_6 1 8 1 8 zj_6.toInt (by first | rfl | decide | omega | exact Int32.toInt_toInt64 _) (by first | rfl | decide | omega | exact Int32.toInt_toInt64 _) (by first | rfl | decide | omega | exact Int32.toInt_toInt64 _)) (va_cwS 3 hts gX11_learn_X11_in rfl rfl rfl (by decide +kernel) ⟨(Nat.le_of_ble_eq_true rfl), (Nat.le_of_ble_eq_true rfl)⟩) (PRE.s (hP.sub [] rfl) hK (hD.sub [] (by decide) rfl) hN) rfl rfl hl.1 rfl (lv_room (Nat.le_of_ble_eq_true rfl)) dX11_learn_15 ⟨(Nat.le_of_ble_eq_true rfl), (Nat.le_of_ble_eq_true rfl)⟩) hP hD hS hA (fun zi_7 u_9 H locs hw_8 hP hD hS => ?_)
    have hw_8 : zi_7 = if 1 ≤ zj_6.toInt ∧ zj_6.toInt ≤ 8 then 1 else 0 := hw_8
    have b_zi_7 : 0 ≤ zi_7.toInt ∧ zi_7.toInt ≤ 1 := bz_b hw_8
    refine lv_if_eq (tgt := 34) hx hb dX11_learn_18 (by decide) (fun c_10 => ?_) (fun c_10 => ?_)
    · have f_11 : ¬ (1 ≤ zj_6.toInt ∧ zj_6.toInt ≤ 8) := bz_0 hw_8 c_10
      refine lv_iconst (v := (-1)) hx hb dX11_learn_34 (by decide) ?_
      subst hQ
      exact W.iret (v := (-1 : Int32)) hx hb hr (fun t ht hW => ⟨⟨(-1 : Int32), (), rfl, ⟨(show ¬ (LNok zia.toInt zib.toInt zid.toInt zie.toInt) → (-1 : Int32).toInt = -1 from (fun _ => by decide)), (show LNok zia.toInt zib.toInt zid.toInt zie.toInt → ¬ (LKS (zI (zR zy 25) zia.toNatClampNeg).toInt (zI (zR zy 26) zia.toNatClampNeg).toInt zib.toInt zic.toInt (2 * zid.toInt)) = 0 → (-1 : Int32).toInt = (LKS (zI (zR zy 25) zia.toNatClampNeg).toInt (zI (zR zy 26) zia.toNatClampNeg).toInt zib.toInt zic.toInt (2 * zid.toInt)) from (fun h9 => absurd h9 (by unfold LNok; omega))), (show LNok zia.toInt zib.toInt zid.toInt zie.toInt → (LKS (zI (zR zy 25) zia.toNatClampNeg).toInt (zI (zR zy 26) zia.toNatClampNeg).toInt zib.toInt zic.toInt (2 * zid.toInt)) = 0 → ¬ YQ (zI (zR zy 27)) (24 * zia.toInt + zic.toInt) zid.toInt → (-1 : Int32).toInt = -2 from (fun h9 => absurd h9 (by unfold LNok; omega))), (show LNok zia.toInt zib.toInt zid.toInt zie.toInt → (LKS (zI (zR zy 25) zia.toNatClampNeg).toInt (zI (zR zy 26) zia.toNatClampNeg).toInt zib.toInt zic.toInt (2 * zid.toInt)) = 0 → YQ (zI (zR zy 27)) (24 * zia.toInt + zic.toInt) zid.toInt → LNa (fun k9 => ALLB (FTr (zI (zR zy 0)) k9.toNat (zA (zI (zR zy 27))) (24 * zia.toInt + zic.toInt) zie.toInt) zid.toInt) (-1 : Int32) from (fun h9 => absurd h9 (by unfold LNok; omega)))⟩, ⟨by rw [ht]; exact hP, va_K.moved hW.alike hK, hD⟩⟩, hS.F ht⟩) hS.2.2 dX11_learn_35
    · have f_11 : 1 ≤ zj_6.toInt ∧ zj_6.toInt ≤ 8 := bz_1 hw_8 c_10
      refine lv_iload hx hb dX11_learn_21 (lv_at hl 5 rfl) ?_
      refine lv_i2l (v := zie.toInt64) hx hb dX11_learn_23 rfl ?_
      refine lv_topl (fun zj_12 ezj_12 => ?_)
      have tzj_12 : zj_12.toInt = zie.toInt := by rw [ezj_12]; exact Int32.toInt_toInt64 _
      refine lv_lconst (v := 0) hx hb dX11_learn_24 (by decide) ?_
      refine lv_ldc2 (v := 9) hx hb hown (hts (.constantLong RX11 74 9) (by decide +kernel)) dX11_learn_25 ?_
      refine hj0_i (ws := (WL cy zL zT zR zI zJ)) (va_runS (As := [.long zj_12, .long 0, .long 9]) (rest := []) ⟨hx, hb, hml, hown, hts⟩ (c_X11_in l dC dI cy H.size zj_12 0 9 0 9 zj_12.toInt (by first | rfl | decide | omega | exact Int32.toInt_toInt64 _) (by first | rfl | decide | omega | exact Int32.toInt_toInt64 _) (by first | rfl | decide | omega | exact Int32.toInt_toInt64 _)) (va_cwS 3 hts gX11_learn_X11_in rfl rfl rfl (by decide +kernel) ⟨(Nat.le_of_ble_eq_true rfl), (Nat.le_of_ble_eq_true rfl)⟩) (PRE.s (hP.sub [] rfl) hK (hD.sub [] (by decide) rfl) hN) rfl rfl hl.1 rfl (lv_room (Nat.le_of_ble_eq_true rfl)) dX11_learn_28 ⟨(Nat.le_of_ble_eq_true rfl), (Nat.le_of_ble_eq_true rfl)⟩) hP hD hS hA (fun zi_13 u_15 H locs hw_14 hP hD hS => ?_)
      have hw_14 : zi_13 = if 0 ≤ zj_12.toInt ∧ zj_12.toInt ≤ 9 then 1 else 0 := hw_14
      have b_zi_13 : 0 ≤ zi_13.toInt ∧ zi_13.toInt ≤ 1 := bz_b hw_14
      refine lv_if_ne (tgt := 36) hx hb dX11_learn_31 (by decide) (fun c_16 => ?_) (fun c_16 => ?_)
      · have f_17 : 0 ≤ zj_12.toInt ∧ zj_12.toInt ≤ 9 := bz_1 hw_14 c_16
        refine lv_aload_n hx hb dX11_learn_36 rfl (lv_at hl 0 rfl) ?_
        refine lv_iload_n hx hb dX11_learn_37 rfl (lv_at hl 1 rfl) ?_
        refine lv_iload_n hx hb dX11_learn_38 rfl (lv_at hl 2 rfl) ?_
        refine lv_iload_n hx hb dX11_learn_39 rfl (lv_at hl 3 rfl) ?_
        refine lv_iconst (v := 2) hx hb dX11_learn_40 (by decide) ?_
        refine lv_iload hx hb dX11_learn_41 (lv_at hl 4 rfl) ?_
        refine lv_imul hx hb dX11_learn_43 ?_
        refine lv_topi (fun zi_18 ezi_18 => ?_)
        have tzi_18 : zi_18.toInt = (2 : Int) * zid.toInt := by rw [ezi_18]; exact timul (show (2 : Int32).toInt = 2 by decide) (rfl) (by omega) (by omega)
        refine hj_i (ws := (WL cy zL zT zR zI zJ)) (w1 := fun (u : Unit) => (WL cy zL zT zR zI zJ)) (va_runV (As := [.int zia, .int zib, .int zic, .int zi_18]) (rest := []) ⟨hx, hb, hml, hown, hts⟩ (t_X11_lacksRow l dC dI cy H.size zL zT zR zI zJ zy zia zib zic zi_18 hs h_zI.1 t_zy (by omega) (by omega) (by omega)) (cwV 4 hts gX11_learn_X11_lacksRow rfl rfl rfl (by decide +kernel) ⟨(Nat.le_of_ble_eq_true rfl), (Nat.le_of_ble_eq_true rfl)⟩) (PRE.v hP hK hD hN (ht_recv hK hP hs t_zy (by decide) rfl rfl)) rfl rfl hl.1 rfl (lv_room (Nat.le_of_ble_eq_true rfl)) dX11_learn_44 ⟨(Nat.le_of_ble_eq_true rfl), (Nat.le_of_ble_eq_true rfl)⟩) hP hD hS hA (fun zi_19 u_21 H locs hw_20 hP hD hS => ?_)
        obtain ⟨b_zi_19, ps_22, ps_23, ps_24⟩ : ((-13) ≤ zi_19.toInt ∧ zi_19.toInt ≤ 0) ∧ (¬ (zi_19.toInt = 0) ∨ (0 ≤ zic.toInt ∧ zic.toInt ≤ 24)) ∧ (¬ (zi_19.toInt = 0) ∨ zic.toInt + zi_18.toInt ≤ 24) ∧ (zi_19.toInt = LKS (zI (zR zy 25) zia.toNatClampNeg).toInt (zI (zR zy 26) zia.toNatClampNeg).toInt zib.toInt zic.toInt zi_18.toInt) := hw_20
        have lq_25 : zi_19.toInt = (LKS (zI (zR zy 25) zia.toNatClampNeg).toInt (zI (zR zy 26) zia.toNatClampNeg).toInt zib.toInt zic.toInt (2 * zid.toInt)) := by rw [ps_24, show zi_18.toInt = 2 * zid.toInt from by omega]
        refine lv_istore (lv' := [(6, .int zi_19), (0, .ref zy), (1, .int zia), (2, .int zib), (3, .int zic), (4, .int zid), (5, .int zie)]) hx hb dX11_learn_47 hl (by decide) rfl (fun ls hl => ?_)
        refine lv_iload hx hb dX11_learn_49 (lv_at hl 0 rfl) ?_
        refine lv_if_ge (tgt := 57) hx hb dX11_learn_51 (by decide) (fun c_26 => ?_) (fun c_26 => ?_)
        · have f_27 : zi_19.toInt ≥ 0 := ic_ge (rfl) (by decide) c_26
          have b9_zic : 0 ≤ zic.toInt ∧ zic.toInt ≤ 24 := by omega
          refine lv_bipush (v := 24) hx hb dX11_learn_57 (by decide) ?_
          refine lv_iload_n hx hb dX11_learn_59 rfl (lv_at hl 2 rfl) ?_
          refine lv_imul hx hb dX11_learn_60 ?_
          refine lv_topi (fun zi_28 ezi_28 => ?_)
          have tzi_28 : zi_28.toInt = (24 : Int) * zia.toInt := by rw [ezi_28]; exact timul (show (24 : Int32).toInt = 24 by decide) (rfl) (by omega) (by omega)
          refine lv_iload_n hx hb dX11_learn_61 rfl (lv_at hl 4 rfl) ?_
          refine lv_iadd hx hb dX11_learn_62 ?_
          refine lv_topi (fun zi_29 ezi_29 => ?_)
          have tzi_29 : zi_29.toInt = zi_28.toInt + zic.toInt := by rw [ezi_29]; exact tiadd (rfl) (rfl) (by omega) (by omega)
          refine lv_istore (lv' := [(7, .int zi_29), (6, .int zi_19), (0, .ref zy), (1, .int zia), (2, .int zib), (3, .int zic), (4, .int zid), (5, .int zie)]) hx hb dX11_learn_63 hl (by decide) rfl (fun ls hl => ?_)
          refine lv_iconst (v := 0) hx hb dX11_learn_65 (by decide) ?_
          refine lv_istore (lv' := [(8, .int 0), (7, .int zi_29), (6, .int zi_19), (0, .ref zy), (1, .int zia), (2, .int zib), (3, .int zic), (4, .int zid), (5, .int zie)]) hx hb dX11_learn_66 hl (by decide) rfl (fun ls hl => ?_)
          have lp_97 : ∀ (n : Nat) (zi_83 : Int32) (H : Heap) (locs : List Loc) (ls : Array Slot), (zid.toInt - zi_83.toInt).toNat = n → (0 ≤ zi_83.toInt ∧ zi_83.toInt ≤ 8) → (YQ (zI (zR zy 27)) zi_29.toInt zi_83.toInt) → va_P (dC, dI) vwCl (WL cy zL zT zR zI zJ) H → va_D A (WL cy zL zT zR zI zJ) → va_S A s.heap H locs → lv_has ls 10 [(0, .ref zy), (1, .int zia), (2, .int zib), (3, .int zic), (4, .int zid), (5, .int zie), (6, .int zi_19), (7, .int zi_29), (8, .int zi_83)] → W p l e ({ frames := 3, cells := 0, slots := 0, locals := 77 } : Room) s m ([.ref zy, .int zia, .int zib, .int zic, .int zid, .int zie] : List Value).toArray below meth c H locs 0 0 Q (F0 m 68 ls []) := by
            intro n
            induction n using Nat.strongRecOn with
            | _ n ih_97 =>
              intro zi_83 H locs ls hn b_zi_83 e_lp_97_0 hP hD hS hl
              refine lv_iload hx hb dX11_learn_68 (lv_at hl 8 rfl) ?_
              refine lv_iload hx hb dX11_learn_70 (lv_at hl 4 rfl) ?_
              refine lv_icmp_ge (tgt := 102) hx hb dX11_learn_72 (by decide) (fun c_98 => ?_) (fun c_98 => ?_)
              · have f_99 : zi_83.toInt ≥ zid.toInt := ic_ge (rfl) (rfl) c_98
                refine lv_iconst (v := 0) hx hb dX11_learn_102 (by decide) ?_
                refine lv_istore (lv' := [(8, .int 0), (0, .ref zy), (1, .int zia), (2, .int zib), (3, .int zic), (4, .int zid), (5, .int zie), (6, .int zi_19), (7, .int zi_29)]) hx hb dX11_learn_103 hl (by decide) rfl (fun ls hl => ?_)
                refine lv_iconst (v := 1) hx hb dX11_learn_105 (by decide) ?_
                refine lv_istore (lv' := [(9, .int 1), (8, .int 0), (0, .ref zy), (1, .int zia), (2, .int zib), (3, .int zic), (4, .int zid), (5, .int zie), (6, .int zi_19), (7, .int zi_29)]) hx hb dX11_learn_106 hl (by decide) rfl (fun ls hl => ?_)
                have lp_450 : ∀ (n : Nat) (zi_161 : Int32) (zi_162 : Int32) (H : Heap) (locs : List Loc) (ls : Array Slot), (6 - zi_162.toInt).toNat = n → (1 ≤ zi_162.toInt ∧ zi_162.toInt ≤ 6) → (LBR (fun k9 => ALLB (FTr (zI (zR zy 0)) k9.toNat (zA (zI (zR zy 27))) (24 * zia.toInt + zic.toInt) zie.toInt) zid.toInt) (zi_162.toInt - 1).toNat zi_161) → va_P (dC, dI) vwCl (WL cy zL zT zR zI zJ) H → va_D A (WL cy zL zT zR zI zJ) → va_S A s.heap H locs → lv_has ls 10 [(0, .ref zy), (1, .int zia), (2, .int zib), (3, .int zic), (4, .int zid), (5, .int zie), (6, .int zi_19), (7, .int zi_29), (8, .int zi_161), (9, .int zi_162)] → W p l e ({ frames := 3, cells := 0, slots := 0, locals := 77 } : Room) s m ([.ref zy, .int zia, .int zib, .int zic, .int zid, .int zie] : List Value).toArray below meth c H locs 0 0 Q (F0 m 108 ls []) := by
                  intro n
                  induction n using Nat.strongRecOn with
                  | _ n ih_450 =>
                    intro zi_161 zi_162 H locs ls hn b_zi_162 e_lp_450_0 hP hD hS hl
                    refine lv_iload hx hb dX11_learn_108 (lv_at hl 9 rfl) ?_
                    refine lv_iconst (v := 5) hx hb dX11_learn_110 (by decide) ?_
                    refine lv_icmp_gt (tgt := 150) hx hb dX11_learn_111 (by decide) (fun c_451 => ?_) (fun c_451 => ?_)
                    · have f_452 : zi_162.toInt > (5 : Int) := ic_gt (rfl) (show (5 : Int32).toInt = 5 by decide) c_451
                      refine lv_iload hx hb dX11_learn_150 (lv_at hl 8 rfl) ?_
                      refine lv_if_ne (tgt := 160) hx hb dX11_learn_152 (by decide) (fun c_453 => ?_) (fun c_453 => ?_)
                      · have f_454 : zi_161.toInt ≠ 0 := ic_ne (rfl) (by decide) c_453
                        refine lv_iload hx hb dX11_learn_160 (lv_at hl 8 rfl) ?_
                        subst hQ
                        exact W.iret (v := zi_161) hx hb hr (fun t ht hW => ⟨⟨zi_161, (), rfl, ⟨(show ¬ (LNok zia.toInt zib.toInt zid.toInt zie.toInt) → zi_161.toInt = -1 from (fun h9 => absurd (show LNok zia.toInt zib.toInt zid.toInt zie.toInt from by unfold LNok; omega) h9)), (show LNok zia.toInt zib.toInt zid.toInt zie.toInt → ¬ (LKS (zI (zR zy 25) zia.toNatClampNeg).toInt (zI (zR zy 26) zia.toNatClampNeg).toInt zib.toInt zic.toInt (2 * zid.toInt)) = 0 → zi_161.toInt = (LKS (zI (zR zy 25) zia.toNatClampNeg).toInt (zI (zR zy 26) zia.toNatClampNeg).toInt zib.toInt zic.toInt (2 * zid.toInt)) from (fun _ h9 => absurd (by omega) h9)), (show LNok zia.toInt zib.toInt zid.toInt zie.toInt → (LKS (zI (zR zy 25) zia.toNatClampNeg).toInt (zI (zR zy 26) zia.toNatClampNeg).toInt zib.toInt zic.toInt (2 * zid.toInt)) = 0 → ¬ YQ (zI (zR zy 27)) (24 * zia.toInt + zic.toInt) zid.toInt → zi_161.toInt = -2 from (fun _ _ h9 => absurd (show YQ (zI (zR zy 27)) (24 * zia.toInt + zic.toInt) zid.toInt from by rw [show (24 * zia.toInt + zic.toInt : Int) = zi_29.toInt from by omega]; exact YQ.e e_lp_97_0 (by omega)) h9)), (show LNok zia.toInt zib.toInt zid.toInt zie.toInt → (LKS (zI (zR zy 25) zia.toNatClampNeg).toInt (zI (zR zy 26) zia.toNatClampNeg).toInt zib.toInt zic.toInt (2 * zid.toInt)) = 0 → YQ (zI (zR zy 27)) (24 * zia.toInt + zic.toInt) zid.toInt → LNa (fun k9 => ALLB (FTr (zI (zR zy 0)) k9.toNat (zA (zI (zR zy 27))) (24 * zia.toInt + zic.toInt) zie.toInt) zid.toInt) zi_161 from (fun _ _ _ => ⟨zi_161, (LBR.c e_lp_450_0 (show (zi_162.toInt - 1).toNat = 5 from by omega)), Or.inr ⟨by omega, rfl⟩⟩))⟩, ⟨by rw [ht]; exact hP, va_K.moved hW.alike hK, hD⟩⟩, hS.F ht⟩) hS.2.2 dX11_learn_162
                      · have f_454 : ¬ (zi_161.toInt ≠ 0) := ic_nne (rfl) (by decide) c_453
                        refine lv_bipush (v := (-4)) hx hb dX11_learn_155 (by decide) ?_
                        refine lv_goto (tgt := 162) hx hb dX11_learn_157 (by decide) ?_
                        subst hQ
                        exact W.iret (v := (-4 : Int32)) hx hb hr (fun t ht hW => ⟨⟨(-4 : Int32), (), rfl, ⟨(show ¬ (LNok zia.toInt zib.toInt zid.toInt zie.toInt) → (-4 : Int32).toInt = -1 from (fun h9 => absurd (show LNok zia.toInt zib.toInt zid.toInt zie.toInt from by unfold LNok; omega) h9)), (show LNok zia.toInt zib.toInt zid.toInt zie.toInt → ¬ (LKS (zI (zR zy 25) zia.toNatClampNeg).toInt (zI (zR zy 26) zia.toNatClampNeg).toInt zib.toInt zic.toInt (2 * zid.toInt)) = 0 → (-4 : Int32).toInt = (LKS (zI (zR zy 25) zia.toNatClampNeg).toInt (zI (zR zy 26) zia.toNatClampNeg).toInt zib.toInt zic.toInt (2 * zid.toInt)) from (fun _ h9 => absurd (by omega) h9)), (show LNok zia.toInt zib.toInt zid.toInt zie.toInt → (LKS (zI (zR zy 25) zia.toNatClampNeg).toInt (zI (zR zy 26) zia.toNatClampNeg).toInt zib.toInt zic.toInt (2 * zid.toInt)) = 0 → ¬ YQ (zI (zR zy 27)) (24 * zia.toInt + zic.toInt) zid.toInt → (-4 : Int32).toInt = -2 from (fun _ _ h9 => absurd (show YQ (zI (zR zy 27)) (24 * zia.toInt + zic.toInt) zid.toInt from by rw [show (24 * zia.toInt + zic.toInt : Int) = zi_29.toInt from by omega]; exact YQ.e e_lp_97_0 (by omega)) h9)), (show LNok zia.toInt zib.toInt zid.toInt zie.toInt → (LKS (zI (zR zy 25) zia.toNatClampNeg).toInt (zI (zR zy 26) zia.toNatClampNeg).toInt zib.toInt zic.toInt (2 * zid.toInt)) = 0 → YQ (zI (zR zy 27)) (24 * zia.toInt + zic.toInt) zid.toInt → LNa (fun k9 => ALLB (FTr (zI (zR zy 0)) k9.toNat (zA (zI (zR zy 27))) (24 * zia.toInt + zic.toInt) zie.toInt) zid.toInt) (-4 : Int32) from (fun _ _ _ => ⟨zi_161, (LBR.c e_lp_450_0 (show (zi_162.toInt - 1).toNat = 5 from by omega)), Or.inl ⟨by omega, by decide⟩⟩))⟩, ⟨by rw [ht]; exact hP, va_K.moved hW.alike hK, hD⟩⟩, hS.F ht⟩) hS.2.2 dX11_learn_162
                    · have f_452 : ¬ (zi_162.toInt > (5 : Int)) := ic_ngt (rfl) (show (5 : Int32).toInt = 5 by decide) c_451
                      refine lv_iload hx hb dX11_learn_114 (lv_at hl 8 rfl) ?_
                      refine lv_aload_n hx hb dX11_learn_116 rfl (lv_at hl 0 rfl) ?_
                      refine lv_iload hx hb dX11_learn_117 (lv_at hl 7 rfl) ?_
                      refine lv_iload hx hb dX11_learn_119 (lv_at hl 4 rfl) ?_
                      refine lv_iload hx hb dX11_learn_121 (lv_at hl 9 rfl) ?_
                      refine lv_iload hx hb dX11_learn_123 (lv_at hl 5 rfl) ?_
                      refine hj_i (ws := (WL cy zL zT zR zI zJ)) (w1 := fun (u : Unit) => (WL cy zL zT zR zI zJ)) (va_runV (As := [.int zi_29, .int zid, .int zi_162, .int zie]) (rest := [.int zi_161]) ⟨hx, hb, hml, hown, hts⟩ (t_X11_fits l dC dI cy H.size zL zT zR zI zJ zy zi_29 zid zi_162 zie hs h_zI.1 t_zy (by omega) (by omega) (by omega) (by omega) (by omega) (YQ.e e_lp_97_0 (by omega))) (cwV 4 hts gX11_learn_X11_fits rfl rfl rfl (by decide +kernel) ⟨(Nat.le_of_ble_eq_true rfl), (Nat.le_of_ble_eq_true rfl)⟩) (PRE.v hP hK hD hN (ht_recv hK hP hs t_zy (by decide) rfl rfl)) rfl rfl hl.1 rfl (lv_room (Nat.le_of_ble_eq_true rfl)) dX11_learn_125 ⟨(Nat.le_of_ble_eq_true rfl), (Nat.le_of_ble_eq_true rfl)⟩) hP hD hS hA (fun zi_455 u_457 H locs hw_456 hP hD hS => ?_)
                      obtain ⟨b_zi_455, ps_458⟩ : (0 ≤ zi_455.toInt ∧ zi_455.toInt ≤ 1) ∧ ((zi_455.toInt = 1 ∧ ALLB (FTr (zI (zR zy 0)) (zi_162.toInt).toNat (zA (zI (zR zy 27))) zi_29.toInt zie.toInt) zid.toInt) ∨ (zi_455.toInt = 0 ∧ ¬ ALLB (FTr (zI (zR zy 0)) (zi_162.toInt).toNat (zA (zI (zR zy 27))) zi_29.toInt zie.toInt) zid.toInt)) := hw_456
                      have fb_459 := ps_458
                      rw [show zi_29.toInt = 24 * zia.toInt + zic.toInt from by omega] at fb_459
                      refine lv_if_eq (tgt := 140) hx hb dX11_learn_128 (by decide) (fun c_460 => ?_) (fun c_460 => ?_)
                      · have f_461 : zi_455.toInt = 0 := ic_eq (rfl) (by decide) c_460
                        refine lv_iconst (v := 0) hx hb dX11_learn_140 (by decide) ?_
                        refine lv_ior hx hb dX11_learn_141 ?_
                        refine lv_topi (fun zi_462 ezi_462 => ?_)
                        have rzi_462 := rng zi_462
                        refine lv_istore (lv' := [(8, .int zi_462), (0, .ref zy), (1, .int zia), (2, .int zib), (3, .int zic), (4, .int zid), (5, .int zie), (6, .int zi_19), (7, .int zi_29), (9, .int zi_162)]) hx hb dX11_learn_142 hl (by decide) rfl (fun ls hl => ?_)
                        obtain ⟨zi_463, ezi_463⟩ : ∃ y : Int32, y = zi_162 + 1 := ⟨_, rfl⟩
                        have tzi_463 : zi_463.toInt = zi_162.toInt + 1 := by rw [ezi_463]; exact tadd rfl (show (1 : Int32).toInt = 1 by decide) (by omega) (by omega)
                        refine lv_iinc (v := zi_463) (lv' := [(9, .int zi_463), (8, .int zi_462), (0, .ref zy), (1, .int zia), (2, .int zib), (3, .int zic), (4, .int zid), (5, .int zie), (6, .int zi_19), (7, .int zi_29)]) hx hb dX11_learn_144 hl (k := 9) rfl (by rw [ezi_463]; rfl) (by decide) rfl (fun ls hl => ?_)
                        refine lv_goto (tgt := 108) hx hb dX11_learn_147 (by decide) ?_
                        exact ih_450 (6 - zi_463.toInt).toNat (by omega) zi_462 zi_463 _ _ _ rfl (by omega) (LBR.n (k := zi_162.toInt) e_lp_450_0 (by omega) (by omega) (fb_459.resolve_left (fun h9 => absurd h9.1 (by omega))).2 (ezi_462.trans Int32.or_zero)) hP hD hS (lv_sub hl [2, 3, 4, 5, 6, 7, 8, 9, 1, 0] rfl)
                      · have f_461 : ¬ (zi_455.toInt = 0) := ic_neq (rfl) (by decide) c_460
                        refine lv_iconst (v := 1) hx hb dX11_learn_131 (by decide) ?_
                        refine lv_iload hx hb dX11_learn_132 (lv_at hl 9 rfl) ?_
                        refine lv_iconst (v := 1) hx hb dX11_learn_134 (by decide) ?_
                        refine lv_isub hx hb dX11_learn_135 ?_
                        refine lv_topi (fun zi_464 ezi_464 => ?_)
                        have tzi_464 : zi_464.toInt = zi_162.toInt - (1 : Int) := by rw [ezi_464]; exact tisub (rfl) (show (1 : Int32).toInt = 1 by decide) (by omega) (by omega)
                        refine lv_ishl hx hb dX11_learn_136 ?_
                        refine lv_topi (fun zi_465 ezi_465 => ?_)
                        have rzi_465 := rng zi_465
                        refine lv_goto (tgt := 141) hx hb dX11_learn_137 (by decide) ?_
                        refine lv_ior hx hb dX11_learn_141 ?_
                        refine lv_topi (fun zi_466 ezi_466 => ?_)
                        have rzi_466 := rng zi_466
                        refine lv_istore (lv' := [(8, .int zi_466), (0, .ref zy), (1, .int zia), (2, .int zib), (3, .int zic), (4, .int zid), (5, .int zie), (6, .int zi_19), (7, .int zi_29), (9, .int zi_162)]) hx hb dX11_learn_142 hl (by decide) rfl (fun ls hl => ?_)
                        obtain ⟨zi_467, ezi_467⟩ : ∃ y : Int32, y = zi_162 + 1 := ⟨_, rfl⟩
                        have tzi_467 : zi_467.toInt = zi_162.toInt + 1 := by rw [ezi_467]; exact tadd rfl (show (1 : Int32).toInt = 1 by decide) (by omega) (by omega)
                        refine lv_iinc (v := zi_467) (lv' := [(9, .int zi_467), (8, .int zi_466), (0, .ref zy), (1, .int zia), (2, .int zib), (3, .int zic), (4, .int zid), (5, .int zie), (6, .int zi_19), (7, .int zi_29)]) hx hb dX11_learn_144 hl (k := 9) rfl (by rw [ezi_467]; rfl) (by decide) rfl (fun ls hl => ?_)
                        refine lv_goto (tgt := 108) hx hb dX11_learn_147 (by decide) ?_
                        exact ih_450 (6 - zi_467.toInt).toNat (by omega) zi_466 zi_467 _ _ _ rfl (by omega) (LBR.y (k := zi_162.toInt) (y := zi_464) e_lp_450_0 (by omega) (by omega) (fb_459.resolve_right (fun h9 => absurd h9.1 (by omega))).2 (by omega) ezi_465 ezi_466) hP hD hS (lv_sub hl [2, 3, 4, 5, 6, 7, 8, 9, 1, 0] rfl)
                have qc_0 : (0 : Int32).toInt = 0 := by decide
                have qc_1 : (1 : Int32).toInt = 1 := by decide
                exact lp_450 _ (0 : Int32) (1 : Int32) _ _ _ rfl (by decide) (LBR.z (by decide)) hP hD hS (lv_sub hl [2, 3, 4, 5, 6, 7, 8, 9, 1, 0] rfl)
              · have f_99 : ¬ (zi_83.toInt ≥ zid.toInt) := ic_nge (rfl) (rfl) c_98
                refine lv_aload_n hx hb dX11_learn_75 rfl (lv_at hl 0 rfl) ?_
                refine ht_getr (C := RX11) (T := TX11) (N := 28) hx hb hts (by decide +kernel) hown hK hP hs t_zy (by decide) rfl rfl 27 (by decide) (hts (.fieldLink RX11 65 "DripStoneModel" "items" "[I") (by decide +kernel)) (fun _ h9 => h9) rfl dX11_learn_76 ?_
                have t_468 : zT (zR zy 27) = 112 := sk_f hs t_zy (by decide) rfl (by decide)
                refine lv_iload hx hb dX11_learn_79 (lv_at hl 7 rfl) ?_
                refine lv_iconst (v := 2) hx hb dX11_learn_81 (by decide) ?_
                refine lv_iload hx hb dX11_learn_82 (lv_at hl 8 rfl) ?_
                refine lv_imul hx hb dX11_learn_84 ?_
                refine lv_topi (fun zi_469 ezi_469 => ?_)
                have tzi_469 : zi_469.toInt = (2 : Int) * zi_83.toInt := by rw [ezi_469]; exact timul (show (2 : Int32).toInt = 2 by decide) (rfl) (by omega) (by omega)
                refine lv_iadd hx hb dX11_learn_85 ?_
                refine lv_topi (fun zi_470 ezi_470 => ?_)
                have tzi_470 : zi_470.toInt = zi_29.toInt + zi_469.toInt := by rw [ezi_470]; exact tiadd (rfl) (rfl) (by omega) (by omega)
                refine ht_iald (n := 96) (q := 0) hx hb hK hP hs t_468 (by decide) rfl rfl ⟨by omega, by omega⟩ dX11_learn_86 ?_
                refine lv_topi (fun zi_471 ezi_471 => ?_)
                have rr_472 := rng zi_471
                refine hj0_i (ws := (WL cy zL zT zR zI zJ)) (va_runS (As := [.int zi_471]) (rest := []) ⟨hx, hb, hml, hown, hts⟩ (c_X11_isYear l dC dI cy H.size zi_471) (va_cwS 1 hts gX11_learn_X11_isYear rfl rfl rfl (by decide +kernel) ⟨(Nat.le_of_ble_eq_true rfl), (Nat.le_of_ble_eq_true rfl)⟩) (PRE.s (hP.sub [] rfl) hK (hD.sub [] (by decide) rfl) hN) rfl rfl hl.1 rfl (lv_room (Nat.le_of_ble_eq_true rfl)) dX11_learn_87 ⟨(Nat.le_of_ble_eq_true rfl), (Nat.le_of_ble_eq_true rfl)⟩) hP hD hS hA (fun zi_473 u_475 H locs hw_474 hP hD hS => ?_)
                have hw_474 : zi_473 = if 0 ≤ zi_471.toInt ∧ zi_471.toInt ≤ 23 then 1 else 0 := hw_474
                have b_zi_473 : 0 ≤ zi_473.toInt ∧ zi_473.toInt ≤ 1 := bz_b hw_474
                refine lv_if_ne (tgt := 96) hx hb dX11_learn_90 (by decide) (fun c_476 => ?_) (fun c_476 => ?_)
                · have f_477 : 0 ≤ zi_471.toInt ∧ zi_471.toInt ≤ 23 := bz_1 hw_474 c_476
                  obtain ⟨zi_478, ezi_478⟩ : ∃ y : Int32, y = zi_83 + 1 := ⟨_, rfl⟩
                  have tzi_478 : zi_478.toInt = zi_83.toInt + 1 := by rw [ezi_478]; exact tadd rfl (show (1 : Int32).toInt = 1 by decide) (by omega) (by omega)
                  refine lv_iinc (v := zi_478) (lv' := [(8, .int zi_478), (0, .ref zy), (1, .int zia), (2, .int zib), (3, .int zic), (4, .int zid), (5, .int zie), (6, .int zi_19), (7, .int zi_29)]) hx hb dX11_learn_96 hl (k := 8) rfl (by rw [ezi_478]; rfl) (by decide) rfl (fun ls hl => ?_)
                  refine lv_goto (tgt := 68) hx hb dX11_learn_99 (by decide) ?_
                  exact ih_97 (zid.toInt - zi_478.toInt).toNat (by omega) zi_478 _ _ _ rfl (by omega) (YQ.s (i := zi_470) e_lp_97_0 (by omega) (by omega) (by omega) (by rw [ezi_471.symm]; omega) (by omega)) hP hD hS (lv_sub hl [1, 2, 3, 4, 5, 6, 7, 8, 0] rfl)
                · have f_477 : ¬ (0 ≤ zi_471.toInt ∧ zi_471.toInt ≤ 23) := bz_0 hw_474 c_476
                  refine lv_bipush (v := (-2)) hx hb dX11_learn_93 (by decide) ?_
                  subst hQ
                  exact W.iret (v := (-2 : Int32)) hx hb hr (fun t ht hW => ⟨⟨(-2 : Int32), (), rfl, ⟨(show ¬ (LNok zia.toInt zib.toInt zid.toInt zie.toInt) → (-2 : Int32).toInt = -1 from (fun h9 => absurd (show LNok zia.toInt zib.toInt zid.toInt zie.toInt from by unfold LNok; omega) h9)), (show LNok zia.toInt zib.toInt zid.toInt zie.toInt → ¬ (LKS (zI (zR zy 25) zia.toNatClampNeg).toInt (zI (zR zy 26) zia.toNatClampNeg).toInt zib.toInt zic.toInt (2 * zid.toInt)) = 0 → (-2 : Int32).toInt = (LKS (zI (zR zy 25) zia.toNatClampNeg).toInt (zI (zR zy 26) zia.toNatClampNeg).toInt zib.toInt zic.toInt (2 * zid.toInt)) from (fun _ h9 => absurd (by omega) h9)), (show LNok zia.toInt zib.toInt zid.toInt zie.toInt → (LKS (zI (zR zy 25) zia.toNatClampNeg).toInt (zI (zR zy 26) zia.toNatClampNeg).toInt zib.toInt zic.toInt (2 * zid.toInt)) = 0 → ¬ YQ (zI (zR zy 27)) (24 * zia.toInt + zic.toInt) zid.toInt → (-2 : Int32).toInt = -2 from (fun _ _ _ => by decide)), (show LNok zia.toInt zib.toInt zid.toInt zie.toInt → (LKS (zI (zR zy 25) zia.toNatClampNeg).toInt (zI (zR zy 26) zia.toNatClampNeg).toInt zib.toInt zic.toInt (2 * zid.toInt)) = 0 → YQ (zI (zR zy 27)) (24 * zia.toInt + zic.toInt) zid.toInt → LNa (fun k9 => ALLB (FTr (zI (zR zy 0)) k9.toNat (zA (zI (zR zy 27))) (24 * zia.toInt + zic.toInt) zie.toInt) zid.toInt) (-2 : Int32) from (fun _ _ h9 => absurd h9 (YQ.no (i := zi_470) (q := zi_83.toInt) (by omega) (by omega) (by omega) (by rw [ezi_471.symm]; omega))))⟩, ⟨by rw [ht]; exact hP, va_K.moved hW.alike hK, hD⟩⟩, hS.F ht⟩) hS.2.2 dX11_learn_95
          have qc_0 : (0 : Int32).toInt = 0 := by decide
          exact lp_97 _ (0 : Int32) _ _ _ rfl (by decide) YQ.z hP hD hS (lv_sub hl [3, 4, 5, 6, 7, 8, 2, 1, 0] rfl)
        · have f_27 : ¬ (zi_19.toInt ≥ 0) := ic_nge (rfl) (by decide) c_26
          refine lv_iload hx hb dX11_learn_54 (lv_at hl 0 rfl) ?_
          subst hQ
          exact W.iret (v := zi_19) hx hb hr (fun t ht hW => ⟨⟨zi_19, (), rfl, ⟨(show ¬ (LNok zia.toInt zib.toInt zid.toInt zie.toInt) → zi_19.toInt = -1 from (fun h9 => absurd (show LNok zia.toInt zib.toInt zid.toInt zie.toInt from by unfold LNok; omega) h9)), (show LNok zia.toInt zib.toInt zid.toInt zie.toInt → ¬ (LKS (zI (zR zy 25) zia.toNatClampNeg).toInt (zI (zR zy 26) zia.toNatClampNeg).toInt zib.toInt zic.toInt (2 * zid.toInt)) = 0 → zi_19.toInt = (LKS (zI (zR zy 25) zia.toNatClampNeg).toInt (zI (zR zy 26) zia.toNatClampNeg).toInt zib.toInt zic.toInt (2 * zid.toInt)) from (fun _ _ => by omega)), (show LNok zia.toInt zib.toInt zid.toInt zie.toInt → (LKS (zI (zR zy 25) zia.toNatClampNeg).toInt (zI (zR zy 26) zia.toNatClampNeg).toInt zib.toInt zic.toInt (2 * zid.toInt)) = 0 → ¬ YQ (zI (zR zy 27)) (24 * zia.toInt + zic.toInt) zid.toInt → zi_19.toInt = -2 from (fun _ h9 => absurd h9 (by omega))), (show LNok zia.toInt zib.toInt zid.toInt zie.toInt → (LKS (zI (zR zy 25) zia.toNatClampNeg).toInt (zI (zR zy 26) zia.toNatClampNeg).toInt zib.toInt zic.toInt (2 * zid.toInt)) = 0 → YQ (zI (zR zy 27)) (24 * zia.toInt + zic.toInt) zid.toInt → LNa (fun k9 => ALLB (FTr (zI (zR zy 0)) k9.toNat (zA (zI (zR zy 27))) (24 * zia.toInt + zic.toInt) zie.toInt) zid.toInt) zi_19 from (fun _ h9 => absurd h9 (by omega)))⟩, ⟨by rw [ht]; exact hP, va_K.moved hW.alike hK, hD⟩⟩, hS.F ht⟩) hS.2.2 dX11_learn_56
      · have f_17 : ¬ (0 ≤ zj_12.toInt ∧ zj_12.toInt ≤ 9) := bz_0 hw_14 c_16
        refine lv_iconst (v := (-1)) hx hb dX11_learn_34 (by decide) ?_
        subst hQ
        exact W.iret (v := (-1 : Int32)) hx hb hr (fun t ht hW => ⟨⟨(-1 : Int32), (), rfl, ⟨(show ¬ (LNok zia.toInt zib.toInt zid.toInt zie.toInt) → (-1 : Int32).toInt = -1 from (fun _ => by decide)), (show LNok zia.toInt zib.toInt zid.toInt zie.toInt → ¬ (LKS (zI (zR zy 25) zia.toNatClampNeg).toInt (zI (zR zy 26) zia.toNatClampNeg).toInt zib.toInt zic.toInt (2 * zid.toInt)) = 0 → (-1 : Int32).toInt = (LKS (zI (zR zy 25) zia.toNatClampNeg).toInt (zI (zR zy 26) zia.toNatClampNeg).toInt zib.toInt zic.toInt (2 * zid.toInt)) from (fun h9 => absurd h9 (by unfold LNok; omega))), (show LNok zia.toInt zib.toInt zid.toInt zie.toInt → (LKS (zI (zR zy 25) zia.toNatClampNeg).toInt (zI (zR zy 26) zia.toNatClampNeg).toInt zib.toInt zic.toInt (2 * zid.toInt)) = 0 → ¬ YQ (zI (zR zy 27)) (24 * zia.toInt + zic.toInt) zid.toInt → (-1 : Int32).toInt = -2 from (fun h9 => absurd h9 (by unfold LNok; omega))), (show LNok zia.toInt zib.toInt zid.toInt zie.toInt → (LKS (zI (zR zy 25) zia.toNatClampNeg).toInt (zI (zR zy 26) zia.toNatClampNeg).toInt zib.toInt zic.toInt (2 * zid.toInt)) = 0 → YQ (zI (zR zy 27)) (24 * zia.toInt + zic.toInt) zid.toInt → LNa (fun k9 => ALLB (FTr (zI (zR zy 0)) k9.toNat (zA (zI (zR zy 27))) (24 * zia.toInt + zic.toInt) zie.toInt) zid.toInt) (-1 : Int32) from (fun h9 => absurd h9 (by unfold LNok; omega)))⟩, ⟨by rw [ht]; exact hP, va_K.moved hW.alike hK, hD⟩⟩, hS.F ht⟩) hS.2.2 dX11_learn_35
