set_option maxHeartbeats 8000000 in
set_option maxRecDepth 100000 in
theorem t_X11_claim (l : Launch) (dC : Nat → ClassId) (dI : Nat → Nat → Nat) (cy : Nat → ClassId) (sz : Nat) (zL : List Nat) (zT : Nat → Nat) (zR : Nat → Nat → Nat) (zI : Nat → Nat → Int32) (zJ : Nat → Nat → Int64) (zy : Nat) (hs : SKP zL zT zR) (hw : WT zT zR zI) (t_zy : zT zy = 18) (hz : ZI (zI (zR zy 0))) : Met l yX11_claim wsX11_claim ({ frames := 4, cells := 0, slots := 0, locals := 94 } : Room) (va_Pc [.ref zy] (PRE dC dI cy (WL cy zL zT zR zI zJ) sz)) (va_Qi (fun (r : Int32) (u : (Nat → Nat → Int32)) => (WM [1802, 1803, 10000, 10200] AL zT zR zI u) ∧ ((-100) ≤ r.toInt ∧ r.toInt ≤ 4) ∧ (FQ (zI (zR zy 0)) (u (zR zy 0))) ∧ (ZI (u (zR zy 0)))) (fun u t => POST dC dI cy (va_A (WL cy zL zT zR zI zJ) sz) (WL cy zL zT zR u zJ) t) (va_A (WL cy zL zT zR zI zJ) sz)) 0 0 (va_A (WL cy zL zT zR zI zJ) sz) := by
  refine Met.ofW (cc := cX11_claim) (maxL := 3) (ret := (some .int)) (by decide) rfl ?_
  intro p e s m args below meth c s₁ B hml hv
  obtain ⟨rfl, hsz, hP, hK, hD0, hN⟩ := hv
  have hx := B.exec
  have hb := B.bytes
  have hr := B.returns
  have hts := atoms_spec (ws := wsX11_claim) B.pre
  have hown : s.vm.findClass RX11 = some m.cls := findClass_of_methodNamed B.named
  have hlocks := B.notSynchronized
  subst hsz
  have hD := hD0.self (sz := s.heap.size)
  generalize hAe : va_A (WL cy zL zT zR zI zJ) s.heap.size = A at hD ⊢
  have hA : ∀ q : Nat, s.heap.size ≤ q → A q := fun q h => by rw [← hAe]; exact Or.inr h
  have hS : va_S A s.heap s.heap [] := va_S.rf
  have hP : va_P (dC, dI) vwCl (WL cy zL zT zR zI zJ) s.heap := hP
  have hl := lv_entry ([.ref zy] : List Value) (n := 3) (Nat.le_of_ble_eq_true rfl)
  rw [lg_entry_eq]
  generalize (lg_sl ([.ref zy] : List Value) ++ List.replicate (3 - (lg_sl ([.ref zy] : List Value)).length) Slot.unset).toArray = ls at hl ⊢
  have hl : lv_has ls 3 [(0, .ref zy)] := hl
  refine w_q (fun Q hQ => ?_)
  have h_zI : WM [1802, 1803, 10000, 10200] AL zT zR zI zI := WM.rf hw
  refine lv_aload_n hx hb dX11_claim_0 rfl (lv_at hl 0 rfl) ?_
  refine hj_i (ws := (WL cy zL zT zR zI zJ)) (w1 := fun (u : (Nat → Nat → Int32)) => (WL cy zL zT zR u zJ)) (va_runV (As := []) (rest := []) ⟨hx, hb, hml, hown, hts⟩ (t_X11_readClaim l dC dI cy s.heap.size zL zT zR zI zJ zy hs h_zI.1 t_zy) (cwV 0 hts gX11_claim_X11_readClaim rfl rfl rfl (by decide +kernel) ⟨(Nat.le_of_ble_eq_true rfl), (Nat.le_of_ble_eq_true rfl)⟩) (PRE.v hP hK hD hN (ht_recv hK hP hs t_zy (by decide) rfl rfl)) rfl rfl hl.1 rfl (lv_room (Nat.le_of_ble_eq_true rfl)) dX11_claim_1 ⟨(Nat.le_of_ble_eq_true rfl), (Nat.le_of_ble_eq_true rfl)⟩) hP hD hS hA (fun zi_1 zI_4 H locs hw_2 hP hD hS => ?_)
  obtain ⟨k_zI_4, b_zi_1, ps_5⟩ : (WM [1803, 10200] AL zT zR zI zI_4) ∧ (0 ≤ zi_1.toInt ∧ zi_1.toInt ≤ 1) ∧ (zi_1.toInt = 0 ∨ ((1 ≤ zA (zI_4 (zR zy 5)) (0) ∧ zA (zI_4 (zR zy 5)) (0) ≤ 2) ∧ (1 ≤ zA (zI_4 (zR zy 5)) (7) ∧ zA (zI_4 (zR zy 5)) (7) ≤ 12) ∧ (zA (zI_4 (zR zy 5)) (0) = 2 → 1 ≤ zA (zI_4 (zR zy 5)) (13) ∧ zA (zI_4 (zR zy 5)) (13) ≤ 12))) := hw_2
  have h_zI_4 : WM [1802, 1803, 10000, 10200] AL zT zR zI zI_4 := h_zI.tr k_zI_4 (by decide) (fun _ _ => trivial)
  refine lv_istore_n (lv' := [(1, .int zi_1), (0, .ref zy)]) hx hb dX11_claim_4 rfl hl (by decide) rfl (fun ls hl => ?_)
  refine lv_aload_n hx hb dX11_claim_5 rfl (lv_at hl 1 rfl) ?_
  refine lv_iconst (v := 0) hx hb dX11_claim_6 (by decide) ?_
  refine ht_puti (v := (0 : Int32)) (ty := .int) (C := RX11) (T := TX11) (N := 28) hx hb hts (by decide +kernel) tyX11 tyX11_ok nmX11 hown hK hP hD hS hs t_zy (by decide) rfl rfl 2 (by decide) (hts (.fieldLink RX11 112 "DripStoneModel" "taped" "I") (by decide +kernel)) (fun _ h9 => h9) rfl (by decide +kernel) rfl rfl rfl dX11_claim_7 (fun H locs hP hD hS => ?_)
  have h_zI_6 : WM [1802, 1803, 10000, 10200] AL zT zR zI (u2 zI_4 zy 2 (0 : Int32)) := h_zI_4.put hs t_zy rfl (by decide) (by decide) (fun h => absurd h (by decide)) (by decide) trivial
  generalize uzI_6 : u2 zI_4 zy 2 (0 : Int32) = zI_6 at hP hD h_zI_6
  refine lv_iload_n hx hb dX11_claim_10 rfl (lv_at hl 0 rfl) ?_
  refine lv_if_ne (tgt := 22) hx hb dX11_claim_11 (by decide) (fun c_7 => ?_) (fun c_7 => ?_)
  · have f_8 : zi_1.toInt ≠ 0 := ic_ne (rfl) (by decide) c_7
    refine lv_aload_n hx hb dX11_claim_22 rfl (lv_at hl 1 rfl) ?_
    refine ht_getr (C := RX11) (T := TX11) (N := 28) hx hb hts (by decide +kernel) hown hK hP hs t_zy (by decide) rfl rfl 0 (by decide) (hts (.fieldLink RX11 7 "DripStoneModel" "z" "[I") (by decide +kernel)) (fun _ h9 => h9) rfl dX11_claim_23 ?_
    have t_9 : zT (zR zy 0) = 100 := sk_f hs t_zy (by decide) rfl (by decide)
    refine lv_bipush (v := 12) hx hb dX11_claim_26 (by decide) ?_
    refine ht_iald (n := 392) (q := 0) hx hb hK hP hs t_9 (by decide) rfl rfl ⟨by decide, by decide⟩ dX11_claim_28 ?_
    refine lv_topi (fun zi_10 ezi_10 => ?_)
    have la_11 : zi_10.toInt = zA (zI_6 (zR zy 0)) (12) := (congrArg Int32.toInt (show zI_6 (zR zy 0) (12 : Int32).toNatClampNeg = zi_10 from ezi_10.symm).symm).trans (congrArg (zA (zI_6 (zR zy 0))) (show (12 : Int32).toInt = 12 from by decide))
    have zz_13 : ZI (zI_6 (zR zy 0)) := by rw [(show zI_6 (zR zy 0) = zI_4 (zR zy 0) from by rw [← uzI_6]; exact u2_a (tne t_9 t_zy (by decide))), (k_zI_4.2.row t_9 (by decide) (by decide))]; exact hz
    have tz_12 : 0 ≤ zi_10.toInt ∧ zi_10.toInt ≤ 4 := by rw [← (show zI_6 (zR zy 0) (12 : Int32).toNatClampNeg = zi_10 from ezi_10.symm)]; exact ZI.g12 zz_13 (by decide) (by decide)
    refine lv_iconst (v := 4) hx hb dX11_claim_29 (by decide) ?_
    refine lv_icmp_ne (tgt := 36) hx hb dX11_claim_30 (by decide) (fun c_14 => ?_) (fun c_14 => ?_)
    · have f_15 : zi_10.toInt ≠ (4 : Int) := ic_ne (rfl) (show (4 : Int32).toInt = 4 by decide) c_14
      refine lv_iconst (v := 0) hx hb dX11_claim_36 (by decide) ?_
      refine lv_istore_n (lv' := [(2, .int 0), (1, .int zi_1), (0, .ref zy)]) hx hb dX11_claim_37 rfl hl (by decide) rfl (fun ls hl => ?_)
      have lp_89 : ∀ (n : Nat) (zi_73 : Int32) (zI_74 : Nat → Nat → Int32) (H : Heap) (locs : List Loc) (ls : Array Slot), (14 - zi_73.toInt).toNat = n → (0 ≤ zi_73.toInt ∧ zi_73.toInt ≤ 14) → (WM [1802, 1803, 10000, 10200] AL zT zR zI zI_74) → (CPY (zI_6 (zR zy 0)) (zI_6 (zR zy 5)) (zI_74 (zR zy 0)) (326 + 14 * zA (zI_6 (zR zy 0)) (12)) zi_73.toInt) → (zI_74 (zR zy 5) = zI_6 (zR zy 5)) → (FQ (zI (zR zy 0)) (zI_74 (zR zy 0))) → (ZI (zI_74 (zR zy 0))) → va_P (dC, dI) vwCl (WL cy zL zT zR zI_74 zJ) H → va_D A (WL cy zL zT zR zI_74 zJ) → va_S A s.heap H locs → lv_has ls 3 [(0, .ref zy), (1, .int zi_1), (2, .int zi_73)] → W p l e ({ frames := 4, cells := 0, slots := 0, locals := 94 } : Room) s m ([.ref zy] : List Value).toArray below meth c H locs 0 0 Q (F0 m 38 ls []) := by
        intro n
        induction n using Nat.strongRecOn with
        | _ n ih_89 =>
          intro zi_73 zI_74 H locs ls hn b_zi_73 h_zI_74 e_lp_89_0 e_lp_89_1 e_lp_89_2 e_lp_89_3 hP hD hS hl
          refine lv_iload_n hx hb dX11_claim_38 rfl (lv_at hl 2 rfl) ?_
          refine lv_bipush (v := 14) hx hb dX11_claim_39 (by decide) ?_
          refine lv_icmp_ge (tgt := 77) hx hb dX11_claim_41 (by decide) (fun c_90 => ?_) (fun c_90 => ?_)
          · have f_91 : zi_73.toInt ≥ (14 : Int) := ic_ge (rfl) (show (14 : Int32).toInt = 14 by decide) c_90
            have cq_92 : zA (zI_74 (zR zy 0)) (12) = zA (zI_6 (zR zy 0)) (12) := e_lp_89_0.1 (12) (by omega) (by omega)
            refine lv_aload_n hx hb dX11_claim_77 rfl (lv_at hl 0 rfl) ?_
            refine ht_getr (C := RX11) (T := TX11) (N := 28) hx hb hts (by decide +kernel) hown hK hP hs t_zy (by decide) rfl rfl 0 (by decide) (hts (.fieldLink RX11 7 "DripStoneModel" "z" "[I") (by decide +kernel)) (fun _ h9 => h9) rfl dX11_claim_78 ?_
            refine lv_bipush (v := 12) hx hb dX11_claim_81 (by decide) ?_
            refine lv_dup2_11 hx hb dX11_claim_83 rfl rfl ?_
            refine ht_iald (n := 392) (q := 0) hx hb hK hP hs t_9 (by decide) rfl rfl ⟨by decide, by decide⟩ dX11_claim_84 ?_
            refine lv_topi (fun zi_93 ezi_93 => ?_)
            have la_94 : zi_93.toInt = zA (zI_74 (zR zy 0)) (12) := (congrArg Int32.toInt (show zI_74 (zR zy 0) (12 : Int32).toNatClampNeg = zi_93 from ezi_93.symm).symm).trans (congrArg (zA (zI_74 (zR zy 0))) (show (12 : Int32).toInt = 12 from by decide))
            have tz_95 : 0 ≤ zi_93.toInt ∧ zi_93.toInt ≤ 4 := by rw [← (show zI_74 (zR zy 0) (12 : Int32).toNatClampNeg = zi_93 from ezi_93.symm)]; exact ZI.g12 e_lp_89_3 (by decide) (by decide)
            refine lv_iconst (v := 1) hx hb dX11_claim_85 (by decide) ?_
            refine lv_iadd hx hb dX11_claim_86 ?_
            refine lv_topi (fun zi_96 ezi_96 => ?_)
            have tzi_96 : zi_96.toInt = zi_93.toInt + (1 : Int) := by rw [ezi_96]; exact tiadd (rfl) (show (1 : Int32).toInt = 1 by decide) (by omega) (by omega)
            refine ht_iast (v := zi_96) (n := 392) (q := 0) hx hb hK hP hD hS hs t_9 (by decide) rfl rfl ⟨by decide, by decide⟩ dX11_claim_87 (fun H locs hP hD hS => ?_)
            have qc_12 : (12 : Int32).toInt = 12 := by decide
            have t_97 : zT (zR zy 5) = 102 := sk_f hs t_zy (by decide) rfl (by decide)
            have rr9 := ps_5.resolve_left (by omega)
            have h_zI_98 : WM [1802, 1803, 10000, 10200] AL zT zR zI (u2 zI_74 (zR zy 0) (12 : Int32).toNatClampNeg zi_96) := h_zI_74.putA hs t_9 rfl (rgF _) (by decide) (fun h => absurd h (by decide)) (by decide) trivial
            generalize uzI_98 : u2 zI_74 (zR zy 0) (12 : Int32).toNatClampNeg zi_96 = zI_98 at hP hD h_zI_98
            have z_zI_98 : ZI (zI_98 (zR zy 0)) := by rw [← uzI_98, u2_r]; exact ZI.c1 e_lp_89_3 (by decide) (by omega) (by omega) (CO.mk9 (r := zI_6 (zR zy 5)) (fun j j0 j1 => by have q9 := e_lp_89_0.2 j j0 (by omega); rw [show (326 + 14 * zA (zI_74 (zR zy 0)) 12 + j : Int) = 326 + 14 * zA (zI_6 (zR zy 0)) (12) + j from by omega]; exact q9) (by rw [(show zI_6 (zR zy 5) = zI_4 (zR zy 5) from by rw [← uzI_6]; exact u2_a (tne t_97 t_zy (by decide)))]; exact rr9.1) (by rw [(show zI_6 (zR zy 5) = zI_4 (zR zy 5) from by rw [← uzI_6]; exact u2_a (tne t_97 t_zy (by decide)))]; exact rr9.2.1) (by rw [(show zI_6 (zR zy 5) = zI_4 (zR zy 5) from by rw [← uzI_6]; exact u2_a (tne t_97 t_zy (by decide)))]; exact rr9.2.2))
            have qc_12 : (12 : Int32).toInt = 12 := by decide
            have fq_zI_98 : FQ (zI (zR zy 0)) (zI_98 (zR zy 0)) := by rw [← uzI_98, u2_r]; exact FQ.up e_lp_89_2 (by omega) (by omega)
            refine lv_aload_n hx hb dX11_claim_88 rfl (lv_at hl 0 rfl) ?_
            refine ht_getr (C := RX11) (T := TX11) (N := 28) hx hb hts (by decide +kernel) hown hK hP hs t_zy (by decide) rfl rfl 0 (by decide) (hts (.fieldLink RX11 7 "DripStoneModel" "z" "[I") (by decide +kernel)) (fun _ h9 => h9) rfl dX11_claim_89 ?_
            refine lv_bipush (v := 12) hx hb dX11_claim_92 (by decide) ?_
            refine ht_iald (n := 392) (q := 0) hx hb hK hP hs t_9 (by decide) rfl rfl ⟨by decide, by decide⟩ dX11_claim_94 ?_
            refine lv_topi (fun zi_99 ezi_99 => ?_)
            obtain rfl : zi_96 = zi_99 := (ezi_99.trans (by rw [← uzI_98]; exact u2_s)).symm
            have la_100 : zi_96.toInt = zA (zI_98 (zR zy 0)) (12) := (congrArg Int32.toInt (show zI_98 (zR zy 0) (12 : Int32).toNatClampNeg = zi_96 from (by rw [← uzI_98]; exact u2_s)).symm).trans (congrArg (zA (zI_98 (zR zy 0))) (show (12 : Int32).toInt = 12 from by decide))
            refine lv_iconst (v := 1) hx hb dX11_claim_95 (by decide) ?_
            refine lv_isub hx hb dX11_claim_96 ?_
            refine lv_topi (fun zi_101 ezi_101 => ?_)
            have tzi_101 : zi_101.toInt = zi_96.toInt - (1 : Int) := by rw [ezi_101]; exact tisub (rfl) (show (1 : Int32).toInt = 1 by decide) (by omega) (by omega)
            subst hQ
            exact W.iret (v := zi_101) hx hb hr (fun t ht hW => ⟨⟨zi_101, zI_98, rfl, ⟨h_zI_98, (show (-100) ≤ zi_101.toInt ∧ zi_101.toInt ≤ 4 from by omega), (show FQ (zI (zR zy 0)) (zI_98 (zR zy 0)) from fq_zI_98), (show ZI (zI_98 (zR zy 0)) from z_zI_98)⟩, ⟨by rw [ht]; exact hP, va_K.moved hW.alike hK, hD⟩⟩, hS.F ht⟩) hS.2.2 dX11_claim_97
          · have f_91 : ¬ (zi_73.toInt ≥ (14 : Int)) := ic_nge (rfl) (show (14 : Int32).toInt = 14 by decide) c_90
            have cq_102 : zA (zI_74 (zR zy 0)) (12) = zA (zI_6 (zR zy 0)) (12) := e_lp_89_0.1 (12) (by omega) (by omega)
            refine lv_aload_n hx hb dX11_claim_44 rfl (lv_at hl 0 rfl) ?_
            refine ht_getr (C := RX11) (T := TX11) (N := 28) hx hb hts (by decide +kernel) hown hK hP hs t_zy (by decide) rfl rfl 0 (by decide) (hts (.fieldLink RX11 7 "DripStoneModel" "z" "[I") (by decide +kernel)) (fun _ h9 => h9) rfl dX11_claim_45 ?_
            refine lv_sipush (v := 326) hx hb dX11_claim_48 (by decide) ?_
            refine lv_bipush (v := 14) hx hb dX11_claim_51 (by decide) ?_
            refine lv_aload_n hx hb dX11_claim_53 rfl (lv_at hl 0 rfl) ?_
            refine ht_getr (C := RX11) (T := TX11) (N := 28) hx hb hts (by decide +kernel) hown hK hP hs t_zy (by decide) rfl rfl 0 (by decide) (hts (.fieldLink RX11 7 "DripStoneModel" "z" "[I") (by decide +kernel)) (fun _ h9 => h9) rfl dX11_claim_54 ?_
            refine lv_bipush (v := 12) hx hb dX11_claim_57 (by decide) ?_
            refine ht_iald (n := 392) (q := 0) hx hb hK hP hs t_9 (by decide) rfl rfl ⟨by decide, by decide⟩ dX11_claim_59 ?_
            refine lv_topi (fun zi_103 ezi_103 => ?_)
            have la_104 : zi_103.toInt = zA (zI_74 (zR zy 0)) (12) := (congrArg Int32.toInt (show zI_74 (zR zy 0) (12 : Int32).toNatClampNeg = zi_103 from ezi_103.symm).symm).trans (congrArg (zA (zI_74 (zR zy 0))) (show (12 : Int32).toInt = 12 from by decide))
            have tz_105 : 0 ≤ zi_103.toInt ∧ zi_103.toInt ≤ 4 := by rw [← (show zI_74 (zR zy 0) (12 : Int32).toNatClampNeg = zi_103 from ezi_103.symm)]; exact ZI.g12 e_lp_89_3 (by decide) (by decide)
            refine lv_imul hx hb dX11_claim_60 ?_
            refine lv_topi (fun zi_106 ezi_106 => ?_)
            have tzi_106 : zi_106.toInt = (14 : Int) * zi_103.toInt := by rw [ezi_106]; exact timul (show (14 : Int32).toInt = 14 by decide) (rfl) (by omega) (by omega)
            refine lv_iadd hx hb dX11_claim_61 ?_
            refine lv_topi (fun zi_107 ezi_107 => ?_)
            have tzi_107 : zi_107.toInt = (326 : Int) + zi_106.toInt := by rw [ezi_107]; exact tiadd (show (326 : Int32).toInt = 326 by decide) (rfl) (by omega) (by omega)
            refine lv_iload_n hx hb dX11_claim_62 rfl (lv_at hl 2 rfl) ?_
            refine lv_iadd hx hb dX11_claim_63 ?_
            refine lv_topi (fun zi_108 ezi_108 => ?_)
            have tzi_108 : zi_108.toInt = zi_107.toInt + zi_73.toInt := by rw [ezi_108]; exact tiadd (rfl) (rfl) (by omega) (by omega)
            refine lv_aload_n hx hb dX11_claim_64 rfl (lv_at hl 0 rfl) ?_
            refine ht_getr (C := RX11) (T := TX11) (N := 28) hx hb hts (by decide +kernel) hown hK hP hs t_zy (by decide) rfl rfl 5 (by decide) (hts (.fieldLink RX11 16 "DripStoneModel" "read" "[I") (by decide +kernel)) (fun _ h9 => h9) rfl dX11_claim_65 ?_
            have t_109 : zT (zR zy 5) = 102 := sk_f hs t_zy (by decide) rfl (by decide)
            refine lv_iload_n hx hb dX11_claim_68 rfl (lv_at hl 2 rfl) ?_
            refine ht_iald (n := 66) (q := 0) hx hb hK hP hs t_109 (by decide) rfl rfl ⟨by omega, by omega⟩ dX11_claim_69 ?_
            refine lv_topi (fun zi_110 ezi_110 => ?_)
            have la_111 : zi_110.toInt = zA (zI_74 (zR zy 5)) (zi_73.toInt) := (congrArg Int32.toInt (show zI_74 (zR zy 5) zi_73.toNatClampNeg = zi_110 from ezi_110.symm).symm).trans (congrArg (zA (zI_74 (zR zy 5))) (show zi_73.toInt = zi_73.toInt from by omega))
            refine ht_iast (v := zi_110) (n := 392) (q := 0) hx hb hK hP hD hS hs t_9 (by decide) rfl rfl ⟨by omega, by omega⟩ dX11_claim_70 (fun H locs hP hD hS => ?_)
            have h_zI_112 : WM [1802, 1803, 10000, 10200] AL zT zR zI (u2 zI_74 (zR zy 0) zi_108.toNatClampNeg zi_110) := h_zI_74.putA hs t_9 rfl (rgF _) (by decide) (fun h => absurd h (by decide)) (by decide) trivial
            generalize uzI_112 : u2 zI_74 (zR zy 0) zi_108.toNatClampNeg zi_110 = zI_112 at hP hD h_zI_112
            have z_zI_112 : ZI (zI_112 (zR zy 0)) := by rw [← uzI_112, u2_r]; exact ZI.cl e_lp_89_3 (by omega)
            have fq_zI_112 : FQ (zI (zR zy 0)) (zI_112 (zR zy 0)) := by rw [← uzI_112, u2_r]; exact FQ.up e_lp_89_2 (by omega) (by omega)
            obtain ⟨zi_113, ezi_113⟩ : ∃ y : Int32, y = zi_73 + 1 := ⟨_, rfl⟩
            have tzi_113 : zi_113.toInt = zi_73.toInt + 1 := by rw [ezi_113]; exact tadd rfl (show (1 : Int32).toInt = 1 by decide) (by omega) (by omega)
            refine lv_iinc (v := zi_113) (lv' := [(2, .int zi_113), (0, .ref zy), (1, .int zi_1)]) hx hb dX11_claim_71 hl (k := 2) rfl (by rw [ezi_113]; rfl) (by decide) rfl (fun ls hl => ?_)
            refine lv_goto (tgt := 38) hx hb dX11_claim_74 (by decide) ?_
            exact ih_89 (14 - zi_113.toInt).toNat (by omega) zi_113 zI_112 _ _ _ rfl (by omega) h_zI_112 (by rw [← uzI_112, u2_r]; exact CPY.s e_lp_89_0 (by omega) (by omega) (by omega) (by rw [← e_lp_89_1]; omega) (by omega)) (by rw [(show zI_112 (zR zy 5) = zI_74 (zR zy 5) from by rw [← uzI_112]; exact u2_a (tne t_109 t_9 (by decide)))]; exact e_lp_89_1) fq_zI_112 z_zI_112 hP hD hS (lv_sub hl [1, 2, 0] rfl)
      have qc_0 : (0 : Int32).toInt = 0 := by decide
      have fq_114 : FQ (zI (zR zy 0)) (zI_6 (zR zy 0)) := by rw [(show zI_6 (zR zy 0) = zI_4 (zR zy 0) from by rw [← uzI_6]; exact u2_a (tne t_9 t_zy (by decide))), (k_zI_4.2.row t_9 (by decide) (by decide))]; exact FQ.rf
      exact lp_89 _ (0 : Int32) zI_6 _ _ _ rfl (by decide) h_zI_6 CPY.z rfl fq_114 zz_13 hP hD hS (lv_sub hl [2, 1, 0] rfl)
    · have f_15 : ¬ (zi_10.toInt ≠ (4 : Int)) := ic_nne (rfl) (show (4 : Int32).toInt = 4 by decide) c_14
      refine lv_bipush (v := (-3)) hx hb dX11_claim_33 (by decide) ?_
      subst hQ
      have qc_m3 : (-3 : Int32).toInt = -3 := by decide
      have fq_115 : FQ (zI (zR zy 0)) (zI_6 (zR zy 0)) := by rw [(show zI_6 (zR zy 0) = zI_4 (zR zy 0) from by rw [← uzI_6]; exact u2_a (tne t_9 t_zy (by decide))), (k_zI_4.2.row t_9 (by decide) (by decide))]; exact FQ.rf
      exact W.iret (v := (-3 : Int32)) hx hb hr (fun t ht hW => ⟨⟨(-3 : Int32), zI_6, rfl, ⟨h_zI_6, (show (-100) ≤ (-3 : Int32).toInt ∧ (-3 : Int32).toInt ≤ 4 from by omega), (show FQ (zI (zR zy 0)) (zI_6 (zR zy 0)) from fq_115), (show ZI (zI_6 (zR zy 0)) from zz_13)⟩, ⟨by rw [ht]; exact hP, va_K.moved hW.alike hK, hD⟩⟩, hS.F ht⟩) hS.2.2 dX11_claim_35
  · have f_8 : ¬ (zi_1.toInt ≠ 0) := ic_nne (rfl) (by decide) c_7
    refine lv_bipush (v := (-20)) hx hb dX11_claim_14 (by decide) ?_
    refine lv_aload_n hx hb dX11_claim_16 rfl (lv_at hl 1 rfl) ?_
    refine ht_geti (C := RX11) (T := TX11) (N := 28) hx hb hts (by decide +kernel) hown hK hP hs t_zy (by decide) rfl rfl 3 (by decide) (hts (.fieldLink RX11 116 "DripStoneModel" "at" "I") (by decide +kernel)) (fun _ h9 => h9) rfl dX11_claim_17 ?_
    refine lv_topi (fun zi_116 ezi_116 => ?_)
    have tzi_116 : 0 ≤ zi_116.toInt ∧ zi_116.toInt ≤ 80 := by rw [ezi_116]; exact h_zI_6.at t_zy _ rfl
    refine lv_isub hx hb dX11_claim_20 ?_
    refine lv_topi (fun zi_117 ezi_117 => ?_)
    have tzi_117 : zi_117.toInt = (-20 : Int) - zi_116.toInt := by rw [ezi_117]; exact tisub (show ((-20) : Int32).toInt = -20 by decide) (rfl) (by omega) (by omega)
    subst hQ
    have t_118 : zT (zR zy 0) = 100 := sk_f hs t_zy (by decide) rfl (by decide)
    have fq_119 : FQ (zI (zR zy 0)) (zI_6 (zR zy 0)) := by rw [(show zI_6 (zR zy 0) = zI_4 (zR zy 0) from by rw [← uzI_6]; exact u2_a (tne t_118 t_zy (by decide))), (k_zI_4.2.row t_118 (by decide) (by decide))]; exact FQ.rf
    have zz_120 : ZI (zI_6 (zR zy 0)) := by rw [(show zI_6 (zR zy 0) = zI_4 (zR zy 0) from by rw [← uzI_6]; exact u2_a (tne t_118 t_zy (by decide))), (k_zI_4.2.row t_118 (by decide) (by decide))]; exact hz
    exact W.iret (v := zi_117) hx hb hr (fun t ht hW => ⟨⟨zi_117, zI_6, rfl, ⟨h_zI_6, (show (-100) ≤ zi_117.toInt ∧ zi_117.toInt ≤ 4 from by omega), (show FQ (zI (zR zy 0)) (zI_6 (zR zy 0)) from fq_119), (show ZI (zI_6 (zR zy 0)) from zz_120)⟩, ⟨by rw [ht]; exact hP, va_K.moved hW.alike hK, hD⟩⟩, hS.F ht⟩) hS.2.2 dX11_claim_21
set_option maxHeartbeats 8000000 in
set_option maxRecDepth 100000 in
theorem t_X11_placeOf (l : Launch) (dC : Nat → ClassId) (dI : Nat → Nat → Nat) (cy : Nat → ClassId) (sz : Nat) (zL : List Nat) (zT : Nat → Nat) (zR : Nat → Nat → Nat) (zI : Nat → Nat → Int32) (zJ : Nat → Nat → Int64) (zy : Nat) (zit : Int32) (hs : SKP zL zT zR) (hw : WT zT zR zI) (t_zy : zT zy = 18) (hx1 : ∃ q : Int, 0 ≤ q ∧ q < (zI zy 6).toInt ∧ zA (zI (zR zy 8)) (q) = zit.toInt) : Met l yX11_placeOf wsX11_placeOf ({ frames := 0, cells := 0, slots := 0, locals := 0 } : Room) (va_Pc [.ref zy, .int zit] (PRE dC dI cy (WL cy zL zT zR zI zJ) sz)) (va_Qi (fun (r : Int32) (u : Unit) => ((-4) ≤ r.toInt ∧ r.toInt ≤ 11) ∧ (0 ≤ r.toInt ∧ r.toInt < (zI zy 6).toInt)) (fun u t => POST dC dI cy (va_A (WL cy zL zT zR zI zJ) sz) (WL cy zL zT zR zI zJ) t) (va_A (WL cy zL zT zR zI zJ) sz)) 0 0 (va_A (WL cy zL zT zR zI zJ) sz) := by
  refine Met.ofW (cc := cX11_placeOf) (maxL := 4) (ret := (some .int)) (by decide) rfl ?_
  intro p e s m args below meth c s₁ B hml hv
  obtain ⟨rfl, hsz, hP, hK, hD0, hN⟩ := hv
  have hx := B.exec
  have hb := B.bytes
  have hr := B.returns
  have hts := atoms_spec (ws := wsX11_placeOf) B.pre
  have hown : s.vm.findClass RX11 = some m.cls := findClass_of_methodNamed B.named
  have hlocks := B.notSynchronized
  subst hsz
  have hD := hD0.self (sz := s.heap.size)
  generalize hAe : va_A (WL cy zL zT zR zI zJ) s.heap.size = A at hD ⊢
  have hA : ∀ q : Nat, s.heap.size ≤ q → A q := fun q h => by rw [← hAe]; exact Or.inr h
  have hS : va_S A s.heap s.heap [] := va_S.rf
  have hP : va_P (dC, dI) vwCl (WL cy zL zT zR zI zJ) s.heap := hP
  have hl := lv_entry ([.ref zy, .int zit] : List Value) (n := 4) (Nat.le_of_ble_eq_true rfl)
  rw [lg_entry_eq]
  generalize (lg_sl ([.ref zy, .int zit] : List Value) ++ List.replicate (4 - (lg_sl ([.ref zy, .int zit] : List Value)).length) Slot.unset).toArray = ls at hl ⊢
  have hl : lv_has ls 4 [(0, .ref zy), (1, .int zit)] := hl
  refine w_q (fun Q hQ => ?_)
  have h_zI : WM [] AL zT zR zI zI := WM.rf hw
  refine lv_bipush (v := (-4)) hx hb dX11_placeOf_0 (by decide) ?_
  refine lv_istore_n (lv' := [(2, .int (-4)), (0, .ref zy), (1, .int zit)]) hx hb dX11_placeOf_2 rfl hl (by decide) rfl (fun ls hl => ?_)
  refine lv_iconst (v := 0) hx hb dX11_placeOf_3 (by decide) ?_
  refine lv_istore_n (lv' := [(3, .int 0), (2, .int (-4)), (0, .ref zy), (1, .int zit)]) hx hb dX11_placeOf_4 rfl hl (by decide) rfl (fun ls hl => ?_)
  obtain ⟨zi_1, ezi_1⟩ : ∃ y : Int32, y = zI zy 6 := ⟨_, rfl⟩
  have tzi_1 : 0 ≤ zi_1.toInt ∧ zi_1.toInt ≤ 12 := by rw [ezi_1]; exact h_zI.at t_zy _ rfl
  have lzi_1 : (zI zy 6).toInt = zi_1.toInt := by rw [ezi_1]
  have lp_56 : ∀ (n : Nat) (zi_44 : Int32) (zi_45 : Int32) (H : Heap) (locs : List Loc) (ls : Array Slot), (12 - zi_45.toInt).toNat = n → ((-4) ≤ zi_44.toInt ∧ zi_44.toInt ≤ 11) → (0 ≤ zi_45.toInt ∧ zi_45.toInt ≤ 12) → (0 ≤ zi_44.toInt ∨ (∀ q : Int, 0 ≤ q → q < zi_45.toInt → ¬ zA (zI (zR zy 8)) (q) = zit.toInt)) → (zi_44.toInt < zi_1.toInt ∧ zi_45.toInt ≤ zi_1.toInt) → (zI zy 6 = zi_1) → va_P (dC, dI) vwCl (WL cy zL zT zR zI zJ) H → va_D A (WL cy zL zT zR zI zJ) → va_S A s.heap H locs → lv_has ls 4 [(0, .ref zy), (1, .int zit), (2, .int zi_44), (3, .int zi_45)] → W p l e ({ frames := 0, cells := 0, slots := 0, locals := 0 } : Room) s m ([.ref zy, .int zit] : List Value).toArray below meth c H locs 0 0 Q (F0 m 5 ls []) := by
    intro n
    induction n using Nat.strongRecOn with
    | _ n ih_56 =>
      intro zi_44 zi_45 H locs ls hn b_zi_44 b_zi_45 e_lp_56_0 e_lp_56_1 e_lp_56_2 hP hD hS hl
      refine lv_iload_n hx hb dX11_placeOf_5 rfl (lv_at hl 3 rfl) ?_
      refine lv_aload_n hx hb dX11_placeOf_6 rfl (lv_at hl 0 rfl) ?_
      refine ht_geti (C := RX11) (T := TX11) (N := 28) hx hb hts (by decide +kernel) hown hK hP hs t_zy (by decide) rfl rfl 6 (by decide) (hts (.fieldLink RX11 192 "DripStoneModel" "places" "I") (by decide +kernel)) (fun _ h9 => h9) rfl dX11_placeOf_7 ?_
      refine lv_topi (fun zi_57 ezi_57 => ?_)
      obtain rfl : zi_1 = zi_57 := (ezi_57.trans e_lp_56_2).symm
      refine lv_icmp_ge (tgt := 35) hx hb dX11_placeOf_10 (by decide) (fun c_58 => ?_) (fun c_58 => ?_)
      · have f_59 : zi_45.toInt ≥ zi_1.toInt := ic_ge (rfl) (rfl) c_58
        refine lv_iload_n hx hb dX11_placeOf_35 rfl (lv_at hl 2 rfl) ?_
        subst hQ
        have lk_60 : (zI zy 6).toInt = zi_1.toInt := congrArg Int32.toInt e_lp_56_2
        exact W.iret (v := zi_44) hx hb hr (fun t ht hW => ⟨⟨zi_44, (), rfl, ⟨(show (-4) ≤ zi_44.toInt ∧ zi_44.toInt ≤ 11 from by omega), (show 0 ≤ zi_44.toInt ∧ zi_44.toInt < (zI zy 6).toInt from (by obtain ⟨q, q0, q1, q2⟩ := hx1; rcases e_lp_56_0 with h9 | h9 <;> first | omega | exact absurd q2 (h9 q q0 (by omega))))⟩, ⟨by rw [ht]; exact hP, va_K.moved hW.alike hK, hD⟩⟩, hS.F ht⟩) hS.2.2 dX11_placeOf_36
      · have f_59 : ¬ (zi_45.toInt ≥ zi_1.toInt) := ic_nge (rfl) (rfl) c_58
        refine lv_aload_n hx hb dX11_placeOf_13 rfl (lv_at hl 0 rfl) ?_
        refine ht_getr (C := RX11) (T := TX11) (N := 28) hx hb hts (by decide +kernel) hown hK hP hs t_zy (by decide) rfl rfl 8 (by decide) (hts (.fieldLink RX11 19 "DripStoneModel" "placeThing" "[I") (by decide +kernel)) (fun _ h9 => h9) rfl dX11_placeOf_14 ?_
        have t_61 : zT (zR zy 8) = 103 := sk_f hs t_zy (by decide) rfl (by decide)
        refine lv_iload_n hx hb dX11_placeOf_17 rfl (lv_at hl 3 rfl) ?_
        refine ht_iald (n := 12) (q := 0) hx hb hK hP hs t_61 (by decide) rfl rfl ⟨by omega, by omega⟩ dX11_placeOf_18 ?_
        refine lv_topi (fun zi_62 ezi_62 => ?_)
        have tzi_62 : 0 ≤ zi_62.toInt ∧ zi_62.toInt ≤ 11 := by rw [ezi_62]; exact h_zI.at t_61 _ rfl
        have la_63 : zi_62.toInt = zA (zI (zR zy 8)) (zi_45.toInt) := (congrArg Int32.toInt (show zI (zR zy 8) zi_45.toNatClampNeg = zi_62 from ezi_62.symm).symm).trans (congrArg (zA (zI (zR zy 8))) (show zi_45.toInt = zi_45.toInt from by omega))
        refine lv_iload_n hx hb dX11_placeOf_19 rfl (lv_at hl 1 rfl) ?_
        refine lv_icmp_ne (tgt := 27) hx hb dX11_placeOf_20 (by decide) (fun c_64 => ?_) (fun c_64 => ?_)
        · have f_65 : zi_62.toInt ≠ zit.toInt := ic_ne (rfl) (rfl) c_64
          refine lv_iload_n hx hb dX11_placeOf_27 rfl (lv_at hl 2 rfl) ?_
          refine lv_istore_n (lv' := [(2, .int zi_44), (0, .ref zy), (1, .int zit), (3, .int zi_45)]) hx hb dX11_placeOf_28 rfl hl (by decide) rfl (fun ls hl => ?_)
          obtain ⟨zi_66, ezi_66⟩ : ∃ y : Int32, y = zi_45 + 1 := ⟨_, rfl⟩
          have tzi_66 : zi_66.toInt = zi_45.toInt + 1 := by rw [ezi_66]; exact tadd rfl (show (1 : Int32).toInt = 1 by decide) (by omega) (by omega)
          refine lv_iinc (v := zi_66) (lv' := [(3, .int zi_66), (2, .int zi_44), (0, .ref zy), (1, .int zit)]) hx hb dX11_placeOf_29 hl (k := 3) rfl (by rw [ezi_66]; rfl) (by decide) rfl (fun ls hl => ?_)
          refine lv_goto (tgt := 5) hx hb dX11_placeOf_32 (by decide) ?_
          exact ih_56 (12 - zi_66.toInt).toNat (by omega) zi_44 zi_66 _ _ _ rfl (by omega) (by omega) (by rcases e_lp_56_0 with h9 | h9 <;> first | exact Or.inl (by omega) | exact Or.inr (fun q q0 q1 => by rcases (show q = zi_45.toInt ∨ q < zi_45.toInt by omega) with w | w <;> first | (rw [w]; omega) | exact h9 q q0 w)) (by omega) e_lp_56_2 hP hD hS (lv_sub hl [2, 3, 1, 0] rfl)
        · have f_65 : ¬ (zi_62.toInt ≠ zit.toInt) := ic_nne (rfl) (rfl) c_64
          refine lv_iload_n hx hb dX11_placeOf_23 rfl (lv_at hl 3 rfl) ?_
          refine lv_goto (tgt := 28) hx hb dX11_placeOf_24 (by decide) ?_
          refine lv_istore_n (lv' := [(2, .int zi_45), (0, .ref zy), (1, .int zit), (3, .int zi_45)]) hx hb dX11_placeOf_28 rfl hl (by decide) rfl (fun ls hl => ?_)
          obtain ⟨zi_67, ezi_67⟩ : ∃ y : Int32, y = zi_45 + 1 := ⟨_, rfl⟩
          have tzi_67 : zi_67.toInt = zi_45.toInt + 1 := by rw [ezi_67]; exact tadd rfl (show (1 : Int32).toInt = 1 by decide) (by omega) (by omega)
          refine lv_iinc (v := zi_67) (lv' := [(3, .int zi_67), (2, .int zi_45), (0, .ref zy), (1, .int zit)]) hx hb dX11_placeOf_29 hl (k := 3) rfl (by rw [ezi_67]; rfl) (by decide) rfl (fun ls hl => ?_)
          refine lv_goto (tgt := 5) hx hb dX11_placeOf_32 (by decide) ?_
          exact ih_56 (12 - zi_67.toInt).toNat (by omega) zi_45 zi_67 _ _ _ rfl (by omega) (by omega) (by rcases e_lp_56_0 with h9 | h9 <;> first | exact Or.inl (by omega) | exact Or.inr (fun q q0 q1 => by rcases (show q = zi_45.toInt ∨ q < zi_45.toInt by omega) with w | w <;> first | (rw [w]; omega) | exact h9 q q0 w)) (by omega) e_lp_56_2 hP hD hS (lv_sub hl [2, 3, 1, 0] rfl)
  have qc_m4 : ((-4) : Int32).toInt = -4 := by decide
  have qc_0 : (0 : Int32).toInt = 0 := by decide
  exact lp_56 _ (-4 : Int32) (0 : Int32) _ _ _ rfl (by decide) (by decide) (Or.inr (fun q q0 q1 => absurd q1 (nq1 q0))) (by omega) ezi_1.symm hP hD hS (lv_sub hl [2, 3, 1, 0] rfl)
