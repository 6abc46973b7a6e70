set_option maxHeartbeats 8000000 in
set_option maxRecDepth 100000 in
theorem t_X11_binding (l : Launch) (dC : Nat → ClassId) (dI : Nat → Nat → Nat) (cy : Nat → ClassId) (sz : Nat) (zL : List Nat) (zT : Nat → Nat) (zR : Nat → Nat → Nat) (zI : Nat → Nat → Int32) (zJ : Nat → Nat → Int64) (zy : Nat) (zic : Int32) (hs : SKP zL zT zR) (hw : WT zT zR zI) (t_zy : zT zy = 18) (b_zic : 0 ≤ zic.toInt ∧ zic.toInt ≤ 1) (hz : ZI (zI (zR zy 0))) : Met l yX11_binding wsX11_binding ({ frames := 1, cells := 0, slots := 0, locals := 21 } : Room) (va_Pc [.ref zy, .int zic] (PRE dC dI cy (WL cy zL zT zR zI zJ) sz)) (va_Qi (fun (r : Int32) (u : Unit) => (0 ≤ r.toInt ∧ r.toInt ≤ 255) ∧ (BQ (zI (zR zy 0)) zic.toInt r)) (fun u t => POST dC dI cy (va_A (WL cy zL zT zR zI zJ) sz) (WL cy zL zT zR zI zJ) t) (va_A (WL cy zL zT zR zI zJ) sz)) 0 0 (va_A (WL cy zL zT zR zI zJ) sz) := by
  refine Met.ofW (cc := cX11_binding) (maxL := 4) (ret := (some .int)) (by decide) rfl ?_
  intro p e s m args below meth c s₁ B hml hv
  obtain ⟨rfl, hsz, hP, hK, hD0, hN⟩ := hv
  have hx := B.exec
  have hb := B.bytes
  have hr := B.returns
  have hts := atoms_spec (ws := wsX11_binding) B.pre
  have hown : s.vm.findClass RX11 = some m.cls := findClass_of_methodNamed B.named
  have hlocks := B.notSynchronized
  subst hsz
  have hD := hD0.self (sz := s.heap.size)
  generalize hAe : va_A (WL cy zL zT zR zI zJ) s.heap.size = A at hD ⊢
  have hA : ∀ q : Nat, s.heap.size ≤ q → A q := fun q h => by rw [← hAe]; exact Or.inr h
  have hS : va_S A s.heap s.heap [] := va_S.rf
  have hP : va_P (dC, dI) vwCl (WL cy zL zT zR zI zJ) s.heap := hP
  have hl := lv_entry ([.ref zy, .int zic] : List Value) (n := 4) (Nat.le_of_ble_eq_true rfl)
  rw [lg_entry_eq]
  generalize (lg_sl ([.ref zy, .int zic] : List Value) ++ List.replicate (4 - (lg_sl ([.ref zy, .int zic] : List Value)).length) Slot.unset).toArray = ls at hl ⊢
  have hl : lv_has ls 4 [(0, .ref zy), (1, .int zic)] := hl
  refine w_q (fun Q hQ => ?_)
  have h_zI : WM [] AL zT zR zI zI := WM.rf hw
  refine lv_iconst (v := 0) hx hb dX11_binding_0 (by decide) ?_
  refine lv_istore_n (lv' := [(2, .int 0), (0, .ref zy), (1, .int zic)]) hx hb dX11_binding_1 rfl hl (by decide) rfl (fun ls hl => ?_)
  refine lv_iconst (v := 0) hx hb dX11_binding_2 (by decide) ?_
  refine lv_istore_n (lv' := [(3, .int 0), (2, .int 0), (0, .ref zy), (1, .int zic)]) hx hb dX11_binding_3 rfl hl (by decide) rfl (fun ls hl => ?_)
  have lp_666 : ∀ (n : Nat) (zi_122 : Int32) (zi_123 : Int32) (H : Heap) (locs : List Loc) (ls : Array Slot), (8 - zi_123.toInt).toNat = n → (0 ≤ zi_123.toInt ∧ zi_123.toInt ≤ 8) → (BQ (zI (zR zy 0)) zic.toInt zi_122) → (ZI (zI (zR zy 0))) → va_P (dC, dI) vwCl (WL cy zL zT zR zI zJ) H → va_D A (WL cy zL zT zR zI zJ) → va_S A s.heap H locs → lv_has ls 4 [(0, .ref zy), (1, .int zic), (2, .int zi_122), (3, .int zi_123)] → W p l e ({ frames := 1, cells := 0, slots := 0, locals := 21 } : Room) s m ([.ref zy, .int zic] : List Value).toArray below meth c H locs 0 0 Q (F0 m 4 ls []) := by
    intro n
    induction n using Nat.strongRecOn with
    | _ n ih_666 =>
      intro zi_122 zi_123 H locs ls hn b_zi_123 e_lp_666_0 e_lp_666_1 hP hD hS hl
      refine lv_iload_n hx hb dX11_binding_4 rfl (lv_at hl 3 rfl) ?_
      refine lv_aload_n hx hb dX11_binding_5 rfl (lv_at hl 0 rfl) ?_
      refine ht_getr (C := RX11) (T := TX11) (N := 28) hx hb hts (by decide +kernel) hown hK hP hs t_zy (by decide) rfl rfl 0 (by decide) (hts (.fieldLink RX11 7 "DripStoneModel" "z" "[I") (by decide +kernel)) (fun _ h9 => h9) rfl dX11_binding_6 ?_
      have t_667 : zT (zR zy 0) = 100 := sk_f hs t_zy (by decide) rfl (by decide)
      refine lv_bipush (v := 11) hx hb dX11_binding_9 (by decide) ?_
      refine ht_iald (n := 392) (q := 0) hx hb hK hP hs t_667 (by decide) rfl rfl ⟨by decide, by decide⟩ dX11_binding_11 ?_
      refine lv_topi (fun zi_668 ezi_668 => ?_)
      have la_669 : zi_668.toInt = zA (zI (zR zy 0)) (11) := (congrArg Int32.toInt (show zI (zR zy 0) (11 : Int32).toNatClampNeg = zi_668 from ezi_668.symm).symm).trans (congrArg (zA (zI (zR zy 0))) (show (11 : Int32).toInt = 11 from by decide))
      have tz_670 : 0 ≤ zi_668.toInt ∧ zi_668.toInt ≤ 8 := by rw [← (show zI (zR zy 0) (11 : Int32).toNatClampNeg = zi_668 from ezi_668.symm)]; exact ZI.g11 e_lp_666_1 (by decide) (by decide)
      refine lv_icmp_ge (tgt := 60) hx hb dX11_binding_12 (by decide) (fun c_671 => ?_) (fun c_671 => ?_)
      · have f_672 : zi_123.toInt ≥ zi_668.toInt := ic_ge (rfl) (rfl) c_671
        refine lv_iload_n hx hb dX11_binding_60 rfl (lv_at hl 2 rfl) ?_
        have bl_673 : 0 ≤ zi_122.toInt ∧ zi_122.toInt ≤ 255 := BQ.le e_lp_666_0
        subst hQ
        exact W.iret (v := zi_122) hx hb hr (fun t ht hW => ⟨⟨zi_122, (), rfl, ⟨(show 0 ≤ zi_122.toInt ∧ zi_122.toInt ≤ 255 from by omega), (show BQ (zI (zR zy 0)) zic.toInt zi_122 from e_lp_666_0)⟩, ⟨by rw [ht]; exact hP, va_K.moved hW.alike hK, hD⟩⟩, hS.F ht⟩) hS.2.2 dX11_binding_61
      · have f_672 : ¬ (zi_123.toInt ≥ zi_668.toInt) := ic_nge (rfl) (rfl) c_671
        refine lv_iload_n hx hb dX11_binding_15 rfl (lv_at hl 2 rfl) ?_
        refine lv_aload_n hx hb dX11_binding_16 rfl (lv_at hl 0 rfl) ?_
        refine ht_getr (C := RX11) (T := TX11) (N := 28) hx hb hts (by decide +kernel) hown hK hP hs t_zy (by decide) rfl rfl 0 (by decide) (hts (.fieldLink RX11 7 "DripStoneModel" "z" "[I") (by decide +kernel)) (fun _ h9 => h9) rfl dX11_binding_17 ?_
        refine lv_aload_n hx hb dX11_binding_20 rfl (lv_at hl 0 rfl) ?_
        refine lv_iload_n hx hb dX11_binding_21 rfl (lv_at hl 3 rfl) ?_
        refine hj_i (ws := (WL cy zL zT zR zI zJ)) (w1 := fun (u : Unit) => (WL cy zL zT zR zI zJ)) (va_runV (As := [.int zi_123]) (rest := [.ref (zR zy 0), .int zi_122]) ⟨hx, hb, hml, hown, hts⟩ (t_X11_dateAt l dC dI cy H.size zL zT zR zI zJ zy zi_123 hs h_zI.1 t_zy (by omega)) (cwV 1 hts gX11_binding_X11_dateAt rfl rfl rfl (by decide +kernel) ⟨(Nat.le_of_ble_eq_true rfl), (Nat.le_of_ble_eq_true rfl)⟩) (PRE.v hP hK hD hN (ht_recv hK hP hs t_zy (by decide) rfl rfl)) rfl rfl hl.1 rfl (lv_room (Nat.le_of_ble_eq_true rfl)) dX11_binding_22 ⟨(Nat.le_of_ble_eq_true rfl), (Nat.le_of_ble_eq_true rfl)⟩) hP hD hS hA (fun zi_674 u_676 H locs hw_675 hP hD hS => ?_)
        obtain ⟨b_zi_674, ps_677⟩ : (278 ≤ zi_674.toInt ∧ zi_674.toInt ≤ 326) ∧ (zi_674.toInt = 278 + 6 * zi_123.toInt) := hw_675
        refine ht_iald (n := 392) (q := 0) hx hb hK hP hs t_667 (by decide) rfl rfl ⟨by omega, by omega⟩ dX11_binding_25 ?_
        refine lv_topi (fun zi_678 ezi_678 => ?_)
        have la_679 : zi_678.toInt = zA (zI (zR zy 0)) (278 + 6 * zi_123.toInt) := (congrArg Int32.toInt (show zI (zR zy 0) zi_674.toNatClampNeg = zi_678 from ezi_678.symm).symm).trans (congrArg (zA (zI (zR zy 0))) (show zi_674.toInt = 278 + 6 * zi_123.toInt from by omega))
        refine lv_iload_n hx hb dX11_binding_26 rfl (lv_at hl 1 rfl) ?_
        refine lv_icmp_ne (tgt := 51) hx hb dX11_binding_27 (by decide) (fun c_680 => ?_) (fun c_680 => ?_)
        · have f_681 : zi_678.toInt ≠ zic.toInt := ic_ne (rfl) (rfl) c_680
          refine lv_iconst (v := 0) hx hb dX11_binding_51 (by decide) ?_
          refine lv_ior hx hb dX11_binding_52 ?_
          refine lv_topi (fun zi_682 ezi_682 => ?_)
          have rzi_682 := rng zi_682
          refine lv_istore_n (lv' := [(2, .int zi_682), (0, .ref zy), (1, .int zic), (3, .int zi_123)]) hx hb dX11_binding_53 rfl hl (by decide) rfl (fun ls hl => ?_)
          obtain ⟨zi_683, ezi_683⟩ : ∃ y : Int32, y = zi_123 + 1 := ⟨_, rfl⟩
          have tzi_683 : zi_683.toInt = zi_123.toInt + 1 := by rw [ezi_683]; exact tadd rfl (show (1 : Int32).toInt = 1 by decide) (by omega) (by omega)
          refine lv_iinc (v := zi_683) (lv' := [(3, .int zi_683), (2, .int zi_682), (0, .ref zy), (1, .int zic)]) hx hb dX11_binding_54 hl (k := 3) rfl (by rw [ezi_683]; rfl) (by decide) rfl (fun ls hl => ?_)
          refine lv_goto (tgt := 4) hx hb dX11_binding_57 (by decide) ?_
          exact ih_666 (8 - zi_683.toInt).toNat (by omega) zi_682 zi_683 _ _ _ rfl (by omega) (BQ.o0 e_lp_666_0 ezi_682) e_lp_666_1 hP hD hS (lv_sub hl [2, 3, 1, 0] rfl)
        · have f_681 : ¬ (zi_678.toInt ≠ zic.toInt) := ic_nne (rfl) (rfl) c_680
          refine lv_aload_n hx hb dX11_binding_30 rfl (lv_at hl 0 rfl) ?_
          refine ht_getr (C := RX11) (T := TX11) (N := 28) hx hb hts (by decide +kernel) hown hK hP hs t_zy (by decide) rfl rfl 0 (by decide) (hts (.fieldLink RX11 7 "DripStoneModel" "z" "[I") (by decide +kernel)) (fun _ h9 => h9) rfl dX11_binding_31 ?_
          refine lv_aload_n hx hb dX11_binding_34 rfl (lv_at hl 0 rfl) ?_
          refine lv_iload_n hx hb dX11_binding_35 rfl (lv_at hl 3 rfl) ?_
          refine hj_i (ws := (WL cy zL zT zR zI zJ)) (w1 := fun (u : Unit) => (WL cy zL zT zR zI zJ)) (va_runV (As := [.int zi_123]) (rest := [.ref (zR zy 0), .int zi_122]) ⟨hx, hb, hml, hown, hts⟩ (t_X11_dateAt l dC dI cy H.size zL zT zR zI zJ zy zi_123 hs h_zI.1 t_zy (by omega)) (cwV 1 hts gX11_binding_X11_dateAt rfl rfl rfl (by decide +kernel) ⟨(Nat.le_of_ble_eq_true rfl), (Nat.le_of_ble_eq_true rfl)⟩) (PRE.v hP hK hD hN (ht_recv hK hP hs t_zy (by decide) rfl rfl)) rfl rfl hl.1 rfl (lv_room (Nat.le_of_ble_eq_true rfl)) dX11_binding_36 ⟨(Nat.le_of_ble_eq_true rfl), (Nat.le_of_ble_eq_true rfl)⟩) hP hD hS hA (fun zi_684 u_686 H locs hw_685 hP hD hS => ?_)
          obtain ⟨b_zi_684, ps_687⟩ : (278 ≤ zi_684.toInt ∧ zi_684.toInt ≤ 326) ∧ (zi_684.toInt = 278 + 6 * zi_123.toInt) := hw_685
          refine lv_iconst (v := 5) hx hb dX11_binding_39 (by decide) ?_
          refine lv_iadd hx hb dX11_binding_40 ?_
          refine lv_topi (fun zi_688 ezi_688 => ?_)
          have tzi_688 : zi_688.toInt = zi_684.toInt + (5 : Int) := by rw [ezi_688]; exact tiadd (rfl) (show (5 : Int32).toInt = 5 by decide) (by omega) (by omega)
          refine ht_iald (n := 392) (q := 0) hx hb hK hP hs t_667 (by decide) rfl rfl ⟨by omega, by omega⟩ dX11_binding_41 ?_
          refine lv_topi (fun zi_689 ezi_689 => ?_)
          have la_690 : zi_689.toInt = zA (zI (zR zy 0)) (283 + 6 * zi_123.toInt) := (congrArg Int32.toInt (show zI (zR zy 0) zi_688.toNatClampNeg = zi_689 from ezi_689.symm).symm).trans (congrArg (zA (zI (zR zy 0))) (show zi_688.toInt = 283 + 6 * zi_123.toInt from by omega))
          refine lv_if_ne (tgt := 51) hx hb dX11_binding_42 (by decide) (fun c_691 => ?_) (fun c_691 => ?_)
          · have f_692 : zi_689.toInt ≠ 0 := ic_ne (rfl) (by decide) c_691
            refine lv_iconst (v := 0) hx hb dX11_binding_51 (by decide) ?_
            refine lv_ior hx hb dX11_binding_52 ?_
            refine lv_topi (fun zi_693 ezi_693 => ?_)
            have rzi_693 := rng zi_693
            refine lv_istore_n (lv' := [(2, .int zi_693), (0, .ref zy), (1, .int zic), (3, .int zi_123)]) hx hb dX11_binding_53 rfl hl (by decide) rfl (fun ls hl => ?_)
            obtain ⟨zi_694, ezi_694⟩ : ∃ y : Int32, y = zi_123 + 1 := ⟨_, rfl⟩
            have tzi_694 : zi_694.toInt = zi_123.toInt + 1 := by rw [ezi_694]; exact tadd rfl (show (1 : Int32).toInt = 1 by decide) (by omega) (by omega)
            refine lv_iinc (v := zi_694) (lv' := [(3, .int zi_694), (2, .int zi_693), (0, .ref zy), (1, .int zic)]) hx hb dX11_binding_54 hl (k := 3) rfl (by rw [ezi_694]; rfl) (by decide) rfl (fun ls hl => ?_)
            refine lv_goto (tgt := 4) hx hb dX11_binding_57 (by decide) ?_
            exact ih_666 (8 - zi_694.toInt).toNat (by omega) zi_693 zi_694 _ _ _ rfl (by omega) (BQ.o0 e_lp_666_0 ezi_693) e_lp_666_1 hP hD hS (lv_sub hl [2, 3, 1, 0] rfl)
          · have f_692 : ¬ (zi_689.toInt ≠ 0) := ic_nne (rfl) (by decide) c_691
            refine lv_iconst (v := 1) hx hb dX11_binding_45 (by decide) ?_
            refine lv_iload_n hx hb dX11_binding_46 rfl (lv_at hl 3 rfl) ?_
            refine lv_ishl hx hb dX11_binding_47 ?_
            refine lv_topi (fun zi_695 ezi_695 => ?_)
            have rzi_695 := rng zi_695
            refine lv_goto (tgt := 52) hx hb dX11_binding_48 (by decide) ?_
            refine lv_ior hx hb dX11_binding_52 ?_
            refine lv_topi (fun zi_696 ezi_696 => ?_)
            have rzi_696 := rng zi_696
            refine lv_istore_n (lv' := [(2, .int zi_696), (0, .ref zy), (1, .int zic), (3, .int zi_123)]) hx hb dX11_binding_53 rfl hl (by decide) rfl (fun ls hl => ?_)
            obtain ⟨zi_697, ezi_697⟩ : ∃ y : Int32, y = zi_123 + 1 := ⟨_, rfl⟩
            have tzi_697 : zi_697.toInt = zi_123.toInt + 1 := by rw [ezi_697]; exact tadd rfl (show (1 : Int32).toInt = 1 by decide) (by omega) (by omega)
            refine lv_iinc (v := zi_697) (lv' := [(3, .int zi_697), (2, .int zi_696), (0, .ref zy), (1, .int zic)]) hx hb dX11_binding_54 hl (k := 3) rfl (by rw [ezi_697]; rfl) (by decide) rfl (fun ls hl => ?_)
            refine lv_goto (tgt := 4) hx hb dX11_binding_57 (by decide) ?_
            exact ih_666 (8 - zi_697.toInt).toNat (by omega) zi_696 zi_697 _ _ _ rfl (by omega) (BQ.o (d := zi_123) e_lp_666_0 (by omega) (by omega) (by omega) ezi_695 ezi_696) e_lp_666_1 hP hD hS (lv_sub hl [2, 3, 1, 0] rfl)
  have qc_0 : (0 : Int32).toInt = 0 := by decide
  exact lp_666 _ (0 : Int32) (0 : Int32) _ _ _ rfl (by decide) BQ.z hz hP hD hS (lv_sub hl [2, 3, 1, 0] rfl)
set_option maxHeartbeats 8000000 in
set_option maxRecDepth 100000 in
theorem t_X11_layDate (l : Launch) (dC : Nat → ClassId) (dI : Nat → Nat → Nat) (cy : Nat → ClassId) (sz : Nat) (zL : List Nat) (zT : Nat → Nat) (zR : Nat → Nat → Nat) (zI : Nat → Nat → Int32) (zJ : Nat → Nat → Int64) (zy : Nat) (zia : Int32) (hs : SKP zL zT zR) (hw : WT zT zR zI) (t_zy : zT zy = 18) (b_zia : 278 ≤ zia.toInt ∧ zia.toInt ≤ 320) (hz : ZI (zI (zR zy 0))) (hx1 : ∃ q : Int, 0 ≤ q ∧ q < (zI zy 6).toInt ∧ zA (zI (zR zy 8)) (q) = zA (zI (zR zy 0)) (1 + zia.toInt)) : Met l yX11_layDate wsX11_layDate ({ frames := 1, cells := 0, slots := 0, locals := 23 } : Room) (va_Pc [.ref zy, .int zia] (PRE dC dI cy (WL cy zL zT zR zI zJ) sz)) (va_Qv (fun (u : (Nat → Nat → Int32)) => (WM [10400] AL zT zR zI u)) (fun u t => POST dC dI cy (va_A (WL cy zL zT zR zI zJ) sz) (WL cy zL zT zR u zJ) t) (va_A (WL cy zL zT zR zI zJ) sz)) 0 0 (va_A (WL cy zL zT zR zI zJ) sz) := by
  refine Met.ofW (cc := cX11_layDate) (maxL := 5) (ret := none) (by decide) rfl ?_
  intro p e s m args below meth c s₁ B hml hv
  obtain ⟨rfl, hsz, hP, hK, hD0, hN⟩ := hv
  have hx := B.exec
  have hb := B.bytes
  have hr := B.returns
  have hts := atoms_spec (ws := wsX11_layDate) B.pre
  have hown : s.vm.findClass RX11 = some m.cls := findClass_of_methodNamed B.named
  have hlocks := B.notSynchronized
  subst hsz
  have hD := hD0.self (sz := s.heap.size)
  generalize hAe : va_A (WL cy zL zT zR zI zJ) s.heap.size = A at hD ⊢
  have hA : ∀ q : Nat, s.heap.size ≤ q → A q := fun q h => by rw [← hAe]; exact Or.inr h
  have hS : va_S A s.heap s.heap [] := va_S.rf
  have hP : va_P (dC, dI) vwCl (WL cy zL zT zR zI zJ) s.heap := hP
  have hl := lv_entry ([.ref zy, .int zia] : List Value) (n := 5) (Nat.le_of_ble_eq_true rfl)
  rw [lg_entry_eq]
  generalize (lg_sl ([.ref zy, .int zia] : List Value) ++ List.replicate (5 - (lg_sl ([.ref zy, .int zia] : List Value)).length) Slot.unset).toArray = ls at hl ⊢
  have hl : lv_has ls 5 [(0, .ref zy), (1, .int zia)] := hl
  refine w_q (fun Q hQ => ?_)
  have h_zI : WM [10400] AL zT zR zI zI := WM.rf hw
  refine lv_aload_n hx hb dX11_layDate_0 rfl (lv_at hl 0 rfl) ?_
  refine lv_aload_n hx hb dX11_layDate_1 rfl (lv_at hl 0 rfl) ?_
  refine ht_getr (C := RX11) (T := TX11) (N := 28) hx hb hts (by decide +kernel) hown hK hP hs t_zy (by decide) rfl rfl 0 (by decide) (hts (.fieldLink RX11 7 "DripStoneModel" "z" "[I") (by decide +kernel)) (fun _ h9 => h9) rfl dX11_layDate_2 ?_
  have t_1 : zT (zR zy 0) = 100 := sk_f hs t_zy (by decide) rfl (by decide)
  refine lv_iload_n hx hb dX11_layDate_5 rfl (lv_at hl 1 rfl) ?_
  refine lv_iconst (v := 1) hx hb dX11_layDate_6 (by decide) ?_
  refine lv_iadd hx hb dX11_layDate_7 ?_
  refine lv_topi (fun zi_2 ezi_2 => ?_)
  have tzi_2 : zi_2.toInt = zia.toInt + (1 : Int) := by rw [ezi_2]; exact tiadd (rfl) (show (1 : Int32).toInt = 1 by decide) (by omega) (by omega)
  refine ht_iald (n := 392) (q := 0) hx hb hK hP hs t_1 (by decide) rfl rfl ⟨by omega, by omega⟩ dX11_layDate_8 ?_
  refine lv_topi (fun zi_3 ezi_3 => ?_)
  have la_4 : zi_3.toInt = zA (zI (zR zy 0)) (1 + zia.toInt) := (congrArg Int32.toInt (show zI (zR zy 0) zi_2.toNatClampNeg = zi_3 from ezi_3.symm).symm).trans (congrArg (zA (zI (zR zy 0))) (show zi_2.toInt = 1 + zia.toInt from by omega))
  refine hj_i (ws := (WL cy zL zT zR zI zJ)) (w1 := fun (u : Unit) => (WL cy zL zT zR zI zJ)) (va_runV (As := [.int zi_3]) (rest := []) ⟨hx, hb, hml, hown, hts⟩ (t_X11_placeOf l dC dI cy s.heap.size zL zT zR zI zJ zy zi_3 hs h_zI.1 t_zy (by rw [la_4]; exact hx1)) (cwV 1 hts gX11_layDate_X11_placeOf rfl rfl rfl (by decide +kernel) ⟨(Nat.le_of_ble_eq_true rfl), (Nat.le_of_ble_eq_true rfl)⟩) (PRE.v hP hK hD hN (ht_recv hK hP hs t_zy (by decide) rfl rfl)) rfl rfl hl.1 rfl (lv_room (Nat.le_of_ble_eq_true rfl)) dX11_layDate_9 ⟨(Nat.le_of_ble_eq_true rfl), (Nat.le_of_ble_eq_true rfl)⟩) hP hD hS hA (fun zi_5 u_7 H locs hw_6 hP hD hS => ?_)
  obtain ⟨b_zi_5, ps_8⟩ : ((-4) ≤ zi_5.toInt ∧ zi_5.toInt ≤ 11) ∧ (0 ≤ zi_5.toInt ∧ zi_5.toInt < (zI zy 6).toInt) := hw_6
  obtain ⟨zi_9, ezi_9⟩ : ∃ y : Int32, y = zI zy 6 := ⟨_, rfl⟩
  have tzi_9 : 0 ≤ zi_9.toInt ∧ zi_9.toInt ≤ 12 := by rw [ezi_9]; exact h_zI.at t_zy _ rfl
  have b8_zi_5 : 0 ≤ zi_5.toInt ∧ zi_5.toInt ≤ 11 := by omega
  refine lv_istore_n (lv' := [(2, .int zi_5), (0, .ref zy), (1, .int zia)]) hx hb dX11_layDate_12 rfl hl (by decide) rfl (fun ls hl => ?_)
  refine lv_aload_n hx hb dX11_layDate_13 rfl (lv_at hl 1 rfl) ?_
  refine ht_getr (C := RX11) (T := TX11) (N := 28) hx hb hts (by decide +kernel) hown hK hP hs t_zy (by decide) rfl rfl 0 (by decide) (hts (.fieldLink RX11 7 "DripStoneModel" "z" "[I") (by decide +kernel)) (fun _ h9 => h9) rfl dX11_layDate_14 ?_
  refine lv_iload_n hx hb dX11_layDate_17 rfl (lv_at hl 2 rfl) ?_
  refine lv_iconst (v := 4) hx hb dX11_layDate_18 (by decide) ?_
  refine lv_iadd hx hb dX11_layDate_19 ?_
  refine lv_topi (fun zi_10 ezi_10 => ?_)
  have tzi_10 : zi_10.toInt = zia.toInt + (4 : Int) := by rw [ezi_10]; exact tiadd (rfl) (show (4 : Int32).toInt = 4 by decide) (by omega) (by omega)
  refine ht_iald (n := 392) (q := 0) hx hb hK hP hs t_1 (by decide) rfl rfl ⟨by omega, by omega⟩ dX11_layDate_20 ?_
  refine lv_topi (fun zi_11 ezi_11 => ?_)
  have la_12 : zi_11.toInt = zA (zI (zR zy 0)) (4 + zia.toInt) := (congrArg Int32.toInt (show zI (zR zy 0) zi_10.toNatClampNeg = zi_11 from ezi_11.symm).symm).trans (congrArg (zA (zI (zR zy 0))) (show zi_10.toInt = 4 + zia.toInt from by omega))
  refine lv_iconst (v := 1) hx hb dX11_layDate_21 (by decide) ?_
  have jn_19 : ∀ (zi_18 : Int32) (H : Heap) (locs : List Loc) (ls : Array Slot), (ZI (zI (zR zy 0))) → va_P (dC, dI) vwCl (WL cy zL zT zR zI zJ) H → va_D A (WL cy zL zT zR zI zJ) → va_S A s.heap H locs → lv_has ls 5 [(0, .ref zy), (1, .int zia), (2, .int zi_5)] → W p l e ({ frames := 1, cells := 0, slots := 0, locals := 23 } : Room) s m ([.ref zy, .int zia] : List Value).toArray below meth c H locs 0 0 Q (F0 m 38 ls [.int zi_18]) := by
    intro zi_18 H locs ls e_jn_19_0 hP hD hS hl
    refine lv_istore_n (lv' := [(3, .int zi_18), (0, .ref zy), (1, .int zia), (2, .int zi_5)]) hx hb dX11_layDate_38 rfl hl (by decide) rfl (fun ls hl => ?_)
    refine lv_iconst (v := 0) hx hb dX11_layDate_39 (by decide) ?_
    refine lv_istore (lv' := [(4, .int 0), (3, .int zi_18), (0, .ref zy), (1, .int zia), (2, .int zi_5)]) hx hb dX11_layDate_40 hl (by decide) rfl (fun ls hl => ?_)
    have lp_152 : ∀ (n : Nat) (zi_124 : Int32) (zI_125 : Nat → Nat → Int32) (H : Heap) (locs : List Loc) (ls : Array Slot), (24 - zi_124.toInt).toNat = n → (0 ≤ zi_124.toInt ∧ zi_124.toInt ≤ 24) → (WM [10400] AL zT zR zI zI_125) → (ZI (zI_125 (zR zy 0))) → va_P (dC, dI) vwCl (WL cy zL zT zR zI_125 zJ) H → va_D A (WL cy zL zT zR zI_125 zJ) → va_S A s.heap H locs → lv_has ls 5 [(0, .ref zy), (1, .int zia), (2, .int zi_5), (3, .int zi_18), (4, .int zi_124)] → W p l e ({ frames := 1, cells := 0, slots := 0, locals := 23 } : Room) s m ([.ref zy, .int zia] : List Value).toArray below meth c H locs 0 0 Q (F0 m 42 ls []) := by
      intro n
      induction n using Nat.strongRecOn with
      | _ n ih_152 =>
        intro zi_124 zI_125 H locs ls hn b_zi_124 h_zI_125 e_lp_152_0 hP hD hS hl
        refine lv_iload hx hb dX11_layDate_42 (lv_at hl 4 rfl) ?_
        refine lv_bipush (v := 24) hx hb dX11_layDate_44 (by decide) ?_
        refine lv_icmp_ge (tgt := 89) hx hb dX11_layDate_46 (by decide) (fun c_153 => ?_) (fun c_153 => ?_)
        · have f_154 : zi_124.toInt ≥ (24 : Int) := ic_ge (rfl) (show (24 : Int32).toInt = 24 by decide) c_153
          subst hQ
          exact W.vret hx hb hr (fun t ht hW => ⟨⟨zI_125, rfl, h_zI_125, ⟨by rw [ht]; exact hP, va_K.moved hW.alike hK, hD⟩⟩, hS.F ht⟩) hS.2.2 dX11_layDate_89
        · have f_154 : ¬ (zi_124.toInt ≥ (24 : Int)) := ic_nge (rfl) (show (24 : Int32).toInt = 24 by decide) c_153
          refine lv_iload hx hb dX11_layDate_49 (lv_at hl 4 rfl) ?_
          refine lv_aload_n hx hb dX11_layDate_51 rfl (lv_at hl 0 rfl) ?_
          refine ht_getr (C := RX11) (T := TX11) (N := 28) hx hb hts (by decide +kernel) hown hK hP hs t_zy (by decide) rfl rfl 0 (by decide) (hts (.fieldLink RX11 7 "DripStoneModel" "z" "[I") (by decide +kernel)) (fun _ h9 => h9) rfl dX11_layDate_52 ?_
          refine lv_iload_n hx hb dX11_layDate_55 rfl (lv_at hl 1 rfl) ?_
          refine lv_iconst (v := 2) hx hb dX11_layDate_56 (by decide) ?_
          refine lv_iadd hx hb dX11_layDate_57 ?_
          refine lv_topi (fun zi_155 ezi_155 => ?_)
          have tzi_155 : zi_155.toInt = zia.toInt + (2 : Int) := by rw [ezi_155]; exact tiadd (rfl) (show (2 : Int32).toInt = 2 by decide) (by omega) (by omega)
          refine ht_iald (n := 392) (q := 0) hx hb hK hP hs t_1 (by decide) rfl rfl ⟨by omega, by omega⟩ dX11_layDate_58 ?_
          refine lv_topi (fun zi_156 ezi_156 => ?_)
          have la_157 : zi_156.toInt = zA (zI_125 (zR zy 0)) (2 + zia.toInt) := (congrArg Int32.toInt (show zI_125 (zR zy 0) zi_155.toNatClampNeg = zi_156 from ezi_156.symm).symm).trans (congrArg (zA (zI_125 (zR zy 0))) (show zi_155.toInt = 2 + zia.toInt from by omega))
          have jn_165 : ∀  (H : Heap) (locs : List Loc) (ls : Array Slot), (ZI (zI_125 (zR zy 0))) → va_P (dC, dI) vwCl (WL cy zL zT zR zI_125 zJ) H → va_D A (WL cy zL zT zR zI_125 zJ) → va_S A s.heap H locs → lv_has ls 5 [(0, .ref zy), (1, .int zia), (2, .int zi_5), (3, .int zi_18), (4, .int zi_124)] → W p l e ({ frames := 1, cells := 0, slots := 0, locals := 23 } : Room) s m ([.ref zy, .int zia] : List Value).toArray below meth c H locs 0 0 Q (F0 m 68 ls []) := by
            intro  H locs ls e_jn_165_0 hP hD hS hl
            refine lv_aload_n hx hb dX11_layDate_68 rfl (lv_at hl 0 rfl) ?_
            refine ht_getr (C := RX11) (T := TX11) (N := 28) hx hb hts (by decide +kernel) hown hK hP hs t_zy (by decide) rfl rfl 9 (by decide) (hts (.fieldLink RX11 22 "DripStoneModel" "mayYears" "[I") (by decide +kernel)) (fun _ h9 => h9) rfl dX11_layDate_69 ?_
            have t_166 : zT (zR zy 9) = 104 := sk_f hs t_zy (by decide) rfl (by decide)
            refine lv_iload_n hx hb dX11_layDate_72 rfl (lv_at hl 2 rfl) ?_
            refine lv_dup2_11 hx hb dX11_layDate_73 rfl rfl ?_
            refine ht_iald (n := 12) (q := 0) hx hb hK hP hs t_166 (by decide) rfl rfl ⟨by omega, by omega⟩ dX11_layDate_74 ?_
            refine lv_topi (fun zi_167 ezi_167 => ?_)
            refine lv_iconst (v := 1) hx hb dX11_layDate_75 (by decide) ?_
            refine lv_iload hx hb dX11_layDate_76 (lv_at hl 4 rfl) ?_
            refine lv_ishl hx hb dX11_layDate_78 ?_
            refine lv_topi (fun zi_168 ezi_168 => ?_)
            have rzi_168 := rng zi_168
            refine lv_iconst (v := (-1)) hx hb dX11_layDate_79 (by decide) ?_
            refine lv_ixor hx hb dX11_layDate_80 ?_
            refine lv_topi (fun zi_169 ezi_169 => ?_)
            have rzi_169 := rng zi_169
            refine lv_iand hx hb dX11_layDate_81 ?_
            refine lv_topi (fun zi_170 ezi_170 => ?_)
            have rzi_170 := rng zi_170
            refine ht_iast (v := zi_170) (n := 12) (q := 0) hx hb hK hP hD hS hs t_166 (by decide) rfl rfl ⟨by omega, by omega⟩ dX11_layDate_82 (fun H locs hP hD hS => ?_)
            have h_zI_171 : WM [10400] AL zT zR zI (u2 zI_125 (zR zy 9) zi_5.toNatClampNeg zi_170) := h_zI_125.putA hs t_166 rfl (rgF _) (by decide) (fun h => absurd h (by decide)) (by decide) trivial
            generalize uzI_171 : u2 zI_125 (zR zy 9) zi_5.toNatClampNeg zi_170 = zI_171 at hP hD h_zI_171
            obtain ⟨zi_172, ezi_172⟩ : ∃ y : Int32, y = zi_124 + 1 := ⟨_, rfl⟩
            have tzi_172 : zi_172.toInt = zi_124.toInt + 1 := by rw [ezi_172]; exact tadd rfl (show (1 : Int32).toInt = 1 by decide) (by omega) (by omega)
            refine lv_iinc (v := zi_172) (lv' := [(4, .int zi_172), (0, .ref zy), (1, .int zia), (2, .int zi_5), (3, .int zi_18)]) hx hb dX11_layDate_83 hl (k := 4) rfl (by rw [ezi_172]; rfl) (by decide) rfl (fun ls hl => ?_)
            refine lv_goto (tgt := 42) hx hb dX11_layDate_86 (by decide) ?_
            have zz_173 : ZI (zI_171 (zR zy 0)) := by rw [(show zI_171 (zR zy 0) = zI_125 (zR zy 0) from by rw [← uzI_171]; exact u2_a (tne t_1 t_166 (by decide)))]; exact e_jn_165_0
            exact ih_152 (24 - zi_172.toInt).toNat (by omega) zi_172 zI_171 _ _ _ rfl (by omega) h_zI_171 zz_173 hP hD hS (lv_sub hl [1, 2, 3, 4, 0] rfl)
          refine lv_icmp_lt (tgt := 68) hx hb dX11_layDate_59 (by decide) (fun c_174 => ?_) (fun c_174 => ?_)
          · have f_175 : zi_124.toInt < zi_156.toInt := ic_lt (rfl) (rfl) c_174
            exact jn_165  _ _ _ e_lp_152_0 hP hD hS (lv_sub hl [0, 1, 2, 3, 4] rfl)
          · have f_175 : ¬ (zi_124.toInt < zi_156.toInt) := ic_nlt (rfl) (rfl) c_174
            refine lv_iload hx hb dX11_layDate_62 (lv_at hl 4 rfl) ?_
            refine lv_iload_n hx hb dX11_layDate_64 rfl (lv_at hl 3 rfl) ?_
            refine lv_icmp_le (tgt := 83) hx hb dX11_layDate_65 (by decide) (fun c_178 => ?_) (fun c_178 => ?_)
            · have f_179 : zi_124.toInt ≤ zi_18.toInt := ic_le (rfl) (rfl) c_178
              obtain ⟨zi_180, ezi_180⟩ : ∃ y : Int32, y = zi_124 + 1 := ⟨_, rfl⟩
              have tzi_180 : zi_180.toInt = zi_124.toInt + 1 := by rw [ezi_180]; exact tadd rfl (show (1 : Int32).toInt = 1 by decide) (by omega) (by omega)
              refine lv_iinc (v := zi_180) (lv' := [(4, .int zi_180), (0, .ref zy), (1, .int zia), (2, .int zi_5), (3, .int zi_18)]) hx hb dX11_layDate_83 hl (k := 4) rfl (by rw [ezi_180]; rfl) (by decide) rfl (fun ls hl => ?_)
              refine lv_goto (tgt := 42) hx hb dX11_layDate_86 (by decide) ?_
              exact ih_152 (24 - zi_180.toInt).toNat (by omega) zi_180 zI_125 _ _ _ rfl (by omega) h_zI_125 e_lp_152_0 hP hD hS (lv_sub hl [1, 2, 3, 4, 0] rfl)
            · have f_179 : ¬ (zi_124.toInt ≤ zi_18.toInt) := ic_nle (rfl) (rfl) c_178
              exact jn_165  _ _ _ e_lp_152_0 hP hD hS (lv_sub hl [0, 1, 2, 3, 4] rfl)
    have qc_0 : (0 : Int32).toInt = 0 := by decide
    exact lp_152 _ (0 : Int32) zI _ _ _ rfl (by decide) h_zI e_jn_19_0 hP hD hS (lv_sub hl [2, 3, 4, 1, 0] rfl)
  refine lv_icmp_ne (tgt := 30) hx hb dX11_layDate_22 (by decide) (fun c_181 => ?_) (fun c_181 => ?_)
  · have f_182 : zi_11.toInt ≠ (1 : Int) := ic_ne (rfl) (show (1 : Int32).toInt = 1 by decide) c_181
    refine lv_aload_n hx hb dX11_layDate_30 rfl (lv_at hl 1 rfl) ?_
    refine ht_getr (C := RX11) (T := TX11) (N := 28) hx hb hts (by decide +kernel) hown hK hP hs t_zy (by decide) rfl rfl 0 (by decide) (hts (.fieldLink RX11 7 "DripStoneModel" "z" "[I") (by decide +kernel)) (fun _ h9 => h9) rfl dX11_layDate_31 ?_
    refine lv_iload_n hx hb dX11_layDate_34 rfl (lv_at hl 2 rfl) ?_
    refine lv_iconst (v := 3) hx hb dX11_layDate_35 (by decide) ?_
    refine lv_iadd hx hb dX11_layDate_36 ?_
    refine lv_topi (fun zi_183 ezi_183 => ?_)
    have tzi_183 : zi_183.toInt = zia.toInt + (3 : Int) := by rw [ezi_183]; exact tiadd (rfl) (show (3 : Int32).toInt = 3 by decide) (by omega) (by omega)
    refine ht_iald (n := 392) (q := 0) hx hb hK hP hs t_1 (by decide) rfl rfl ⟨by omega, by omega⟩ dX11_layDate_37 ?_
    refine lv_topi (fun zi_184 ezi_184 => ?_)
    have la_185 : zi_184.toInt = zA (zI (zR zy 0)) (3 + zia.toInt) := (congrArg Int32.toInt (show zI (zR zy 0) zi_183.toNatClampNeg = zi_184 from ezi_184.symm).symm).trans (congrArg (zA (zI (zR zy 0))) (show zi_183.toInt = 3 + zia.toInt from by omega))
    exact jn_19 zi_184 _ _ _ hz hP hD hS (lv_sub hl [1, 2, 0] rfl)
  · have f_182 : ¬ (zi_11.toInt ≠ (1 : Int)) := ic_nne (rfl) (show (1 : Int32).toInt = 1 by decide) c_181
    refine lv_bipush (v := 23) hx hb dX11_layDate_25 (by decide) ?_
    refine lv_goto (tgt := 38) hx hb dX11_layDate_27 (by decide) ?_
    exact jn_19 (23 : Int32) _ _ _ hz hP hD hS (lv_sub hl [1, 2, 0] rfl)
set_option maxHeartbeats 8000000 in
set_option maxRecDepth 100000 in
theorem t_X11_lay (l : Launch) (dC : Nat → ClassId) (dI : Nat → Nat → Nat) (cy : Nat → ClassId) (sz : Nat) (zL : List Nat) (zT : Nat → Nat) (zR : Nat → Nat → Nat) (zI : Nat → Nat → Int32) (zJ : Nat → Nat → Int64) (zy : Nat) (zia : Int32) (zib : Int32) (hs : SKP zL zT zR) (hw : WT zT zR zI) (t_zy : zT zy = 18) (b_zia : 0 ≤ zia.toInt ∧ zia.toInt ≤ 1) (hz : ZI (zI (zR zy 0))) (hx1 : BQ (zI (zR zy 0)) zia.toInt zib) : Met l yX11_lay wsX11_lay ({ frames := 2, cells := 0, slots := 0, locals := 47 } : Room) (va_Pc [.ref zy, .int zia, .int zib] (PRE dC dI cy (WL cy zL zT zR zI zJ) sz)) (va_Qv (fun (u : (Nat → Nat → Int32)) => (WM [1806, 1807, 10300, 10400, 10500, 10600, 10700] AL zT zR zI u) ∧ (PO (zI (zR zy 0)) (u (zR zy 8)) zia.toInt (u zy 6).toInt) ∧ ((u zy 6).toInt = PLZ (zI (zR zy 0)) zia.toInt)) (fun u t => POST dC dI cy (va_A (WL cy zL zT zR zI zJ) sz) (WL cy zL zT zR u zJ) t) (va_A (WL cy zL zT zR zI zJ) sz)) 0 0 (va_A (WL cy zL zT zR zI zJ) sz) := by
  refine Met.ofW (cc := cX11_lay) (maxL := 5) (ret := none) (by decide) rfl ?_
  intro p e s m args below meth c s₁ B hml hv
  obtain ⟨rfl, hsz, hP, hK, hD0, hN⟩ := hv
  have hx := B.exec
  have hb := B.bytes
  have hr := B.returns
  have hts := atoms_spec (ws := wsX11_lay) B.pre
  have hown : s.vm.findClass RX11 = some m.cls := findClass_of_methodNamed B.named
  have hlocks := B.notSynchronized
  subst hsz
  have hD := hD0.self (sz := s.heap.size)
  generalize hAe : va_A (WL cy zL zT zR zI zJ) s.heap.size = A at hD ⊢
  have hA : ∀ q : Nat, s.heap.size ≤ q → A q := fun q h => by rw [← hAe]; exact Or.inr h
  have hS : va_S A s.heap s.heap [] := va_S.rf
  have hP : va_P (dC, dI) vwCl (WL cy zL zT zR zI zJ) s.heap := hP
  have hl := lv_entry ([.ref zy, .int zia, .int zib] : List Value) (n := 5) (Nat.le_of_ble_eq_true rfl)
  rw [lg_entry_eq]
  generalize (lg_sl ([.ref zy, .int zia, .int zib] : List Value) ++ List.replicate (5 - (lg_sl ([.ref zy, .int zia, .int zib] : List Value)).length) Slot.unset).toArray = ls at hl ⊢
  have hl : lv_has ls 5 [(0, .ref zy), (1, .int zia), (2, .int zib)] := hl
  refine w_q (fun Q hQ => ?_)
  have h_zI : WM [1806, 1807, 10300, 10400, 10500, 10600, 10700] AL zT zR zI zI := WM.rf hw
  have z5_1 : 0 ≤ zA (zI (zR zy 0)) (5 + zia.toInt) ∧ zA (zI (zR zy 0)) (5 + zia.toInt) ≤ 12 := hz.s5 (by omega)
  refine lv_aload_n hx hb dX11_lay_0 rfl (lv_at hl 0 rfl) ?_
  refine lv_iconst (v := 0) hx hb dX11_lay_1 (by decide) ?_
  refine ht_puti (v := (0 : Int32)) (ty := .int) (C := RX11) (T := TX11) (N := 28) hx hb hts (by decide +kernel) tyX11 tyX11_ok nmX11 hown hK hP hD hS hs t_zy (by decide) rfl rfl 6 (by decide) (hts (.fieldLink RX11 192 "DripStoneModel" "places" "I") (by decide +kernel)) (fun _ h9 => h9) rfl (by decide +kernel) rfl rfl rfl dX11_lay_2 (fun H locs hP hD hS => ?_)
  have h_zI_2 : WM [1806, 1807, 10300, 10400, 10500, 10600, 10700] AL zT zR zI (u2 zI zy 6 (0 : Int32)) := h_zI.put hs t_zy rfl (by decide) (by decide) (fun h => absurd h (by decide)) (by decide) trivial
  generalize uzI_2 : u2 zI zy 6 (0 : Int32) = zI_2 at hP hD h_zI_2
  refine lv_aload_n hx hb dX11_lay_5 rfl (lv_at hl 0 rfl) ?_
  refine lv_aload_n hx hb dX11_lay_6 rfl (lv_at hl 0 rfl) ?_
  refine ht_getr (C := RX11) (T := TX11) (N := 28) hx hb hts (by decide +kernel) hown hK hP hs t_zy (by decide) rfl rfl 0 (by decide) (hts (.fieldLink RX11 7 "DripStoneModel" "z" "[I") (by decide +kernel)) (fun _ h9 => h9) rfl dX11_lay_7 ?_
  have t_3 : zT (zR zy 0) = 100 := sk_f hs t_zy (by decide) rfl (by decide)
  refine lv_iconst (v := 3) hx hb dX11_lay_10 (by decide) ?_
  refine lv_iload_n hx hb dX11_lay_11 rfl (lv_at hl 1 rfl) ?_
  refine lv_iadd hx hb dX11_lay_12 ?_
  refine lv_topi (fun zi_4 ezi_4 => ?_)
  have tzi_4 : zi_4.toInt = (3 : Int) + zia.toInt := by rw [ezi_4]; exact tiadd (show (3 : Int32).toInt = 3 by decide) (rfl) (by omega) (by omega)
  refine ht_iald (n := 392) (q := 0) hx hb hK hP hs t_3 (by decide) rfl rfl ⟨by omega, by omega⟩ dX11_lay_13 ?_
  refine lv_topi (fun zi_5 ezi_5 => ?_)
  have la_6 : zi_5.toInt = zA (zI_2 (zR zy 0)) (3 + zia.toInt) := (congrArg Int32.toInt (show zI_2 (zR zy 0) zi_4.toNatClampNeg = zi_5 from ezi_5.symm).symm).trans (congrArg (zA (zI_2 (zR zy 0))) (show zi_4.toInt = 3 + zia.toInt from by omega))
  have zz_8 : ZI (zI_2 (zR zy 0)) := by rw [(show zI_2 (zR zy 0) = zI (zR zy 0) from by rw [← uzI_2]; exact u2_a (tne t_3 t_zy (by decide)))]; exact hz
  have tz_7 : 1 ≤ zi_5.toInt ∧ zi_5.toInt ≤ 4 := by rw [← (show zI_2 (zR zy 0) zi_4.toNatClampNeg = zi_5 from ezi_5.symm)]; exact ZI.g3 zz_8 (by omega) (by omega)
  have zq_9 : zA (zI_2 (zR zy 0)) (3 + zia.toInt) = zA (zI (zR zy 0)) (3 + zia.toInt) := congrArg (fun w9 => zA w9 (3 + zia.toInt)) (h_zI_2.2.row t_3 (by decide) (by decide))
  refine ht_puti (v := zi_5) (ty := .int) (C := RX11) (T := TX11) (N := 28) hx hb hts (by decide +kernel) tyX11 tyX11_ok nmX11 hown hK hP hD hS hs t_zy (by decide) rfl rfl 7 (by decide) (hts (.fieldLink RX11 195 "DripStoneModel" "mostNow" "I") (by decide +kernel)) (fun _ h9 => h9) rfl (by decide +kernel) rfl rfl rfl dX11_lay_14 (fun H locs hP hD hS => ?_)
  have h_zI_10 : WM [1806, 1807, 10300, 10400, 10500, 10600, 10700] AL zT zR zI (u2 zI_2 zy 7 zi_5) := h_zI_2.put hs t_zy rfl (by omega) (by decide) (fun h => absurd h (by decide)) (by decide) trivial
  generalize uzI_10 : u2 zI_2 zy 7 zi_5 = zI_10 at hP hD h_zI_10
  refine lv_iconst (v := 0) hx hb dX11_lay_17 (by decide) ?_
  refine lv_istore_n (lv' := [(3, .int 0), (0, .ref zy), (1, .int zia), (2, .int zib)]) hx hb dX11_lay_18 rfl hl (by decide) rfl (fun ls hl => ?_)
  refine lv_iconst (v := 0) hx hb dX11_lay_19 (by decide) ?_
  refine lv_istore (lv' := [(4, .int 0), (3, .int 0), (0, .ref zy), (1, .int zia), (2, .int zib)]) hx hb dX11_lay_20 hl (by decide) rfl (fun ls hl => ?_)
  have lp_453 : ∀ (n : Nat) (zi_402 : Int32) (zi_403 : Int32) (zI_404 : Nat → Nat → Int32) (zi_405 : Int32) (H : Heap) (locs : List Loc) (ls : Array Slot), (12 - zi_403.toInt).toNat = n → (0 ≤ zi_402.toInt ∧ zi_402.toInt ≤ 1) → (0 ≤ zi_403.toInt ∧ zi_403.toInt ≤ 12) → (WM [1806, 1807, 10300, 10400, 10500, 10600, 10700] AL zT zR zI zI_404) → (0 ≤ zi_405.toInt ∧ zi_405.toInt ≤ 12) → (zi_405.toInt = PL (KF (zI (zR zy 0)) zia.toInt) (zi_403.toInt).toNat) → (PX (zI (zR zy 0)) (zI_404 (zR zy 8)) zia.toInt zi_405.toInt zi_403.toInt) → (zi_405.toInt ≤ zi_403.toInt ∧ zi_403.toInt ≤ zA (zI (zR zy 0)) (5 + zia.toInt)) → (ZI (zI_404 (zR zy 0))) → (zI_404 zy 6 = zi_405) → va_P (dC, dI) vwCl (WL cy zL zT zR zI_404 zJ) H → va_D A (WL cy zL zT zR zI_404 zJ) → va_S A s.heap H locs → lv_has ls 5 [(0, .ref zy), (1, .int zia), (2, .int zib), (3, .int zi_402), (4, .int zi_403)] → W p l e ({ frames := 2, cells := 0, slots := 0, locals := 47 } : Room) s m ([.ref zy, .int zia, .int zib] : List Value).toArray below meth c H locs 0 0 Q (F0 m 22 ls []) := by
    intro n
    induction n using Nat.strongRecOn with
    | _ n ih_453 =>
      intro zi_402 zi_403 zI_404 zi_405 H locs ls hn b_zi_402 b_zi_403 h_zI_404 b_zi_405 e_lp_453_0 e_lp_453_1 e_lp_453_2 e_lp_453_3 e_lp_453_4 hP hD hS hl
      refine lv_iload hx hb dX11_lay_22 (lv_at hl 4 rfl) ?_
      refine lv_aload_n hx hb dX11_lay_24 rfl (lv_at hl 0 rfl) ?_
      refine ht_getr (C := RX11) (T := TX11) (N := 28) hx hb hts (by decide +kernel) hown hK hP hs t_zy (by decide) rfl rfl 0 (by decide) (hts (.fieldLink RX11 7 "DripStoneModel" "z" "[I") (by decide +kernel)) (fun _ h9 => h9) rfl dX11_lay_25 ?_
      refine lv_iconst (v := 5) hx hb dX11_lay_28 (by decide) ?_
      refine lv_iload_n hx hb dX11_lay_29 rfl (lv_at hl 1 rfl) ?_
      refine lv_iadd hx hb dX11_lay_30 ?_
      refine lv_topi (fun zi_454 ezi_454 => ?_)
      have tzi_454 : zi_454.toInt = (5 : Int) + zia.toInt := by rw [ezi_454]; exact tiadd (show (5 : Int32).toInt = 5 by decide) (rfl) (by omega) (by omega)
      refine ht_iald (n := 392) (q := 0) hx hb hK hP hs t_3 (by decide) rfl rfl ⟨by omega, by omega⟩ dX11_lay_31 ?_
      refine lv_topi (fun zi_455 ezi_455 => ?_)
      have la_456 : zi_455.toInt = zA (zI_404 (zR zy 0)) (5 + zia.toInt) := (congrArg Int32.toInt (show zI_404 (zR zy 0) zi_454.toNatClampNeg = zi_455 from ezi_455.symm).symm).trans (congrArg (zA (zI_404 (zR zy 0))) (show zi_454.toInt = 5 + zia.toInt from by omega))
      have tz_457 : 0 ≤ zi_455.toInt ∧ zi_455.toInt ≤ 12 := by rw [← (show zI_404 (zR zy 0) zi_454.toNatClampNeg = zi_455 from ezi_455.symm)]; exact ZI.g5 e_lp_453_3 (by omega) (by omega)
      have zq_458 : zA (zI_404 (zR zy 0)) (5 + zia.toInt) = zA (zI (zR zy 0)) (5 + zia.toInt) := congrArg (fun w9 => zA w9 (5 + zia.toInt)) (h_zI_404.2.row t_3 (by decide) (by decide))
      refine lv_icmp_ge (tgt := 130) hx hb dX11_lay_32 (by decide) (fun c_459 => ?_) (fun c_459 => ?_)
      · have f_460 : zi_403.toInt ≥ zi_455.toInt := ic_ge (rfl) (rfl) c_459
        refine lv_iconst (v := 0) hx hb dX11_lay_130 (by decide) ?_
        refine lv_istore (lv' := [(4, .int 0), (0, .ref zy), (1, .int zia), (2, .int zib), (3, .int zi_402)]) hx hb dX11_lay_131 hl (by decide) rfl (fun ls hl => ?_)
        have lp_546 : ∀ (n : Nat) (zi_528 : Int32) (zI_529 : Nat → Nat → Int32) (H : Heap) (locs : List Loc) (ls : Array Slot), (6 - zi_528.toInt).toNat = n → (0 ≤ zi_528.toInt ∧ zi_528.toInt ≤ 6) → (WM [1806, 1807, 10300, 10400, 10500, 10600, 10700] AL zT zR zI zI_529) → (PO (zI (zR zy 0)) (zI_529 (zR zy 8)) zia.toInt zi_405.toInt) → (zi_405.toInt = PLZ (zI (zR zy 0)) zia.toInt) → (ZI (zI_529 (zR zy 0))) → (zI_529 zy 6 = zi_405) → va_P (dC, dI) vwCl (WL cy zL zT zR zI_529 zJ) H → va_D A (WL cy zL zT zR zI_529 zJ) → va_S A s.heap H locs → lv_has ls 5 [(0, .ref zy), (1, .int zia), (2, .int zib), (3, .int zi_402), (4, .int zi_528)] → W p l e ({ frames := 2, cells := 0, slots := 0, locals := 47 } : Room) s m ([.ref zy, .int zia, .int zib] : List Value).toArray below meth c H locs 0 0 Q (F0 m 133 ls []) := by
          intro n
          induction n using Nat.strongRecOn with
          | _ n ih_546 =>
            intro zi_528 zI_529 H locs ls hn b_zi_528 h_zI_529 e_lp_546_0 e_lp_546_1 e_lp_546_2 e_lp_546_3 hP hD hS hl
            refine lv_iload hx hb dX11_lay_133 (lv_at hl 4 rfl) ?_
            refine lv_aload_n hx hb dX11_lay_135 rfl (lv_at hl 0 rfl) ?_
            refine ht_getr (C := RX11) (T := TX11) (N := 28) hx hb hts (by decide +kernel) hown hK hP hs t_zy (by decide) rfl rfl 0 (by decide) (hts (.fieldLink RX11 7 "DripStoneModel" "z" "[I") (by decide +kernel)) (fun _ h9 => h9) rfl dX11_lay_136 ?_
            refine lv_bipush (v := 9) hx hb dX11_lay_139 (by decide) ?_
            refine lv_iload_n hx hb dX11_lay_141 rfl (lv_at hl 1 rfl) ?_
            refine lv_iadd hx hb dX11_lay_142 ?_
            refine lv_topi (fun zi_547 ezi_547 => ?_)
            have tzi_547 : zi_547.toInt = (9 : Int) + zia.toInt := by rw [ezi_547]; exact tiadd (show (9 : Int32).toInt = 9 by decide) (rfl) (by omega) (by omega)
            refine ht_iald (n := 392) (q := 0) hx hb hK hP hs t_3 (by decide) rfl rfl ⟨by omega, by omega⟩ dX11_lay_143 ?_
            refine lv_topi (fun zi_548 ezi_548 => ?_)
            have la_549 : zi_548.toInt = zA (zI_529 (zR zy 0)) (9 + zia.toInt) := (congrArg Int32.toInt (show zI_529 (zR zy 0) zi_547.toNatClampNeg = zi_548 from ezi_548.symm).symm).trans (congrArg (zA (zI_529 (zR zy 0))) (show zi_547.toInt = 9 + zia.toInt from by omega))
            have tz_550 : 0 ≤ zi_548.toInt ∧ zi_548.toInt ≤ 6 := by rw [← (show zI_529 (zR zy 0) zi_547.toNatClampNeg = zi_548 from ezi_548.symm)]; exact ZI.g9 e_lp_546_2 (by omega) (by omega)
            have zq_551 : zA (zI_529 (zR zy 0)) (9 + zia.toInt) = zA (zI (zR zy 0)) (9 + zia.toInt) := congrArg (fun w9 => zA w9 (9 + zia.toInt)) (h_zI_529.2.row t_3 (by decide) (by decide))
            refine lv_icmp_ge (tgt := 164) hx hb dX11_lay_144 (by decide) (fun c_552 => ?_) (fun c_552 => ?_)
            · have f_553 : zi_528.toInt ≥ zi_548.toInt := ic_ge (rfl) (rfl) c_552
              refine lv_iconst (v := 0) hx hb dX11_lay_164 (by decide) ?_
              refine lv_istore (lv' := [(4, .int 0), (0, .ref zy), (1, .int zia), (2, .int zib), (3, .int zi_402)]) hx hb dX11_lay_165 hl (by decide) rfl (fun ls hl => ?_)
              have lp_663 : ∀ (n : Nat) (zi_640 : Int32) (zI_641 : Nat → Nat → Int32) (H : Heap) (locs : List Loc) (ls : Array Slot), (8 - zi_640.toInt).toNat = n → (0 ≤ zi_640.toInt ∧ zi_640.toInt ≤ 8) → (WM [1806, 1807, 10300, 10400, 10500, 10600, 10700] AL zT zR zI zI_641) → (PO (zI (zR zy 0)) (zI_641 (zR zy 8)) zia.toInt zi_405.toInt) → (zi_405.toInt = PLZ (zI (zR zy 0)) zia.toInt) → (ZI (zI_641 (zR zy 0))) → (zI_641 zy 6 = zi_405) → va_P (dC, dI) vwCl (WL cy zL zT zR zI_641 zJ) H → va_D A (WL cy zL zT zR zI_641 zJ) → va_S A s.heap H locs → lv_has ls 5 [(0, .ref zy), (1, .int zia), (2, .int zib), (3, .int zi_402), (4, .int zi_640)] → W p l e ({ frames := 2, cells := 0, slots := 0, locals := 47 } : Room) s m ([.ref zy, .int zia, .int zib] : List Value).toArray below meth c H locs 0 0 Q (F0 m 167 ls []) := by
                intro n
                induction n using Nat.strongRecOn with
                | _ n ih_663 =>
                  intro zi_640 zI_641 H locs ls hn b_zi_640 h_zI_641 e_lp_663_0 e_lp_663_1 e_lp_663_2 e_lp_663_3 hP hD hS hl
                  refine lv_iload hx hb dX11_lay_167 (lv_at hl 4 rfl) ?_
                  refine lv_aload_n hx hb dX11_lay_169 rfl (lv_at hl 0 rfl) ?_
                  refine ht_getr (C := RX11) (T := TX11) (N := 28) hx hb hts (by decide +kernel) hown hK hP hs t_zy (by decide) rfl rfl 0 (by decide) (hts (.fieldLink RX11 7 "DripStoneModel" "z" "[I") (by decide +kernel)) (fun _ h9 => h9) rfl dX11_lay_170 ?_
                  refine lv_bipush (v := 11) hx hb dX11_lay_173 (by decide) ?_
                  refine ht_iald (n := 392) (q := 0) hx hb hK hP hs t_3 (by decide) rfl rfl ⟨by decide, by decide⟩ dX11_lay_175 ?_
                  refine lv_topi (fun zi_664 ezi_664 => ?_)
                  have la_665 : zi_664.toInt = zA (zI_641 (zR zy 0)) (11) := (congrArg Int32.toInt (show zI_641 (zR zy 0) (11 : Int32).toNatClampNeg = zi_664 from ezi_664.symm).symm).trans (congrArg (zA (zI_641 (zR zy 0))) (show (11 : Int32).toInt = 11 from by decide))
                  have tz_666 : 0 ≤ zi_664.toInt ∧ zi_664.toInt ≤ 8 := by rw [← (show zI_641 (zR zy 0) (11 : Int32).toNatClampNeg = zi_664 from ezi_664.symm)]; exact ZI.g11 e_lp_663_2 (by decide) (by decide)
                  have zq_667 : zA (zI_641 (zR zy 0)) (11) = zA (zI (zR zy 0)) (11) := congrArg (fun w9 => zA w9 (11)) (h_zI_641.2.row t_3 (by decide) (by decide))
                  refine lv_icmp_ge (tgt := 205) hx hb dX11_lay_176 (by decide) (fun c_668 => ?_) (fun c_668 => ?_)
                  · have f_669 : zi_640.toInt ≥ zi_664.toInt := ic_ge (rfl) (rfl) c_668
                    subst hQ
                    exact W.vret hx hb hr (fun t ht hW => ⟨⟨zI_641, rfl, ⟨h_zI_641, (show PO (zI (zR zy 0)) (zI_641 (zR zy 8)) zia.toInt (zI_641 zy 6).toInt from (by rw [e_lp_663_3]; exact e_lp_663_0)), (show (zI_641 zy 6).toInt = PLZ (zI (zR zy 0)) zia.toInt from (by rw [e_lp_663_3]; exact e_lp_663_1))⟩, ⟨by rw [ht]; exact hP, va_K.moved hW.alike hK, hD⟩⟩, hS.F ht⟩) hS.2.2 dX11_lay_205
                  · have f_669 : ¬ (zi_640.toInt ≥ zi_664.toInt) := ic_nge (rfl) (rfl) c_668
                    refine lv_iload_n hx hb dX11_lay_179 rfl (lv_at hl 2 rfl) ?_
                    refine lv_iload hx hb dX11_lay_180 (lv_at hl 4 rfl) ?_
                    refine lv_ishr hx hb dX11_lay_182 ?_
                    refine lv_topi (fun zi_670 ezi_670 => ?_)
                    have rzi_670 := rng zi_670
                    refine lv_iconst (v := 1) hx hb dX11_lay_183 (by decide) ?_
                    refine lv_iand hx hb dX11_lay_184 ?_
                    refine lv_topi (fun zi_671 ezi_671 => ?_)
                    have tzi_671 : 0 ≤ zi_671.toInt ∧ zi_671.toInt ≤ 1 := by rw [ezi_671]; exact andb (k := 1) (by decide) (by decide) (by decide)
                    refine lv_iconst (v := 1) hx hb dX11_lay_185 (by decide) ?_
                    refine lv_icmp_ne (tgt := 199) hx hb dX11_lay_186 (by decide) (fun c_672 => ?_) (fun c_672 => ?_)
                    · have f_673 : zi_671.toInt ≠ (1 : Int) := ic_ne (rfl) (show (1 : Int32).toInt = 1 by decide) c_672
                      obtain ⟨zi_674, ezi_674⟩ : ∃ y : Int32, y = zi_640 + 1 := ⟨_, rfl⟩
                      have tzi_674 : zi_674.toInt = zi_640.toInt + 1 := by rw [ezi_674]; exact tadd rfl (show (1 : Int32).toInt = 1 by decide) (by omega) (by omega)
                      refine lv_iinc (v := zi_674) (lv' := [(4, .int zi_674), (0, .ref zy), (1, .int zia), (2, .int zib), (3, .int zi_402)]) hx hb dX11_lay_199 hl (k := 4) rfl (by rw [ezi_674]; rfl) (by decide) rfl (fun ls hl => ?_)
                      refine lv_goto (tgt := 167) hx hb dX11_lay_202 (by decide) ?_
                      exact ih_663 (8 - zi_674.toInt).toNat (by omega) zi_674 zI_641 _ _ _ rfl (by omega) h_zI_641 e_lp_663_0 (by omega) e_lp_663_2 e_lp_663_3 hP hD hS (lv_sub hl [1, 2, 3, 4, 0] rfl)
                    · have f_673 : ¬ (zi_671.toInt ≠ (1 : Int)) := ic_nne (rfl) (show (1 : Int32).toInt = 1 by decide) c_672
                      refine lv_aload_n hx hb dX11_lay_189 rfl (lv_at hl 0 rfl) ?_
                      refine lv_aload_n hx hb dX11_lay_190 rfl (lv_at hl 0 rfl) ?_
                      refine lv_iload hx hb dX11_lay_191 (lv_at hl 4 rfl) ?_
                      refine hj_i (ws := (WL cy zL zT zR zI_641 zJ)) (w1 := fun (u : Unit) => (WL cy zL zT zR zI_641 zJ)) (va_runV (As := [.int zi_640]) (rest := [.ref zy]) ⟨hx, hb, hml, hown, hts⟩ (t_X11_dateAt l dC dI cy H.size zL zT zR zI_641 zJ zy zi_640 hs h_zI_641.1 t_zy (by omega)) (cwV 1 hts gX11_lay_X11_dateAt rfl rfl rfl (by decide +kernel) ⟨(Nat.le_of_ble_eq_true rfl), (Nat.le_of_ble_eq_true rfl)⟩) (PRE.v hP hK hD hN (ht_recv hK hP hs t_zy (by decide) rfl rfl)) rfl rfl hl.1 rfl (lv_room (Nat.le_of_ble_eq_true rfl)) dX11_lay_193 ⟨(Nat.le_of_ble_eq_true rfl), (Nat.le_of_ble_eq_true rfl)⟩) hP hD hS hA (fun zi_675 u_677 H locs hw_676 hP hD hS => ?_)
                      obtain ⟨b_zi_675, ps_678⟩ : (278 ≤ zi_675.toInt ∧ zi_675.toInt ≤ 326) ∧ (zi_675.toInt = 278 + 6 * zi_640.toInt) := hw_676
                      have lk_679 : (zI_641 zy 6).toInt = zi_405.toInt := congrArg Int32.toInt e_lp_663_3
                      refine hj_v (ws := (WL cy zL zT zR zI_641 zJ)) (w1 := fun (u : (Nat → Nat → Int32)) => (WL cy zL zT zR u zJ)) (va_runV (As := [.int zi_675]) (rest := []) ⟨hx, hb, hml, hown, hts⟩ (t_X11_layDate l dC dI cy H.size zL zT zR zI_641 zJ zy zi_675 hs h_zI_641.1 t_zy (by omega) e_lp_663_2 (by obtain ⟨q9, q8, q7, q6⟩ := PO.d (d := zi_640) hz hx1 e_lp_663_0 (by omega) (by omega) (by rw [← ezi_670, ← ezi_671]; omega); exact ⟨q9, q8, by rw [e_lp_663_3]; exact q7, by rw [(h_zI_641.2.row t_3 (by decide) (by decide)), show (1 + zi_675.toInt : Int) = 279 + 6 * zi_640.toInt from by omega]; exact q6⟩)) (cwV 1 hts gX11_lay_X11_layDate rfl rfl rfl (by decide +kernel) ⟨(Nat.le_of_ble_eq_true rfl), (Nat.le_of_ble_eq_true rfl)⟩) (PRE.v hP hK hD hN (ht_recv hK hP hs t_zy (by decide) rfl rfl)) rfl rfl hl.1 rfl (lv_room (Nat.le_of_ble_eq_true rfl)) dX11_lay_196 ⟨(Nat.le_of_ble_eq_true rfl), (Nat.le_of_ble_eq_true rfl)⟩) hP hD hS hA (fun zI_683 H locs hw_681 hP hD hS => ?_)
                      have k_zI_683 : WM [10400] AL zT zR zI_641 zI_683 := hw_681
                      have h_zI_683 : WM [1806, 1807, 10300, 10400, 10500, 10600, 10700] AL zT zR zI zI_683 := h_zI_641.tr k_zI_683 (by decide) (fun _ _ => trivial)
                      obtain ⟨zi_684, ezi_684⟩ : ∃ y : Int32, y = zi_640 + 1 := ⟨_, rfl⟩
                      have tzi_684 : zi_684.toInt = zi_640.toInt + 1 := by rw [ezi_684]; exact tadd rfl (show (1 : Int32).toInt = 1 by decide) (by omega) (by omega)
                      refine lv_iinc (v := zi_684) (lv' := [(4, .int zi_684), (0, .ref zy), (1, .int zia), (2, .int zib), (3, .int zi_402)]) hx hb dX11_lay_199 hl (k := 4) rfl (by rw [ezi_684]; rfl) (by decide) rfl (fun ls hl => ?_)
                      refine lv_goto (tgt := 167) hx hb dX11_lay_202 (by decide) ?_
                      have t_685 : zT (zR zy 8) = 103 := sk_f hs t_zy (by decide) rfl (by decide)
                      have zz_686 : ZI (zI_683 (zR zy 0)) := by rw [(k_zI_683.2.row t_3 (by decide) (by decide))]; exact e_lp_663_2
                      exact ih_663 (8 - zi_684.toInt).toNat (by omega) zi_684 zI_683 _ _ _ rfl (by omega) h_zI_683 (by rw [(k_zI_683.2.row t_685 (by decide) (by decide))]; exact e_lp_663_0) (by omega) zz_686 ((k_zI_683.2 zy 6 (Or.inl (by rw [t_zy]; decide))).trans e_lp_663_3) hP hD hS (lv_sub hl [1, 2, 3, 4, 0] rfl)
              have qc_0 : (0 : Int32).toInt = 0 := by decide
              exact lp_663 _ (0 : Int32) zI_529 _ _ _ rfl (by decide) h_zI_529 e_lp_546_0 (by omega) e_lp_546_2 e_lp_546_3 hP hD hS (lv_sub hl [1, 2, 3, 4, 0] rfl)
            · have f_553 : ¬ (zi_528.toInt ≥ zi_548.toInt) := ic_nge (rfl) (rfl) c_552
              refine lv_aload_n hx hb dX11_lay_147 rfl (lv_at hl 0 rfl) ?_
              refine lv_aload_n hx hb dX11_lay_148 rfl (lv_at hl 0 rfl) ?_
              refine lv_iload_n hx hb dX11_lay_149 rfl (lv_at hl 1 rfl) ?_
              refine lv_iload hx hb dX11_lay_150 (lv_at hl 4 rfl) ?_
              refine hj_i (ws := (WL cy zL zT zR zI_529 zJ)) (w1 := fun (u : Unit) => (WL cy zL zT zR zI_529 zJ)) (va_runV (As := [.int zia, .int zi_528]) (rest := [.ref zy]) ⟨hx, hb, hml, hown, hts⟩ (t_X11_stretchAt l dC dI cy H.size zL zT zR zI_529 zJ zy zia zi_528 hs h_zI_529.1 t_zy (by omega) (by omega)) (cwV 2 hts gX11_lay_X11_stretchAt rfl rfl rfl (by decide +kernel) ⟨(Nat.le_of_ble_eq_true rfl), (Nat.le_of_ble_eq_true rfl)⟩) (PRE.v hP hK hD hN (ht_recv hK hP hs t_zy (by decide) rfl rfl)) rfl rfl hl.1 rfl (lv_room (Nat.le_of_ble_eq_true rfl)) dX11_lay_152 ⟨(Nat.le_of_ble_eq_true rfl), (Nat.le_of_ble_eq_true rfl)⟩) hP hD hS hA (fun zi_687 u_689 H locs hw_688 hP hD hS => ?_)
              obtain ⟨b_zi_687, ps_690⟩ : (230 ≤ zi_687.toInt ∧ zi_687.toInt ≤ 278) ∧ (zi_687.toInt = 230 + 24 * zia.toInt + 4 * zi_528.toInt) := hw_688
              refine hj_v (ws := (WL cy zL zT zR zI_529 zJ)) (w1 := fun (u : (Nat → Nat → Int32)) => (WL cy zL zT zR u zJ)) (va_runV (As := [.int zi_687]) (rest := []) ⟨hx, hb, hml, hown, hts⟩ (t_X11_layStretch l dC dI cy H.size zL zT zR zI_529 zJ zy zi_687 hs h_zI_529.1 t_zy (by omega) e_lp_546_2) (cwV 1 hts gX11_lay_X11_layStretch rfl rfl rfl (by decide +kernel) ⟨(Nat.le_of_ble_eq_true rfl), (Nat.le_of_ble_eq_true rfl)⟩) (PRE.v hP hK hD hN (ht_recv hK hP hs t_zy (by decide) rfl rfl)) rfl rfl hl.1 rfl (lv_room (Nat.le_of_ble_eq_true rfl)) dX11_lay_155 ⟨(Nat.le_of_ble_eq_true rfl), (Nat.le_of_ble_eq_true rfl)⟩) hP hD hS hA (fun zI_694 H locs hw_692 hP hD hS => ?_)
              have k_zI_694 : WM [10500, 10600, 10700] AL zT zR zI_529 zI_694 := hw_692
              have h_zI_694 : WM [1806, 1807, 10300, 10400, 10500, 10600, 10700] AL zT zR zI zI_694 := h_zI_529.tr k_zI_694 (by decide) (fun _ _ => trivial)
              obtain ⟨zi_695, ezi_695⟩ : ∃ y : Int32, y = zi_528 + 1 := ⟨_, rfl⟩
              have tzi_695 : zi_695.toInt = zi_528.toInt + 1 := by rw [ezi_695]; exact tadd rfl (show (1 : Int32).toInt = 1 by decide) (by omega) (by omega)
              refine lv_iinc (v := zi_695) (lv' := [(4, .int zi_695), (0, .ref zy), (1, .int zia), (2, .int zib), (3, .int zi_402)]) hx hb dX11_lay_158 hl (k := 4) rfl (by rw [ezi_695]; rfl) (by decide) rfl (fun ls hl => ?_)
              refine lv_goto (tgt := 133) hx hb dX11_lay_161 (by decide) ?_
              have t_696 : zT (zR zy 8) = 103 := sk_f hs t_zy (by decide) rfl (by decide)
              have zz_697 : ZI (zI_694 (zR zy 0)) := by rw [(k_zI_694.2.row t_3 (by decide) (by decide))]; exact e_lp_546_2
              exact ih_546 (6 - zi_695.toInt).toNat (by omega) zi_695 zI_694 _ _ _ rfl (by omega) h_zI_694 (by rw [(k_zI_694.2.row t_696 (by decide) (by decide))]; exact e_lp_546_0) (by omega) zz_697 ((k_zI_694.2 zy 6 (Or.inl (by rw [t_zy]; decide))).trans e_lp_546_3) hP hD hS (lv_sub hl [1, 2, 3, 4, 0] rfl)
        have qc_0 : (0 : Int32).toInt = 0 := by decide
        exact lp_546 _ (0 : Int32) zI_404 _ _ _ rfl (by decide) h_zI_404 (PX.e e_lp_453_1 (by omega) rfl) (by unfold PLZ; exact PL_e e_lp_453_0 (by omega)) e_lp_453_3 e_lp_453_4 hP hD hS (lv_sub hl [1, 2, 3, 4, 0] rfl)
      · have f_460 : ¬ (zi_403.toInt ≥ zi_455.toInt) := ic_nge (rfl) (rfl) c_459
        refine lv_aload_n hx hb dX11_lay_35 rfl (lv_at hl 0 rfl) ?_
        refine lv_iload_n hx hb dX11_lay_36 rfl (lv_at hl 1 rfl) ?_
        refine lv_iload hx hb dX11_lay_37 (lv_at hl 4 rfl) ?_
        refine hj_i (ws := (WL cy zL zT zR zI_404 zJ)) (w1 := fun (u : Unit) => (WL cy zL zT zR zI_404 zJ)) (va_runV (As := [.int zia, .int zi_403]) (rest := []) ⟨hx, hb, hml, hown, hts⟩ (t_X11_kindOf l dC dI cy H.size zL zT zR zI_404 zJ zy zia zi_403 hs h_zI_404.1 t_zy (by omega) (by omega) e_lp_453_3) (cwV 2 hts gX11_lay_X11_kindOf rfl rfl rfl (by decide +kernel) ⟨(Nat.le_of_ble_eq_true rfl), (Nat.le_of_ble_eq_true rfl)⟩) (PRE.v hP hK hD hN (ht_recv hK hP hs t_zy (by decide) rfl rfl)) rfl rfl hl.1 rfl (lv_room (Nat.le_of_ble_eq_true rfl)) dX11_lay_39 ⟨(Nat.le_of_ble_eq_true rfl), (Nat.le_of_ble_eq_true rfl)⟩) hP hD hS hA (fun zi_698 u_700 H locs hw_699 hP hD hS => ?_)
        have ps_701 : zi_698.toInt = zA (zI_404 (zR zy 0)) (158 + 12 * zia.toInt + zi_403.toInt) := hw_699
        have zq_702 : zA (zI_404 (zR zy 0)) (158 + 12 * zia.toInt + zi_403.toInt) = zA (zI (zR zy 0)) (158 + 12 * zia.toInt + zi_403.toInt) := congrArg (fun w9 => zA w9 (158 + 12 * zia.toInt + zi_403.toInt)) (h_zI_404.2.row t_3 (by decide) (by decide))
        have rzi_698 := rng zi_698
        refine lv_iconst (v := 2) hx hb dX11_lay_42 (by decide) ?_
        refine lv_icmp_ne (tgt := 51) hx hb dX11_lay_43 (by decide) (fun c_703 => ?_) (fun c_703 => ?_)
        · have f_704 : zi_698.toInt ≠ (2 : Int) := ic_ne (rfl) (show (2 : Int32).toInt = 2 by decide) c_703
          refine lv_aload_n hx hb dX11_lay_51 rfl (lv_at hl 0 rfl) ?_
          refine ht_getr (C := RX11) (T := TX11) (N := 28) hx hb hts (by decide +kernel) hown hK hP hs t_zy (by decide) rfl rfl 8 (by decide) (hts (.fieldLink RX11 19 "DripStoneModel" "placeThing" "[I") (by decide +kernel)) (fun _ h9 => h9) rfl dX11_lay_52 ?_
          have t_705 : zT (zR zy 8) = 103 := sk_f hs t_zy (by decide) rfl (by decide)
          refine lv_aload_n hx hb dX11_lay_55 rfl (lv_at hl 0 rfl) ?_
          refine ht_geti (C := RX11) (T := TX11) (N := 28) hx hb hts (by decide +kernel) hown hK hP hs t_zy (by decide) rfl rfl 6 (by decide) (hts (.fieldLink RX11 192 "DripStoneModel" "places" "I") (by decide +kernel)) (fun _ h9 => h9) rfl dX11_lay_56 ?_
          refine lv_topi (fun zi_706 ezi_706 => ?_)
          obtain rfl : zi_405 = zi_706 := (ezi_706.trans e_lp_453_4).symm
          refine lv_iload hx hb dX11_lay_59 (lv_at hl 4 rfl) ?_
          refine ht_iast (v := zi_403) (n := 12) (q := 0) hx hb hK hP hD hS hs t_705 (by decide) rfl rfl ⟨by omega, by omega⟩ dX11_lay_61 (fun H locs hP hD hS => ?_)
          have h_zI_707 : WM [1806, 1807, 10300, 10400, 10500, 10600, 10700] AL zT zR zI (u2 zI_404 (zR zy 8) zi_405.toNatClampNeg zi_403) := h_zI_404.putA hs t_705 rfl (by omega) (by decide) (fun h => absurd h (by decide)) (by decide) trivial
          generalize uzI_707 : u2 zI_404 (zR zy 8) zi_405.toNatClampNeg zi_403 = zI_707 at hP hD h_zI_707
          refine lv_aload_n hx hb dX11_lay_62 rfl (lv_at hl 0 rfl) ?_
          refine ht_getr (C := RX11) (T := TX11) (N := 28) hx hb hts (by decide +kernel) hown hK hP hs t_zy (by decide) rfl rfl 9 (by decide) (hts (.fieldLink RX11 22 "DripStoneModel" "mayYears" "[I") (by decide +kernel)) (fun _ h9 => h9) rfl dX11_lay_63 ?_
          have t_708 : zT (zR zy 9) = 104 := sk_f hs t_zy (by decide) rfl (by decide)
          refine lv_aload_n hx hb dX11_lay_66 rfl (lv_at hl 0 rfl) ?_
          refine ht_geti (C := RX11) (T := TX11) (N := 28) hx hb hts (by decide +kernel) hown hK hP hs t_zy (by decide) rfl rfl 6 (by decide) (hts (.fieldLink RX11 192 "DripStoneModel" "places" "I") (by decide +kernel)) (fun _ h9 => h9) rfl dX11_lay_67 ?_
          refine lv_topi (fun zi_709 ezi_709 => ?_)
          obtain rfl : zi_405 = zi_709 := (ezi_709.trans ((show zI_707 zy 6 = zI_404 zy 6 from by rw [← uzI_707]; exact u2_n (tne t_zy t_705 (by decide))).trans e_lp_453_4)).symm
          refine lv_ldc (v := 16777215) hx hb hown (hts (.constant RX11 198 16777215) (by decide +kernel)) dX11_lay_70 ?_
          refine ht_iast (v := (16777215 : Int32)) (n := 12) (q := 0) hx hb hK hP hD hS hs t_708 (by decide) rfl rfl ⟨by omega, by omega⟩ dX11_lay_72 (fun H locs hP hD hS => ?_)
          have h_zI_710 : WM [1806, 1807, 10300, 10400, 10500, 10600, 10700] AL zT zR zI (u2 zI_707 (zR zy 9) zi_405.toNatClampNeg (16777215 : Int32)) := h_zI_707.putA hs t_708 rfl (rgF _) (by decide) (fun h => absurd h (by decide)) (by decide) trivial
          generalize uzI_710 : u2 zI_707 (zR zy 9) zi_405.toNatClampNeg (16777215 : Int32) = zI_710 at hP hD h_zI_710
          refine lv_aload_n hx hb dX11_lay_73 rfl (lv_at hl 0 rfl) ?_
          refine ht_getr (C := RX11) (T := TX11) (N := 28) hx hb hts (by decide +kernel) hown hK hP hs t_zy (by decide) rfl rfl 10 (by decide) (hts (.fieldLink RX11 25 "DripStoneModel" "lowStep" "[I") (by decide +kernel)) (fun _ h9 => h9) rfl dX11_lay_74 ?_
          have t_711 : zT (zR zy 10) = 105 := sk_f hs t_zy (by decide) rfl (by decide)
          refine lv_aload_n hx hb dX11_lay_77 rfl (lv_at hl 0 rfl) ?_
          refine ht_geti (C := RX11) (T := TX11) (N := 28) hx hb hts (by decide +kernel) hown hK hP hs t_zy (by decide) rfl rfl 6 (by decide) (hts (.fieldLink RX11 192 "DripStoneModel" "places" "I") (by decide +kernel)) (fun _ h9 => h9) rfl dX11_lay_78 ?_
          refine lv_topi (fun zi_712 ezi_712 => ?_)
          obtain rfl : zi_405 = zi_712 := (ezi_712.trans ((show zI_710 zy 6 = zI_707 zy 6 from by rw [← uzI_710]; exact u2_n (tne t_zy t_708 (by decide))).trans ((show zI_707 zy 6 = zI_404 zy 6 from by rw [← uzI_707]; exact u2_n (tne t_zy t_705 (by decide))).trans e_lp_453_4))).symm
          refine lv_iload_n hx hb dX11_lay_81 rfl (lv_at hl 3 rfl) ?_
          refine lv_if_eq (tgt := 89) hx hb dX11_lay_82 (by decide) (fun c_713 => ?_) (fun c_713 => ?_)
          · have f_714 : zi_402.toInt = 0 := ic_eq (rfl) (by decide) c_713
            refine lv_iconst (v := 0) hx hb dX11_lay_89 (by decide) ?_
            refine ht_iast (v := (0 : Int32)) (n := 12) (q := 0) hx hb hK hP hD hS hs t_711 (by decide) rfl rfl ⟨by omega, by omega⟩ dX11_lay_90 (fun H locs hP hD hS => ?_)
            have h_zI_715 : WM [1806, 1807, 10300, 10400, 10500, 10600, 10700] AL zT zR zI (u2 zI_710 (zR zy 10) zi_405.toNatClampNeg (0 : Int32)) := h_zI_710.putA hs t_711 rfl (rgF _) (by decide) (fun h => absurd h (by decide)) (by decide) trivial
            generalize uzI_715 : u2 zI_710 (zR zy 10) zi_405.toNatClampNeg (0 : Int32) = zI_715 at hP hD h_zI_715
            refine lv_aload_n hx hb dX11_lay_91 rfl (lv_at hl 0 rfl) ?_
            refine ht_getr (C := RX11) (T := TX11) (N := 28) hx hb hts (by decide +kernel) hown hK hP hs t_zy (by decide) rfl rfl 11 (by decide) (hts (.fieldLink RX11 28 "DripStoneModel" "highStep" "[I") (by decide +kernel)) (fun _ h9 => h9) rfl dX11_lay_92 ?_
            have t_716 : zT (zR zy 11) = 106 := sk_f hs t_zy (by decide) rfl (by decide)
            refine lv_aload_n hx hb dX11_lay_95 rfl (lv_at hl 0 rfl) ?_
            refine ht_geti (C := RX11) (T := TX11) (N := 28) hx hb hts (by decide +kernel) hown hK hP hs t_zy (by decide) rfl rfl 6 (by decide) (hts (.fieldLink RX11 192 "DripStoneModel" "places" "I") (by decide +kernel)) (fun _ h9 => h9) rfl dX11_lay_96 ?_
            refine lv_topi (fun zi_717 ezi_717 => ?_)
            obtain rfl : zi_405 = zi_717 := (ezi_717.trans ((show zI_715 zy 6 = zI_710 zy 6 from by rw [← uzI_715]; exact u2_n (tne t_zy t_711 (by decide))).trans ((show zI_710 zy 6 = zI_707 zy 6 from by rw [← uzI_710]; exact u2_n (tne t_zy t_708 (by decide))).trans ((show zI_707 zy 6 = zI_404 zy 6 from by rw [← uzI_707]; exact u2_n (tne t_zy t_705 (by decide))).trans e_lp_453_4)))).symm
            refine lv_bipush (v := 24) hx hb dX11_lay_99 (by decide) ?_
            refine ht_iast (v := (24 : Int32)) (n := 12) (q := 0) hx hb hK hP hD hS hs t_716 (by decide) rfl rfl ⟨by omega, by omega⟩ dX11_lay_101 (fun H locs hP hD hS => ?_)
            have h_zI_718 : WM [1806, 1807, 10300, 10400, 10500, 10600, 10700] AL zT zR zI (u2 zI_715 (zR zy 11) zi_405.toNatClampNeg (24 : Int32)) := h_zI_715.putA hs t_716 rfl (rgF _) (by decide) (fun h => absurd h (by decide)) (by decide) trivial
            generalize uzI_718 : u2 zI_715 (zR zy 11) zi_405.toNatClampNeg (24 : Int32) = zI_718 at hP hD h_zI_718
            refine lv_aload_n hx hb dX11_lay_102 rfl (lv_at hl 0 rfl) ?_
            refine ht_getr (C := RX11) (T := TX11) (N := 28) hx hb hts (by decide +kernel) hown hK hP hs t_zy (by decide) rfl rfl 12 (by decide) (hts (.fieldLink RX11 31 "DripStoneModel" "needRun" "[I") (by decide +kernel)) (fun _ h9 => h9) rfl dX11_lay_103 ?_
            have t_719 : zT (zR zy 12) = 107 := sk_f hs t_zy (by decide) rfl (by decide)
            refine lv_aload_n hx hb dX11_lay_106 rfl (lv_at hl 0 rfl) ?_
            refine ht_geti (C := RX11) (T := TX11) (N := 28) hx hb hts (by decide +kernel) hown hK hP hs t_zy (by decide) rfl rfl 6 (by decide) (hts (.fieldLink RX11 192 "DripStoneModel" "places" "I") (by decide +kernel)) (fun _ h9 => h9) rfl dX11_lay_107 ?_
            refine lv_topi (fun zi_720 ezi_720 => ?_)
            obtain rfl : zi_405 = zi_720 := (ezi_720.trans ((show zI_718 zy 6 = zI_715 zy 6 from by rw [← uzI_718]; exact u2_n (tne t_zy t_716 (by decide))).trans ((show zI_715 zy 6 = zI_710 zy 6 from by rw [← uzI_715]; exact u2_n (tne t_zy t_711 (by decide))).trans ((show zI_710 zy 6 = zI_707 zy 6 from by rw [← uzI_710]; exact u2_n (tne t_zy t_708 (by decide))).trans ((show zI_707 zy 6 = zI_404 zy 6 from by rw [← uzI_707]; exact u2_n (tne t_zy t_705 (by decide))).trans e_lp_453_4))))).symm
            refine lv_iconst (v := 0) hx hb dX11_lay_110 (by decide) ?_
            refine ht_iast (v := (0 : Int32)) (n := 12) (q := 0) hx hb hK hP hD hS hs t_719 (by decide) rfl rfl ⟨by omega, by omega⟩ dX11_lay_111 (fun H locs hP hD hS => ?_)
            have h_zI_721 : WM [1806, 1807, 10300, 10400, 10500, 10600, 10700] AL zT zR zI (u2 zI_718 (zR zy 12) zi_405.toNatClampNeg (0 : Int32)) := h_zI_718.putA hs t_719 rfl (rgF _) (by decide) (fun h => absurd h (by decide)) (by decide) trivial
            generalize uzI_721 : u2 zI_718 (zR zy 12) zi_405.toNatClampNeg (0 : Int32) = zI_721 at hP hD h_zI_721
            refine lv_aload_n hx hb dX11_lay_112 rfl (lv_at hl 0 rfl) ?_
            refine lv_dup hx hb dX11_lay_113 rfl ?_
            refine ht_geti (C := RX11) (T := TX11) (N := 28) hx hb hts (by decide +kernel) hown hK hP hs t_zy (by decide) rfl rfl 6 (by decide) (hts (.fieldLink RX11 192 "DripStoneModel" "places" "I") (by decide +kernel)) (fun _ h9 => h9) rfl dX11_lay_114 ?_
            refine lv_topi (fun zi_722 ezi_722 => ?_)
            obtain rfl : zi_405 = zi_722 := (ezi_722.trans ((show zI_721 zy 6 = zI_718 zy 6 from by rw [← uzI_721]; exact u2_n (tne t_zy t_719 (by decide))).trans ((show zI_718 zy 6 = zI_715 zy 6 from by rw [← uzI_718]; exact u2_n (tne t_zy t_716 (by decide))).trans ((show zI_715 zy 6 = zI_710 zy 6 from by rw [← uzI_715]; exact u2_n (tne t_zy t_711 (by decide))).trans ((show zI_710 zy 6 = zI_707 zy 6 from by rw [← uzI_710]; exact u2_n (tne t_zy t_708 (by decide))).trans ((show zI_707 zy 6 = zI_404 zy 6 from by rw [← uzI_707]; exact u2_n (tne t_zy t_705 (by decide))).trans e_lp_453_4)))))).symm
            refine lv_iconst (v := 1) hx hb dX11_lay_117 (by decide) ?_
            refine lv_iadd hx hb dX11_lay_118 ?_
            refine lv_topi (fun zi_723 ezi_723 => ?_)
            have tzi_723 : zi_723.toInt = zi_405.toInt + (1 : Int) := by rw [ezi_723]; exact tiadd (rfl) (show (1 : Int32).toInt = 1 by decide) (by omega) (by omega)
            refine ht_puti (v := zi_723) (ty := .int) (C := RX11) (T := TX11) (N := 28) hx hb hts (by decide +kernel) tyX11 tyX11_ok nmX11 hown hK hP hD hS hs t_zy (by decide) rfl rfl 6 (by decide) (hts (.fieldLink RX11 192 "DripStoneModel" "places" "I") (by decide +kernel)) (fun _ h9 => h9) rfl (by decide +kernel) rfl rfl rfl dX11_lay_119 (fun H locs hP hD hS => ?_)
            have h_zI_724 : WM [1806, 1807, 10300, 10400, 10500, 10600, 10700] AL zT zR zI (u2 zI_721 zy 6 zi_723) := h_zI_721.put hs t_zy rfl (by omega) (by decide) (fun h => absurd h (by decide)) (by decide) trivial
            generalize uzI_724 : u2 zI_721 zy 6 zi_723 = zI_724 at hP hD h_zI_724
            refine lv_iconst (v := 0) hx hb dX11_lay_122 (by decide) ?_
            refine lv_istore_n (lv' := [(3, .int 0), (0, .ref zy), (1, .int zia), (2, .int zib), (4, .int zi_403)]) hx hb dX11_lay_123 rfl hl (by decide) rfl (fun ls hl => ?_)
            obtain ⟨zi_725, ezi_725⟩ : ∃ y : Int32, y = zi_403 + 1 := ⟨_, rfl⟩
            have tzi_725 : zi_725.toInt = zi_403.toInt + 1 := by rw [ezi_725]; exact tadd rfl (show (1 : Int32).toInt = 1 by decide) (by omega) (by omega)
            refine lv_iinc (v := zi_725) (lv' := [(4, .int zi_725), (3, .int 0), (0, .ref zy), (1, .int zia), (2, .int zib)]) hx hb dX11_lay_124 hl (k := 4) rfl (by rw [ezi_725]; rfl) (by decide) rfl (fun ls hl => ?_)
            refine lv_goto (tgt := 22) hx hb dX11_lay_127 (by decide) ?_
            have qc_0 : (0 : Int32).toInt = 0 := by decide
            have zz_726 : ZI (zI_724 (zR zy 0)) := by rw [(show zI_724 (zR zy 0) = zI_721 (zR zy 0) from by rw [← uzI_724]; exact u2_a (tne t_3 t_zy (by decide))), (show zI_721 (zR zy 0) = zI_718 (zR zy 0) from by rw [← uzI_721]; exact u2_a (tne t_3 t_719 (by decide))), (show zI_718 (zR zy 0) = zI_715 (zR zy 0) from by rw [← uzI_718]; exact u2_a (tne t_3 t_716 (by decide))), (show zI_715 (zR zy 0) = zI_710 (zR zy 0) from by rw [← uzI_715]; exact u2_a (tne t_3 t_711 (by decide))), (show zI_710 (zR zy 0) = zI_707 (zR zy 0) from by rw [← uzI_710]; exact u2_a (tne t_3 t_708 (by decide))), (show zI_707 (zR zy 0) = zI_404 (zR zy 0) from by rw [← uzI_707]; exact u2_a (tne t_3 t_705 (by decide)))]; exact e_lp_453_3
            exact ih_453 (12 - zi_725.toInt).toNat (by omega) (0 : Int32) zi_725 zI_724 zi_723 _ _ _ rfl (by decide) (by omega) h_zI_724 (by omega) (by have q9 := PLK.s (t := zi_403) (t' := zi_725) e_lp_453_0 (by omega) (by omega) (ps_701.trans zq_702); omega) (by rw [(show zI_724 (zR zy 8) = zI_721 (zR zy 8) from by rw [← uzI_724]; exact u2_a (tne t_705 t_zy (by decide))), (show zI_721 (zR zy 8) = zI_718 (zR zy 8) from by rw [← uzI_721]; exact u2_a (tne t_705 t_719 (by decide))), (show zI_718 (zR zy 8) = zI_715 (zR zy 8) from by rw [← uzI_718]; exact u2_a (tne t_705 t_716 (by decide))), (show zI_715 (zR zy 8) = zI_710 (zR zy 8) from by rw [← uzI_715]; exact u2_a (tne t_705 t_711 (by decide))), (show zI_710 (zR zy 8) = zI_707 (zR zy 8) from by rw [← uzI_710]; exact u2_a (tne t_705 t_708 (by decide))), ← uzI_707, u2_r]; exact PX.s e_lp_453_1 (by omega) (by omega) (by omega) (by omega) (by omega)) (by omega) zz_726 (by rw [← uzI_724]; exact u2_s) hP hD hS (lv_sub hl [2, 3, 4, 1, 0] rfl)
          · have f_714 : ¬ (zi_402.toInt = 0) := ic_neq (rfl) (by decide) c_713
            refine lv_iconst (v := 2) hx hb dX11_lay_85 (by decide) ?_
            refine lv_goto (tgt := 90) hx hb dX11_lay_86 (by decide) ?_
            refine ht_iast (v := (2 : Int32)) (n := 12) (q := 0) hx hb hK hP hD hS hs t_711 (by decide) rfl rfl ⟨by omega, by omega⟩ dX11_lay_90 (fun H locs hP hD hS => ?_)
            have h_zI_727 : WM [1806, 1807, 10300, 10400, 10500, 10600, 10700] AL zT zR zI (u2 zI_710 (zR zy 10) zi_405.toNatClampNeg (2 : Int32)) := h_zI_710.putA hs t_711 rfl (rgF _) (by decide) (fun h => absurd h (by decide)) (by decide) trivial
            generalize uzI_727 : u2 zI_710 (zR zy 10) zi_405.toNatClampNeg (2 : Int32) = zI_727 at hP hD h_zI_727
            refine lv_aload_n hx hb dX11_lay_91 rfl (lv_at hl 0 rfl) ?_
            refine ht_getr (C := RX11) (T := TX11) (N := 28) hx hb hts (by decide +kernel) hown hK hP hs t_zy (by decide) rfl rfl 11 (by decide) (hts (.fieldLink RX11 28 "DripStoneModel" "highStep" "[I") (by decide +kernel)) (fun _ h9 => h9) rfl dX11_lay_92 ?_
            have t_728 : zT (zR zy 11) = 106 := sk_f hs t_zy (by decide) rfl (by decide)
            refine lv_aload_n hx hb dX11_lay_95 rfl (lv_at hl 0 rfl) ?_
            refine ht_geti (C := RX11) (T := TX11) (N := 28) hx hb hts (by decide +kernel) hown hK hP hs t_zy (by decide) rfl rfl 6 (by decide) (hts (.fieldLink RX11 192 "DripStoneModel" "places" "I") (by decide +kernel)) (fun _ h9 => h9) rfl dX11_lay_96 ?_
            refine lv_topi (fun zi_729 ezi_729 => ?_)
            obtain rfl : zi_405 = zi_729 := (ezi_729.trans ((show zI_727 zy 6 = zI_710 zy 6 from by rw [← uzI_727]; exact u2_n (tne t_zy t_711 (by decide))).trans ((show zI_710 zy 6 = zI_707 zy 6 from by rw [← uzI_710]; exact u2_n (tne t_zy t_708 (by decide))).trans ((show zI_707 zy 6 = zI_404 zy 6 from by rw [← uzI_707]; exact u2_n (tne t_zy t_705 (by decide))).trans e_lp_453_4)))).symm
            refine lv_bipush (v := 24) hx hb dX11_lay_99 (by decide) ?_
            refine ht_iast (v := (24 : Int32)) (n := 12) (q := 0) hx hb hK hP hD hS hs t_728 (by decide) rfl rfl ⟨by omega, by omega⟩ dX11_lay_101 (fun H locs hP hD hS => ?_)
            have h_zI_730 : WM [1806, 1807, 10300, 10400, 10500, 10600, 10700] AL zT zR zI (u2 zI_727 (zR zy 11) zi_405.toNatClampNeg (24 : Int32)) := h_zI_727.putA hs t_728 rfl (rgF _) (by decide) (fun h => absurd h (by decide)) (by decide) trivial
            generalize uzI_730 : u2 zI_727 (zR zy 11) zi_405.toNatClampNeg (24 : Int32) = zI_730 at hP hD h_zI_730
            refine lv_aload_n hx hb dX11_lay_102 rfl (lv_at hl 0 rfl) ?_
            refine ht_getr (C := RX11) (T := TX11) (N := 28) hx hb hts (by decide +kernel) hown hK hP hs t_zy (by decide) rfl rfl 12 (by decide) (hts (.fieldLink RX11 31 "DripStoneModel" "needRun" "[I") (by decide +kernel)) (fun _ h9 => h9) rfl dX11_lay_103 ?_
            have t_731 : zT (zR zy 12) = 107 := sk_f hs t_zy (by decide) rfl (by decide)
            refine lv_aload_n hx hb dX11_lay_106 rfl (lv_at hl 0 rfl) ?_
            refine ht_geti (C := RX11) (T := TX11) (N := 28) hx hb hts (by decide +kernel) hown hK hP hs t_zy (by decide) rfl rfl 6 (by decide) (hts (.fieldLink RX11 192 "DripStoneModel" "places" "I") (by decide +kernel)) (fun _ h9 => h9) rfl dX11_lay_107 ?_
            refine lv_topi (fun zi_732 ezi_732 => ?_)
            obtain rfl : zi_405 = zi_732 := (ezi_732.trans ((show zI_730 zy 6 = zI_727 zy 6 from by rw [← uzI_730]; exact u2_n (tne t_zy t_728 (by decide))).trans ((show zI_727 zy 6 = zI_710 zy 6 from by rw [← uzI_727]; exact u2_n (tne t_zy t_711 (by decide))).trans ((show zI_710 zy 6 = zI_707 zy 6 from by rw [← uzI_710]; exact u2_n (tne t_zy t_708 (by decide))).trans ((show zI_707 zy 6 = zI_404 zy 6 from by rw [← uzI_707]; exact u2_n (tne t_zy t_705 (by decide))).trans e_lp_453_4))))).symm
            refine lv_iconst (v := 0) hx hb dX11_lay_110 (by decide) ?_
            refine ht_iast (v := (0 : Int32)) (n := 12) (q := 0) hx hb hK hP hD hS hs t_731 (by decide) rfl rfl ⟨by omega, by omega⟩ dX11_lay_111 (fun H locs hP hD hS => ?_)
            have h_zI_733 : WM [1806, 1807, 10300, 10400, 10500, 10600, 10700] AL zT zR zI (u2 zI_730 (zR zy 12) zi_405.toNatClampNeg (0 : Int32)) := h_zI_730.putA hs t_731 rfl (rgF _) (by decide) (fun h => absurd h (by decide)) (by decide) trivial
            generalize uzI_733 : u2 zI_730 (zR zy 12) zi_405.toNatClampNeg (0 : Int32) = zI_733 at hP hD h_zI_733
            refine lv_aload_n hx hb dX11_lay_112 rfl (lv_at hl 0 rfl) ?_
            refine lv_dup hx hb dX11_lay_113 rfl ?_
            refine ht_geti (C := RX11) (T := TX11) (N := 28) hx hb hts (by decide +kernel) hown hK hP hs t_zy (by decide) rfl rfl 6 (by decide) (hts (.fieldLink RX11 192 "DripStoneModel" "places" "I") (by decide +kernel)) (fun _ h9 => h9) rfl dX11_lay_114 ?_
            refine lv_topi (fun zi_734 ezi_734 => ?_)
            obtain rfl : zi_405 = zi_734 := (ezi_734.trans ((show zI_733 zy 6 = zI_730 zy 6 from by rw [← uzI_733]; exact u2_n (tne t_zy t_731 (by decide))).trans ((show zI_730 zy 6 = zI_727 zy 6 from by rw [← uzI_730]; exact u2_n (tne t_zy t_728 (by decide))).trans ((show zI_727 zy 6 = zI_710 zy 6 from by rw [← uzI_727]; exact u2_n (tne t_zy t_711 (by decide))).trans ((show zI_710 zy 6 = zI_707 zy 6 from by rw [← uzI_710]; exact u2_n (tne t_zy t_708 (by decide))).trans ((show zI_707 zy 6 = zI_404 zy 6 from by rw [← uzI_707]; exact u2_n (tne t_zy t_705 (by decide))).trans e_lp_453_4)))))).symm
            refine lv_iconst (v := 1) hx hb dX11_lay_117 (by decide) ?_
            refine lv_iadd hx hb dX11_lay_118 ?_
            refine lv_topi (fun zi_735 ezi_735 => ?_)
            have tzi_735 : zi_735.toInt = zi_405.toInt + (1 : Int) := by rw [ezi_735]; exact tiadd (rfl) (show (1 : Int32).toInt = 1 by decide) (by omega) (by omega)
            refine ht_puti (v := zi_735) (ty := .int) (C := RX11) (T := TX11) (N := 28) hx hb hts (by decide +kernel) tyX11 tyX11_ok nmX11 hown hK hP hD hS hs t_zy (by decide) rfl rfl 6 (by decide) (hts (.fieldLink RX11 192 "DripStoneModel" "places" "I") (by decide +kernel)) (fun _ h9 => h9) rfl (by decide +kernel) rfl rfl rfl dX11_lay_119 (fun H locs hP hD hS => ?_)
            have h_zI_736 : WM [1806, 1807, 10300, 10400, 10500, 10600, 10700] AL zT zR zI (u2 zI_733 zy 6 zi_735) := h_zI_733.put hs t_zy rfl (by omega) (by decide) (fun h => absurd h (by decide)) (by decide) trivial
            generalize uzI_736 : u2 zI_733 zy 6 zi_735 = zI_736 at hP hD h_zI_736
            refine lv_iconst (v := 0) hx hb dX11_lay_122 (by decide) ?_
            refine lv_istore_n (lv' := [(3, .int 0), (0, .ref zy), (1, .int zia), (2, .int zib), (4, .int zi_403)]) hx hb dX11_lay_123 rfl hl (by decide) rfl (fun ls hl => ?_)
            obtain ⟨zi_737, ezi_737⟩ : ∃ y : Int32, y = zi_403 + 1 := ⟨_, rfl⟩
            have tzi_737 : zi_737.toInt = zi_403.toInt + 1 := by rw [ezi_737]; exact tadd rfl (show (1 : Int32).toInt = 1 by decide) (by omega) (by omega)
            refine lv_iinc (v := zi_737) (lv' := [(4, .int zi_737), (3, .int 0), (0, .ref zy), (1, .int zia), (2, .int zib)]) hx hb dX11_lay_124 hl (k := 4) rfl (by rw [ezi_737]; rfl) (by decide) rfl (fun ls hl => ?_)
            refine lv_goto (tgt := 22) hx hb dX11_lay_127 (by decide) ?_
            have qc_0 : (0 : Int32).toInt = 0 := by decide
            have zz_738 : ZI (zI_736 (zR zy 0)) := by rw [(show zI_736 (zR zy 0) = zI_733 (zR zy 0) from by rw [← uzI_736]; exact u2_a (tne t_3 t_zy (by decide))), (show zI_733 (zR zy 0) = zI_730 (zR zy 0) from by rw [← uzI_733]; exact u2_a (tne t_3 t_731 (by decide))), (show zI_730 (zR zy 0) = zI_727 (zR zy 0) from by rw [← uzI_730]; exact u2_a (tne t_3 t_728 (by decide))), (show zI_727 (zR zy 0) = zI_710 (zR zy 0) from by rw [← uzI_727]; exact u2_a (tne t_3 t_711 (by decide))), (show zI_710 (zR zy 0) = zI_707 (zR zy 0) from by rw [← uzI_710]; exact u2_a (tne t_3 t_708 (by decide))), (show zI_707 (zR zy 0) = zI_404 (zR zy 0) from by rw [← uzI_707]; exact u2_a (tne t_3 t_705 (by decide)))]; exact e_lp_453_3
            exact ih_453 (12 - zi_737.toInt).toNat (by omega) (0 : Int32) zi_737 zI_736 zi_735 _ _ _ rfl (by decide) (by omega) h_zI_736 (by omega) (by have q9 := PLK.s (t := zi_403) (t' := zi_737) e_lp_453_0 (by omega) (by omega) (ps_701.trans zq_702); omega) (by rw [(show zI_736 (zR zy 8) = zI_733 (zR zy 8) from by rw [← uzI_736]; exact u2_a (tne t_705 t_zy (by decide))), (show zI_733 (zR zy 8) = zI_730 (zR zy 8) from by rw [← uzI_733]; exact u2_a (tne t_705 t_731 (by decide))), (show zI_730 (zR zy 8) = zI_727 (zR zy 8) from by rw [← uzI_730]; exact u2_a (tne t_705 t_728 (by decide))), (show zI_727 (zR zy 8) = zI_710 (zR zy 8) from by rw [← uzI_727]; exact u2_a (tne t_705 t_711 (by decide))), (show zI_710 (zR zy 8) = zI_707 (zR zy 8) from by rw [← uzI_710]; exact u2_a (tne t_705 t_708 (by decide))), ← uzI_707, u2_r]; exact PX.s e_lp_453_1 (by omega) (by omega) (by omega) (by omega) (by omega)) (by omega) zz_738 (by rw [← uzI_736]; exact u2_s) hP hD hS (lv_sub hl [2, 3, 4, 1, 0] rfl)
        · have f_704 : ¬ (zi_698.toInt ≠ (2 : Int)) := ic_nne (rfl) (show (2 : Int32).toInt = 2 by decide) c_703
          refine lv_iconst (v := 1) hx hb dX11_lay_46 (by decide) ?_
          refine lv_istore_n (lv' := [(3, .int 1), (0, .ref zy), (1, .int zia), (2, .int zib), (4, .int zi_403)]) hx hb dX11_lay_47 rfl hl (by decide) rfl (fun ls hl => ?_)
          refine lv_goto (tgt := 124) hx hb dX11_lay_48 (by decide) ?_
          obtain ⟨zi_739, ezi_739⟩ : ∃ y : Int32, y = zi_403 + 1 := ⟨_, rfl⟩
          have tzi_739 : zi_739.toInt = zi_403.toInt + 1 := by rw [ezi_739]; exact tadd rfl (show (1 : Int32).toInt = 1 by decide) (by omega) (by omega)
          refine lv_iinc (v := zi_739) (lv' := [(4, .int zi_739), (3, .int 1), (0, .ref zy), (1, .int zia), (2, .int zib)]) hx hb dX11_lay_124 hl (k := 4) rfl (by rw [ezi_739]; rfl) (by decide) rfl (fun ls hl => ?_)
          refine lv_goto (tgt := 22) hx hb dX11_lay_127 (by decide) ?_
          have qc_1 : (1 : Int32).toInt = 1 := by decide
          exact ih_453 (12 - zi_739.toInt).toNat (by omega) (1 : Int32) zi_739 zI_404 zi_405 _ _ _ rfl (by decide) (by omega) h_zI_404 (by omega) (by have q9 := PLK.s (t := zi_403) (t' := zi_739) e_lp_453_0 (by omega) (by omega) (ps_701.trans zq_702); omega) (PX.k e_lp_453_1 (by omega) (by omega)) (by omega) e_lp_453_3 e_lp_453_4 hP hD hS (lv_sub hl [2, 3, 4, 1, 0] rfl)
  have qc_0 : (0 : Int32).toInt = 0 := by decide
  have zz_740 : ZI (zI_10 (zR zy 0)) := by rw [(show zI_10 (zR zy 0) = zI_2 (zR zy 0) from by rw [← uzI_10]; exact u2_a (tne t_3 t_zy (by decide)))]; exact zz_8
  exact lp_453 _ (0 : Int32) (0 : Int32) zI_10 (0 : Int32) _ _ _ rfl (by decide) (by decide) h_zI_10 (by decide) rfl (PX.z (by decide)) (by omega) zz_740 ((show zI_10 zy 6 = zI_2 zy 6 from by rw [← uzI_10]; exact u2_k (by decide)).trans (by rw [← uzI_2]; exact u2_s)) hP hD hS (lv_sub hl [2, 3, 4, 1, 0] rfl)
