set_option maxHeartbeats 4000000 in
set_option maxRecDepth 100000 in
theorem c_X11_type (l : Launch) (dC : Nat → ClassId) (dI : Nat → Nat → Nat) (cy : Nat → ClassId) (sz : Nat) (zy : Nat) (zja : Int64) (zib : Int32) (zy0 : Nat) (zy1 : Nat) (zy5 : Nat) (zy8 : Nat) (zy9 : Nat) (zy10 : Nat) (zy11 : Nat) (zy12 : Nat) (zy13 : Nat) (zy14 : Nat) (zy16 : Nat) (zy17 : Nat) (zy18 : Nat) (zy21 : Nat) (zy22 : Nat) (zy24 : Nat) (zy25 : Nat) (zy26 : Nat) (zy27 : Nat)  : Met l yX11_type wsX11_type ({ frames := 1, cells := 0, slots := 0, locals := 25 }) (va_Pc [.ref zy, .long zja, .int zib] (PRE dC dI cy [(zy, .inr (11, [.ref zy0, .ref zy1, .int 0, .int 0, .int 0, .ref zy5, .int 0, .int 0, .ref zy8, .ref zy9, .ref zy10, .ref zy11, .ref zy12, .ref zy13, .ref zy14, .long 0, .ref zy16, .ref zy17, .ref zy18, .int 0, .long 0, .ref zy21, .ref zy22, .int 0, .ref zy24, .ref zy25, .ref zy26, .ref zy27])), (zy1, .inl (cy 0, 80, .inl (fun _ => 0)))] sz)) (va_Qi (fun (r : Int32) (_ : Unit) => r = an_type zja zib) (fun u t => POST dC dI cy (va_A [(zy, .inr (11, [.ref zy0, .ref zy1, .int 0, .int 0, .int 0, .ref zy5, .int 0, .int 0, .ref zy8, .ref zy9, .ref zy10, .ref zy11, .ref zy12, .ref zy13, .ref zy14, .long 0, .ref zy16, .ref zy17, .ref zy18, .int 0, .long 0, .ref zy21, .ref zy22, .int 0, .ref zy24, .ref zy25, .ref zy26, .ref zy27])), (zy1, .inl (cy 0, 80, .inl (fun _ => 0)))] sz) [] t) (va_A [(zy, .inr (11, [.ref zy0, .ref zy1, .int 0, .int 0, .int 0, .ref zy5, .int 0, .int 0, .ref zy8, .ref zy9, .ref zy10, .ref zy11, .ref zy12, .ref zy13, .ref zy14, .long 0, .ref zy16, .ref zy17, .ref zy18, .int 0, .long 0, .ref zy21, .ref zy22, .int 0, .ref zy24, .ref zy25, .ref zy26, .ref zy27])), (zy1, .inl (cy 0, 80, .inl (fun _ => 0)))] sz)) 0 0 (va_A [(zy, .inr (11, [.ref zy0, .ref zy1, .int 0, .int 0, .int 0, .ref zy5, .int 0, .int 0, .ref zy8, .ref zy9, .ref zy10, .ref zy11, .ref zy12, .ref zy13, .ref zy14, .long 0, .ref zy16, .ref zy17, .ref zy18, .int 0, .long 0, .ref zy21, .ref zy22, .int 0, .ref zy24, .ref zy25, .ref zy26, .ref zy27])), (zy1, .inl (cy 0, 80, .inl (fun _ => 0)))] sz) := by
  refine Met.ofW (cc := cX11_type) (maxL := 5) (ret := (some .int)) (by decide) rfl ?_
  intro p e s m args below meth c s₁ B hml hv
  obtain ⟨rfl, hsz, hP, hK, hD0, hN⟩ := hv
  have hx := B.exec
  have hb := B.bytes
  have hr := B.returns
  have hts := atoms_spec (ws := wsX11_type) B.pre
  have hown : s.vm.findClass RX11 = some m.cls := findClass_of_methodNamed B.named
  have hlocks := B.notSynchronized
  subst hsz
  have hD := hD0.self (sz := s.heap.size)
  generalize hAe : va_A [(zy, .inr (11, [.ref zy0, .ref zy1, .int 0, .int 0, .int 0, .ref zy5, .int 0, .int 0, .ref zy8, .ref zy9, .ref zy10, .ref zy11, .ref zy12, .ref zy13, .ref zy14, .long 0, .ref zy16, .ref zy17, .ref zy18, .int 0, .long 0, .ref zy21, .ref zy22, .int 0, .ref zy24, .ref zy25, .ref zy26, .ref zy27])), (zy1, .inl (cy 0, 80, .inl (fun _ => 0)))] s.heap.size = A at hD ⊢
  have hA : ∀ q : Nat, s.heap.size ≤ q → A q := fun q h => by rw [← hAe]; exact Or.inr h
  have hS : va_S A s.heap s.heap [] := va_S.rf
  have hP : va_P (dC, dI) vwCl [(zy, .inr (11, [.ref zy0, .ref zy1, .int 0, .int 0, .int 0, .ref zy5, .int 0, .int 0, .ref zy8, .ref zy9, .ref zy10, .ref zy11, .ref zy12, .ref zy13, .ref zy14, .long 0, .ref zy16, .ref zy17, .ref zy18, .int 0, .long 0, .ref zy21, .ref zy22, .int 0, .ref zy24, .ref zy25, .ref zy26, .ref zy27])), (zy1, .inl (cy 0, 80, .inl (fun _ => 0)))] s.heap := hP
  have hl := lv_entry ([.ref zy, .long zja, .int zib] : List Value) (n := 5) (Nat.le_of_ble_eq_true rfl)
  rw [lg_entry_eq]
  generalize (lg_sl ([.ref zy, .long zja, .int zib] : List Value) ++ List.replicate (5 - (lg_sl ([.ref zy, .long zja, .int zib] : List Value)).length) Slot.unset).toArray = ls at hl ⊢
  have hl : lv_has ls 5 [(0, .ref zy), (1, .long zja), (3, .int zib)] := hl
  refine lv_iload_n hx hb dX11_type_0 rfl (lv_at hl 2 rfl) ?_
  refine lv_i2l (v := zib.toInt64) hx hb dX11_type_1 rfl ?_
  refine lv_lconst (v := 1) hx hb dX11_type_2 (by decide) ?_
  refine lv_ldc2 (v := 8) hx hb hown (hts (.constantLong RX11 104 8) (by decide +kernel)) dX11_type_3 ?_
  refine cj_i (wc := []) (wr := [(zy, .inr (11, [.ref zy0, .ref zy1, .int 0, .int 0, .int 0, .ref zy5, .int 0, .int 0, .ref zy8, .ref zy9, .ref zy10, .ref zy11, .ref zy12, .ref zy13, .ref zy14, .long 0, .ref zy16, .ref zy17, .ref zy18, .int 0, .long 0, .ref zy21, .ref zy22, .int 0, .ref zy24, .ref zy25, .ref zy26, .ref zy27])), (zy1, .inl (cy 0, 80, .inl (fun _ => 0)))]) (w1 := fun (_ : Unit) => []) (va_runS (As := [.long zib.toInt64, .long 1, .long 8]) (rest := []) ⟨hx, hb, hml, hown, hts⟩ (c_X11_in l dC dI cy s.heap.size zib.toInt64 1 8 1 8 zib.toInt (by first | rfl | decide | omega | exact Int32.toInt_toInt64 _) (by first | rfl | decide | omega | exact Int32.toInt_toInt64 _) (by first | rfl | decide | omega | exact Int32.toInt_toInt64 _)) (va_cwS 3 hts gX11_type_X11_in rfl rfl rfl (by decide +kernel) ⟨(Nat.le_of_ble_eq_true rfl), (Nat.le_of_ble_eq_true rfl)⟩) (PRE.s (hP.sub [] rfl) hK (hD.sub [] (by decide) rfl) hN) rfl rfl hl.1 rfl (lv_room (Nat.le_of_ble_eq_true rfl)) dX11_type_6 ⟨(Nat.le_of_ble_eq_true rfl), (Nat.le_of_ble_eq_true rfl)⟩) hP hD hS hA [] [0, 1] rfl rfl rfl (by decide) (fun r_2 u_1 H locs hw_3 hP hD hS => ?_)
  have hP : va_P (dC, dI) vwCl [(zy, .inr (11, [.ref zy0, .ref zy1, .int 0, .int 0, .int 0, .ref zy5, .int 0, .int 0, .ref zy8, .ref zy9, .ref zy10, .ref zy11, .ref zy12, .ref zy13, .ref zy14, .long 0, .ref zy16, .ref zy17, .ref zy18, .int 0, .long 0, .ref zy21, .ref zy22, .int 0, .ref zy24, .ref zy25, .ref zy26, .ref zy27])), (zy1, .inl (cy 0, 80, .inl (fun _ => 0)))] H := hP
  have hD : va_D A [(zy, .inr (11, [.ref zy0, .ref zy1, .int 0, .int 0, .int 0, .ref zy5, .int 0, .int 0, .ref zy8, .ref zy9, .ref zy10, .ref zy11, .ref zy12, .ref zy13, .ref zy14, .long 0, .ref zy16, .ref zy17, .ref zy18, .int 0, .long 0, .ref zy21, .ref zy22, .int 0, .ref zy24, .ref zy25, .ref zy26, .ref zy27])), (zy1, .inl (cy 0, 80, .inl (fun _ => 0)))] := hD
  have hw_3 : r_2 = if 1 ≤ zib.toInt ∧ zib.toInt ≤ 8 then 1 else 0 := hw_3
  refine lv_if_ne (tgt := 14) hx hb dX11_type_9 (by decide) (fun c_4 => ?_) (fun c_4 => ?_)
  · have f_5 : 1 ≤ zib.toInt ∧ zib.toInt ≤ 8 := bz_1 hw_3 c_4
    have k_6 : zib = 1 ∨ zib = 2 ∨ zib = 3 ∨ zib = 4 ∨ zib = 5 ∨ zib = 6 ∨ zib = 7 ∨ zib = 8 := ixn_8 (by omega) (by omega)
    rcases k_6 with rfl | rfl | rfl | rfl | rfl | rfl | rfl | rfl
    · have zk_6_1 : (1 : Int32).toInt = 1 := by decide
      refine lv_iload_n hx hb dX11_type_14 rfl (lv_at hl 2 rfl) ?_
      refine lv_iconst (v := 1) hx hb dX11_type_15 (by decide) ?_
      refine lv_isub hx hb dX11_type_16 ?_
      refine lv_topi (fun v_7 ev_7 => ?_)
      obtain rfl : v_7 = (0 : Int32) := ev_7.trans (by decide)
      refine lv_istore (lv' := [(4, .int 0), (0, .ref zy), (1, .long zja), (3, .int 1)]) hx hb dX11_type_17 hl (by decide) rfl (fun ls hl => ?_)
      refine lv_iload hx hb dX11_type_19 (lv_at hl 0 rfl) ?_
      refine lv_if_lt (tgt := 55) hx hb dX11_type_21 (by decide) (fun c_8 => absurd c_8 (by decide)) (fun c_8 => ?_)
      refine lv_lload_n hx hb dX11_type_24 rfl (lv_at hl 2 rfl) ?_
      refine lv_bipush (v := 8) hx hb dX11_type_25 (by decide) ?_
      refine lv_iload hx hb dX11_type_27 (lv_at hl 0 rfl) ?_
      refine lv_imul hx hb dX11_type_29 ?_
      refine lv_topi (fun v_9 ev_9 => ?_)
      obtain rfl : v_9 = (0 : Int32) := ev_9.trans (by decide)
      refine lv_lshr (v := zja >>> ((0 : Int32).toInt64 &&& 63)) hx hb dX11_type_30 rfl ?_
      refine lv_ldc2 (v := 255) hx hb hown (hts (.constantLong RX11 106 255) (by decide +kernel)) dX11_type_31 ?_
      refine lv_land hx hb dX11_type_34 ?_
      refine lv_topl (fun w_10 ew_10 => ?_)
      have tw_10 : w_10.toInt = by8 zja 0 := by rw [ew_10]; exact by8_l0 zja
      refine lv_ldc2 (v := 32) hx hb hown (hts (.constantLong RX11 108 32) (by decide +kernel)) dX11_type_35 ?_
      refine lv_ldc2 (v := 126) hx hb hown (hts (.constantLong RX11 110 126) (by decide +kernel)) dX11_type_38 ?_
      refine cj_i (wc := []) (wr := [(zy, .inr (11, [.ref zy0, .ref zy1, .int 0, .int 0, .int 0, .ref zy5, .int 0, .int 0, .ref zy8, .ref zy9, .ref zy10, .ref zy11, .ref zy12, .ref zy13, .ref zy14, .long 0, .ref zy16, .ref zy17, .ref zy18, .int 0, .long 0, .ref zy21, .ref zy22, .int 0, .ref zy24, .ref zy25, .ref zy26, .ref zy27])), (zy1, .inl (cy 0, 80, .inl (fun _ => 0)))]) (w1 := fun (_ : Unit) => []) (va_runS (As := [.long w_10, .long 32, .long 126]) (rest := []) ⟨hx, hb, hml, hown, hts⟩ (c_X11_in l dC dI cy H.size w_10 32 126 32 126 w_10.toInt (by first | rfl | decide | omega | exact Int32.toInt_toInt64 _) (by first | rfl | decide | omega | exact Int32.toInt_toInt64 _) (by first | rfl | decide | omega | exact Int32.toInt_toInt64 _)) (va_cwS 3 hts gX11_type_X11_in rfl rfl rfl (by decide +kernel) ⟨(Nat.le_of_ble_eq_true rfl), (Nat.le_of_ble_eq_true rfl)⟩) (PRE.s (hP.sub [] rfl) hK (hD.sub [] (by decide) rfl) hN) rfl rfl hl.1 rfl (lv_room (Nat.le_of_ble_eq_true rfl)) dX11_type_41 ⟨(Nat.le_of_ble_eq_true rfl), (Nat.le_of_ble_eq_true rfl)⟩) hP hD hS hA [] [0, 1] rfl rfl rfl (by decide) (fun r_12 u_11 H locs hw_13 hP hD hS => ?_)
      have hP : va_P (dC, dI) vwCl [(zy, .inr (11, [.ref zy0, .ref zy1, .int 0, .int 0, .int 0, .ref zy5, .int 0, .int 0, .ref zy8, .ref zy9, .ref zy10, .ref zy11, .ref zy12, .ref zy13, .ref zy14, .long 0, .ref zy16, .ref zy17, .ref zy18, .int 0, .long 0, .ref zy21, .ref zy22, .int 0, .ref zy24, .ref zy25, .ref zy26, .ref zy27])), (zy1, .inl (cy 0, 80, .inl (fun _ => 0)))] H := hP
      have hD : va_D A [(zy, .inr (11, [.ref zy0, .ref zy1, .int 0, .int 0, .int 0, .ref zy5, .int 0, .int 0, .ref zy8, .ref zy9, .ref zy10, .ref zy11, .ref zy12, .ref zy13, .ref zy14, .long 0, .ref zy16, .ref zy17, .ref zy18, .int 0, .long 0, .ref zy21, .ref zy22, .int 0, .ref zy24, .ref zy25, .ref zy26, .ref zy27])), (zy1, .inl (cy 0, 80, .inl (fun _ => 0)))] := hD
      have hw_13 : r_12 = if 32 ≤ w_10.toInt ∧ w_10.toInt ≤ 126 then 1 else 0 := hw_13
      refine lv_if_ne (tgt := 49) hx hb dX11_type_44 (by decide) (fun c_14 => ?_) (fun c_14 => ?_)
      · have f_15 : 32 ≤ w_10.toInt ∧ w_10.toInt ≤ 126 := bz_1 hw_13 c_14
        have g_16 : okb zja 0 := by unfold okb; rw [← tw_10]; exact f_15
        refine lv_iinc (v := (-1)) (lv' := [(4, .int (-1)), (0, .ref zy), (1, .long zja), (3, .int 1)]) hx hb dX11_type_49 hl (k := 0) rfl (by decide) (by decide) rfl (fun ls hl => ?_)
        refine lv_goto (tgt := 19) hx hb dX11_type_52 (by decide) ?_
        refine lv_iload hx hb dX11_type_19 (lv_at hl 0 rfl) ?_
        refine lv_if_lt (tgt := 55) hx hb dX11_type_21 (by decide) (fun c_17 => ?_) (fun c_17 => absurd (by decide) c_17)
        refine lv_aload_n hx hb dX11_type_55 rfl (lv_at hl 1 rfl) ?_
        refine va_get (D := (dC, dI)) (ci := 11) (v := .int 0) (C := RX11) (T := TX11) (N := 28) hx hb hts (by decide +kernel) hown hK hP 0 rfl rfl 2 (by decide) (hts (.fieldLink RX11 112 "DripStoneModel" "taped" "I") (by decide +kernel)) (fun _ h9 => h9) rfl dX11_type_56 ?_
        refine lv_iload_n hx hb dX11_type_59 rfl (lv_at hl 3 rfl) ?_
        refine lv_iadd hx hb dX11_type_60 ?_
        refine lv_topi (fun v_18 ev_18 => ?_)
        obtain rfl : v_18 = (1 : Int32) := ev_18.trans (by decide)
        refine lv_bipush (v := 80) hx hb dX11_type_61 (by decide) ?_
        refine lv_icmp_le (tgt := 69) hx hb dX11_type_63 (by decide) (fun c_19 => ?_) (fun c_19 => absurd (by decide) c_19)
        refine lv_iload_n hx hb dX11_type_69 rfl (lv_at hl 3 rfl) ?_
        refine lv_iconst (v := 1) hx hb dX11_type_70 (by decide) ?_
        refine lv_isub hx hb dX11_type_71 ?_
        refine lv_topi (fun v_20 ev_20 => ?_)
        obtain rfl : v_20 = (0 : Int32) := ev_20.trans (by decide)
        refine lv_istore (lv' := [(4, .int 0), (0, .ref zy), (1, .long zja), (3, .int 1)]) hx hb dX11_type_72 hl (by decide) rfl (fun ls hl => ?_)
        refine lv_iload hx hb dX11_type_74 (lv_at hl 0 rfl) ?_
        refine lv_if_lt (tgt := 116) hx hb dX11_type_76 (by decide) (fun c_21 => absurd c_21 (by decide)) (fun c_21 => ?_)
        refine lv_aload_n hx hb dX11_type_79 rfl (lv_at hl 1 rfl) ?_
        refine va_get (D := (dC, dI)) (ci := 11) (v := .ref zy1) (C := RX11) (T := TX11) (N := 28) hx hb hts (by decide +kernel) hown hK hP 0 rfl rfl 1 (by decide) (hts (.fieldLink RX11 13 "DripStoneModel" "tape" "[I") (by decide +kernel)) (fun _ h9 => h9) rfl dX11_type_80 ?_
        refine lv_aload_n hx hb dX11_type_83 rfl (lv_at hl 1 rfl) ?_
        refine va_get (D := (dC, dI)) (ci := 11) (v := .int 0) (C := RX11) (T := TX11) (N := 28) hx hb hts (by decide +kernel) hown hK hP 0 rfl rfl 2 (by decide) (hts (.fieldLink RX11 112 "DripStoneModel" "taped" "I") (by decide +kernel)) (fun _ h9 => h9) rfl dX11_type_84 ?_
        refine lv_lload_n hx hb dX11_type_87 rfl (lv_at hl 2 rfl) ?_
        refine lv_bipush (v := 8) hx hb dX11_type_88 (by decide) ?_
        refine lv_iload hx hb dX11_type_90 (lv_at hl 0 rfl) ?_
        refine lv_imul hx hb dX11_type_92 ?_
        refine lv_topi (fun v_22 ev_22 => ?_)
        obtain rfl : v_22 = (0 : Int32) := ev_22.trans (by decide)
        refine lv_lshr (v := zja >>> ((0 : Int32).toInt64 &&& 63)) hx hb dX11_type_93 rfl ?_
        refine lv_ldc2 (v := 255) hx hb hown (hts (.constantLong RX11 106 255) (by decide +kernel)) dX11_type_94 ?_
        refine lv_land hx hb dX11_type_97 ?_
        refine lv_topl (fun w_23 ew_23 => ?_)
        have tw_23 : w_23.toInt = by8 zja 0 := by rw [ew_23]; exact by8_l0 zja
        refine lv_l2i (v := w_23.toInt32) hx hb dX11_type_98 rfl ?_
        refine va_iast hx hb hK hP hD hS 1 0 rfl rfl (vp_in_iff.mpr ⟨by decide, by decide⟩) dX11_type_99 (fun H locs hP hD hS => ?_)
        have hP : va_P (dC, dI) vwCl [(zy, .inr (11, [.ref zy0, .ref zy1, .int 0, .int 0, .int 0, .ref zy5, .int 0, .int 0, .ref zy8, .ref zy9, .ref zy10, .ref zy11, .ref zy12, .ref zy13, .ref zy14, .long 0, .ref zy16, .ref zy17, .ref zy18, .int 0, .long 0, .ref zy21, .ref zy22, .int 0, .ref zy24, .ref zy25, .ref zy26, .ref zy27])), (zy1, .inl (cy 0, 80, .inl (upd (fun _ => 0) (0 : Int32).toNatClampNeg w_23.toInt32)))] H := hP
        have hD : va_D A [(zy, .inr (11, [.ref zy0, .ref zy1, .int 0, .int 0, .int 0, .ref zy5, .int 0, .int 0, .ref zy8, .ref zy9, .ref zy10, .ref zy11, .ref zy12, .ref zy13, .ref zy14, .long 0, .ref zy16, .ref zy17, .ref zy18, .int 0, .long 0, .ref zy21, .ref zy22, .int 0, .ref zy24, .ref zy25, .ref zy26, .ref zy27])), (zy1, .inl (cy 0, 80, .inl (upd (fun _ => 0) (0 : Int32).toNatClampNeg w_23.toInt32)))] := hD
        refine lv_aload_n hx hb dX11_type_100 rfl (lv_at hl 1 rfl) ?_
        refine lv_dup hx hb dX11_type_101 rfl ?_
        refine va_get (D := (dC, dI)) (ci := 11) (v := .int 0) (C := RX11) (T := TX11) (N := 28) hx hb hts (by decide +kernel) hown hK hP 0 rfl rfl 2 (by decide) (hts (.fieldLink RX11 112 "DripStoneModel" "taped" "I") (by decide +kernel)) (fun _ h9 => h9) rfl dX11_type_102 ?_
        refine lv_iconst (v := 1) hx hb dX11_type_105 (by decide) ?_
        refine lv_iadd hx hb dX11_type_106 ?_
        refine lv_topi (fun v_24 ev_24 => ?_)
        obtain rfl : v_24 = (1 : Int32) := ev_24.trans (by decide)
        refine va_put (D := (dC, dI)) (ci := 11) (v := .int 1) (ty := .int) (C := RX11) (T := TX11) (N := 28) hx hb hts (by decide +kernel) tyX11 tyX11_ok nmX11 hown hK hP hD hS 0 rfl rfl 2 (by decide) (hts (.fieldLink RX11 112 "DripStoneModel" "taped" "I") (by decide +kernel)) (fun _ h9 => h9) rfl (by decide +kernel) rfl rfl (Nat.le_of_ble_eq_true rfl) dX11_type_107 (fun H locs hP hD hS => ?_)
        have hP : va_P (dC, dI) vwCl [(zy, .inr (11, [.ref zy0, .ref zy1, .int 1, .int 0, .int 0, .ref zy5, .int 0, .int 0, .ref zy8, .ref zy9, .ref zy10, .ref zy11, .ref zy12, .ref zy13, .ref zy14, .long 0, .ref zy16, .ref zy17, .ref zy18, .int 0, .long 0, .ref zy21, .ref zy22, .int 0, .ref zy24, .ref zy25, .ref zy26, .ref zy27])), (zy1, .inl (cy 0, 80, .inl (upd (fun _ => 0) (0 : Int32).toNatClampNeg w_23.toInt32)))] H := hP
        have hD : va_D A [(zy, .inr (11, [.ref zy0, .ref zy1, .int 1, .int 0, .int 0, .ref zy5, .int 0, .int 0, .ref zy8, .ref zy9, .ref zy10, .ref zy11, .ref zy12, .ref zy13, .ref zy14, .long 0, .ref zy16, .ref zy17, .ref zy18, .int 0, .long 0, .ref zy21, .ref zy22, .int 0, .ref zy24, .ref zy25, .ref zy26, .ref zy27])), (zy1, .inl (cy 0, 80, .inl (upd (fun _ => 0) (0 : Int32).toNatClampNeg w_23.toInt32)))] := hD
        refine lv_iinc (v := (-1)) (lv' := [(4, .int (-1)), (0, .ref zy), (1, .long zja), (3, .int 1)]) hx hb dX11_type_110 hl (k := 0) rfl (by decide) (by decide) rfl (fun ls hl => ?_)
        refine lv_goto (tgt := 74) hx hb dX11_type_113 (by decide) ?_
        refine lv_iload hx hb dX11_type_74 (lv_at hl 0 rfl) ?_
        refine lv_if_lt (tgt := 116) hx hb dX11_type_76 (by decide) (fun c_25 => ?_) (fun c_25 => absurd (by decide) c_25)
        refine lv_aload_n hx hb dX11_type_116 rfl (lv_at hl 1 rfl) ?_
        refine va_get (D := (dC, dI)) (ci := 11) (v := .int 1) (C := RX11) (T := TX11) (N := 28) hx hb hts (by decide +kernel) hown hK hP 0 rfl rfl 2 (by decide) (hts (.fieldLink RX11 112 "DripStoneModel" "taped" "I") (by decide +kernel)) (fun _ h9 => h9) rfl dX11_type_117 ?_
        have hP9 := hP.sub (ws' := []) [] rfl
        have hD9 := hD.sub (ws' := []) [] (by decide) rfl
        exact W.iret (v := 1) hx hb hr (fun t ht hW => ⟨⟨1, (), rfl, ((an_type_1 _).trans (if_pos g_16)).symm, ⟨by rw [ht]; exact hP9, va_K.moved hW.alike hK, hD9⟩⟩, hS.F ht⟩) hS.2.2 dX11_type_120
      · have f_15 : ¬ (32 ≤ w_10.toInt ∧ w_10.toInt ≤ 126) := bz_0 hw_13 c_14
        have g_26 : ¬ okb zja 0 := by unfold okb; rw [← tw_10]; exact f_15
        refine lv_iconst (v := (-1)) hx hb dX11_type_47 (by decide) ?_
        have hP9 := hP.sub (ws' := []) [] rfl
        have hD9 := hD.sub (ws' := []) [] (by decide) rfl
        exact W.iret (v := (-1)) hx hb hr (fun t ht hW => ⟨⟨(-1), (), rfl, ((an_type_1 _).trans (if_neg (fun h => g_26 (h)))).symm, ⟨by rw [ht]; exact hP9, va_K.moved hW.alike hK, hD9⟩⟩, hS.F ht⟩) hS.2.2 dX11_type_48
    · have zk_6_2 : (2 : Int32).toInt = 2 := by decide
      refine lv_iload_n hx hb dX11_type_14 rfl (lv_at hl 2 rfl) ?_
      refine lv_iconst (v := 1) hx hb dX11_type_15 (by decide) ?_
      refine lv_isub hx hb dX11_type_16 ?_
      refine lv_topi (fun v_27 ev_27 => ?_)
      obtain rfl : v_27 = (1 : Int32) := ev_27.trans (by decide)
      refine lv_istore (lv' := [(4, .int 1), (0, .ref zy), (1, .long zja), (3, .int 2)]) hx hb dX11_type_17 hl (by decide) rfl (fun ls hl => ?_)
      refine lv_iload hx hb dX11_type_19 (lv_at hl 0 rfl) ?_
      refine lv_if_lt (tgt := 55) hx hb dX11_type_21 (by decide) (fun c_28 => absurd c_28 (by decide)) (fun c_28 => ?_)
      refine lv_lload_n hx hb dX11_type_24 rfl (lv_at hl 2 rfl) ?_
      refine lv_bipush (v := 8) hx hb dX11_type_25 (by decide) ?_
      refine lv_iload hx hb dX11_type_27 (lv_at hl 0 rfl) ?_
      refine lv_imul hx hb dX11_type_29 ?_
      refine lv_topi (fun v_29 ev_29 => ?_)
      obtain rfl : v_29 = (8 : Int32) := ev_29.trans (by decide)
      refine lv_lshr (v := zja >>> ((8 : Int32).toInt64 &&& 63)) hx hb dX11_type_30 rfl ?_
      refine lv_ldc2 (v := 255) hx hb hown (hts (.constantLong RX11 106 255) (by decide +kernel)) dX11_type_31 ?_
      refine lv_land hx hb dX11_type_34 ?_
      refine lv_topl (fun w_30 ew_30 => ?_)
      have tw_30 : w_30.toInt = by8 zja 1 := by rw [ew_30]; exact by8_l1 zja
      refine lv_ldc2 (v := 32) hx hb hown (hts (.constantLong RX11 108 32) (by decide +kernel)) dX11_type_35 ?_
      refine lv_ldc2 (v := 126) hx hb hown (hts (.constantLong RX11 110 126) (by decide +kernel)) dX11_type_38 ?_
      refine cj_i (wc := []) (wr := [(zy, .inr (11, [.ref zy0, .ref zy1, .int 0, .int 0, .int 0, .ref zy5, .int 0, .int 0, .ref zy8, .ref zy9, .ref zy10, .ref zy11, .ref zy12, .ref zy13, .ref zy14, .long 0, .ref zy16, .ref zy17, .ref zy18, .int 0, .long 0, .ref zy21, .ref zy22, .int 0, .ref zy24, .ref zy25, .ref zy26, .ref zy27])), (zy1, .inl (cy 0, 80, .inl (fun _ => 0)))]) (w1 := fun (_ : Unit) => []) (va_runS (As := [.long w_30, .long 32, .long 126]) (rest := []) ⟨hx, hb, hml, hown, hts⟩ (c_X11_in l dC dI cy H.size w_30 32 126 32 126 w_30.toInt (by first | rfl | decide | omega | exact Int32.toInt_toInt64 _) (by first | rfl | decide | omega | exact Int32.toInt_toInt64 _) (by first | rfl | decide | omega | exact Int32.toInt_toInt64 _)) (va_cwS 3 hts gX11_type_X11_in rfl rfl rfl (by decide +kernel) ⟨(Nat.le_of_ble_eq_true rfl), (Nat.le_of_ble_eq_true rfl)⟩) (PRE.s (hP.sub [] rfl) hK (hD.sub [] (by decide) rfl) hN) rfl rfl hl.1 rfl (lv_room (Nat.le_of_ble_eq_true rfl)) dX11_type_41 ⟨(Nat.le_of_ble_eq_true rfl), (Nat.le_of_ble_eq_true rfl)⟩) hP hD hS hA [] [0, 1] rfl rfl rfl (by decide) (fun r_32 u_31 H locs hw_33 hP hD hS => ?_)
      have hP : va_P (dC, dI) vwCl [(zy, .inr (11, [.ref zy0, .ref zy1, .int 0, .int 0, .int 0, .ref zy5, .int 0, .int 0, .ref zy8, .ref zy9, .ref zy10, .ref zy11, .ref zy12, .ref zy13, .ref zy14, .long 0, .ref zy16, .ref zy17, .ref zy18, .int 0, .long 0, .ref zy21, .ref zy22, .int 0, .ref zy24, .ref zy25, .ref zy26, .ref zy27])), (zy1, .inl (cy 0, 80, .inl (fun _ => 0)))] H := hP
      have hD : va_D A [(zy, .inr (11, [.ref zy0, .ref zy1, .int 0, .int 0, .int 0, .ref zy5, .int 0, .int 0, .ref zy8, .ref zy9, .ref zy10, .ref zy11, .ref zy12, .ref zy13, .ref zy14, .long 0, .ref zy16, .ref zy17, .ref zy18, .int 0, .long 0, .ref zy21, .ref zy22, .int 0, .ref zy24, .ref zy25, .ref zy26, .ref zy27])), (zy1, .inl (cy 0, 80, .inl (fun _ => 0)))] := hD
      have hw_33 : r_32 = if 32 ≤ w_30.toInt ∧ w_30.toInt ≤ 126 then 1 else 0 := hw_33
      refine lv_if_ne (tgt := 49) hx hb dX11_type_44 (by decide) (fun c_34 => ?_) (fun c_34 => ?_)
      · have f_35 : 32 ≤ w_30.toInt ∧ w_30.toInt ≤ 126 := bz_1 hw_33 c_34
        have g_36 : okb zja 1 := by unfold okb; rw [← tw_30]; exact f_35
        refine lv_iinc (v := 0) (lv' := [(4, .int 0), (0, .ref zy), (1, .long zja), (3, .int 2)]) hx hb dX11_type_49 hl (k := 0) rfl (by decide) (by decide) rfl (fun ls hl => ?_)
        refine lv_goto (tgt := 19) hx hb dX11_type_52 (by decide) ?_
        refine lv_iload hx hb dX11_type_19 (lv_at hl 0 rfl) ?_
        refine lv_if_lt (tgt := 55) hx hb dX11_type_21 (by decide) (fun c_37 => absurd c_37 (by decide)) (fun c_37 => ?_)
        refine lv_lload_n hx hb dX11_type_24 rfl (lv_at hl 2 rfl) ?_
        refine lv_bipush (v := 8) hx hb dX11_type_25 (by decide) ?_
        refine lv_iload hx hb dX11_type_27 (lv_at hl 0 rfl) ?_
        refine lv_imul hx hb dX11_type_29 ?_
        refine lv_topi (fun v_38 ev_38 => ?_)
        obtain rfl : v_38 = (0 : Int32) := ev_38.trans (by decide)
        refine lv_lshr (v := zja >>> ((0 : Int32).toInt64 &&& 63)) hx hb dX11_type_30 rfl ?_
        refine lv_ldc2 (v := 255) hx hb hown (hts (.constantLong RX11 106 255) (by decide +kernel)) dX11_type_31 ?_
        refine lv_land hx hb dX11_type_34 ?_
        refine lv_topl (fun w_39 ew_39 => ?_)
        have tw_39 : w_39.toInt = by8 zja 0 := by rw [ew_39]; exact by8_l0 zja
        refine lv_ldc2 (v := 32) hx hb hown (hts (.constantLong RX11 108 32) (by decide +kernel)) dX11_type_35 ?_
        refine lv_ldc2 (v := 126) hx hb hown (hts (.constantLong RX11 110 126) (by decide +kernel)) dX11_type_38 ?_
        refine cj_i (wc := []) (wr := [(zy, .inr (11, [.ref zy0, .ref zy1, .int 0, .int 0, .int 0, .ref zy5, .int 0, .int 0, .ref zy8, .ref zy9, .ref zy10, .ref zy11, .ref zy12, .ref zy13, .ref zy14, .long 0, .ref zy16, .ref zy17, .ref zy18, .int 0, .long 0, .ref zy21, .ref zy22, .int 0, .ref zy24, .ref zy25, .ref zy26, .ref zy27])), (zy1, .inl (cy 0, 80, .inl (fun _ => 0)))]) (w1 := fun (_ : Unit) => []) (va_runS (As := [.long w_39, .long 32, .long 126]) (rest := []) ⟨hx, hb, hml, hown, hts⟩ (c_X11_in l dC dI cy H.size w_39 32 126 32 126 w_39.toInt (by first | rfl | decide | omega | exact Int32.toInt_toInt64 _) (by first | rfl | decide | omega | exact Int32.toInt_toInt64 _) (by first | rfl | decide | omega | exact Int32.toInt_toInt64 _)) (va_cwS 3 hts gX11_type_X11_in rfl rfl rfl (by decide +kernel) ⟨(Nat.le_of_ble_eq_true rfl), (Nat.le_of_ble_eq_true rfl)⟩) (PRE.s (hP.sub [] rfl) hK (hD.sub [] (by decide) rfl) hN) rfl rfl hl.1 rfl (lv_room (Nat.le_of_ble_eq_true rfl)) dX11_type_41 ⟨(Nat.le_of_ble_eq_true rfl), (Nat.le_of_ble_eq_true rfl)⟩) hP hD hS hA [] [0, 1] rfl rfl rfl (by decide) (fun r_41 u_40 H locs hw_42 hP hD hS => ?_)
        have hP : va_P (dC, dI) vwCl [(zy, .inr (11, [.ref zy0, .ref zy1, .int 0, .int 0, .int 0, .ref zy5, .int 0, .int 0, .ref zy8, .ref zy9, .ref zy10, .ref zy11, .ref zy12, .ref zy13, .ref zy14, .long 0, .ref zy16, .ref zy17, .ref zy18, .int 0, .long 0, .ref zy21, .ref zy22, .int 0, .ref zy24, .ref zy25, .ref zy26, .ref zy27])), (zy1, .inl (cy 0, 80, .inl (fun _ => 0)))] H := hP
        have hD : va_D A [(zy, .inr (11, [.ref zy0, .ref zy1, .int 0, .int 0, .int 0, .ref zy5, .int 0, .int 0, .ref zy8, .ref zy9, .ref zy10, .ref zy11, .ref zy12, .ref zy13, .ref zy14, .long 0, .ref zy16, .ref zy17, .ref zy18, .int 0, .long 0, .ref zy21, .ref zy22, .int 0, .ref zy24, .ref zy25, .ref zy26, .ref zy27])), (zy1, .inl (cy 0, 80, .inl (fun _ => 0)))] := hD
        have hw_42 : r_41 = if 32 ≤ w_39.toInt ∧ w_39.toInt ≤ 126 then 1 else 0 := hw_42
        refine lv_if_ne (tgt := 49) hx hb dX11_type_44 (by decide) (fun c_43 => ?_) (fun c_43 => ?_)
        · have f_44 : 32 ≤ w_39.toInt ∧ w_39.toInt ≤ 126 := bz_1 hw_42 c_43
          have g_45 : okb zja 0 := by unfold okb; rw [← tw_39]; exact f_44
          refine lv_iinc (v := (-1)) (lv' := [(4, .int (-1)), (0, .ref zy), (1, .long zja), (3, .int 2)]) hx hb dX11_type_49 hl (k := 0) rfl (by decide) (by decide) rfl (fun ls hl => ?_)
          refine lv_goto (tgt := 19) hx hb dX11_type_52 (by decide) ?_
          refine lv_iload hx hb dX11_type_19 (lv_at hl 0 rfl) ?_
          refine lv_if_lt (tgt := 55) hx hb dX11_type_21 (by decide) (fun c_46 => ?_) (fun c_46 => absurd (by decide) c_46)
          refine lv_aload_n hx hb dX11_type_55 rfl (lv_at hl 1 rfl) ?_
          refine va_get (D := (dC, dI)) (ci := 11) (v := .int 0) (C := RX11) (T := TX11) (N := 28) hx hb hts (by decide +kernel) hown hK hP 0 rfl rfl 2 (by decide) (hts (.fieldLink RX11 112 "DripStoneModel" "taped" "I") (by decide +kernel)) (fun _ h9 => h9) rfl dX11_type_56 ?_
          refine lv_iload_n hx hb dX11_type_59 rfl (lv_at hl 3 rfl) ?_
          refine lv_iadd hx hb dX11_type_60 ?_
          refine lv_topi (fun v_47 ev_47 => ?_)
          obtain rfl : v_47 = (2 : Int32) := ev_47.trans (by decide)
          refine lv_bipush (v := 80) hx hb dX11_type_61 (by decide) ?_
          refine lv_icmp_le (tgt := 69) hx hb dX11_type_63 (by decide) (fun c_48 => ?_) (fun c_48 => absurd (by decide) c_48)
          refine lv_iload_n hx hb dX11_type_69 rfl (lv_at hl 3 rfl) ?_
          refine lv_iconst (v := 1) hx hb dX11_type_70 (by decide) ?_
          refine lv_isub hx hb dX11_type_71 ?_
          refine lv_topi (fun v_49 ev_49 => ?_)
          obtain rfl : v_49 = (1 : Int32) := ev_49.trans (by decide)
          refine lv_istore (lv' := [(4, .int 1), (0, .ref zy), (1, .long zja), (3, .int 2)]) hx hb dX11_type_72 hl (by decide) rfl (fun ls hl => ?_)
          refine lv_iload hx hb dX11_type_74 (lv_at hl 0 rfl) ?_
          refine lv_if_lt (tgt := 116) hx hb dX11_type_76 (by decide) (fun c_50 => absurd c_50 (by decide)) (fun c_50 => ?_)
          refine lv_aload_n hx hb dX11_type_79 rfl (lv_at hl 1 rfl) ?_
          refine va_get (D := (dC, dI)) (ci := 11) (v := .ref zy1) (C := RX11) (T := TX11) (N := 28) hx hb hts (by decide +kernel) hown hK hP 0 rfl rfl 1 (by decide) (hts (.fieldLink RX11 13 "DripStoneModel" "tape" "[I") (by decide +kernel)) (fun _ h9 => h9) rfl dX11_type_80 ?_
          refine lv_aload_n hx hb dX11_type_83 rfl (lv_at hl 1 rfl) ?_
          refine va_get (D := (dC, dI)) (ci := 11) (v := .int 0) (C := RX11) (T := TX11) (N := 28) hx hb hts (by decide +kernel) hown hK hP 0 rfl rfl 2 (by decide) (hts (.fieldLink RX11 112 "DripStoneModel" "taped" "I") (by decide +kernel)) (fun _ h9 => h9) rfl dX11_type_84 ?_
          refine lv_lload_n hx hb dX11_type_87 rfl (lv_at hl 2 rfl) ?_
          refine lv_bipush (v := 8) hx hb dX11_type_88 (by decide) ?_
          refine lv_iload hx hb dX11_type_90 (lv_at hl 0 rfl) ?_
          refine lv_imul hx hb dX11_type_92 ?_
          refine lv_topi (fun v_51 ev_51 => ?_)
          obtain rfl : v_51 = (8 : Int32) := ev_51.trans (by decide)
          refine lv_lshr (v := zja >>> ((8 : Int32).toInt64 &&& 63)) hx hb dX11_type_93 rfl ?_
          refine lv_ldc2 (v := 255) hx hb hown (hts (.constantLong RX11 106 255) (by decide +kernel)) dX11_type_94 ?_
          refine lv_land hx hb dX11_type_97 ?_
          refine lv_topl (fun w_52 ew_52 => ?_)
          have tw_52 : w_52.toInt = by8 zja 1 := by rw [ew_52]; exact by8_l1 zja
          refine lv_l2i (v := w_52.toInt32) hx hb dX11_type_98 rfl ?_
          refine va_iast hx hb hK hP hD hS 1 0 rfl rfl (vp_in_iff.mpr ⟨by decide, by decide⟩) dX11_type_99 (fun H locs hP hD hS => ?_)
          have hP : va_P (dC, dI) vwCl [(zy, .inr (11, [.ref zy0, .ref zy1, .int 0, .int 0, .int 0, .ref zy5, .int 0, .int 0, .ref zy8, .ref zy9, .ref zy10, .ref zy11, .ref zy12, .ref zy13, .ref zy14, .long 0, .ref zy16, .ref zy17, .ref zy18, .int 0, .long 0, .ref zy21, .ref zy22, .int 0, .ref zy24, .ref zy25, .ref zy26, .ref zy27])), (zy1, .inl (cy 0, 80, .inl (upd (fun _ => 0) (0 : Int32).toNatClampNeg w_52.toInt32)))] H := hP
          have hD : va_D A [(zy, .inr (11, [.ref zy0, .ref zy1, .int 0, .int 0, .int 0, .ref zy5, .int 0, .int 0, .ref zy8, .ref zy9, .ref zy10, .ref zy11, .ref zy12, .ref zy13, .ref zy14, .long 0, .ref zy16, .ref zy17, .ref zy18, .int 0, .long 0, .ref zy21, .ref zy22, .int 0, .ref zy24, .ref zy25, .ref zy26, .ref zy27])), (zy1, .inl (cy 0, 80, .inl (upd (fun _ => 0) (0 : Int32).toNatClampNeg w_52.toInt32)))] := hD
          refine lv_aload_n hx hb dX11_type_100 rfl (lv_at hl 1 rfl) ?_
          refine lv_dup hx hb dX11_type_101 rfl ?_
          refine va_get (D := (dC, dI)) (ci := 11) (v := .int 0) (C := RX11) (T := TX11) (N := 28) hx hb hts (by decide +kernel) hown hK hP 0 rfl rfl 2 (by decide) (hts (.fieldLink RX11 112 "DripStoneModel" "taped" "I") (by decide +kernel)) (fun _ h9 => h9) rfl dX11_type_102 ?_
          refine lv_iconst (v := 1) hx hb dX11_type_105 (by decide) ?_
          refine lv_iadd hx hb dX11_type_106 ?_
          refine lv_topi (fun v_53 ev_53 => ?_)
          obtain rfl : v_53 = (1 : Int32) := ev_53.trans (by decide)
          refine va_put (D := (dC, dI)) (ci := 11) (v := .int 1) (ty := .int) (C := RX11) (T := TX11) (N := 28) hx hb hts (by decide +kernel) tyX11 tyX11_ok nmX11 hown hK hP hD hS 0 rfl rfl 2 (by decide) (hts (.fieldLink RX11 112 "DripStoneModel" "taped" "I") (by decide +kernel)) (fun _ h9 => h9) rfl (by decide +kernel) rfl rfl (Nat.le_of_ble_eq_true rfl) dX11_type_107 (fun H locs hP hD hS => ?_)
          have hP : va_P (dC, dI) vwCl [(zy, .inr (11, [.ref zy0, .ref zy1, .int 1, .int 0, .int 0, .ref zy5, .int 0, .int 0, .ref zy8, .ref zy9, .ref zy10, .ref zy11, .ref zy12, .ref zy13, .ref zy14, .long 0, .ref zy16, .ref zy17, .ref zy18, .int 0, .long 0, .ref zy21, .ref zy22, .int 0, .ref zy24, .ref zy25, .ref zy26, .ref zy27])), (zy1, .inl (cy 0, 80, .inl (upd (fun _ => 0) (0 : Int32).toNatClampNeg w_52.toInt32)))] H := hP
          have hD : va_D A [(zy, .inr (11, [.ref zy0, .ref zy1, .int 1, .int 0, .int 0, .ref zy5, .int 0, .int 0, .ref zy8, .ref zy9, .ref zy10, .ref zy11, .ref zy12, .ref zy13, .ref zy14, .long 0, .ref zy16, .ref zy17, .ref zy18, .int 0, .long 0, .ref zy21, .ref zy22, .int 0, .ref zy24, .ref zy25, .ref zy26, .ref zy27])), (zy1, .inl (cy 0, 80, .inl (upd (fun _ => 0) (0 : Int32).toNatClampNeg w_52.toInt32)))] := hD
          refine lv_iinc (v := 0) (lv' := [(4, .int 0), (0, .ref zy), (1, .long zja), (3, .int 2)]) hx hb dX11_type_110 hl (k := 0) rfl (by decide) (by decide) rfl (fun ls hl => ?_)
          refine lv_goto (tgt := 74) hx hb dX11_type_113 (by decide) ?_
          refine lv_iload hx hb dX11_type_74 (lv_at hl 0 rfl) ?_
          refine lv_if_lt (tgt := 116) hx hb dX11_type_76 (by decide) (fun c_54 => absurd c_54 (by decide)) (fun c_54 => ?_)
          refine lv_aload_n hx hb dX11_type_79 rfl (lv_at hl 1 rfl) ?_
          refine va_get (D := (dC, dI)) (ci := 11) (v := .ref zy1) (C := RX11) (T := TX11) (N := 28) hx hb hts (by decide +kernel) hown hK hP 0 rfl rfl 1 (by decide) (hts (.fieldLink RX11 13 "DripStoneModel" "tape" "[I") (by decide +kernel)) (fun _ h9 => h9) rfl dX11_type_80 ?_
          refine lv_aload_n hx hb dX11_type_83 rfl (lv_at hl 1 rfl) ?_
          refine va_get (D := (dC, dI)) (ci := 11) (v := .int 1) (C := RX11) (T := TX11) (N := 28) hx hb hts (by decide +kernel) hown hK hP 0 rfl rfl 2 (by decide) (hts (.fieldLink RX11 112 "DripStoneModel" "taped" "I") (by decide +kernel)) (fun _ h9 => h9) rfl dX11_type_84 ?_
          refine lv_lload_n hx hb dX11_type_87 rfl (lv_at hl 2 rfl) ?_
          refine lv_bipush (v := 8) hx hb dX11_type_88 (by decide) ?_
          refine lv_iload hx hb dX11_type_90 (lv_at hl 0 rfl) ?_
          refine lv_imul hx hb dX11_type_92 ?_
          refine lv_topi (fun v_55 ev_55 => ?_)
          obtain rfl : v_55 = (0 : Int32) := ev_55.trans (by decide)
          refine lv_lshr (v := zja >>> ((0 : Int32).toInt64 &&& 63)) hx hb dX11_type_93 rfl ?_
          refine lv_ldc2 (v := 255) hx hb hown (hts (.constantLong RX11 106 255) (by decide +kernel)) dX11_type_94 ?_
          refine lv_land hx hb dX11_type_97 ?_
          refine lv_topl (fun w_56 ew_56 => ?_)
          have tw_56 : w_56.toInt = by8 zja 0 := by rw [ew_56]; exact by8_l0 zja
          refine lv_l2i (v := w_56.toInt32) hx hb dX11_type_98 rfl ?_
          refine va_iast hx hb hK hP hD hS 1 0 rfl rfl (vp_in_iff.mpr ⟨by decide, by decide⟩) dX11_type_99 (fun H locs hP hD hS => ?_)
          have hP : va_P (dC, dI) vwCl [(zy, .inr (11, [.ref zy0, .ref zy1, .int 1, .int 0, .int 0, .ref zy5, .int 0, .int 0, .ref zy8, .ref zy9, .ref zy10, .ref zy11, .ref zy12, .ref zy13, .ref zy14, .long 0, .ref zy16, .ref zy17, .ref zy18, .int 0, .long 0, .ref zy21, .ref zy22, .int 0, .ref zy24, .ref zy25, .ref zy26, .ref zy27])), (zy1, .inl (cy 0, 80, .inl (upd (upd (fun _ => 0) (0 : Int32).toNatClampNeg w_52.toInt32) (1 : Int32).toNatClampNeg w_56.toInt32)))] H := hP
          have hD : va_D A [(zy, .inr (11, [.ref zy0, .ref zy1, .int 1, .int 0, .int 0, .ref zy5, .int 0, .int 0, .ref zy8, .ref zy9, .ref zy10, .ref zy11, .ref zy12, .ref zy13, .ref zy14, .long 0, .ref zy16, .ref zy17, .ref zy18, .int 0, .long 0, .ref zy21, .ref zy22, .int 0, .ref zy24, .ref zy25, .ref zy26, .ref zy27])), (zy1, .inl (cy 0, 80, .inl (upd (upd (fun _ => 0) (0 : Int32).toNatClampNeg w_52.toInt32) (1 : Int32).toNatClampNeg w_56.toInt32)))] := hD
          refine lv_aload_n hx hb dX11_type_100 rfl (lv_at hl 1 rfl) ?_
          refine lv_dup hx hb dX11_type_101 rfl ?_
          refine va_get (D := (dC, dI)) (ci := 11) (v := .int 1) (C := RX11) (T := TX11) (N := 28) hx hb hts (by decide +kernel) hown hK hP 0 rfl rfl 2 (by decide) (hts (.fieldLink RX11 112 "DripStoneModel" "taped" "I") (by decide +kernel)) (fun _ h9 => h9) rfl dX11_type_102 ?_
          refine lv_iconst (v := 1) hx hb dX11_type_105 (by decide) ?_
          refine lv_iadd hx hb dX11_type_106 ?_
          refine lv_topi (fun v_57 ev_57 => ?_)
          obtain rfl : v_57 = (2 : Int32) := ev_57.trans (by decide)
          refine va_put (D := (dC, dI)) (ci := 11) (v := .int 2) (ty := .int) (C := RX11) (T := TX11) (N := 28) hx hb hts (by decide +kernel) tyX11 tyX11_ok nmX11 hown hK hP hD hS 0 rfl rfl 2 (by decide) (hts (.fieldLink RX11 112 "DripStoneModel" "taped" "I") (by decide +kernel)) (fun _ h9 => h9) rfl (by decide +kernel) rfl rfl (Nat.le_of_ble_eq_true rfl) dX11_type_107 (fun H locs hP hD hS => ?_)
          have hP : va_P (dC, dI) vwCl [(zy, .inr (11, [.ref zy0, .ref zy1, .int 2, .int 0, .int 0, .ref zy5, .int 0, .int 0, .ref zy8, .ref zy9, .ref zy10, .ref zy11, .ref zy12, .ref zy13, .ref zy14, .long 0, .ref zy16, .ref zy17, .ref zy18, .int 0, .long 0, .ref zy21, .ref zy22, .int 0, .ref zy24, .ref zy25, .ref zy26, .ref zy27])), (zy1, .inl (cy 0, 80, .inl (upd (upd (fun _ => 0) (0 : Int32).toNatClampNeg w_52.toInt32) (1 : Int32).toNatClampNeg w_56.toInt32)))] H := hP
          have hD : va_D A [(zy, .inr (11, [.ref zy0, .ref zy1, .int 2, .int 0, .int 0, .ref zy5, .int 0, .int 0, .ref zy8, .ref zy9, .ref zy10, .ref zy11, .ref zy12, .ref zy13, .ref zy14, .long 0, .ref zy16, .ref zy17, .ref zy18, .int 0, .long 0, .ref zy21, .ref zy22, .int 0, .ref zy24, .ref zy25, .ref zy26, .ref zy27])), (zy1, .inl (cy 0, 80, .inl (upd (upd (fun _ => 0) (0 : Int32).toNatClampNeg w_52.toInt32) (1 : Int32).toNatClampNeg w_56.toInt32)))] := hD
          refine lv_iinc (v := (-1)) (lv' := [(4, .int (-1)), (0, .ref zy), (1, .long zja), (3, .int 2)]) hx hb dX11_type_110 hl (k := 0) rfl (by decide) (by decide) rfl (fun ls hl => ?_)
          refine lv_goto (tgt := 74) hx hb dX11_type_113 (by decide) ?_
          refine lv_iload hx hb dX11_type_74 (lv_at hl 0 rfl) ?_
          refine lv_if_lt (tgt := 116) hx hb dX11_type_76 (by decide) (fun c_58 => ?_) (fun c_58 => absurd (by decide) c_58)
          refine lv_aload_n hx hb dX11_type_116 rfl (lv_at hl 1 rfl) ?_
          refine va_get (D := (dC, dI)) (ci := 11) (v := .int 2) (C := RX11) (T := TX11) (N := 28) hx hb hts (by decide +kernel) hown hK hP 0 rfl rfl 2 (by decide) (hts (.fieldLink RX11 112 "DripStoneModel" "taped" "I") (by decide +kernel)) (fun _ h9 => h9) rfl dX11_type_117 ?_
          have hP9 := hP.sub (ws' := []) [] rfl
          have hD9 := hD.sub (ws' := []) [] (by decide) rfl
          exact W.iret (v := 2) hx hb hr (fun t ht hW => ⟨⟨2, (), rfl, ((an_type_2 _).trans (if_pos ⟨g_45, g_36⟩)).symm, ⟨by rw [ht]; exact hP9, va_K.moved hW.alike hK, hD9⟩⟩, hS.F ht⟩) hS.2.2 dX11_type_120
        · have f_44 : ¬ (32 ≤ w_39.toInt ∧ w_39.toInt ≤ 126) := bz_0 hw_42 c_43
          have g_59 : ¬ okb zja 0 := by unfold okb; rw [← tw_39]; exact f_44
          refine lv_iconst (v := (-1)) hx hb dX11_type_47 (by decide) ?_
          have hP9 := hP.sub (ws' := []) [] rfl
          have hD9 := hD.sub (ws' := []) [] (by decide) rfl
          exact W.iret (v := (-1)) hx hb hr (fun t ht hW => ⟨⟨(-1), (), rfl, ((an_type_2 _).trans (if_neg (fun h => g_59 (h.1)))).symm, ⟨by rw [ht]; exact hP9, va_K.moved hW.alike hK, hD9⟩⟩, hS.F ht⟩) hS.2.2 dX11_type_48
      · have f_35 : ¬ (32 ≤ w_30.toInt ∧ w_30.toInt ≤ 126) := bz_0 hw_33 c_34
        have g_60 : ¬ okb zja 1 := by unfold okb; rw [← tw_30]; exact f_35
        refine lv_iconst (v := (-1)) hx hb dX11_type_47 (by decide) ?_
        have hP9 := hP.sub (ws' := []) [] rfl
        have hD9 := hD.sub (ws' := []) [] (by decide) rfl
        exact W.iret (v := (-1)) hx hb hr (fun t ht hW => ⟨⟨(-1), (), rfl, ((an_type_2 _).trans (if_neg (fun h => g_60 (h.2)))).symm, ⟨by rw [ht]; exact hP9, va_K.moved hW.alike hK, hD9⟩⟩, hS.F ht⟩) hS.2.2 dX11_type_48
    · have zk_6_3 : (3 : Int32).toInt = 3 := by decide
      refine lv_iload_n hx hb dX11_type_14 rfl (lv_at hl 2 rfl) ?_
      refine lv_iconst (v := 1) hx hb dX11_type_15 (by decide) ?_
      refine lv_isub hx hb dX11_type_16 ?_
      refine lv_topi (fun v_61 ev_61 => ?_)
      obtain rfl : v_61 = (2 : Int32) := ev_61.trans (by decide)
      refine lv_istore (lv' := [(4, .int 2), (0, .ref zy), (1, .long zja), (3, .int 3)]) hx hb dX11_type_17 hl (by decide) rfl (fun ls hl => ?_)
      refine lv_iload hx hb dX11_type_19 (lv_at hl 0 rfl) ?_
      refine lv_if_lt (tgt := 55) hx hb dX11_type_21 (by decide) (fun c_62 => absurd c_62 (by decide)) (fun c_62 => ?_)
      refine lv_lload_n hx hb dX11_type_24 rfl (lv_at hl 2 rfl) ?_
      refine lv_bipush (v := 8) hx hb dX11_type_25 (by decide) ?_
      refine lv_iload hx hb dX11_type_27 (lv_at hl 0 rfl) ?_
      refine lv_imul hx hb dX11_type_29 ?_
      refine lv_topi (fun v_63 ev_63 => ?_)
      obtain rfl : v_63 = (16 : Int32) := ev_63.trans (by decide)
      refine lv_lshr (v := zja >>> ((16 : Int32).toInt64 &&& 63)) hx hb dX11_type_30 rfl ?_
      refine lv_ldc2 (v := 255) hx hb hown (hts (.constantLong RX11 106 255) (by decide +kernel)) dX11_type_31 ?_
      refine lv_land hx hb dX11_type_34 ?_
      refine lv_topl (fun w_64 ew_64 => ?_)
      have tw_64 : w_64.toInt = by8 zja 2 := by rw [ew_64]; exact by8_l2 zja
      refine lv_ldc2 (v := 32) hx hb hown (hts (.constantLong RX11 108 32) (by decide +kernel)) dX11_type_35 ?_
      refine lv_ldc2 (v := 126) hx hb hown (hts (.constantLong RX11 110 126) (by decide +kernel)) dX11_type_38 ?_
      refine cj_i (wc := []) (wr := [(zy, .inr (11, [.ref zy0, .ref zy1, .int 0, .int 0, .int 0, .ref zy5, .int 0, .int 0, .ref zy8, .ref zy9, .ref zy10, .ref zy11, .ref zy12, .ref zy13, .ref zy14, .long 0, .ref zy16, .ref zy17, .ref zy18, .int 0, .long 0, .ref zy21, .ref zy22, .int 0, .ref zy24, .ref zy25, .ref zy26, .ref zy27])), (zy1, .inl (cy 0, 80, .inl (fun _ => 0)))]) (w1 := fun (_ : Unit) => []) (va_runS (As := [.long w_64, .long 32, .long 126]) (rest := []) ⟨hx, hb, hml, hown, hts⟩ (c_X11_in l dC dI cy H.size w_64 32 126 32 126 w_64.toInt (by first | rfl | decide | omega | exact Int32.toInt_toInt64 _) (by first | rfl | decide | omega | exact Int32.toInt_toInt64 _) (by first | rfl | decide | omega | exact Int32.toInt_toInt64 _)) (va_cwS 3 hts gX11_type_X11_in rfl rfl rfl (by decide +kernel) ⟨(Nat.le_of_ble_eq_true rfl), (Nat.le_of_ble_eq_true rfl)⟩) (PRE.s (hP.sub [] rfl) hK (hD.sub [] (by decide) rfl) hN) rfl rfl hl.1 rfl (lv_room (Nat.le_of_ble_eq_true rfl)) dX11_type_41 ⟨(Nat.le_of_ble_eq_true rfl), (Nat.le_of_ble_eq_true rfl)⟩) hP hD hS hA [] [0, 1] rfl rfl rfl (by decide) (fun r_66 u_65 H locs hw_67 hP hD hS => ?_)
      have hP : va_P (dC, dI) vwCl [(zy, .inr (11, [.ref zy0, .ref zy1, .int 0, .int 0, .int 0, .ref zy5, .int 0, .int 0, .ref zy8, .ref zy9, .ref zy10, .ref zy11, .ref zy12, .ref zy13, .ref zy14, .long 0, .ref zy16, .ref zy17, .ref zy18, .int 0, .long 0, .ref zy21, .ref zy22, .int 0, .ref zy24, .ref zy25, .ref zy26, .ref zy27])), (zy1, .inl (cy 0, 80, .inl (fun _ => 0)))] H := hP
      have hD : va_D A [(zy, .inr (11, [.ref zy0, .ref zy1, .int 0, .int 0, .int 0, .ref zy5, .int 0, .int 0, .ref zy8, .ref zy9, .ref zy10, .ref zy11, .ref zy12, .ref zy13, .ref zy14, .long 0, .ref zy16, .ref zy17, .ref zy18, .int 0, .long 0, .ref zy21, .ref zy22, .int 0, .ref zy24, .ref zy25, .ref zy26, .ref zy27])), (zy1, .inl (cy 0, 80, .inl (fun _ => 0)))] := hD
      have hw_67 : r_66 = if 32 ≤ w_64.toInt ∧ w_64.toInt ≤ 126 then 1 else 0 := hw_67
      refine lv_if_ne (tgt := 49) hx hb dX11_type_44 (by decide) (fun c_68 => ?_) (fun c_68 => ?_)
      · have f_69 : 32 ≤ w_64.toInt ∧ w_64.toInt ≤ 126 := bz_1 hw_67 c_68
        have g_70 : okb zja 2 := by unfold okb; rw [← tw_64]; exact f_69
        refine lv_iinc (v := 1) (lv' := [(4, .int 1), (0, .ref zy), (1, .long zja), (3, .int 3)]) hx hb dX11_type_49 hl (k := 0) rfl (by decide) (by decide) rfl (fun ls hl => ?_)
        refine lv_goto (tgt := 19) hx hb dX11_type_52 (by decide) ?_
        refine lv_iload hx hb dX11_type_19 (lv_at hl 0 rfl) ?_
        refine lv_if_lt (tgt := 55) hx hb dX11_type_21 (by decide) (fun c_71 => absurd c_71 (by decide)) (fun c_71 => ?_)
        refine lv_lload_n hx hb dX11_type_24 rfl (lv_at hl 2 rfl) ?_
        refine lv_bipush (v := 8) hx hb dX11_type_25 (by decide) ?_
        refine lv_iload hx hb dX11_type_27 (lv_at hl 0 rfl) ?_
        refine lv_imul hx hb dX11_type_29 ?_
        refine lv_topi (fun v_72 ev_72 => ?_)
        obtain rfl : v_72 = (8 : Int32) := ev_72.trans (by decide)
        refine lv_lshr (v := zja >>> ((8 : Int32).toInt64 &&& 63)) hx hb dX11_type_30 rfl ?_
        refine lv_ldc2 (v := 255) hx hb hown (hts (.constantLong RX11 106 255) (by decide +kernel)) dX11_type_31 ?_
        refine lv_land hx hb dX11_type_34 ?_
        refine lv_topl (fun w_73 ew_73 => ?_)
        have tw_73 : w_73.toInt = by8 zja 1 := by rw [ew_73]; exact by8_l1 zja
        refine lv_ldc2 (v := 32) hx hb hown (hts (.constantLong RX11 108 32) (by decide +kernel)) dX11_type_35 ?_
        refine lv_ldc2 (v := 126) hx hb hown (hts (.constantLong RX11 110 126) (by decide +kernel)) dX11_type_38 ?_
        refine cj_i (wc := []) (wr := [(zy, .inr (11, [.ref zy0, .ref zy1, .int 0, .int 0, .int 0, .ref zy5, .int 0, .int 0, .ref zy8, .ref zy9, .ref zy10, .ref zy11, .ref zy12, .ref zy13, .ref zy14, .long 0, .ref zy16, .ref zy17, .ref zy18, .int 0, .long 0, .ref zy21, .ref zy22, .int 0, .ref zy24, .ref zy25, .ref zy26, .ref zy27])), (zy1, .inl (cy 0, 80, .inl (fun _ => 0)))]) (w1 := fun (_ : Unit) => []) (va_runS (As := [.long w_73, .long 32, .long 126]) (rest := []) ⟨hx, hb, hml, hown, hts⟩ (c_X11_in l dC dI cy H.size w_73 32 126 32 126 w_73.toInt (by first | rfl | decide | omega | exact Int32.toInt_toInt64 _) (by first | rfl | decide | omega | exact Int32.toInt_toInt64 _) (by first | rfl | decide | omega | exact Int32.toInt_toInt64 _)) (va_cwS 3 hts gX11_type_X11_in rfl rfl rfl (by decide +kernel) ⟨(Nat.le_of_ble_eq_true rfl), (Nat.le_of_ble_eq_true rfl)⟩) (PRE.s (hP.sub [] rfl) hK (hD.sub [] (by decide) rfl) hN) rfl rfl hl.1 rfl (lv_room (Nat.le_of_ble_eq_true rfl)) dX11_type_41 ⟨(Nat.le_of_ble_eq_true rfl), (Nat.le_of_ble_eq_true rfl)⟩) hP hD hS hA [] [0, 1] rfl rfl rfl (by decide) (fun r_75 u_74 H locs hw_76 hP hD hS => ?_)
        have hP : va_P (dC, dI) vwCl [(zy, .inr (11, [.ref zy0, .ref zy1, .int 0, .int 0, .int 0, .ref zy5, .int 0, .int 0, .ref zy8, .ref zy9, .ref zy10, .ref zy11, .ref zy12, .ref zy13, .ref zy14, .long 0, .ref zy16, .ref zy17, .ref zy18, .int 0, .long 0, .ref zy21, .ref zy22, .int 0, .ref zy24, .ref zy25, .ref zy26, .ref zy27])), (zy1, .inl (cy 0, 80, .inl (fun _ => 0)))] H := hP
        have hD : va_D A [(zy, .inr (11, [.ref zy0, .ref zy1, .int 0, .int 0, .int 0, .ref zy5, .int 0, .int 0, .ref zy8, .ref zy9, .ref zy10, .ref zy11, .ref zy12, .ref zy13, .ref zy14, .long 0, .ref zy16, .ref zy17, .ref zy18, .int 0, .long 0, .ref zy21, .ref zy22, .int 0, .ref zy24, .ref zy25, .ref zy26, .ref zy27])), (zy1, .inl (cy 0, 80, .inl (fun _ => 0)))] := hD
        have hw_76 : r_75 = if 32 ≤ w_73.toInt ∧ w_73.toInt ≤ 126 then 1 else 0 := hw_76
        refine lv_if_ne (tgt := 49) hx hb dX11_type_44 (by decide) (fun c_77 => ?_) (fun c_77 => ?_)
        · have f_78 : 32 ≤ w_73.toInt ∧ w_73.toInt ≤ 126 := bz_1 hw_76 c_77
          have g_79 : okb zja 1 := by unfold okb; rw [← tw_73]; exact f_78
          refine lv_iinc (v := 0) (lv' := [(4, .int 0), (0, .ref zy), (1, .long zja), (3, .int 3)]) hx hb dX11_type_49 hl (k := 0) rfl (by decide) (by decide) rfl (fun ls hl => ?_)
          refine lv_goto (tgt := 19) hx hb dX11_type_52 (by decide) ?_
          refine lv_iload hx hb dX11_type_19 (lv_at hl 0 rfl) ?_
          refine lv_if_lt (tgt := 55) hx hb dX11_type_21 (by decide) (fun c_80 => absurd c_80 (by decide)) (fun c_80 => ?_)
          refine lv_lload_n hx hb dX11_type_24 rfl (lv_at hl 2 rfl) ?_
          refine lv_bipush (v := 8) hx hb dX11_type_25 (by decide) ?_
          refine lv_iload hx hb dX11_type_27 (lv_at hl 0 rfl) ?_
          refine lv_imul hx hb dX11_type_29 ?_
          refine lv_topi (fun v_81 ev_81 => ?_)
          obtain rfl : v_81 = (0 : Int32) := ev_81.trans (by decide)
          refine lv_lshr (v := zja >>> ((0 : Int32).toInt64 &&& 63)) hx hb dX11_type_30 rfl ?_
          refine lv_ldc2 (v := 255) hx hb hown (hts (.constantLong RX11 106 255) (by decide +kernel)) dX11_type_31 ?_
          refine lv_land hx hb dX11_type_34 ?_
          refine lv_topl (fun w_82 ew_82 => ?_)
          have tw_82 : w_82.toInt = by8 zja 0 := by rw [ew_82]; exact by8_l0 zja
          refine lv_ldc2 (v := 32) hx hb hown (hts (.constantLong RX11 108 32) (by decide +kernel)) dX11_type_35 ?_
          refine lv_ldc2 (v := 126) hx hb hown (hts (.constantLong RX11 110 126) (by decide +kernel)) dX11_type_38 ?_
          refine cj_i (wc := []) (wr := [(zy, .inr (11, [.ref zy0, .ref zy1, .int 0, .int 0, .int 0, .ref zy5, .int 0, .int 0, .ref zy8, .ref zy9, .ref zy10, .ref zy11, .ref zy12, .ref zy13, .ref zy14, .long 0, .ref zy16, .ref zy17, .ref zy18, .int 0, .long 0, .ref zy21, .ref zy22, .int 0, .ref zy24, .ref zy25, .ref zy26, .ref zy27])), (zy1, .inl (cy 0, 80, .inl (fun _ => 0)))]) (w1 := fun (_ : Unit) => []) (va_runS (As := [.long w_82, .long 32, .long 126]) (rest := []) ⟨hx, hb, hml, hown, hts⟩ (c_X11_in l dC dI cy H.size w_82 32 126 32 126 w_82.toInt (by first | rfl | decide | omega | exact Int32.toInt_toInt64 _) (by first | rfl | decide | omega | exact Int32.toInt_toInt64 _) (by first | rfl | decide | omega | exact Int32.toInt_toInt64 _)) (va_cwS 3 hts gX11_type_X11_in rfl rfl rfl (by decide +kernel) ⟨(Nat.le_of_ble_eq_true rfl), (Nat.le_of_ble_eq_true rfl)⟩) (PRE.s (hP.sub [] rfl) hK (hD.sub [] (by decide) rfl) hN) rfl rfl hl.1 rfl (lv_room (Nat.le_of_ble_eq_true rfl)) dX11_type_41 ⟨(Nat.le_of_ble_eq_true rfl), (Nat.le_of_ble_eq_true rfl)⟩) hP hD hS hA [] [0, 1] rfl rfl rfl (by decide) (fun r_84 u_83 H locs hw_85 hP hD hS => ?_)
          have hP : va_P (dC, dI) vwCl [(zy, .inr (11, [.ref zy0, .ref zy1, .int 0, .int 0, .int 0, .ref zy5, .int 0, .int 0, .ref zy8, .ref zy9, .ref zy10, .ref zy11, .ref zy12, .ref zy13, .ref zy14, .long 0, .ref zy16, .ref zy17, .ref zy18, .int 0, .long 0, .ref zy21, .ref zy22, .int 0, .ref zy24, .ref zy25, .ref zy26, .ref zy27])), (zy1, .inl (cy 0, 80, .inl (fun _ => 0)))] H := hP
          have hD : va_D A [(zy, .inr (11, [.ref zy0, .ref zy1, .int 0, .int 0, .int 0, .ref zy5, .int 0, .int 0, .ref zy8, .ref zy9, .ref zy10, .ref zy11, .ref zy12, .ref zy13, .ref zy14, .long 0, .ref zy16, .ref zy17, .ref zy18, .int 0, .long 0, .ref zy21, .ref zy22, .int 0, .ref zy24, .ref zy25, .ref zy26, .ref zy27])), (zy1, .inl (cy 0, 80, .inl (fun _ => 0)))] := hD
          have hw_85 : r_84 = if 32 ≤ w_82.toInt ∧ w_82.toInt ≤ 126 then 1 else 0 := hw_85
          refine lv_if_ne (tgt := 49) hx hb dX11_type_44 (by decide) (fun c_86 => ?_) (fun c_86 => ?_)
          · have f_87 : 32 ≤ w_82.toInt ∧ w_82.toInt ≤ 126 := bz_1 hw_85 c_86
            have g_88 : okb zja 0 := by unfold okb; rw [← tw_82]; exact f_87
            refine lv_iinc (v := (-1)) (lv' := [(4, .int (-1)), (0, .ref zy), (1, .long zja), (3, .int 3)]) hx hb dX11_type_49 hl (k := 0) rfl (by decide) (by decide) rfl (fun ls hl => ?_)
            refine lv_goto (tgt := 19) hx hb dX11_type_52 (by decide) ?_
            refine lv_iload hx hb dX11_type_19 (lv_at hl 0 rfl) ?_
            refine lv_if_lt (tgt := 55) hx hb dX11_type_21 (by decide) (fun c_89 => ?_) (fun c_89 => absurd (by decide) c_89)
            refine lv_aload_n hx hb dX11_type_55 rfl (lv_at hl 1 rfl) ?_
            refine va_get (D := (dC, dI)) (ci := 11) (v := .int 0) (C := RX11) (T := TX11) (N := 28) hx hb hts (by decide +kernel) hown hK hP 0 rfl rfl 2 (by decide) (hts (.fieldLink RX11 112 "DripStoneModel" "taped" "I") (by decide +kernel)) (fun _ h9 => h9) rfl dX11_type_56 ?_
            refine lv_iload_n hx hb dX11_type_59 rfl (lv_at hl 3 rfl) ?_
            refine lv_iadd hx hb dX11_type_60 ?_
            refine lv_topi (fun v_90 ev_90 => ?_)
            obtain rfl : v_90 = (3 : Int32) := ev_90.trans (by decide)
            refine lv_bipush (v := 80) hx hb dX11_type_61 (by decide) ?_
            refine lv_icmp_le (tgt := 69) hx hb dX11_type_63 (by decide) (fun c_91 => ?_) (fun c_91 => absurd (by decide) c_91)
            refine lv_iload_n hx hb dX11_type_69 rfl (lv_at hl 3 rfl) ?_
            refine lv_iconst (v := 1) hx hb dX11_type_70 (by decide) ?_
            refine lv_isub hx hb dX11_type_71 ?_
            refine lv_topi (fun v_92 ev_92 => ?_)
            obtain rfl : v_92 = (2 : Int32) := ev_92.trans (by decide)
            refine lv_istore (lv' := [(4, .int 2), (0, .ref zy), (1, .long zja), (3, .int 3)]) hx hb dX11_type_72 hl (by decide) rfl (fun ls hl => ?_)
            refine lv_iload hx hb dX11_type_74 (lv_at hl 0 rfl) ?_
            refine lv_if_lt (tgt := 116) hx hb dX11_type_76 (by decide) (fun c_93 => absurd c_93 (by decide)) (fun c_93 => ?_)
            refine lv_aload_n hx hb dX11_type_79 rfl (lv_at hl 1 rfl) ?_
            refine va_get (D := (dC, dI)) (ci := 11) (v := .ref zy1) (C := RX11) (T := TX11) (N := 28) hx hb hts (by decide +kernel) hown hK hP 0 rfl rfl 1 (by decide) (hts (.fieldLink RX11 13 "DripStoneModel" "tape" "[I") (by decide +kernel)) (fun _ h9 => h9) rfl dX11_type_80 ?_
            refine lv_aload_n hx hb dX11_type_83 rfl (lv_at hl 1 rfl) ?_
            refine va_get (D := (dC, dI)) (ci := 11) (v := .int 0) (C := RX11) (T := TX11) (N := 28) hx hb hts (by decide +kernel) hown hK hP 0 rfl rfl 2 (by decide) (hts (.fieldLink RX11 112 "DripStoneModel" "taped" "I") (by decide +kernel)) (fun _ h9 => h9) rfl dX11_type_84 ?_
            refine lv_lload_n hx hb dX11_type_87 rfl (lv_at hl 2 rfl) ?_
            refine lv_bipush (v := 8) hx hb dX11_type_88 (by decide) ?_
            refine lv_iload hx hb dX11_type_90 (lv_at hl 0 rfl) ?_
            refine lv_imul hx hb dX11_type_92 ?_
            refine lv_topi (fun v_94 ev_94 => ?_)
            obtain rfl : v_94 = (16 : Int32) := ev_94.trans (by decide)
            refine lv_lshr (v := zja >>> ((16 : Int32).toInt64 &&& 63)) hx hb dX11_type_93 rfl ?_
            refine lv_ldc2 (v := 255) hx hb hown (hts (.constantLong RX11 106 255) (by decide +kernel)) dX11_type_94 ?_
            refine lv_land hx hb dX11_type_97 ?_
            refine lv_topl (fun w_95 ew_95 => ?_)
            have tw_95 : w_95.toInt = by8 zja 2 := by rw [ew_95]; exact by8_l2 zja
            refine lv_l2i (v := w_95.toInt32) hx hb dX11_type_98 rfl ?_
            refine va_iast hx hb hK hP hD hS 1 0 rfl rfl (vp_in_iff.mpr ⟨by decide, by decide⟩) dX11_type_99 (fun H locs hP hD hS => ?_)
            have hP : va_P (dC, dI) vwCl [(zy, .inr (11, [.ref zy0, .ref zy1, .int 0, .int 0, .int 0, .ref zy5, .int 0, .int 0, .ref zy8, .ref zy9, .ref zy10, .ref zy11, .ref zy12, .ref zy13, .ref zy14, .long 0, .ref zy16, .ref zy17, .ref zy18, .int 0, .long 0, .ref zy21, .ref zy22, .int 0, .ref zy24, .ref zy25, .ref zy26, .ref zy27])), (zy1, .inl (cy 0, 80, .inl (upd (fun _ => 0) (0 : Int32).toNatClampNeg w_95.toInt32)))] H := hP
            have hD : va_D A [(zy, .inr (11, [.ref zy0, .ref zy1, .int 0, .int 0, .int 0, .ref zy5, .int 0, .int 0, .ref zy8, .ref zy9, .ref zy10, .ref zy11, .ref zy12, .ref zy13, .ref zy14, .long 0, .ref zy16, .ref zy17, .ref zy18, .int 0, .long 0, .ref zy21, .ref zy22, .int 0, .ref zy24, .ref zy25, .ref zy26, .ref zy27])), (zy1, .inl (cy 0, 80, .inl (upd (fun _ => 0) (0 : Int32).toNatClampNeg w_95.toInt32)))] := hD
            refine lv_aload_n hx hb dX11_type_100 rfl (lv_at hl 1 rfl) ?_
            refine lv_dup hx hb dX11_type_101 rfl ?_
            refine va_get (D := (dC, dI)) (ci := 11) (v := .int 0) (C := RX11) (T := TX11) (N := 28) hx hb hts (by decide +kernel) hown hK hP 0 rfl rfl 2 (by decide) (hts (.fieldLink RX11 112 "DripStoneModel" "taped" "I") (by decide +kernel)) (fun _ h9 => h9) rfl dX11_type_102 ?_
            refine lv_iconst (v := 1) hx hb dX11_type_105 (by decide) ?_
            refine lv_iadd hx hb dX11_type_106 ?_
            refine lv_topi (fun v_96 ev_96 => ?_)
            obtain rfl : v_96 = (1 : Int32) := ev_96.trans (by decide)
            refine va_put (D := (dC, dI)) (ci := 11) (v := .int 1) (ty := .int) (C := RX11) (T := TX11) (N := 28) hx hb hts (by decide +kernel) tyX11 tyX11_ok nmX11 hown hK hP hD hS 0 rfl rfl 2 (by decide) (hts (.fieldLink RX11 112 "DripStoneModel" "taped" "I") (by decide +kernel)) (fun _ h9 => h9) rfl (by decide +kernel) rfl rfl (Nat.le_of_ble_eq_true rfl) dX11_type_107 (fun H locs hP hD hS => ?_)
            have hP : va_P (dC, dI) vwCl [(zy, .inr (11, [.ref zy0, .ref zy1, .int 1, .int 0, .int 0, .ref zy5, .int 0, .int 0, .ref zy8, .ref zy9, .ref zy10, .ref zy11, .ref zy12, .ref zy13, .ref zy14, .long 0, .ref zy16, .ref zy17, .ref zy18, .int 0, .long 0, .ref zy21, .ref zy22, .int 0, .ref zy24, .ref zy25, .ref zy26, .ref zy27])), (zy1, .inl (cy 0, 80, .inl (upd (fun _ => 0) (0 : Int32).toNatClampNeg w_95.toInt32)))] H := hP
            have hD : va_D A [(zy, .inr (11, [.ref zy0, .ref zy1, .int 1, .int 0, .int 0, .ref zy5, .int 0, .int 0, .ref zy8, .ref zy9, .ref zy10, .ref zy11, .ref zy12, .ref zy13, .ref zy14, .long 0, .ref zy16, .ref zy17, .ref zy18, .int 0, .long 0, .ref zy21, .ref zy22, .int 0, .ref zy24, .ref zy25, .ref zy26, .ref zy27])), (zy1, .inl (cy 0, 80, .inl (upd (fun _ => 0) (0 : Int32).toNatClampNeg w_95.toInt32)))] := hD
            refine lv_iinc (v := 1) (lv' := [(4, .int 1), (0, .ref zy), (1, .long zja), (3, .int 3)]) hx hb dX11_type_110 hl (k := 0) rfl (by decide) (by decide) rfl (fun ls hl => ?_)
            refine lv_goto (tgt := 74) hx hb dX11_type_113 (by decide) ?_
            refine lv_iload hx hb dX11_type_74 (lv_at hl 0 rfl) ?_
            refine lv_if_lt (tgt := 116) hx hb dX11_type_76 (by decide) (fun c_97 => absurd c_97 (by decide)) (fun c_97 => ?_)
            refine lv_aload_n hx hb dX11_type_79 rfl (lv_at hl 1 rfl) ?_
            refine va_get (D := (dC, dI)) (ci := 11) (v := .ref zy1) (C := RX11) (T := TX11) (N := 28) hx hb hts (by decide +kernel) hown hK hP 0 rfl rfl 1 (by decide) (hts (.fieldLink RX11 13 "DripStoneModel" "tape" "[I") (by decide +kernel)) (fun _ h9 => h9) rfl dX11_type_80 ?_
            refine lv_aload_n hx hb dX11_type_83 rfl (lv_at hl 1 rfl) ?_
            refine va_get (D := (dC, dI)) (ci := 11) (v := .int 1) (C := RX11) (T := TX11) (N := 28) hx hb hts (by decide +kernel) hown hK hP 0 rfl rfl 2 (by decide) (hts (.fieldLink RX11 112 "DripStoneModel" "taped" "I") (by decide +kernel)) (fun _ h9 => h9) rfl dX11_type_84 ?_
            refine lv_lload_n hx hb dX11_type_87 rfl (lv_at hl 2 rfl) ?_
            refine lv_bipush (v := 8) hx hb dX11_type_88 (by decide) ?_
            refine lv_iload hx hb dX11_type_90 (lv_at hl 0 rfl) ?_
            refine lv_imul hx hb dX11_type_92 ?_
            refine lv_topi (fun v_98 ev_98 => ?_)
            obtain rfl : v_98 = (8 : Int32) := ev_98.trans (by decide)
            refine lv_lshr (v := zja >>> ((8 : Int32).toInt64 &&& 63)) hx hb dX11_type_93 rfl ?_
            refine lv_ldc2 (v := 255) hx hb hown (hts (.constantLong RX11 106 255) (by decide +kernel)) dX11_type_94 ?_
            refine lv_land hx hb dX11_type_97 ?_
            refine lv_topl (fun w_99 ew_99 => ?_)
            have tw_99 : w_99.toInt = by8 zja 1 := by rw [ew_99]; exact by8_l1 zja
            refine lv_l2i (v := w_99.toInt32) hx hb dX11_type_98 rfl ?_
            refine va_iast hx hb hK hP hD hS 1 0 rfl rfl (vp_in_iff.mpr ⟨by decide, by decide⟩) dX11_type_99 (fun H locs hP hD hS => ?_)
            have hP : va_P (dC, dI) vwCl [(zy, .inr (11, [.ref zy0, .ref zy1, .int 1, .int 0, .int 0, .ref zy5, .int 0, .int 0, .ref zy8, .ref zy9, .ref zy10, .ref zy11, .ref zy12, .ref zy13, .ref zy14, .long 0, .ref zy16, .ref zy17, .ref zy18, .int 0, .long 0, .ref zy21, .ref zy22, .int 0, .ref zy24, .ref zy25, .ref zy26, .ref zy27])), (zy1, .inl (cy 0, 80, .inl (upd (upd (fun _ => 0) (0 : Int32).toNatClampNeg w_95.toInt32) (1 : Int32).toNatClampNeg w_99.toInt32)))] H := hP
            have hD : va_D A [(zy, .inr (11, [.ref zy0, .ref zy1, .int 1, .int 0, .int 0, .ref zy5, .int 0, .int 0, .ref zy8, .ref zy9, .ref zy10, .ref zy11, .ref zy12, .ref zy13, .ref zy14, .long 0, .ref zy16, .ref zy17, .ref zy18, .int 0, .long 0, .ref zy21, .ref zy22, .int 0, .ref zy24, .ref zy25, .ref zy26, .ref zy27])), (zy1, .inl (cy 0, 80, .inl (upd (upd (fun _ => 0) (0 : Int32).toNatClampNeg w_95.toInt32) (1 : Int32).toNatClampNeg w_99.toInt32)))] := hD
            refine lv_aload_n hx hb dX11_type_100 rfl (lv_at hl 1 rfl) ?_
            refine lv_dup hx hb dX11_type_101 rfl ?_
            refine va_get (D := (dC, dI)) (ci := 11) (v := .int 1) (C := RX11) (T := TX11) (N := 28) hx hb hts (by decide +kernel) hown hK hP 0 rfl rfl 2 (by decide) (hts (.fieldLink RX11 112 "DripStoneModel" "taped" "I") (by decide +kernel)) (fun _ h9 => h9) rfl dX11_type_102 ?_
            refine lv_iconst (v := 1) hx hb dX11_type_105 (by decide) ?_
            refine lv_iadd hx hb dX11_type_106 ?_
            refine lv_topi (fun v_100 ev_100 => ?_)
            obtain rfl : v_100 = (2 : Int32) := ev_100.trans (by decide)
            refine va_put (D := (dC, dI)) (ci := 11) (v := .int 2) (ty := .int) (C := RX11) (T := TX11) (N := 28) hx hb hts (by decide +kernel) tyX11 tyX11_ok nmX11 hown hK hP hD hS 0 rfl rfl 2 (by decide) (hts (.fieldLink RX11 112 "DripStoneModel" "taped" "I") (by decide +kernel)) (fun _ h9 => h9) rfl (by decide +kernel) rfl rfl (Nat.le_of_ble_eq_true rfl) dX11_type_107 (fun H locs hP hD hS => ?_)
            have hP : va_P (dC, dI) vwCl [(zy, .inr (11, [.ref zy0, .ref zy1, .int 2, .int 0, .int 0, .ref zy5, .int 0, .int 0, .ref zy8, .ref zy9, .ref zy10, .ref zy11, .ref zy12, .ref zy13, .ref zy14, .long 0, .ref zy16, .ref zy17, .ref zy18, .int 0, .long 0, .ref zy21, .ref zy22, .int 0, .ref zy24, .ref zy25, .ref zy26, .ref zy27])), (zy1, .inl (cy 0, 80, .inl (upd (upd (fun _ => 0) (0 : Int32).toNatClampNeg w_95.toInt32) (1 : Int32).toNatClampNeg w_99.toInt32)))] H := hP
            have hD : va_D A [(zy, .inr (11, [.ref zy0, .ref zy1, .int 2, .int 0, .int 0, .ref zy5, .int 0, .int 0, .ref zy8, .ref zy9, .ref zy10, .ref zy11, .ref zy12, .ref zy13, .ref zy14, .long 0, .ref zy16, .ref zy17, .ref zy18, .int 0, .long 0, .ref zy21, .ref zy22, .int 0, .ref zy24, .ref zy25, .ref zy26, .ref zy27])), (zy1, .inl (cy 0, 80, .inl (upd (upd (fun _ => 0) (0 : Int32).toNatClampNeg w_95.toInt32) (1 : Int32).toNatClampNeg w_99.toInt32)))] := hD
            refine lv_iinc (v := 0) (lv' := [(4, .int 0), (0, .ref zy), (1, .long zja), (3, .int 3)]) hx hb dX11_type_110 hl (k := 0) rfl (by decide) (by decide) rfl (fun ls hl => ?_)
            refine lv_goto (tgt := 74) hx hb dX11_type_113 (by decide) ?_
            refine lv_iload hx hb dX11_type_74 (lv_at hl 0 rfl) ?_
            refine lv_if_lt (tgt := 116) hx hb dX11_type_76 (by decide) (fun c_101 => absurd c_101 (by decide)) (fun c_101 => ?_)
            refine lv_aload_n hx hb dX11_type_79 rfl (lv_at hl 1 rfl) ?_
            refine va_get (D := (dC, dI)) (ci := 11) (v := .ref zy1) (C := RX11) (T := TX11) (N := 28) hx hb hts (by decide +kernel) hown hK hP 0 rfl rfl 1 (by decide) (hts (.fieldLink RX11 13 "DripStoneModel" "tape" "[I") (by decide +kernel)) (fun _ h9 => h9) rfl dX11_type_80 ?_
            refine lv_aload_n hx hb dX11_type_83 rfl (lv_at hl 1 rfl) ?_
            refine va_get (D := (dC, dI)) (ci := 11) (v := .int 2) (C := RX11) (T := TX11) (N := 28) hx hb hts (by decide +kernel) hown hK hP 0 rfl rfl 2 (by decide) (hts (.fieldLink RX11 112 "DripStoneModel" "taped" "I") (by decide +kernel)) (fun _ h9 => h9) rfl dX11_type_84 ?_
            refine lv_lload_n hx hb dX11_type_87 rfl (lv_at hl 2 rfl) ?_
            refine lv_bipush (v := 8) hx hb dX11_type_88 (by decide) ?_
            refine lv_iload hx hb dX11_type_90 (lv_at hl 0 rfl) ?_
            refine lv_imul hx hb dX11_type_92 ?_
            refine lv_topi (fun v_102 ev_102 => ?_)
            obtain rfl : v_102 = (0 : Int32) := ev_102.trans (by decide)
            refine lv_lshr (v := zja >>> ((0 : Int32).toInt64 &&& 63)) hx hb dX11_type_93 rfl ?_
            refine lv_ldc2 (v := 255) hx hb hown (hts (.constantLong RX11 106 255) (by decide +kernel)) dX11_type_94 ?_
            refine lv_land hx hb dX11_type_97 ?_
            refine lv_topl (fun w_103 ew_103 => ?_)
            have tw_103 : w_103.toInt = by8 zja 0 := by rw [ew_103]; exact by8_l0 zja
            refine lv_l2i (v := w_103.toInt32) hx hb dX11_type_98 rfl ?_
            refine va_iast hx hb hK hP hD hS 1 0 rfl rfl (vp_in_iff.mpr ⟨by decide, by decide⟩) dX11_type_99 (fun H locs hP hD hS => ?_)
            have hP : va_P (dC, dI) vwCl [(zy, .inr (11, [.ref zy0, .ref zy1, .int 2, .int 0, .int 0, .ref zy5, .int 0, .int 0, .ref zy8, .ref zy9, .ref zy10, .ref zy11, .ref zy12, .ref zy13, .ref zy14, .long 0, .ref zy16, .ref zy17, .ref zy18, .int 0, .long 0, .ref zy21, .ref zy22, .int 0, .ref zy24, .ref zy25, .ref zy26, .ref zy27])), (zy1, .inl (cy 0, 80, .inl (upd (upd (upd (fun _ => 0) (0 : Int32).toNatClampNeg w_95.toInt32) (1 : Int32).toNatClampNeg w_99.toInt32) (2 : Int32).toNatClampNeg w_103.toInt32)))] H := hP
            have hD : va_D A [(zy, .inr (11, [.ref zy0, .ref zy1, .int 2, .int 0, .int 0, .ref zy5, .int 0, .int 0, .ref zy8, .ref zy9, .ref zy10, .ref zy11, .ref zy12, .ref zy13, .ref zy14, .long 0, .ref zy16, .ref zy17, .ref zy18, .int 0, .long 0, .ref zy21, .ref zy22, .int 0, .ref zy24, .ref zy25, .ref zy26, .ref zy27])), (zy1, .inl (cy 0, 80, .inl (upd (upd (upd (fun _ => 0) (0 : Int32).toNatClampNeg w_95.toInt32) (1 : Int32).toNatClampNeg w_99.toInt32) (2 : Int32).toNatClampNeg w_103.toInt32)))] := hD
            refine lv_aload_n hx hb dX11_type_100 rfl (lv_at hl 1 rfl) ?_
            refine lv_dup hx hb dX11_type_101 rfl ?_
            refine va_get (D := (dC, dI)) (ci := 11) (v := .int 2) (C := RX11) (T := TX11) (N := 28) hx hb hts (by decide +kernel) hown hK hP 0 rfl rfl 2 (by decide) (hts (.fieldLink RX11 112 "DripStoneModel" "taped" "I") (by decide +kernel)) (fun _ h9 => h9) rfl dX11_type_102 ?_
            refine lv_iconst (v := 1) hx hb dX11_type_105 (by decide) ?_
            refine lv_iadd hx hb dX11_type_106 ?_
            refine lv_topi (fun v_104 ev_104 => ?_)
            obtain rfl : v_104 = (3 : Int32) := ev_104.trans (by decide)
            refine va_put (D := (dC, dI)) (ci := 11) (v := .int 3) (ty := .int) (C := RX11) (T := TX11) (N := 28) hx hb hts (by decide +kernel) tyX11 tyX11_ok nmX11 hown hK hP hD hS 0 rfl rfl 2 (by decide) (hts (.fieldLink RX11 112 "DripStoneModel" "taped" "I") (by decide +kernel)) (fun _ h9 => h9) rfl (by decide +kernel) rfl rfl (Nat.le_of_ble_eq_true rfl) dX11_type_107 (fun H locs hP hD hS => ?_)
            have hP : va_P (dC, dI) vwCl [(zy, .inr (11, [.ref zy0, .ref zy1, .int 3, .int 0, .int 0, .ref zy5, .int 0, .int 0, .ref zy8, .ref zy9, .ref zy10, .ref zy11, .ref zy12, .ref zy13, .ref zy14, .long 0, .ref zy16, .ref zy17, .ref zy18, .int 0, .long 0, .ref zy21, .ref zy22, .int 0, .ref zy24, .ref zy25, .ref zy26, .ref zy27])), (zy1, .inl (cy 0, 80, .inl (upd (upd (upd (fun _ => 0) (0 : Int32).toNatClampNeg w_95.toInt32) (1 : Int32).toNatClampNeg w_99.toInt32) (2 : Int32).toNatClampNeg w_103.toInt32)))] H := hP
            have hD : va_D A [(zy, .inr (11, [.ref zy0, .ref zy1, .int 3, .int 0, .int 0, .ref zy5, .int 0, .int 0, .ref zy8, .ref zy9, .ref zy10, .ref zy11, .ref zy12, .ref zy13, .ref zy14, .long 0, .ref zy16, .ref zy17, .ref zy18, .int 0, .long 0, .ref zy21, .ref zy22, .int 0, .ref zy24, .ref zy25, .ref zy26, .ref zy27])), (zy1, .inl (cy 0, 80, .inl (upd (upd (upd (fun _ => 0) (0 : Int32).toNatClampNeg w_95.toInt32) (1 : Int32).toNatClampNeg w_99.toInt32) (2 : Int32).toNatClampNeg w_103.toInt32)))] := hD
            refine lv_iinc (v := (-1)) (lv' := [(4, .int (-1)), (0, .ref zy), (1, .long zja), (3, .int 3)]) hx hb dX11_type_110 hl (k := 0) rfl (by decide) (by decide) rfl (fun ls hl => ?_)
            refine lv_goto (tgt := 74) hx hb dX11_type_113 (by decide) ?_
            refine lv_iload hx hb dX11_type_74 (lv_at hl 0 rfl) ?_
            refine lv_if_lt (tgt := 116) hx hb dX11_type_76 (by decide) (fun c_105 => ?_) (fun c_105 => absurd (by decide) c_105)
            refine lv_aload_n hx hb dX11_type_116 rfl (lv_at hl 1 rfl) ?_
            refine va_get (D := (dC, dI)) (ci := 11) (v := .int 3) (C := RX11) (T := TX11) (N := 28) hx hb hts (by decide +kernel) hown hK hP 0 rfl rfl 2 (by decide) (hts (.fieldLink RX11 112 "DripStoneModel" "taped" "I") (by decide +kernel)) (fun _ h9 => h9) rfl dX11_type_117 ?_
            have hP9 := hP.sub (ws' := []) [] rfl
            have hD9 := hD.sub (ws' := []) [] (by decide) rfl
            exact W.iret (v := 3) hx hb hr (fun t ht hW => ⟨⟨3, (), rfl, ((an_type_3 _).trans (if_pos ⟨g_88, g_79, g_70⟩)).symm, ⟨by rw [ht]; exact hP9, va_K.moved hW.alike hK, hD9⟩⟩, hS.F ht⟩) hS.2.2 dX11_type_120
          · have f_87 : ¬ (32 ≤ w_82.toInt ∧ w_82.toInt ≤ 126) := bz_0 hw_85 c_86
            have g_106 : ¬ okb zja 0 := by unfold okb; rw [← tw_82]; exact f_87
            refine lv_iconst (v := (-1)) hx hb dX11_type_47 (by decide) ?_
            have hP9 := hP.sub (ws' := []) [] rfl
            have hD9 := hD.sub (ws' := []) [] (by decide) rfl
            exact W.iret (v := (-1)) hx hb hr (fun t ht hW => ⟨⟨(-1), (), rfl, ((an_type_3 _).trans (if_neg (fun h => g_106 (h.1)))).symm, ⟨by rw [ht]; exact hP9, va_K.moved hW.alike hK, hD9⟩⟩, hS.F ht⟩) hS.2.2 dX11_type_48
        · have f_78 : ¬ (32 ≤ w_73.toInt ∧ w_73.toInt ≤ 126) := bz_0 hw_76 c_77
          have g_107 : ¬ okb zja 1 := by unfold okb; rw [← tw_73]; exact f_78
          refine lv_iconst (v := (-1)) hx hb dX11_type_47 (by decide) ?_
          have hP9 := hP.sub (ws' := []) [] rfl
          have hD9 := hD.sub (ws' := []) [] (by decide) rfl
          exact W.iret (v := (-1)) hx hb hr (fun t ht hW => ⟨⟨(-1), (), rfl, ((an_type_3 _).trans (if_neg (fun h => g_107 (h.2.1)))).symm, ⟨by rw [ht]; exact hP9, va_K.moved hW.alike hK, hD9⟩⟩, hS.F ht⟩) hS.2.2 dX11_type_48
      · have f_69 : ¬ (32 ≤ w_64.toInt ∧ w_64.toInt ≤ 126) := bz_0 hw_67 c_68
        have g_108 : ¬ okb zja 2 := by unfold okb; rw [← tw_64]; exact f_69
        refine lv_iconst (v := (-1)) hx hb dX11_type_47 (by decide) ?_
        have hP9 := hP.sub (ws' := []) [] rfl
        have hD9 := hD.sub (ws' := []) [] (by decide) rfl
        exact W.iret (v := (-1)) hx hb hr (fun t ht hW => ⟨⟨(-1), (), rfl, ((an_type_3 _).trans (if_neg (fun h => g_108 (h.2.2)))).symm, ⟨by rw [ht]; exact hP9, va_K.moved hW.alike hK, hD9⟩⟩, hS.F ht⟩) hS.2.2 dX11_type_48
    · have zk_6_4 : (4 : Int32).toInt = 4 := by decide
      refine lv_iload_n hx hb dX11_type_14 rfl (lv_at hl 2 rfl) ?_
      refine lv_iconst (v := 1) hx hb dX11_type_15 (by decide) ?_
      refine lv_isub hx hb dX11_type_16 ?_
      refine lv_topi (fun v_109 ev_109 => ?_)
      obtain rfl : v_109 = (3 : Int32) := ev_109.trans (by decide)
      refine lv_istore (lv' := [(4, .int 3), (0, .ref zy), (1, .long zja), (3, .int 4)]) hx hb dX11_type_17 hl (by decide) rfl (fun ls hl => ?_)
      refine lv_iload hx hb dX11_type_19 (lv_at hl 0 rfl) ?_
      refine lv_if_lt (tgt := 55) hx hb dX11_type_21 (by decide) (fun c_110 => absurd c_110 (by decide)) (fun c_110 => ?_)
      refine lv_lload_n hx hb dX11_type_24 rfl (lv_at hl 2 rfl) ?_
      refine lv_bipush (v := 8) hx hb dX11_type_25 (by decide) ?_
      refine lv_iload hx hb dX11_type_27 (lv_at hl 0 rfl) ?_
      refine lv_imul hx hb dX11_type_29 ?_
      refine lv_topi (fun v_111 ev_111 => ?_)
      obtain rfl : v_111 = (24 : Int32) := ev_111.trans (by decide)
      refine lv_lshr (v := zja >>> ((24 : Int32).toInt64 &&& 63)) hx hb dX11_type_30 rfl ?_
      refine lv_ldc2 (v := 255) hx hb hown (hts (.constantLong RX11 106 255) (by decide +kernel)) dX11_type_31 ?_
      refine lv_land hx hb dX11_type_34 ?_
      refine lv_topl (fun w_112 ew_112 => ?_)
      have tw_112 : w_112.toInt = by8 zja 3 := by rw [ew_112]; exact by8_l3 zja
      refine lv_ldc2 (v := 32) hx hb hown (hts (.constantLong RX11 108 32) (by decide +kernel)) dX11_type_35 ?_
      refine lv_ldc2 (v := 126) hx hb hown (hts (.constantLong RX11 110 126) (by decide +kernel)) dX11_type_38 ?_
      refine cj_i (wc := []) (wr := [(zy, .inr (11, [.ref zy0, .ref zy1, .int 0, .int 0, .int 0, .ref zy5, .int 0, .int 0, .ref zy8, .ref zy9, .ref zy10, .ref zy11, .ref zy12, .ref zy13, .ref zy14, .long 0, .ref zy16, .ref zy17, .ref zy18, .int 0, .long 0, .ref zy21, .ref zy22, .int 0, .ref zy24, .ref zy25, .ref zy26, .ref zy27])), (zy1, .inl (cy 0, 80, .inl (fun _ => 0)))]) (w1 := fun (_ : Unit) => []) (va_runS (As := [.long w_112, .long 32, .long 126]) (rest := []) ⟨hx, hb, hml, hown, hts⟩ (c_X11_in l dC dI cy H.size w_112 32 126 32 126 w_112.toInt (by first | rfl | decide | omega | exact Int32.toInt_toInt64 _) (by first | rfl | decide | omega | exact Int32.toInt_toInt64 _) (by first | rfl | decide | omega | exact Int32.toInt_toInt64 _)) (va_cwS 3 hts gX11_type_X11_in rfl rfl rfl (by decide +kernel) ⟨(Nat.le_of_ble_eq_true rfl), (Nat.le_of_ble_eq_true rfl)⟩) (PRE.s (hP.sub [] rfl) hK (hD.sub [] (by decide) rfl) hN) rfl rfl hl.1 rfl (lv_room (Nat.le_of_ble_eq_true rfl)) dX11_type_41 ⟨(Nat.le_of_ble_eq_true rfl), (Nat.le_of_ble_eq_true rfl)⟩) hP hD hS hA [] [0, 1] rfl rfl rfl (by decide) (fun r_114 u_113 H locs hw_115 hP hD hS => ?_)
      have hP : va_P (dC, dI) vwCl [(zy, .inr (11, [.ref zy0, .ref zy1, .int 0, .int 0, .int 0, .ref zy5, .int 0, .int 0, .ref zy8, .ref zy9, .ref zy10, .ref zy11, .ref zy12, .ref zy13, .ref zy14, .long 0, .ref zy16, .ref zy17, .ref zy18, .int 0, .long 0, .ref zy21, .ref zy22, .int 0, .ref zy24, .ref zy25, .ref zy26, .ref zy27])), (zy1, .inl (cy 0, 80, .inl (fun _ => 0)))] H := hP
      have hD : va_D A [(zy, .inr (11, [.ref zy0, .ref zy1, .int 0, .int 0, .int 0, .ref zy5, .int 0, .int 0, .ref zy8, .ref zy9, .ref zy10, .ref zy11, .ref zy12, .ref zy13, .ref zy14, .long 0, .ref zy16, .ref zy17, .ref zy18, .int 0, .long 0, .ref zy21, .ref zy22, .int 0, .ref zy24, .ref zy25, .ref zy26, .ref zy27])), (zy1, .inl (cy 0, 80, .inl (fun _ => 0)))] := hD
      have hw_115 : r_114 = if 32 ≤ w_112.toInt ∧ w_112.toInt ≤ 126 then 1 else 0 := hw_115
      refine lv_if_ne (tgt := 49) hx hb dX11_type_44 (by decide) (fun c_116 => ?_) (fun c_116 => ?_)
      · have f_117 : 32 ≤ w_112.toInt ∧ w_112.toInt ≤ 126 := bz_1 hw_115 c_116
        have g_118 : okb zja 3 := by unfold okb; rw [← tw_112]; exact f_117
        refine lv_iinc (v := 2) (lv' := [(4, .int 2), (0, .ref zy), (1, .long zja), (3, .int 4)]) hx hb dX11_type_49 hl (k := 0) rfl (by decide) (by decide) rfl (fun ls hl => ?_)
        refine lv_goto (tgt := 19) hx hb dX11_type_52 (by decide) ?_
        refine lv_iload hx hb dX11_type_19 (lv_at hl 0 rfl) ?_
        refine lv_if_lt (tgt := 55) hx hb dX11_type_21 (by decide) (fun c_119 => absurd c_119 (by decide)) (fun c_119 => ?_)
        refine lv_lload_n hx hb dX11_type_24 rfl (lv_at hl 2 rfl) ?_
        refine lv_bipush (v := 8) hx hb dX11_type_25 (by decide) ?_
        refine lv_iload hx hb dX11_type_27 (lv_at hl 0 rfl) ?_
        refine lv_imul hx hb dX11_type_29 ?_
        refine lv_topi (fun v_120 ev_120 => ?_)
        obtain rfl : v_120 = (16 : Int32) := ev_120.trans (by decide)
        refine lv_lshr (v := zja >>> ((16 : Int32).toInt64 &&& 63)) hx hb dX11_type_30 rfl ?_
        refine lv_ldc2 (v := 255) hx hb hown (hts (.constantLong RX11 106 255) (by decide +kernel)) dX11_type_31 ?_
        refine lv_land hx hb dX11_type_34 ?_
        refine lv_topl (fun w_121 ew_121 => ?_)
        have tw_121 : w_121.toInt = by8 zja 2 := by rw [ew_121]; exact by8_l2 zja
        refine lv_ldc2 (v := 32) hx hb hown (hts (.constantLong RX11 108 32) (by decide +kernel)) dX11_type_35 ?_
        refine lv_ldc2 (v := 126) hx hb hown (hts (.constantLong RX11 110 126) (by decide +kernel)) dX11_type_38 ?_
        refine cj_i (wc := []) (wr := [(zy, .inr (11, [.ref zy0, .ref zy1, .int 0, .int 0, .int 0, .ref zy5, .int 0, .int 0, .ref zy8, .ref zy9, .ref zy10, .ref zy11, .ref zy12, .ref zy13, .ref zy14, .long 0, .ref zy16, .ref zy17, .ref zy18, .int 0, .long 0, .ref zy21, .ref zy22, .int 0, .ref zy24, .ref zy25, .ref zy26, .ref zy27])), (zy1, .inl (cy 0, 80, .inl (fun _ => 0)))]) (w1 := fun (_ : Unit) => []) (va_runS (As := [.long w_121, .long 32, .long 126]) (rest := []) ⟨hx, hb, hml, hown, hts⟩ (c_X11_in l dC dI cy H.size w_121 32 126 32 126 w_121.toInt (by first | rfl | decide | omega | exact Int32.toInt_toInt64 _) (by first | rfl | decide | omega | exact Int32.toInt_toInt64 _) (by first | rfl | decide | omega | exact Int32.toInt_toInt64 _)) (va_cwS 3 hts gX11_type_X11_in rfl rfl rfl (by decide +kernel) ⟨(Nat.le_of_ble_eq_true rfl), (Nat.le_of_ble_eq_true rfl)⟩) (PRE.s (hP.sub [] rfl) hK (hD.sub [] (by decide) rfl) hN) rfl rfl hl.1 rfl (lv_room (Nat.le_of_ble_eq_true rfl)) dX11_type_41 ⟨(Nat.le_of_ble_eq_true rfl), (Nat.le_of_ble_eq_true rfl)⟩) hP hD hS hA [] [0, 1] rfl rfl rfl (by decide) (fun r_123 u_122 H locs hw_124 hP hD hS => ?_)
        have hP : va_P (dC, dI) vwCl [(zy, .inr (11, [.ref zy0, .ref zy1, .int 0, .int 0, .int 0, .ref zy5, .int 0, .int 0, .ref zy8, .ref zy9, .ref zy10, .ref zy11, .ref zy12, .ref zy13, .ref zy14, .long 0, .ref zy16, .ref zy17, .ref zy18, .int 0, .long 0, .ref zy21, .ref zy22, .int 0, .ref zy24, .ref zy25, .ref zy26, .ref zy27])), (zy1, .inl (cy 0, 80, .inl (fun _ => 0)))] H := hP
        have hD : va_D A [(zy, .inr (11, [.ref zy0, .ref zy1, .int 0, .int 0, .int 0, .ref zy5, .int 0, .int 0, .ref zy8, .ref zy9, .ref zy10, .ref zy11, .ref zy12, .ref zy13, .ref zy14, .long 0, .ref zy16, .ref zy17, .ref zy18, .int 0, .long 0, .ref zy21, .ref zy22, .int 0, .ref zy24, .ref zy25, .ref zy26, .ref zy27])), (zy1, .inl (cy 0, 80, .inl (fun _ => 0)))] := hD
        have hw_124 : r_123 = if 32 ≤ w_121.toInt ∧ w_121.toInt ≤ 126 then 1 else 0 := hw_124
        refine lv_if_ne (tgt := 49) hx hb dX11_type_44 (by decide) (fun c_125 => ?_) (fun c_125 => ?_)
        · have f_126 : 32 ≤ w_121.toInt ∧ w_121.toInt ≤ 126 := bz_1 hw_124 c_125
          have g_127 : okb zja 2 := by unfold okb; rw [← tw_121]; exact f_126
          refine lv_iinc (v := 1) (lv' := [(4, .int 1), (0, .ref zy), (1, .long zja), (3, .int 4)]) hx hb dX11_type_49 hl (k := 0) rfl (by decide) (by decide) rfl (fun ls hl => ?_)
          refine lv_goto (tgt := 19) hx hb dX11_type_52 (by decide) ?_
          refine lv_iload hx hb dX11_type_19 (lv_at hl 0 rfl) ?_
          refine lv_if_lt (tgt := 55) hx hb dX11_type_21 (by decide) (fun c_128 => absurd c_128 (by decide)) (fun c_128 => ?_)
          refine lv_lload_n hx hb dX11_type_24 rfl (lv_at hl 2 rfl) ?_
          refine lv_bipush (v := 8) hx hb dX11_type_25 (by decide) ?_
          refine lv_iload hx hb dX11_type_27 (lv_at hl 0 rfl) ?_
          refine lv_imul hx hb dX11_type_29 ?_
          refine lv_topi (fun v_129 ev_129 => ?_)
          obtain rfl : v_129 = (8 : Int32) := ev_129.trans (by decide)
          refine lv_lshr (v := zja >>> ((8 : Int32).toInt64 &&& 63)) hx hb dX11_type_30 rfl ?_
          refine lv_ldc2 (v := 255) hx hb hown (hts (.constantLong RX11 106 255) (by decide +kernel)) dX11_type_31 ?_
          refine lv_land hx hb dX11_type_34 ?_
          refine lv_topl (fun w_130 ew_130 => ?_)
          have tw_130 : w_130.toInt = by8 zja 1 := by rw [ew_130]; exact by8_l1 zja
          refine lv_ldc2 (v := 32) hx hb hown (hts (.constantLong RX11 108 32) (by decide +kernel)) dX11_type_35 ?_
          refine lv_ldc2 (v := 126) hx hb hown (hts (.constantLong RX11 110 126) (by decide +kernel)) dX11_type_38 ?_
          refine cj_i (wc := []) (wr := [(zy, .inr (11, [.ref zy0, .ref zy1, .int 0, .int 0, .int 0, .ref zy5, .int 0, .int 0, .ref zy8, .ref zy9, .ref zy10, .ref zy11, .ref zy12, .ref zy13, .ref zy14, .long 0, .ref zy16, .ref zy17, .ref zy18, .int 0, .long 0, .ref zy21, .ref zy22, .int 0, .ref zy24, .ref zy25, .ref zy26, .ref zy27])), (zy1, .inl (cy 0, 80, .inl (fun _ => 0)))]) (w1 := fun (_ : Unit) => []) (va_runS (As := [.long w_130, .long 32, .long 126]) (rest := []) ⟨hx, hb, hml, hown, hts⟩ (c_X11_in l dC dI cy H.size w_130 32 126 32 126 w_130.toInt (by first | rfl | decide | omega | exact Int32.toInt_toInt64 _) (by first | rfl | decide | omega | exact Int32.toInt_toInt64 _) (by first | rfl | decide | omega | exact Int32.toInt_toInt64 _)) (va_cwS 3 hts gX11_type_X11_in rfl rfl rfl (by decide +kernel) ⟨(Nat.le_of_ble_eq_true rfl), (Nat.le_of_ble_eq_true rfl)⟩) (PRE.s (hP.sub [] rfl) hK (hD.sub [] (by decide) rfl) hN) rfl rfl hl.1 rfl (lv_room (Nat.le_of_ble_eq_true rfl)) dX11_type_41 ⟨(Nat.le_of_ble_eq_true rfl), (Nat.le_of_ble_eq_true rfl)⟩) hP hD hS hA [] [0, 1] rfl rfl rfl (by decide) (fun r_132 u_131 H locs hw_133 hP hD hS => ?_)
          have hP : va_P (dC, dI) vwCl [(zy, .inr (11, [.ref zy0, .ref zy1, .int 0, .int 0, .int 0, .ref zy5, .int 0, .int 0, .ref zy8, .ref zy9, .ref zy10, .ref zy11, .ref zy12, .ref zy13, .ref zy14, .long 0, .ref zy16, .ref zy17, .ref zy18, .int 0, .long 0, .ref zy21, .ref zy22, .int 0, .ref zy24, .ref zy25, .ref zy26, .ref zy27])), (zy1, .inl (cy 0, 80, .inl (fun _ => 0)))] H := hP
          have hD : va_D A [(zy, .inr (11, [.ref zy0, .ref zy1, .int 0, .int 0, .int 0, .ref zy5, .int 0, .int 0, .ref zy8, .ref zy9, .ref zy10, .ref zy11, .ref zy12, .ref zy13, .ref zy14, .long 0, .ref zy16, .ref zy17, .ref zy18, .int 0, .long 0, .ref zy21, .ref zy22, .int 0, .ref zy24, .ref zy25, .ref zy26, .ref zy27])), (zy1, .inl (cy 0, 80, .inl (fun _ => 0)))] := hD
          have hw_133 : r_132 = if 32 ≤ w_130.toInt ∧ w_130.toInt ≤ 126 then 1 else 0 := hw_133
          refine lv_if_ne (tgt := 49) hx hb dX11_type_44 (by decide) (fun c_134 => ?_) (fun c_134 => ?_)
          · have f_135 : 32 ≤ w_130.toInt ∧ w_130.toInt ≤ 126 := bz_1 hw_133 c_134
            have g_136 : okb zja 1 := by unfold okb; rw [← tw_130]; exact f_135
            refine lv_iinc (v := 0) (lv' := [(4, .int 0), (0, .ref zy), (1, .long zja), (3, .int 4)]) hx hb dX11_type_49 hl (k := 0) rfl (by decide) (by decide) rfl (fun ls hl => ?_)
            refine lv_goto (tgt := 19) hx hb dX11_type_52 (by decide) ?_
            refine lv_iload hx hb dX11_type_19 (lv_at hl 0 rfl) ?_
            refine lv_if_lt (tgt := 55) hx hb dX11_type_21 (by decide) (fun c_137 => absurd c_137 (by decide)) (fun c_137 => ?_)
            refine lv_lload_n hx hb dX11_type_24 rfl (lv_at hl 2 rfl) ?_
            refine lv_bipush (v := 8) hx hb dX11_type_25 (by decide) ?_
            refine lv_iload hx hb dX11_type_27 (lv_at hl 0 rfl) ?_
            refine lv_imul hx hb dX11_type_29 ?_
            refine lv_topi (fun v_138 ev_138 => ?_)
            obtain rfl : v_138 = (0 : Int32) := ev_138.trans (by decide)
            refine lv_lshr (v := zja >>> ((0 : Int32).toInt64 &&& 63)) hx hb dX11_type_30 rfl ?_
            refine lv_ldc2 (v := 255) hx hb hown (hts (.constantLong RX11 106 255) (by decide +kernel)) dX11_type_31 ?_
            refine lv_land hx hb dX11_type_34 ?_
            refine lv_topl (fun w_139 ew_139 => ?_)
            have tw_139 : w_139.toInt = by8 zja 0 := by rw [ew_139]; exact by8_l0 zja
            refine lv_ldc2 (v := 32) hx hb hown (hts (.constantLong RX11 108 32) (by decide +kernel)) dX11_type_35 ?_
            refine lv_ldc2 (v := 126) hx hb hown (hts (.constantLong RX11 110 126) (by decide +kernel)) dX11_type_38 ?_
            refine cj_i (wc := []) (wr := [(zy, .inr (11, [.ref zy0, .ref zy1, .int 0, .int 0, .int 0, .ref zy5, .int 0, .int 0, .ref zy8, .ref zy9, .ref zy10, .ref zy11, .ref zy12, .ref zy13, .ref zy14, .long 0, .ref zy16, .ref zy17, .ref zy18, .int 0, .long 0, .ref zy21, .ref zy22, .int 0, .ref zy24, .ref zy25, .ref zy26, .ref zy27])), (zy1, .inl (cy 0, 80, .inl (fun _ => 0)))]) (w1 := fun (_ : Unit) => []) (va_runS (As := [.long w_139, .long 32, .long 126]) (rest := []) ⟨hx, hb, hml, hown, hts⟩ (c_X11_in l dC dI cy H.size w_139 32 126 32 126 w_139.toInt (by first | rfl | decide | omega | exact Int32.toInt_toInt64 _) (by first | rfl | decide | omega | exact Int32.toInt_toInt64 _) (by first | rfl | decide | omega | exact Int32.toInt_toInt64 _)) (va_cwS 3 hts gX11_type_X11_in rfl rfl rfl (by decide +kernel) ⟨(Nat.le_of_ble_eq_true rfl), (Nat.le_of_ble_eq_true rfl)⟩) (PRE.s (hP.sub [] rfl) hK (hD.sub [] (by decide) rfl) hN) rfl rfl hl.1 rfl (lv_room (Nat.le_of_ble_eq_true rfl)) dX11_type_41 ⟨(Nat.le_of_ble_eq_true rfl), (Nat.le_of_ble_eq_true rfl)⟩) hP hD hS hA [] [0, 1] rfl rfl rfl (by decide) (fun r_141 u_140 H locs hw_142 hP hD hS => ?_)
            have hP : va_P (dC, dI) vwCl [(zy, .inr (11, [.ref zy0, .ref zy1, .int 0, .int 0, .int 0, .ref zy5, .int 0, .int 0, .ref zy8, .ref zy9, .ref zy10, .ref zy11, .ref zy12, .ref zy13, .ref zy14, .long 0, .ref zy16, .ref zy17, .ref zy18, .int 0, .long 0, .ref zy21, .ref zy22, .int 0, .ref zy24, .ref zy25, .ref zy26, .ref zy27])), (zy1, .inl (cy 0, 80, .inl (fun _ => 0)))] H := hP
            have hD : va_D A [(zy, .inr (11, [.ref zy0, .ref zy1, .int 0, .int 0, .int 0, .ref zy5, .int 0, .int 0, .ref zy8, .ref zy9, .ref zy10, .ref zy11, .ref zy12, .ref zy13, .ref zy14, .long 0, .ref zy16, .ref zy17, .ref zy18, .int 0, .long 0, .ref zy21, .ref zy22, .int 0, .ref zy24, .ref zy25, .ref zy26, .ref zy27])), (zy1, .inl (cy 0, 80, .inl (fun _ => 0)))] := hD
            have hw_142 : r_141 = if 32 ≤ w_139.toInt ∧ w_139.toInt ≤ 126 then 1 else 0 := hw_142
            refine lv_if_ne (tgt := 49) hx hb dX11_type_44 (by decide) (fun c_143 => ?_) (fun c_143 => ?_)
            · have f_144 : 32 ≤ w_139.toInt ∧ w_139.toInt ≤ 126 := bz_1 hw_142 c_143
              have g_145 : okb zja 0 := by unfold okb; rw [← tw_139]; exact f_144
              refine lv_iinc (v := (-1)) (lv' := [(4, .int (-1)), (0, .ref zy), (1, .long zja), (3, .int 4)]) hx hb dX11_type_49 hl (k := 0) rfl (by decide) (by decide) rfl (fun ls hl => ?_)
              refine lv_goto (tgt := 19) hx hb dX11_type_52 (by decide) ?_
              refine lv_iload hx hb dX11_type_19 (lv_at hl 0 rfl) ?_
              refine lv_if_lt (tgt := 55) hx hb dX11_type_21 (by decide) (fun c_146 => ?_) (fun c_146 => absurd (by decide) c_146)
              refine lv_aload_n hx hb dX11_type_55 rfl (lv_at hl 1 rfl) ?_
              refine va_get (D := (dC, dI)) (ci := 11) (v := .int 0) (C := RX11) (T := TX11) (N := 28) hx hb hts (by decide +kernel) hown hK hP 0 rfl rfl 2 (by decide) (hts (.fieldLink RX11 112 "DripStoneModel" "taped" "I") (by decide +kernel)) (fun _ h9 => h9) rfl dX11_type_56 ?_
              refine lv_iload_n hx hb dX11_type_59 rfl (lv_at hl 3 rfl) ?_
              refine lv_iadd hx hb dX11_type_60 ?_
              refine lv_topi (fun v_147 ev_147 => ?_)
              obtain rfl : v_147 = (4 : Int32) := ev_147.trans (by decide)
              refine lv_bipush (v := 80) hx hb dX11_type_61 (by decide) ?_
              refine lv_icmp_le (tgt := 69) hx hb dX11_type_63 (by decide) (fun c_148 => ?_) (fun c_148 => absurd (by decide) c_148)
              refine lv_iload_n hx hb dX11_type_69 rfl (lv_at hl 3 rfl) ?_
              refine lv_iconst (v := 1) hx hb dX11_type_70 (by decide) ?_
              refine lv_isub hx hb dX11_type_71 ?_
              refine lv_topi (fun v_149 ev_149 => ?_)
              obtain rfl : v_149 = (3 : Int32) := ev_149.trans (by decide)
              refine lv_istore (lv' := [(4, .int 3), (0, .ref zy), (1, .long zja), (3, .int 4)]) hx hb dX11_type_72 hl (by decide) rfl (fun ls hl => ?_)
              refine lv_iload hx hb dX11_type_74 (lv_at hl 0 rfl) ?_
              refine lv_if_lt (tgt := 116) hx hb dX11_type_76 (by decide) (fun c_150 => absurd c_150 (by decide)) (fun c_150 => ?_)
              refine lv_aload_n hx hb dX11_type_79 rfl (lv_at hl 1 rfl) ?_
              refine va_get (D := (dC, dI)) (ci := 11) (v := .ref zy1) (C := RX11) (T := TX11) (N := 28) hx hb hts (by decide +kernel) hown hK hP 0 rfl rfl 1 (by decide) (hts (.fieldLink RX11 13 "DripStoneModel" "tape" "[I") (by decide +kernel)) (fun _ h9 => h9) rfl dX11_type_80 ?_
              refine lv_aload_n hx hb dX11_type_83 rfl (lv_at hl 1 rfl) ?_
              refine va_get (D := (dC, dI)) (ci := 11) (v := .int 0) (C := RX11) (T := TX11) (N := 28) hx hb hts (by decide +kernel) hown hK hP 0 rfl rfl 2 (by decide) (hts (.fieldLink RX11 112 "DripStoneModel" "taped" "I") (by decide +kernel)) (fun _ h9 => h9) rfl dX11_type_84 ?_
              refine lv_lload_n hx hb dX11_type_87 rfl (lv_at hl 2 rfl) ?_
              refine lv_bipush (v := 8) hx hb dX11_type_88 (by decide) ?_
              refine lv_iload hx hb dX11_type_90 (lv_at hl 0 rfl) ?_
              refine lv_imul hx hb dX11_type_92 ?_
              refine lv_topi (fun v_151 ev_151 => ?_)
              obtain rfl : v_151 = (24 : Int32) := ev_151.trans (by decide)
              refine lv_lshr (v := zja >>> ((24 : Int32).toInt64 &&& 63)) hx hb dX11_type_93 rfl ?_
              refine lv_ldc2 (v := 255) hx hb hown (hts (.constantLong RX11 106 255) (by decide +kernel)) dX11_type_94 ?_
              refine lv_land hx hb dX11_type_97 ?_
              refine lv_topl (fun w_152 ew_152 => ?_)
              have tw_152 : w_152.toInt = by8 zja 3 := by rw [ew_152]; exact by8_l3 zja
              refine lv_l2i (v := w_152.toInt32) hx hb dX11_type_98 rfl ?_
              refine va_iast hx hb hK hP hD hS 1 0 rfl rfl (vp_in_iff.mpr ⟨by decide, by decide⟩) dX11_type_99 (fun H locs hP hD hS => ?_)
              have hP : va_P (dC, dI) vwCl [(zy, .inr (11, [.ref zy0, .ref zy1, .int 0, .int 0, .int 0, .ref zy5, .int 0, .int 0, .ref zy8, .ref zy9, .ref zy10, .ref zy11, .ref zy12, .ref zy13, .ref zy14, .long 0, .ref zy16, .ref zy17, .ref zy18, .int 0, .long 0, .ref zy21, .ref zy22, .int 0, .ref zy24, .ref zy25, .ref zy26, .ref zy27])), (zy1, .inl (cy 0, 80, .inl (upd (fun _ => 0) (0 : Int32).toNatClampNeg w_152.toInt32)))] H := hP
              have hD : va_D A [(zy, .inr (11, [.ref zy0, .ref zy1, .int 0, .int 0, .int 0, .ref zy5, .int 0, .int 0, .ref zy8, .ref zy9, .ref zy10, .ref zy11, .ref zy12, .ref zy13, .ref zy14, .long 0, .ref zy16, .ref zy17, .ref zy18, .int 0, .long 0, .ref zy21, .ref zy22, .int 0, .ref zy24, .ref zy25, .ref zy26, .ref zy27])), (zy1, .inl (cy 0, 80, .inl (upd (fun _ => 0) (0 : Int32).toNatClampNeg w_152.toInt32)))] := hD
              refine lv_aload_n hx hb dX11_type_100 rfl (lv_at hl 1 rfl) ?_
              refine lv_dup hx hb dX11_type_101 rfl ?_
              refine va_get (D := (dC, dI)) (ci := 11) (v := .int 0) (C := RX11) (T := TX11) (N := 28) hx hb hts (by decide +kernel) hown hK hP 0 rfl rfl 2 (by decide) (hts (.fieldLink RX11 112 "DripStoneModel" "taped" "I") (by decide +kernel)) (fun _ h9 => h9) rfl dX11_type_102 ?_
              refine lv_iconst (v := 1) hx hb dX11_type_105 (by decide) ?_
              refine lv_iadd hx hb dX11_type_106 ?_
              refine lv_topi (fun v_153 ev_153 => ?_)
              obtain rfl : v_153 = (1 : Int32) := ev_153.trans (by decide)
              refine va_put (D := (dC, dI)) (ci := 11) (v := .int 1) (ty := .int) (C := RX11) (T := TX11) (N := 28) hx hb hts (by decide +kernel) tyX11 tyX11_ok nmX11 hown hK hP hD hS 0 rfl rfl 2 (by decide) (hts (.fieldLink RX11 112 "DripStoneModel" "taped" "I") (by decide +kernel)) (fun _ h9 => h9) rfl (by decide +kernel) rfl rfl (Nat.le_of_ble_eq_true rfl) dX11_type_107 (fun H locs hP hD hS => ?_)
              have hP : va_P (dC, dI) vwCl [(zy, .inr (11, [.ref zy0, .ref zy1, .int 1, .int 0, .int 0, .ref zy5, .int 0, .int 0, .ref zy8, .ref zy9, .ref zy10, .ref zy11, .ref zy12, .ref zy13, .ref zy14, .long 0, .ref zy16, .ref zy17, .ref zy18, .int 0, .long 0, .ref zy21, .ref zy22, .int 0, .ref zy24, .ref zy25, .ref zy26, .ref zy27])), (zy1, .inl (cy 0, 80, .inl (upd (fun _ => 0) (0 : Int32).toNatClampNeg w_152.toInt32)))] H := hP
              have hD : va_D A [(zy, .inr (11, [.ref zy0, .ref zy1, .int 1, .int 0, .int 0, .ref zy5, .int 0, .int 0, .ref zy8, .ref zy9, .ref zy10, .ref zy11, .ref zy12, .ref zy13, .ref zy14, .long 0, .ref zy16, .ref zy17, .ref zy18, .int 0, .long 0, .ref zy21, .ref zy22, .int 0, .ref zy24, .ref zy25, .ref zy26, .ref zy27])), (zy1, .inl (cy 0, 80, .inl (upd (fun _ => 0) (0 : Int32).toNatClampNeg w_152.toInt32)))] := hD
              refine lv_iinc (v := 2) (lv' := [(4, .int 2), (0, .ref zy), (1, .long zja), (3, .int 4)]) hx hb dX11_type_110 hl (k := 0) rfl (by decide) (by decide) rfl (fun ls hl => ?_)
              refine lv_goto (tgt := 74) hx hb dX11_type_113 (by decide) ?_
              refine lv_iload hx hb dX11_type_74 (lv_at hl 0 rfl) ?_
              refine lv_if_lt (tgt := 116) hx hb dX11_type_76 (by decide) (fun c_154 => absurd c_154 (by decide)) (fun c_154 => ?_)
              refine lv_aload_n hx hb dX11_type_79 rfl (lv_at hl 1 rfl) ?_
              refine va_get (D := (dC, dI)) (ci := 11) (v := .ref zy1) (C := RX11) (T := TX11) (N := 28) hx hb hts (by decide +kernel) hown hK hP 0 rfl rfl 1 (by decide) (hts (.fieldLink RX11 13 "DripStoneModel" "tape" "[I") (by decide +kernel)) (fun _ h9 => h9) rfl dX11_type_80 ?_
              refine lv_aload_n hx hb dX11_type_83 rfl (lv_at hl 1 rfl) ?_
              refine va_get (D := (dC, dI)) (ci := 11) (v := .int 1) (C := RX11) (T := TX11) (N := 28) hx hb hts (by decide +kernel) hown hK hP 0 rfl rfl 2 (by decide) (hts (.fieldLink RX11 112 "DripStoneModel" "taped" "I") (by decide +kernel)) (fun _ h9 => h9) rfl dX11_type_84 ?_
              refine lv_lload_n hx hb dX11_type_87 rfl (lv_at hl 2 rfl) ?_
              refine lv_bipush (v := 8) hx hb dX11_type_88 (by decide) ?_
              refine lv_iload hx hb dX11_type_90 (lv_at hl 0 rfl) ?_
              refine lv_imul hx hb dX11_type_92 ?_
              refine lv_topi (fun v_155 ev_155 => ?_)
              obtain rfl : v_155 = (16 : Int32) := ev_155.trans (by decide)
              refine lv_lshr (v := zja >>> ((16 : Int32).toInt64 &&& 63)) hx hb dX11_type_93 rfl ?_
              refine lv_ldc2 (v := 255) hx hb hown (hts (.constantLong RX11 106 255) (by decide +kernel)) dX11_type_94 ?_
              refine lv_land hx hb dX11_type_97 ?_
              refine lv_topl (fun w_156 ew_156 => ?_)
              have tw_156 : w_156.toInt = by8 zja 2 := by rw [ew_156]; exact by8_l2 zja
              refine lv_l2i (v := w_156.toInt32) hx hb dX11_type_98 rfl ?_
              refine va_iast hx hb hK hP hD hS 1 0 rfl rfl (vp_in_iff.mpr ⟨by decide, by decide⟩) dX11_type_99 (fun H locs hP hD hS => ?_)
              have hP : va_P (dC, dI) vwCl [(zy, .inr (11, [.ref zy0, .ref zy1, .int 1, .int 0, .int 0, .ref zy5, .int 0, .int 0, .ref zy8, .ref zy9, .ref zy10, .ref zy11, .ref zy12, .ref zy13, .ref zy14, .long 0, .ref zy16, .ref zy17, .ref zy18, .int 0, .long 0, .ref zy21, .ref zy22, .int 0, .ref zy24, .ref zy25, .ref zy26, .ref zy27])), (zy1, .inl (cy 0, 80, .inl (upd (upd (fun _ => 0) (0 : Int32).toNatClampNeg w_152.toInt32) (1 : Int32).toNatClampNeg w_156.toInt32)))] H := hP
              have hD : va_D A [(zy, .inr (11, [.ref zy0, .ref zy1, .int 1, .int 0, .int 0, .ref zy5, .int 0, .int 0, .ref zy8, .ref zy9, .ref zy10, .ref zy11, .ref zy12, .ref zy13, .ref zy14, .long 0, .ref zy16, .ref zy17, .ref zy18, .int 0, .long 0, .ref zy21, .ref zy22, .int 0, .ref zy24, .ref zy25, .ref zy26, .ref zy27])), (zy1, .inl (cy 0, 80, .inl (upd (upd (fun _ => 0) (0 : Int32).toNatClampNeg w_152.toInt32) (1 : Int32).toNatClampNeg w_156.toInt32)))] := hD
              refine lv_aload_n hx hb dX11_type_100 rfl (lv_at hl 1 rfl) ?_
              refine lv_dup hx hb dX11_type_101 rfl ?_
              refine va_get (D := (dC, dI)) (ci := 11) (v := .int 1) (C := RX11) (T := TX11) (N := 28) hx hb hts (by decide +kernel) hown hK hP 0 rfl rfl 2 (by decide) (hts (.fieldLink RX11 112 "DripStoneModel" "taped" "I") (by decide +kernel)) (fun _ h9 => h9) rfl dX11_type_102 ?_
              refine lv_iconst (v := 1) hx hb dX11_type_105 (by decide) ?_
              refine lv_iadd hx hb dX11_type_106 ?_
              refine lv_topi (fun v_157 ev_157 => ?_)
              obtain rfl : v_157 = (2 : Int32) := ev_157.trans (by decide)
              refine va_put (D := (dC, dI)) (ci := 11) (v := .int 2) (ty := .int) (C := RX11) (T := TX11) (N := 28) hx hb hts (by decide +kernel) tyX11 tyX11_ok nmX11 hown hK hP hD hS 0 rfl rfl 2 (by decide) (hts (.fieldLink RX11 112 "DripStoneModel" "taped" "I") (by decide +kernel)) (fun _ h9 => h9) rfl (by decide +kernel) rfl rfl (Nat.le_of_ble_eq_true rfl) dX11_type_107 (fun H locs hP hD hS => ?_)
              have hP : va_P (dC, dI) vwCl [(zy, .inr (11, [.ref zy0, .ref zy1, .int 2, .int 0, .int 0, .ref zy5, .int 0, .int 0, .ref zy8, .ref zy9, .ref zy10, .ref zy11, .ref zy12, .ref zy13, .ref zy14, .long 0, .ref zy16, .ref zy17, .ref zy18, .int 0, .long 0, .ref zy21, .ref zy22, .int 0, .ref zy24, .ref zy25, .ref zy26, .ref zy27])), (zy1, .inl (cy 0, 80, .inl (upd (upd (fun _ => 0) (0 : Int32).toNatClampNeg w_152.toInt32) (1 : Int32).toNatClampNeg w_156.toInt32)))] H := hP
              have hD : va_D A [(zy, .inr (11, [.ref zy0, .ref zy1, .int 2, .int 0, .int 0, .ref zy5, .int 0, .int 0, .ref zy8, .ref zy9, .ref zy10, .ref zy11, .ref zy12, .ref zy13, .ref zy14, .long 0, .ref zy16, .ref zy17, .ref zy18, .int 0, .long 0, .ref zy21, .ref zy22, .int 0, .ref zy24, .ref zy25, .ref zy26, .ref zy27])), (zy1, .inl (cy 0, 80, .inl (upd (upd (fun _ => 0) (0 : Int32).toNatClampNeg w_152.toInt32) (1 : Int32).toNatClampNeg w_156.toInt32)))] := hD
              refine lv_iinc (v := 1) (lv' := [(4, .int 1), (0, .ref zy), (1, .long zja), (3, .int 4)]) hx hb dX11_type_110 hl (k := 0) rfl (by decide) (by decide) rfl (fun ls hl => ?_)
              refine lv_goto (tgt := 74) hx hb dX11_type_113 (by decide) ?_
              refine lv_iload hx hb dX11_type_74 (lv_at hl 0 rfl) ?_
              refine lv_if_lt (tgt := 116) hx hb dX11_type_76 (by decide) (fun c_158 => absurd c_158 (by decide)) (fun c_158 => ?_)
              refine lv_aload_n hx hb dX11_type_79 rfl (lv_at hl 1 rfl) ?_
              refine va_get (D := (dC, dI)) (ci := 11) (v := .ref zy1) (C := RX11) (T := TX11) (N := 28) hx hb hts (by decide +kernel) hown hK hP 0 rfl rfl 1 (by decide) (hts (.fieldLink RX11 13 "DripStoneModel" "tape" "[I") (by decide +kernel)) (fun _ h9 => h9) rfl dX11_type_80 ?_
              refine lv_aload_n hx hb dX11_type_83 rfl (lv_at hl 1 rfl) ?_
              refine va_get (D := (dC, dI)) (ci := 11) (v := .int 2) (C := RX11) (T := TX11) (N := 28) hx hb hts (by decide +kernel) hown hK hP 0 rfl rfl 2 (by decide) (hts (.fieldLink RX11 112 "DripStoneModel" "taped" "I") (by decide +kernel)) (fun _ h9 => h9) rfl dX11_type_84 ?_
              refine lv_lload_n hx hb dX11_type_87 rfl (lv_at hl 2 rfl) ?_
              refine lv_bipush (v := 8) hx hb dX11_type_88 (by decide) ?_
              refine lv_iload hx hb dX11_type_90 (lv_at hl 0 rfl) ?_
              refine lv_imul hx hb dX11_type_92 ?_
              refine lv_topi (fun v_159 ev_159 => ?_)
              obtain rfl : v_159 = (8 : Int32) := ev_159.trans (by decide)
              refine lv_lshr (v := zja >>> ((8 : Int32).toInt64 &&& 63)) hx hb dX11_type_93 rfl ?_
              refine lv_ldc2 (v := 255) hx hb hown (hts (.constantLong RX11 106 255) (by decide +kernel)) dX11_type_94 ?_
              refine lv_land hx hb dX11_type_97 ?_
              refine lv_topl (fun w_160 ew_160 => ?_)
              have tw_160 : w_160.toInt = by8 zja 1 := by rw [ew_160]; exact by8_l1 zja
              refine lv_l2i (v := w_160.toInt32) hx hb dX11_type_98 rfl ?_
              refine va_iast hx hb hK hP hD hS 1 0 rfl rfl (vp_in_iff.mpr ⟨by decide, by decide⟩) dX11_type_99 (fun H locs hP hD hS => ?_)
              have hP : va_P (dC, dI) vwCl [(zy, .inr (11, [.ref zy0, .ref zy1, .int 2, .int 0, .int 0, .ref zy5, .int 0, .int 0, .ref zy8, .ref zy9, .ref zy10, .ref zy11, .ref zy12, .ref zy13, .ref zy14, .long 0, .ref zy16, .ref zy17, .ref zy18, .int 0, .long 0, .ref zy21, .ref zy22, .int 0, .ref zy24, .ref zy25, .ref zy26, .ref zy27])), (zy1, .inl (cy 0, 80, .inl (upd (upd (upd (fun _ => 0) (0 : Int32).toNatClampNeg w_152.toInt32) (1 : Int32).toNatClampNeg w_156.toInt32) (2 : Int32).toNatClampNeg w_160.toInt32)))] H := hP
              have hD : va_D A [(zy, .inr (11, [.ref zy0, .ref zy1, .int 2, .int 0, .int 0, .ref zy5, .int 0, .int 0, .ref zy8, .ref zy9, .ref zy10, .ref zy11, .ref zy12, .ref zy13, .ref zy14, .long 0, .ref zy16, .ref zy17, .ref zy18, .int 0, .long 0, .ref zy21, .ref zy22, .int 0, .ref zy24, .ref zy25, .ref zy26, .ref zy27])), (zy1, .inl (cy 0, 80, .inl (upd (upd (upd (fun _ => 0) (0 : Int32).toNatClampNeg w_152.toInt32) (1 : Int32).toNatClampNeg w_156.toInt32) (2 : Int32).toNatClampNeg w_160.toInt32)))] := hD
              refine lv_aload_n hx hb dX11_type_100 rfl (lv_at hl 1 rfl) ?_
              refine lv_dup hx hb dX11_type_101 rfl ?_
              refine va_get (D := (dC, dI)) (ci := 11) (v := .int 2) (C := RX11) (T := TX11) (N := 28) hx hb hts (by decide +kernel) hown hK hP 0 rfl rfl 2 (by decide) (hts (.fieldLink RX11 112 "DripStoneModel" "taped" "I") (by decide +kernel)) (fun _ h9 => h9) rfl dX11_type_102 ?_
              refine lv_iconst (v := 1) hx hb dX11_type_105 (by decide) ?_
              refine lv_iadd hx hb dX11_type_106 ?_
              refine lv_topi (fun v_161 ev_161 => ?_)
              obtain rfl : v_161 = (3 : Int32) := ev_161.trans (by decide)
              refine va_put (D := (dC, dI)) (ci := 11) (v := .int 3) (ty := .int) (C := RX11) (T := TX11) (N := 28) hx hb hts (by decide +kernel) tyX11 tyX11_ok nmX11 hown hK hP hD hS 0 rfl rfl 2 (by decide) (hts (.fieldLink RX11 112 "DripStoneModel" "taped" "I") (by decide +kernel)) (fun _ h9 => h9) rfl (by decide +kernel) rfl rfl (Nat.le_of_ble_eq_true rfl) dX11_type_107 (fun H locs hP hD hS => ?_)
              have hP : va_P (dC, dI) vwCl [(zy, .inr (11, [.ref zy0, .ref zy1, .int 3, .int 0, .int 0, .ref zy5, .int 0, .int 0, .ref zy8, .ref zy9, .ref zy10, .ref zy11, .ref zy12, .ref zy13, .ref zy14, .long 0, .ref zy16, .ref zy17, .ref zy18, .int 0, .long 0, .ref zy21, .ref zy22, .int 0, .ref zy24, .ref zy25, .ref zy26, .ref zy27])), (zy1, .inl (cy 0, 80, .inl (upd (upd (upd (fun _ => 0) (0 : Int32).toNatClampNeg w_152.toInt32) (1 : Int32).toNatClampNeg w_156.toInt32) (2 : Int32).toNatClampNeg w_160.toInt32)))] H := hP
              have hD : va_D A [(zy, .inr (11, [.ref zy0, .ref zy1, .int 3, .int 0, .int 0, .ref zy5, .int 0, .int 0, .ref zy8, .ref zy9, .ref zy10, .ref zy11, .ref zy12, .ref zy13, .ref zy14, .long 0, .ref zy16, .ref zy17, .ref zy18, .int 0, .long 0, .ref zy21, .ref zy22, .int 0, .ref zy24, .ref zy25, .ref zy26, .ref zy27])), (zy1, .inl (cy 0, 80, .inl (upd (upd (upd (fun _ => 0) (0 : Int32).toNatClampNeg w_152.toInt32) (1 : Int32).toNatClampNeg w_156.toInt32) (2 : Int32).toNatClampNeg w_160.toInt32)))] := hD
              refine lv_iinc (v := 0) (lv' := [(4, .int 0), (0, .ref zy), (1, .long zja), (3, .int 4)]) hx hb dX11_type_110 hl (k := 0) rfl (by decide) (by decide) rfl (fun ls hl => ?_)
              refine lv_goto (tgt := 74) hx hb dX11_type_113 (by decide) ?_
              refine lv_iload hx hb dX11_type_74 (lv_at hl 0 rfl) ?_
              refine lv_if_lt (tgt := 116) hx hb dX11_type_76 (by decide) (fun c_162 => absurd c_162 (by decide)) (fun c_162 => ?_)
              refine lv_aload_n hx hb dX11_type_79 rfl (lv_at hl 1 rfl) ?_
              refine va_get (D := (dC, dI)) (ci := 11) (v := .ref zy1) (C := RX11) (T := TX11) (N := 28) hx hb hts (by decide +kernel) hown hK hP 0 rfl rfl 1 (by decide) (hts (.fieldLink RX11 13 "DripStoneModel" "tape" "[I") (by decide +kernel)) (fun _ h9 => h9) rfl dX11_type_80 ?_
              refine lv_aload_n hx hb dX11_type_83 rfl (lv_at hl 1 rfl) ?_
              refine va_get (D := (dC, dI)) (ci := 11) (v := .int 3) (C := RX11) (T := TX11) (N := 28) hx hb hts (by decide +kernel) hown hK hP 0 rfl rfl 2 (by decide) (hts (.fieldLink RX11 112 "DripStoneModel" "taped" "I") (by decide +kernel)) (fun _ h9 => h9) rfl dX11_type_84 ?_
              refine lv_lload_n hx hb dX11_type_87 rfl (lv_at hl 2 rfl) ?_
              refine lv_bipush (v := 8) hx hb dX11_type_88 (by decide) ?_
              refine lv_iload hx hb dX11_type_90 (lv_at hl 0 rfl) ?_
              refine lv_imul hx hb dX11_type_92 ?_
              refine lv_topi (fun v_163 ev_163 => ?_)
              obtain rfl : v_163 = (0 : Int32) := ev_163.trans (by decide)
              refine lv_lshr (v := zja >>> ((0 : Int32).toInt64 &&& 63)) hx hb dX11_type_93 rfl ?_
              refine lv_ldc2 (v := 255) hx hb hown (hts (.constantLong RX11 106 255) (by decide +kernel)) dX11_type_94 ?_
              refine lv_land hx hb dX11_type_97 ?_
              refine lv_topl (fun w_164 ew_164 => ?_)
              have tw_164 : w_164.toInt = by8 zja 0 := by rw [ew_164]; exact by8_l0 zja
              refine lv_l2i (v := w_164.toInt32) hx hb dX11_type_98 rfl ?_
              refine va_iast hx hb hK hP hD hS 1 0 rfl rfl (vp_in_iff.mpr ⟨by decide, by decide⟩) dX11_type_99 (fun H locs hP hD hS => ?_)
              have hP : va_P (dC, dI) vwCl [(zy, .inr (11, [.ref zy0, .ref zy1, .int 3, .int 0, .int 0, .ref zy5, .int 0, .int 0, .ref zy8, .ref zy9, .ref zy10, .ref zy11, .ref zy12, .ref zy13, .ref zy14, .long 0, .ref zy16, .ref zy17, .ref zy18, .int 0, .long 0, .ref zy21, .ref zy22, .int 0, .ref zy24, .ref zy25, .ref zy26, .ref zy27])), (zy1, .inl (cy 0, 80, .inl (upd (upd (upd (upd (fun _ => 0) (0 : Int32).toNatClampNeg w_152.toInt32) (1 : Int32).toNatClampNeg w_156.toInt32) (2 : Int32).toNatClampNeg w_160.toInt32) (3 : Int32).toNatClampNeg w_164.toInt32)))] H := hP
              have hD : va_D A [(zy, .inr (11, [.ref zy0, .ref zy1, .int 3, .int 0, .int 0, .ref zy5, .int 0, .int 0, .ref zy8, .ref zy9, .ref zy10, .ref zy11, .ref zy12, .ref zy13, .ref zy14, .long 0, .ref zy16, .ref zy17, .ref zy18, .int 0, .long 0, .ref zy21, .ref zy22, .int 0, .ref zy24, .ref zy25, .ref zy26, .ref zy27])), (zy1, .inl (cy 0, 80, .inl (upd (upd (upd (upd (fun _ => 0) (0 : Int32).toNatClampNeg w_152.toInt32) (1 : Int32).toNatClampNeg w_156.toInt32) (2 : Int32).toNatClampNeg w_160.toInt32) (3 : Int32).toNatClampNeg w_164.toInt32)))] := hD
              refine lv_aload_n hx hb dX11_type_100 rfl (lv_at hl 1 rfl) ?_
              refine lv_dup hx hb dX11_type_101 rfl ?_
              refine va_get (D := (dC, dI)) (ci := 11) (v := .int 3) (C := RX11) (T := TX11) (N := 28) hx hb hts (by decide +kernel) hown hK hP 0 rfl rfl 2 (by decide) (hts (.fieldLink RX11 112 "DripStoneModel" "taped" "I") (by decide +kernel)) (fun _ h9 => h9) rfl dX11_type_102 ?_
              refine lv_iconst (v := 1) hx hb dX11_type_105 (by decide) ?_
              refine lv_iadd hx hb dX11_type_106 ?_
              refine lv_topi (fun v_165 ev_165 => ?_)
              obtain rfl : v_165 = (4 : Int32) := ev_165.trans (by decide)
              refine va_put (D := (dC, dI)) (ci := 11) (v := .int 4) (ty := .int) (C := RX11) (T := TX11) (N := 28) hx hb hts (by decide +kernel) tyX11 tyX11_ok nmX11 hown hK hP hD hS 0 rfl rfl 2 (by decide) (hts (.fieldLink RX11 112 "DripStoneModel" "taped" "I") (by decide +kernel)) (fun _ h9 => h9) rfl (by decide +kernel) rfl rfl (Nat.le_of_ble_eq_true rfl) dX11_type_107 (fun H locs hP hD hS => ?_)
              have hP : va_P (dC, dI) vwCl [(zy, .inr (11, [.ref zy0, .ref zy1, .int 4, .int 0, .int 0, .ref zy5, .int 0, .int 0, .ref zy8, .ref zy9, .ref zy10, .ref zy11, .ref zy12, .ref zy13, .ref zy14, .long 0, .ref zy16, .ref zy17, .ref zy18, .int 0, .long 0, .ref zy21, .ref zy22, .int 0, .ref zy24, .ref zy25, .ref zy26, .ref zy27])), (zy1, .inl (cy 0, 80, .inl (upd (upd (upd (upd (fun _ => 0) (0 : Int32).toNatClampNeg w_152.toInt32) (1 : Int32).toNatClampNeg w_156.toInt32) (2 : Int32).toNatClampNeg w_160.toInt32) (3 : Int32).toNatClampNeg w_164.toInt32)))] H := hP
              have hD : va_D A [(zy, .inr (11, [.ref zy0, .ref zy1, .int 4, .int 0, .int 0, .ref zy5, .int 0, .int 0, .ref zy8, .ref zy9, .ref zy10, .ref zy11, .ref zy12, .ref zy13, .ref zy14, .long 0, .ref zy16, .ref zy17, .ref zy18, .int 0, .long 0, .ref zy21, .ref zy22, .int 0, .ref zy24, .ref zy25, .ref zy26, .ref zy27])), (zy1, .inl (cy 0, 80, .inl (upd (upd (upd (upd (fun _ => 0) (0 : Int32).toNatClampNeg w_152.toInt32) (1 : Int32).toNatClampNeg w_156.toInt32) (2 : Int32).toNatClampNeg w_160.toInt32) (3 : Int32).toNatClampNeg w_164.toInt32)))] := hD
              refine lv_iinc (v := (-1)) (lv' := [(4, .int (-1)), (0, .ref zy), (1, .long zja), (3, .int 4)]) hx hb dX11_type_110 hl (k := 0) rfl (by decide) (by decide) rfl (fun ls hl => ?_)
              refine lv_goto (tgt := 74) hx hb dX11_type_113 (by decide) ?_
              refine lv_iload hx hb dX11_type_74 (lv_at hl 0 rfl) ?_
              refine lv_if_lt (tgt := 116) hx hb dX11_type_76 (by decide) (fun c_166 => ?_) (fun c_166 => absurd (by decide) c_166)
              refine lv_aload_n hx hb dX11_type_116 rfl (lv_at hl 1 rfl) ?_
              refine va_get (D := (dC, dI)) (ci := 11) (v := .int 4) (C := RX11) (T := TX11) (N := 28) hx hb hts (by decide +kernel) hown hK hP 0 rfl rfl 2 (by decide) (hts (.fieldLink RX11 112 "DripStoneModel" "taped" "I") (by decide +kernel)) (fun _ h9 => h9) rfl dX11_type_117 ?_
              have hP9 := hP.sub (ws' := []) [] rfl
              have hD9 := hD.sub (ws' := []) [] (by decide) rfl
              exact W.iret (v := 4) hx hb hr (fun t ht hW => ⟨⟨4, (), rfl, ((an_type_4 _).trans (if_pos ⟨g_145, g_136, g_127, g_118⟩)).symm, ⟨by rw [ht]; exact hP9, va_K.moved hW.alike hK, hD9⟩⟩, hS.F ht⟩) hS.2.2 dX11_type_120
            · have f_144 : ¬ (32 ≤ w_139.toInt ∧ w_139.toInt ≤ 126) := bz_0 hw_142 c_143
              have g_167 : ¬ okb zja 0 := by unfold okb; rw [← tw_139]; exact f_144
              refine lv_iconst (v := (-1)) hx hb dX11_type_47 (by decide) ?_
              have hP9 := hP.sub (ws' := []) [] rfl
              have hD9 := hD.sub (ws' := []) [] (by decide) rfl
              exact W.iret (v := (-1)) hx hb hr (fun t ht hW => ⟨⟨(-1), (), rfl, ((an_type_4 _).trans (if_neg (fun h => g_167 (h.1)))).symm, ⟨by rw [ht]; exact hP9, va_K.moved hW.alike hK, hD9⟩⟩, hS.F ht⟩) hS.2.2 dX11_type_48
          · have f_135 : ¬ (32 ≤ w_130.toInt ∧ w_130.toInt ≤ 126) := bz_0 hw_133 c_134
            have g_168 : ¬ okb zja 1 := by unfold okb; rw [← tw_130]; exact f_135
            refine lv_iconst (v := (-1)) hx hb dX11_type_47 (by decide) ?_
            have hP9 := hP.sub (ws' := []) [] rfl
            have hD9 := hD.sub (ws' := []) [] (by decide) rfl
            exact W.iret (v := (-1)) hx hb hr (fun t ht hW => ⟨⟨(-1), (), rfl, ((an_type_4 _).trans (if_neg (fun h => g_168 (h.2.1)))).symm, ⟨by rw [ht]; exact hP9, va_K.moved hW.alike hK, hD9⟩⟩, hS.F ht⟩) hS.2.2 dX11_type_48
        · have f_126 : ¬ (32 ≤ w_121.toInt ∧ w_121.toInt ≤ 126) := bz_0 hw_124 c_125
          have g_169 : ¬ okb zja 2 := by unfold okb; rw [← tw_121]; exact f_126
          refine lv_iconst (v := (-1)) hx hb dX11_type_47 (by decide) ?_
          have hP9 := hP.sub (ws' := []) [] rfl
          have hD9 := hD.sub (ws' := []) [] (by decide) rfl
          exact W.iret (v := (-1)) hx hb hr (fun t ht hW => ⟨⟨(-1), (), rfl, ((an_type_4 _).trans (if_neg (fun h => g_169 (h.2.2.1)))).symm, ⟨by rw [ht]; exact hP9, va_K.moved hW.alike hK, hD9⟩⟩, hS.F ht⟩) hS.2.2 dX11_type_48
      · have f_117 : ¬ (32 ≤ w_112.toInt ∧ w_112.toInt ≤ 126) := bz_0 hw_115 c_116
        have g_170 : ¬ okb zja 3 := by unfold okb; rw [← tw_112]; exact f_117
        refine lv_iconst (v := (-1)) hx hb dX11_type_47 (by decide) ?_
        have hP9 := hP.sub (ws' := []) [] rfl
        have hD9 := hD.sub (ws' := []) [] (by decide) rfl
        exact W.iret (v := (-1)) hx hb hr (fun t ht hW => ⟨⟨(-1), (), rfl, ((an_type_4 _).trans (if_neg (fun h => g_170 (h.2.2.2)))).symm, ⟨by rw [ht]; exact hP9, va_K.moved hW.alike hK, hD9⟩⟩, hS.F ht⟩) hS.2.2 dX11_type_48
    · have zk_6_5 : (5 : Int32).toInt = 5 := by decide
      refine lv_iload_n hx hb dX11_type_14 rfl (lv_at hl 2 rfl) ?_
      refine lv_iconst (v := 1) hx hb dX11_type_15 (by decide) ?_
      refine lv_isub hx hb dX11_type_16 ?_
      refine lv_topi (fun v_171 ev_171 => ?_)
      obtain rfl : v_171 = (4 : Int32) := ev_171.trans (by decide)
      refine lv_istore (lv' := [(4, .int 4), (0, .ref zy), (1, .long zja), (3, .int 5)]) hx hb dX11_type_17 hl (by decide) rfl (fun ls hl => ?_)
      refine lv_iload hx hb dX11_type_19 (lv_at hl 0 rfl) ?_
      refine lv_if_lt (tgt := 55) hx hb dX11_type_21 (by decide) (fun c_172 => absurd c_172 (by decide)) (fun c_172 => ?_)
      refine lv_lload_n hx hb dX11_type_24 rfl (lv_at hl 2 rfl) ?_
      refine lv_bipush (v := 8) hx hb dX11_type_25 (by decide) ?_
      refine lv_iload hx hb dX11_type_27 (lv_at hl 0 rfl) ?_
      refine lv_imul hx hb dX11_type_29 ?_
      refine lv_topi (fun v_173 ev_173 => ?_)
      obtain rfl : v_173 = (32 : Int32) := ev_173.trans (by decide)
      refine lv_lshr (v := zja >>> ((32 : Int32).toInt64 &&& 63)) hx hb dX11_type_30 rfl ?_
      refine lv_ldc2 (v := 255) hx hb hown (hts (.constantLong RX11 106 255) (by decide +kernel)) dX11_type_31 ?_
      refine lv_land hx hb dX11_type_34 ?_
      refine lv_topl (fun w_174 ew_174 => ?_)
      have tw_174 : w_174.toInt = by8 zja 4 := by rw [ew_174]; exact by8_l4 zja
      refine lv_ldc2 (v := 32) hx hb hown (hts (.constantLong RX11 108 32) (by decide +kernel)) dX11_type_35 ?_
      refine lv_ldc2 (v := 126) hx hb hown (hts (.constantLong RX11 110 126) (by decide +kernel)) dX11_type_38 ?_
      refine cj_i (wc := []) (wr := [(zy, .inr (11, [.ref zy0, .ref zy1, .int 0, .int 0, .int 0, .ref zy5, .int 0, .int 0, .ref zy8, .ref zy9, .ref zy10, .ref zy11, .ref zy12, .ref zy13, .ref zy14, .long 0, .ref zy16, .ref zy17, .ref zy18, .int 0, .long 0, .ref zy21, .ref zy22, .int 0, .ref zy24, .ref zy25, .ref zy26, .ref zy27])), (zy1, .inl (cy 0, 80, .inl (fun _ => 0)))]) (w1 := fun (_ : Unit) => []) (va_runS (As := [.long w_174, .long 32, .long 126]) (rest := []) ⟨hx, hb, hml, hown, hts⟩ (c_X11_in l dC dI cy H.size w_174 32 126 32 126 w_174.toInt (by first | rfl | decide | omega | exact Int32.toInt_toInt64 _) (by first | rfl | decide | omega | exact Int32.toInt_toInt64 _) (by first | rfl | decide | omega | exact Int32.toInt_toInt64 _)) (va_cwS 3 hts gX11_type_X11_in rfl rfl rfl (by decide +kernel) ⟨(Nat.le_of_ble_eq_true rfl), (Nat.le_of_ble_eq_true rfl)⟩) (PRE.s (hP.sub [] rfl) hK (hD.sub [] (by decide) rfl) hN) rfl rfl hl.1 rfl (lv_room (Nat.le_of_ble_eq_true rfl)) dX11_type_41 ⟨(Nat.le_of_ble_eq_true rfl), (Nat.le_of_ble_eq_true rfl)⟩) hP hD hS hA [] [0, 1] rfl rfl rfl (by decide) (fun r_176 u_175 H locs hw_177 hP hD hS => ?_)
      have hP : va_P (dC, dI) vwCl [(zy, .inr (11, [.ref zy0, .ref zy1, .int 0, .int 0, .int 0, .ref zy5, .int 0, .int 0, .ref zy8, .ref zy9, .ref zy10, .ref zy11, .ref zy12, .ref zy13, .ref zy14, .long 0, .ref zy16, .ref zy17, .ref zy18, .int 0, .long 0, .ref zy21, .ref zy22, .int 0, .ref zy24, .ref zy25, .ref zy26, .ref zy27])), (zy1, .inl (cy 0, 80, .inl (fun _ => 0)))] H := hP
      have hD : va_D A [(zy, .inr (11, [.ref zy0, .ref zy1, .int 0, .int 0, .int 0, .ref zy5, .int 0, .int 0, .ref zy8, .ref zy9, .ref zy10, .ref zy11, .ref zy12, .ref zy13, .ref zy14, .long 0, .ref zy16, .ref zy17, .ref zy18, .int 0, .long 0, .ref zy21, .ref zy22, .int 0, .ref zy24, .ref zy25, .ref zy26, .ref zy27])), (zy1, .inl (cy 0, 80, .inl (fun _ => 0)))] := hD
      have hw_177 : r_176 = if 32 ≤ w_174.toInt ∧ w_174.toInt ≤ 126 then 1 else 0 := hw_177
      refine lv_if_ne (tgt := 49) hx hb dX11_type_44 (by decide) (fun c_178 => ?_) (fun c_178 => ?_)
      · have f_179 : 32 ≤ w_174.toInt ∧ w_174.toInt ≤ 126 := bz_1 hw_177 c_178
        have g_180 : okb zja 4 := by unfold okb; rw [← tw_174]; exact f_179
        refine lv_iinc (v := 3) (lv' := [(4, .int 3), (0, .ref zy), (1, .long zja), (3, .int 5)]) hx hb dX11_type_49 hl (k := 0) rfl (by decide) (by decide) rfl (fun ls hl => ?_)
        refine lv_goto (tgt := 19) hx hb dX11_type_52 (by decide) ?_
        refine lv_iload hx hb dX11_type_19 (lv_at hl 0 rfl) ?_
        refine lv_if_lt (tgt := 55) hx hb dX11_type_21 (by decide) (fun c_181 => absurd c_181 (by decide)) (fun c_181 => ?_)
        refine lv_lload_n hx hb dX11_type_24 rfl (lv_at hl 2 rfl) ?_
        refine lv_bipush (v := 8) hx hb dX11_type_25 (by decide) ?_
        refine lv_iload hx hb dX11_type_27 (lv_at hl 0 rfl) ?_
        refine lv_imul hx hb dX11_type_29 ?_
        refine lv_topi (fun v_182 ev_182 => ?_)
        obtain rfl : v_182 = (24 : Int32) := ev_182.trans (by decide)
        refine lv_lshr (v := zja >>> ((24 : Int32).toInt64 &&& 63)) hx hb dX11_type_30 rfl ?_
        refine lv_ldc2 (v := 255) hx hb hown (hts (.constantLong RX11 106 255) (by decide +kernel)) dX11_type_31 ?_
        refine lv_land hx hb dX11_type_34 ?_
        refine lv_topl (fun w_183 ew_183 => ?_)
        have tw_183 : w_183.toInt = by8 zja 3 := by rw [ew_183]; exact by8_l3 zja
        refine lv_ldc2 (v := 32) hx hb hown (hts (.constantLong RX11 108 32) (by decide +kernel)) dX11_type_35 ?_
        refine lv_ldc2 (v := 126) hx hb hown (hts (.constantLong RX11 110 126) (by decide +kernel)) dX11_type_38 ?_
        refine cj_i (wc := []) (wr := [(zy, .inr (11, [.ref zy0, .ref zy1, .int 0, .int 0, .int 0, .ref zy5, .int 0, .int 0, .ref zy8, .ref zy9, .ref zy10, .ref zy11, .ref zy12, .ref zy13, .ref zy14, .long 0, .ref zy16, .ref zy17, .ref zy18, .int 0, .long 0, .ref zy21, .ref zy22, .int 0, .ref zy24, .ref zy25, .ref zy26, .ref zy27])), (zy1, .inl (cy 0, 80, .inl (fun _ => 0)))]) (w1 := fun (_ : Unit) => []) (va_runS (As := [.long w_183, .long 32, .long 126]) (rest := []) ⟨hx, hb, hml, hown, hts⟩ (c_X11_in l dC dI cy H.size w_183 32 126 32 126 w_183.toInt (by first | rfl | decide | omega | exact Int32.toInt_toInt64 _) (by first | rfl | decide | omega | exact Int32.toInt_toInt64 _) (by first | rfl | decide | omega | exact Int32.toInt_toInt64 _)) (va_cwS 3 hts gX11_type_X11_in rfl rfl rfl (by decide +kernel) ⟨(Nat.le_of_ble_eq_true rfl), (Nat.le_of_ble_eq_true rfl)⟩) (PRE.s (hP.sub [] rfl) hK (hD.sub [] (by decide) rfl) hN) rfl rfl hl.1 rfl (lv_room (Nat.le_of_ble_eq_true rfl)) dX11_type_41 ⟨(Nat.le_of_ble_eq_true rfl), (Nat.le_of_ble_eq_true rfl)⟩) hP hD hS hA [] [0, 1] rfl rfl rfl (by decide) (fun r_185 u_184 H locs hw_186 hP hD hS => ?_)
        have hP : va_P (dC, dI) vwCl [(zy, .inr (11, [.ref zy0, .ref zy1, .int 0, .int 0, .int 0, .ref zy5, .int 0, .int 0, .ref zy8, .ref zy9, .ref zy10, .ref zy11, .ref zy12, .ref zy13, .ref zy14, .long 0, .ref zy16, .ref zy17, .ref zy18, .int 0, .long 0, .ref zy21, .ref zy22, .int 0, .ref zy24, .ref zy25, .ref zy26, .ref zy27])), (zy1, .inl (cy 0, 80, .inl (fun _ => 0)))] H := hP
        have hD : va_D A [(zy, .inr (11, [.ref zy0, .ref zy1, .int 0, .int 0, .int 0, .ref zy5, .int 0, .int 0, .ref zy8, .ref zy9, .ref zy10, .ref zy11, .ref zy12, .ref zy13, .ref zy14, .long 0, .ref zy16, .ref zy17, .ref zy18, .int 0, .long 0, .ref zy21, .ref zy22, .int 0, .ref zy24, .ref zy25, .ref zy26, .ref zy27])), (zy1, .inl (cy 0, 80, .inl (fun _ => 0)))] := hD
        have hw_186 : r_185 = if 32 ≤ w_183.toInt ∧ w_183.toInt ≤ 126 then 1 else 0 := hw_186
        refine lv_if_ne (tgt := 49) hx hb dX11_type_44 (by decide) (fun c_187 => ?_) (fun c_187 => ?_)
        · have f_188 : 32 ≤ w_183.toInt ∧ w_183.toInt ≤ 126 := bz_1 hw_186 c_187
          have g_189 : okb zja 3 := by unfold okb; rw [← tw_183]; exact f_188
          refine lv_iinc (v := 2) (lv' := [(4, .int 2), (0, .ref zy), (1, .long zja), (3, .int 5)]) hx hb dX11_type_49 hl (k := 0) rfl (by decide) (by decide) rfl (fun ls hl => ?_)
          refine lv_goto (tgt := 19) hx hb dX11_type_52 (by decide) ?_
          refine lv_iload hx hb dX11_type_19 (lv_at hl 0 rfl) ?_
          refine lv_if_lt (tgt := 55) hx hb dX11_type_21 (by decide) (fun c_190 => absurd c_190 (by decide)) (fun c_190 => ?_)
          refine lv_lload_n hx hb dX11_type_24 rfl (lv_at hl 2 rfl) ?_
          refine lv_bipush (v := 8) hx hb dX11_type_25 (by decide) ?_
          refine lv_iload hx hb dX11_type_27 (lv_at hl 0 rfl) ?_
          refine lv_imul hx hb dX11_type_29 ?_
          refine lv_topi (fun v_191 ev_191 => ?_)
          obtain rfl : v_191 = (16 : Int32) := ev_191.trans (by decide)
          refine lv_lshr (v := zja >>> ((16 : Int32).toInt64 &&& 63)) hx hb dX11_type_30 rfl ?_
          refine lv_ldc2 (v := 255) hx hb hown (hts (.constantLong RX11 106 255) (by decide +kernel)) dX11_type_31 ?_
          refine lv_land hx hb dX11_type_34 ?_
          refine lv_topl (fun w_192 ew_192 => ?_)
          have tw_192 : w_192.toInt = by8 zja 2 := by rw [ew_192]; exact by8_l2 zja
          refine lv_ldc2 (v := 32) hx hb hown (hts (.constantLong RX11 108 32) (by decide +kernel)) dX11_type_35 ?_
          refine lv_ldc2 (v := 126) hx hb hown (hts (.constantLong RX11 110 126) (by decide +kernel)) dX11_type_38 ?_
          refine cj_i (wc := []) (wr := [(zy, .inr (11, [.ref zy0, .ref zy1, .int 0, .int 0, .int 0, .ref zy5, .int 0, .int 0, .ref zy8, .ref zy9, .ref zy10, .ref zy11, .ref zy12, .ref zy13, .ref zy14, .long 0, .ref zy16, .ref zy17, .ref zy18, .int 0, .long 0, .ref zy21, .ref zy22, .int 0, .ref zy24, .ref zy25, .ref zy26, .ref zy27])), (zy1, .inl (cy 0, 80, .inl (fun _ => 0)))]) (w1 := fun (_ : Unit) => []) (va_runS (As := [.long w_192, .long 32, .long 126]) (rest := []) ⟨hx, hb, hml, hown, hts⟩ (c_X11_in l dC dI cy H.size w_192 32 126 32 126 w_192.toInt (by first | rfl | decide | omega | exact Int32.toInt_toInt64 _) (by first | rfl | decide | omega | exact Int32.toInt_toInt64 _) (by first | rfl | decide | omega | exact Int32.toInt_toInt64 _)) (va_cwS 3 hts gX11_type_X11_in rfl rfl rfl (by decide +kernel) ⟨(Nat.le_of_ble_eq_true rfl), (Nat.le_of_ble_eq_true rfl)⟩) (PRE.s (hP.sub [] rfl) hK (hD.sub [] (by decide) rfl) hN) rfl rfl hl.1 rfl (lv_room (Nat.le_of_ble_eq_true rfl)) dX11_type_41 ⟨(Nat.le_of_ble_eq_true rfl), (Nat.le_of_ble_eq_true rfl)⟩) hP hD hS hA [] [0, 1] rfl rfl rfl (by decide) (fun r_194 u_193 H locs hw_195 hP hD hS => ?_)
          have hP : va_P (dC, dI) vwCl [(zy, .inr (11, [.ref zy0, .ref zy1, .int 0, .int 0, .int 0, .ref zy5, .int 0, .int 0, .ref zy8, .ref zy9, .ref zy10, .ref zy11, .ref zy12, .ref zy13, .ref zy14, .long 0, .ref zy16, .ref zy17, .ref zy18, .int 0, .long 0, .ref zy21, .ref zy22, .int 0, .ref zy24, .ref zy25, .ref zy26, .ref zy27])), (zy1, .inl (cy 0, 80, .inl (fun _ => 0)))] H := hP
          have hD : va_D A [(zy, .inr (11, [.ref zy0, .ref zy1, .int 0, .int 0, .int 0, .ref zy5, .int 0, .int 0, .ref zy8, .ref zy9, .ref zy10, .ref zy11, .ref zy12, .ref zy13, .ref zy14, .long 0, .ref zy16, .ref zy17, .ref zy18, .int 0, .long 0, .ref zy21, .ref zy22, .int 0, .ref zy24, .ref zy25, .ref zy26, .ref zy27])), (zy1, .inl (cy 0, 80, .inl (fun _ => 0)))] := hD
          have hw_195 : r_194 = if 32 ≤ w_192.toInt ∧ w_192.toInt ≤ 126 then 1 else 0 := hw_195
          refine lv_if_ne (tgt := 49) hx hb dX11_type_44 (by decide) (fun c_196 => ?_) (fun c_196 => ?_)
          · have f_197 : 32 ≤ w_192.toInt ∧ w_192.toInt ≤ 126 := bz_1 hw_195 c_196
            have g_198 : okb zja 2 := by unfold okb; rw [← tw_192]; exact f_197
            refine lv_iinc (v := 1) (lv' := [(4, .int 1), (0, .ref zy), (1, .long zja), (3, .int 5)]) hx hb dX11_type_49 hl (k := 0) rfl (by decide) (by decide) rfl (fun ls hl => ?_)
            refine lv_goto (tgt := 19) hx hb dX11_type_52 (by decide) ?_
            refine lv_iload hx hb dX11_type_19 (lv_at hl 0 rfl) ?_
            refine lv_if_lt (tgt := 55) hx hb dX11_type_21 (by decide) (fun c_199 => absurd c_199 (by decide)) (fun c_199 => ?_)
            refine lv_lload_n hx hb dX11_type_24 rfl (lv_at hl 2 rfl) ?_
            refine lv_bipush (v := 8) hx hb dX11_type_25 (by decide) ?_
            refine lv_iload hx hb dX11_type_27 (lv_at hl 0 rfl) ?_
            refine lv_imul hx hb dX11_type_29 ?_
            refine lv_topi (fun v_200 ev_200 => ?_)
            obtain rfl : v_200 = (8 : Int32) := ev_200.trans (by decide)
            refine lv_lshr (v := zja >>> ((8 : Int32).toInt64 &&& 63)) hx hb dX11_type_30 rfl ?_
            refine lv_ldc2 (v := 255) hx hb hown (hts (.constantLong RX11 106 255) (by decide +kernel)) dX11_type_31 ?_
            refine lv_land hx hb dX11_type_34 ?_
            refine lv_topl (fun w_201 ew_201 => ?_)
            have tw_201 : w_201.toInt = by8 zja 1 := by rw [ew_201]; exact by8_l1 zja
            refine lv_ldc2 (v := 32) hx hb hown (hts (.constantLong RX11 108 32) (by decide +kernel)) dX11_type_35 ?_
            refine lv_ldc2 (v := 126) hx hb hown (hts (.constantLong RX11 110 126) (by decide +kernel)) dX11_type_38 ?_
            refine cj_i (wc := []) (wr := [(zy, .inr (11, [.ref zy0, .ref zy1, .int 0, .int 0, .int 0, .ref zy5, .int 0, .int 0, .ref zy8, .ref zy9, .ref zy10, .ref zy11, .ref zy12, .ref zy13, .ref zy14, .long 0, .ref zy16, .ref zy17, .ref zy18, .int 0, .long 0, .ref zy21, .ref zy22, .int 0, .ref zy24, .ref zy25, .ref zy26, .ref zy27])), (zy1, .inl (cy 0, 80, .inl (fun _ => 0)))]) (w1 := fun (_ : Unit) => []) (va_runS (As := [.long w_201, .long 32, .long 126]) (rest := []) ⟨hx, hb, hml, hown, hts⟩ (c_X11_in l dC dI cy H.size w_201 32 126 32 126 w_201.toInt (by first | rfl | decide | omega | exact Int32.toInt_toInt64 _) (by first | rfl | decide | omega | exact Int32.toInt_toInt64 _) (by first | rfl | decide | omega | exact Int32.toInt_toInt64 _)) (va_cwS 3 hts gX11_type_X11_in rfl rfl rfl (by decide +kernel) ⟨(Nat.le_of_ble_eq_true rfl), (Nat.le_of_ble_eq_true rfl)⟩) (PRE.s (hP.sub [] rfl) hK (hD.sub [] (by decide) rfl) hN) rfl rfl hl.1 rfl (lv_room (Nat.le_of_ble_eq_true rfl)) dX11_type_41 ⟨(Nat.le_of_ble_eq_true rfl), (Nat.le_of_ble_eq_true rfl)⟩) hP hD hS hA [] [0, 1] rfl rfl rfl (by decide) (fun r_203 u_202 H locs hw_204 hP hD hS => ?_)
            have hP : va_P (dC, dI) vwCl [(zy, .inr (11, [.ref zy0, .ref zy1, .int 0, .int 0, .int 0, .ref zy5, .int 0, .int 0, .ref zy8, .ref zy9, .ref zy10, .ref zy11, .ref zy12, .ref zy13, .ref zy14, .long 0, .ref zy16, .ref zy17, .ref zy18, .int 0, .long 0, .ref zy21, .ref zy22, .int 0, .ref zy24, .ref zy25, .ref zy26, .ref zy27])), (zy1, .inl (cy 0, 80, .inl (fun _ => 0)))] H := hP
            have hD : va_D A [(zy, .inr (11, [.ref zy0, .ref zy1, .int 0, .int 0, .int 0, .ref zy5, .int 0, .int 0, .ref zy8, .ref zy9, .ref zy10, .ref zy11, .ref zy12, .ref zy13, .ref zy14, .long 0, .ref zy16, .ref zy17, .ref zy18, .int 0, .long 0, .ref zy21, .ref zy22, .int 0, .ref zy24, .ref zy25, .ref zy26, .ref zy27])), (zy1, .inl (cy 0, 80, .inl (fun _ => 0)))] := hD
            have hw_204 : r_203 = if 32 ≤ w_201.toInt ∧ w_201.toInt ≤ 126 then 1 else 0 := hw_204
            refine lv_if_ne (tgt := 49) hx hb dX11_type_44 (by decide) (fun c_205 => ?_) (fun c_205 => ?_)
            · have f_206 : 32 ≤ w_201.toInt ∧ w_201.toInt ≤ 126 := bz_1 hw_204 c_205
              have g_207 : okb zja 1 := by unfold okb; rw [← tw_201]; exact f_206
              refine lv_iinc (v := 0) (lv' := [(4, .int 0), (0, .ref zy), (1, .long zja), (3, .int 5)]) hx hb dX11_type_49 hl (k := 0) rfl (by decide) (by decide) rfl (fun ls hl => ?_)
              refine lv_goto (tgt := 19) hx hb dX11_type_52 (by decide) ?_
              refine lv_iload hx hb dX11_type_19 (lv_at hl 0 rfl) ?_
              refine lv_if_lt (tgt := 55) hx hb dX11_type_21 (by decide) (fun c_208 => absurd c_208 (by decide)) (fun c_208 => ?_)
              refine lv_lload_n hx hb dX11_type_24 rfl (lv_at hl 2 rfl) ?_
              refine lv_bipush (v := 8) hx hb dX11_type_25 (by decide) ?_
              refine lv_iload hx hb dX11_type_27 (lv_at hl 0 rfl) ?_
              refine lv_imul hx hb dX11_type_29 ?_
              refine lv_topi (fun v_209 ev_209 => ?_)
              obtain rfl : v_209 = (0 : Int32) := ev_209.trans (by decide)
              refine lv_lshr (v := zja >>> ((0 : Int32).toInt64 &&& 63)) hx hb dX11_type_30 rfl ?_
              refine lv_ldc2 (v := 255) hx hb hown (hts (.constantLong RX11 106 255) (by decide +kernel)) dX11_type_31 ?_
              refine lv_land hx hb dX11_type_34 ?_
              refine lv_topl (fun w_210 ew_210 => ?_)
              have tw_210 : w_210.toInt = by8 zja 0 := by rw [ew_210]; exact by8_l0 zja
              refine lv_ldc2 (v := 32) hx hb hown (hts (.constantLong RX11 108 32) (by decide +kernel)) dX11_type_35 ?_
              refine lv_ldc2 (v := 126) hx hb hown (hts (.constantLong RX11 110 126) (by decide +kernel)) dX11_type_38 ?_
              refine cj_i (wc := []) (wr := [(zy, .inr (11, [.ref zy0, .ref zy1, .int 0, .int 0, .int 0, .ref zy5, .int 0, .int 0, .ref zy8, .ref zy9, .ref zy10, .ref zy11, .ref zy12, .ref zy13, .ref zy14, .long 0, .ref zy16, .ref zy17, .ref zy18, .int 0, .long 0, .ref zy21, .ref zy22, .int 0, .ref zy24, .ref zy25, .ref zy26, .ref zy27])), (zy1, .inl (cy 0, 80, .inl (fun _ => 0)))]) (w1 := fun (_ : Unit) => []) (va_runS (As := [.long w_210, .long 32, .long 126]) (rest := []) ⟨hx, hb, hml, hown, hts⟩ (c_X11_in l dC dI cy H.size w_210 32 126 32 126 w_210.toInt (by first | rfl | decide | omega | exact Int32.toInt_toInt64 _) (by first | rfl | decide | omega | exact Int32.toInt_toInt64 _) (by first | rfl | decide | omega | exact Int32.toInt_toInt64 _)) (va_cwS 3 hts gX11_type_X11_in rfl rfl rfl (by decide +kernel) ⟨(Nat.le_of_ble_eq_true rfl), (Nat.le_of_ble_eq_true rfl)⟩) (PRE.s (hP.sub [] rfl) hK (hD.sub [] (by decide) rfl) hN) rfl rfl hl.1 rfl (lv_room (Nat.le_of_ble_eq_true rfl)) dX11_type_41 ⟨(Nat.le_of_ble_eq_true rfl), (Nat.le_of_ble_eq_true rfl)⟩) hP hD hS hA [] [0, 1] rfl rfl rfl (by decide) (fun r_212 u_211 H locs hw_213 hP hD hS => ?_)
              have hP : va_P (dC, dI) vwCl [(zy, .inr (11, [.ref zy0, .ref zy1, .int 0, .int 0, .int 0, .ref zy5, .int 0, .int 0, .ref zy8, .ref zy9, .ref zy10, .ref zy11, .ref zy12, .ref zy13, .ref zy14, .long 0, .ref zy16, .ref zy17, .ref zy18, .int 0, .long 0, .ref zy21, .ref zy22, .int 0, .ref zy24, .ref zy25, .ref zy26, .ref zy27])), (zy1, .inl (cy 0, 80, .inl (fun _ => 0)))] H := hP
              have hD : va_D A [(zy, .inr (11, [.ref zy0, .ref zy1, .int 0, .int 0, .int 0, .ref zy5, .int 0, .int 0, .ref zy8, .ref zy9, .ref zy10, .ref zy11, .ref zy12, .ref zy13, .ref zy14, .long 0, .ref zy16, .ref zy17, .ref zy18, .int 0, .long 0, .ref zy21, .ref zy22, .int 0, .ref zy24, .ref zy25, .ref zy26, .ref zy27])), (zy1, .inl (cy 0, 80, .inl (fun _ => 0)))] := hD
              have hw_213 : r_212 = if 32 ≤ w_210.toInt ∧ w_210.toInt ≤ 126 then 1 else 0 := hw_213
              refine lv_if_ne (tgt := 49) hx hb dX11_type_44 (by decide) (fun c_214 => ?_) (fun c_214 => ?_)
              · have f_215 : 32 ≤ w_210.toInt ∧ w_210.toInt ≤ 126 := bz_1 hw_213 c_214
                have g_216 : okb zja 0 := by unfold okb; rw [← tw_210]; exact f_215
                refine lv_iinc (v := (-1)) (lv' := [(4, .int (-1)), (0, .ref zy), (1, .long zja), (3, .int 5)]) hx hb dX11_type_49 hl (k := 0) rfl (by decide) (by decide) rfl (fun ls hl => ?_)
                refine lv_goto (tgt := 19) hx hb dX11_type_52 (by decide) ?_
                refine lv_iload hx hb dX11_type_19 (lv_at hl 0 rfl) ?_
                refine lv_if_lt (tgt := 55) hx hb dX11_type_21 (by decide) (fun c_217 => ?_) (fun c_217 => absurd (by decide) c_217)
                refine lv_aload_n hx hb dX11_type_55 rfl (lv_at hl 1 rfl) ?_
                refine va_get (D := (dC, dI)) (ci := 11) (v := .int 0) (C := RX11) (T := TX11) (N := 28) hx hb hts (by decide +kernel) hown hK hP 0 rfl rfl 2 (by decide) (hts (.fieldLink RX11 112 "DripStoneModel" "taped" "I") (by decide +kernel)) (fun _ h9 => h9) rfl dX11_type_56 ?_
                refine lv_iload_n hx hb dX11_type_59 rfl (lv_at hl 3 rfl) ?_
                refine lv_iadd hx hb dX11_type_60 ?_
                refine lv_topi (fun v_218 ev_218 => ?_)
                obtain rfl : v_218 = (5 : Int32) := ev_218.trans (by decide)
                refine lv_bipush (v := 80) hx hb dX11_type_61 (by decide) ?_
                refine lv_icmp_le (tgt := 69) hx hb dX11_type_63 (by decide) (fun c_219 => ?_) (fun c_219 => absurd (by decide) c_219)
                refine lv_iload_n hx hb dX11_type_69 rfl (lv_at hl 3 rfl) ?_
                refine lv_iconst (v := 1) hx hb dX11_type_70 (by decide) ?_
                refine lv_isub hx hb dX11_type_71 ?_
                refine lv_topi (fun v_220 ev_220 => ?_)
                obtain rfl : v_220 = (4 : Int32) := ev_220.trans (by decide)
                refine lv_istore (lv' := [(4, .int 4), (0, .ref zy), (1, .long zja), (3, .int 5)]) hx hb dX11_type_72 hl (by decide) rfl (fun ls hl => ?_)
                refine lv_iload hx hb dX11_type_74 (lv_at hl 0 rfl) ?_
                refine lv_if_lt (tgt := 116) hx hb dX11_type_76 (by decide) (fun c_221 => absurd c_221 (by decide)) (fun c_221 => ?_)
                refine lv_aload_n hx hb dX11_type_79 rfl (lv_at hl 1 rfl) ?_
                refine va_get (D := (dC, dI)) (ci := 11) (v := .ref zy1) (C := RX11) (T := TX11) (N := 28) hx hb hts (by decide +kernel) hown hK hP 0 rfl rfl 1 (by decide) (hts (.fieldLink RX11 13 "DripStoneModel" "tape" "[I") (by decide +kernel)) (fun _ h9 => h9) rfl dX11_type_80 ?_
                refine lv_aload_n hx hb dX11_type_83 rfl (lv_at hl 1 rfl) ?_
                refine va_get (D := (dC, dI)) (ci := 11) (v := .int 0) (C := RX11) (T := TX11) (N := 28) hx hb hts (by decide +kernel) hown hK hP 0 rfl rfl 2 (by decide) (hts (.fieldLink RX11 112 "DripStoneModel" "taped" "I") (by decide +kernel)) (fun _ h9 => h9) rfl dX11_type_84 ?_
                refine lv_lload_n hx hb dX11_type_87 rfl (lv_at hl 2 rfl) ?_
                refine lv_bipush (v := 8) hx hb dX11_type_88 (by decide) ?_
                refine lv_iload hx hb dX11_type_90 (lv_at hl 0 rfl) ?_
                refine lv_imul hx hb dX11_type_92 ?_
                refine lv_topi (fun v_222 ev_222 => ?_)
                obtain rfl : v_222 = (32 : Int32) := ev_222.trans (by decide)
                refine lv_lshr (v := zja >>> ((32 : Int32).toInt64 &&& 63)) hx hb dX11_type_93 rfl ?_
                refine lv_ldc2 (v := 255) hx hb hown (hts (.constantLong RX11 106 255) (by decide +kernel)) dX11_type_94 ?_
                refine lv_land hx hb dX11_type_97 ?_
                refine lv_topl (fun w_223 ew_223 => ?_)
                have tw_223 : w_223.toInt = by8 zja 4 := by rw [ew_223]; exact by8_l4 zja
                refine lv_l2i (v := w_223.toInt32) hx hb dX11_type_98 rfl ?_
                refine va_iast hx hb hK hP hD hS 1 0 rfl rfl (vp_in_iff.mpr ⟨by decide, by decide⟩) dX11_type_99 (fun H locs hP hD hS => ?_)
                have hP : va_P (dC, dI) vwCl [(zy, .inr (11, [.ref zy0, .ref zy1, .int 0, .int 0, .int 0, .ref zy5, .int 0, .int 0, .ref zy8, .ref zy9, .ref zy10, .ref zy11, .ref zy12, .ref zy13, .ref zy14, .long 0, .ref zy16, .ref zy17, .ref zy18, .int 0, .long 0, .ref zy21, .ref zy22, .int 0, .ref zy24, .ref zy25, .ref zy26, .ref zy27])), (zy1, .inl (cy 0, 80, .inl (upd (fun _ => 0) (0 : Int32).toNatClampNeg w_223.toInt32)))] H := hP
                have hD : va_D A [(zy, .inr (11, [.ref zy0, .ref zy1, .int 0, .int 0, .int 0, .ref zy5, .int 0, .int 0, .ref zy8, .ref zy9, .ref zy10, .ref zy11, .ref zy12, .ref zy13, .ref zy14, .long 0, .ref zy16, .ref zy17, .ref zy18, .int 0, .long 0, .ref zy21, .ref zy22, .int 0, .ref zy24, .ref zy25, .ref zy26, .ref zy27])), (zy1, .inl (cy 0, 80, .inl (upd (fun _ => 0) (0 : Int32).toNatClampNeg w_223.toInt32)))] := hD
                refine lv_aload_n hx hb dX11_type_100 rfl (lv_at hl 1 rfl) ?_
                refine lv_dup hx hb dX11_type_101 rfl ?_
                refine va_get (D := (dC, dI)) (ci := 11) (v := .int 0) (C := RX11) (T := TX11) (N := 28) hx hb hts (by decide +kernel) hown hK hP 0 rfl rfl 2 (by decide) (hts (.fieldLink RX11 112 "DripStoneModel" "taped" "I") (by decide +kernel)) (fun _ h9 => h9) rfl dX11_type_102 ?_
                refine lv_iconst (v := 1) hx hb dX11_type_105 (by decide) ?_
                refine lv_iadd hx hb dX11_type_106 ?_
                refine lv_topi (fun v_224 ev_224 => ?_)
                obtain rfl : v_224 = (1 : Int32) := ev_224.trans (by decide)
                refine va_put (D := (dC, dI)) (ci := 11) (v := .int 1) (ty := .int) (C := RX11) (T := TX11) (N := 28) hx hb hts (by decide +kernel) tyX11 tyX11_ok nmX11 hown hK hP hD hS 0 rfl rfl 2 (by decide) (hts (.fieldLink RX11 112 "DripStoneModel" "taped" "I") (by decide +kernel)) (fun _ h9 => h9) rfl (by decide +kernel) rfl rfl (Nat.le_of_ble_eq_true rfl) dX11_type_107 (fun H locs hP hD hS => ?_)
                have hP : va_P (dC, dI) vwCl [(zy, .inr (11, [.ref zy0, .ref zy1, .int 1, .int 0, .int 0, .ref zy5, .int 0, .int 0, .ref zy8, .ref zy9, .ref zy10, .ref zy11, .ref zy12, .ref zy13, .ref zy14, .long 0, .ref zy16, .ref zy17, .ref zy18, .int 0, .long 0, .ref zy21, .ref zy22, .int 0, .ref zy24, .ref zy25, .ref zy26, .ref zy27])), (zy1, .inl (cy 0, 80, .inl (upd (fun _ => 0) (0 : Int32).toNatClampNeg w_223.toInt32)))] H := hP
                have hD : va_D A [(zy, .inr (11, [.ref zy0, .ref zy1, .int 1, .int 0, .int 0, .ref zy5, .int 0, .int 0, .ref zy8, .ref zy9, .ref zy10, .ref zy11, .ref zy12, .ref zy13, .ref zy14, .long 0, .ref zy16, .ref zy17, .ref zy18, .int 0, .long 0, .ref zy21, .ref zy22, .int 0, .ref zy24, .ref zy25, .ref zy26, .ref zy27])), (zy1, .inl (cy 0, 80, .inl (upd (fun _ => 0) (0 : Int32).toNatClampNeg w_223.toInt32)))] := hD
                refine lv_iinc (v := 3) (lv' := [(4, .int 3), (0, .ref zy), (1, .long zja), (3, .int 5)]) hx hb dX11_type_110 hl (k := 0) rfl (by decide) (by decide) rfl (fun ls hl => ?_)
                refine lv_goto (tgt := 74) hx hb dX11_type_113 (by decide) ?_
                refine lv_iload hx hb dX11_type_74 (lv_at hl 0 rfl) ?_
                refine lv_if_lt (tgt := 116) hx hb dX11_type_76 (by decide) (fun c_225 => absurd c_225 (by decide)) (fun c_225 => ?_)
                refine lv_aload_n hx hb dX11_type_79 rfl (lv_at hl 1 rfl) ?_
                refine va_get (D := (dC, dI)) (ci := 11) (v := .ref zy1) (C := RX11) (T := TX11) (N := 28) hx hb hts (by decide +kernel) hown hK hP 0 rfl rfl 1 (by decide) (hts (.fieldLink RX11 13 "DripStoneModel" "tape" "[I") (by decide +kernel)) (fun _ h9 => h9) rfl dX11_type_80 ?_
                refine lv_aload_n hx hb dX11_type_83 rfl (lv_at hl 1 rfl) ?_
                refine va_get (D := (dC, dI)) (ci := 11) (v := .int 1) (C := RX11) (T := TX11) (N := 28) hx hb hts (by decide +kernel) hown hK hP 0 rfl rfl 2 (by decide) (hts (.fieldLink RX11 112 "DripStoneModel" "taped" "I") (by decide +kernel)) (fun _ h9 => h9) rfl dX11_type_84 ?_
                refine lv_lload_n hx hb dX11_type_87 rfl (lv_at hl 2 rfl) ?_
                refine lv_bipush (v := 8) hx hb dX11_type_88 (by decide) ?_
                refine lv_iload hx hb dX11_type_90 (lv_at hl 0 rfl) ?_
                refine lv_imul hx hb dX11_type_92 ?_
                refine lv_topi (fun v_226 ev_226 => ?_)
                obtain rfl : v_226 = (24 : Int32) := ev_226.trans (by decide)
                refine lv_lshr (v := zja >>> ((24 : Int32).toInt64 &&& 63)) hx hb dX11_type_93 rfl ?_
                refine lv_ldc2 (v := 255) hx hb hown (hts (.constantLong RX11 106 255) (by decide +kernel)) dX11_type_94 ?_
                refine lv_land hx hb dX11_type_97 ?_
                refine lv_topl (fun w_227 ew_227 => ?_)
                have tw_227 : w_227.toInt = by8 zja 3 := by rw [ew_227]; exact by8_l3 zja
                refine lv_l2i (v := w_227.toInt32) hx hb dX11_type_98 rfl ?_
                refine va_iast hx hb hK hP hD hS 1 0 rfl rfl (vp_in_iff.mpr ⟨by decide, by decide⟩) dX11_type_99 (fun H locs hP hD hS => ?_)
                have hP : va_P (dC, dI) vwCl [(zy, .inr (11, [.ref zy0, .ref zy1, .int 1, .int 0, .int 0, .ref zy5, .int 0, .int 0, .ref zy8, .ref zy9, .ref zy10, .ref zy11, .ref zy12, .ref zy13, .ref zy14, .long 0, .ref zy16, .ref zy17, .ref zy18, .int 0, .long 0, .ref zy21, .ref zy22, .int 0, .ref zy24, .ref zy25, .ref zy26, .ref zy27])), (zy1, .inl (cy 0, 80, .inl (upd (upd (fun _ => 0) (0 : Int32).toNatClampNeg w_223.toInt32) (1 : Int32).toNatClampNeg w_227.toInt32)))] H := hP
                have hD : va_D A [(zy, .inr (11, [.ref zy0, .ref zy1, .int 1, .int 0, .int 0, .ref zy5, .int 0, .int 0, .ref zy8, .ref zy9, .ref zy10, .ref zy11, .ref zy12, .ref zy13, .ref zy14, .long 0, .ref zy16, .ref zy17, .ref zy18, .int 0, .long 0, .ref zy21, .ref zy22, .int 0, .ref zy24, .ref zy25, .ref zy26, .ref zy27])), (zy1, .inl (cy 0, 80, .inl (upd (upd (fun _ => 0) (0 : Int32).toNatClampNeg w_223.toInt32) (1 : Int32).toNatClampNeg w_227.toInt32)))] := hD
                refine lv_aload_n hx hb dX11_type_100 rfl (lv_at hl 1 rfl) ?_
                refine lv_dup hx hb dX11_type_101 rfl ?_
                refine va_get (D := (dC, dI)) (ci := 11) (v := .int 1) (C := RX11) (T := TX11) (N := 28) hx hb hts (by decide +kernel) hown hK hP 0 rfl rfl 2 (by decide) (hts (.fieldLink RX11 112 "DripStoneModel" "taped" "I") (by decide +kernel)) (fun _ h9 => h9) rfl dX11_type_102 ?_
                refine lv_iconst (v := 1) hx hb dX11_type_105 (by decide) ?_
                refine lv_iadd hx hb dX11_type_106 ?_
                refine lv_topi (fun v_228 ev_228 => ?_)
                obtain rfl : v_228 = (2 : Int32) := ev_228.trans (by decide)
                refine va_put (D := (dC, dI)) (ci := 11) (v := .int 2) (ty := .int) (C := RX11) (T := TX11) (N := 28) hx hb hts (by decide +kernel) tyX11 tyX11_ok nmX11 hown hK hP hD hS 0 rfl rfl 2 (by decide) (hts (.fieldLink RX11 112 "DripStoneModel" "taped" "I") (by decide +kernel)) (fun _ h9 => h9) rfl (by decide +kernel) rfl rfl (Nat.le_of_ble_eq_true rfl) dX11_type_107 (fun H locs hP hD hS => ?_)
                have hP : va_P (dC, dI) vwCl [(zy, .inr (11, [.ref zy0, .ref zy1, .int 2, .int 0, .int 0, .ref zy5, .int 0, .int 0, .ref zy8, .ref zy9, .ref zy10, .ref zy11, .ref zy12, .ref zy13, .ref zy14, .long 0, .ref zy16, .ref zy17, .ref zy18, .int 0, .long 0, .ref zy21, .ref zy22, .int 0, .ref zy24, .ref zy25, .ref zy26, .ref zy27])), (zy1, .inl (cy 0, 80, .inl (upd (upd (fun _ => 0) (0 : Int32).toNatClampNeg w_223.toInt32) (1 : Int32).toNatClampNeg w_227.toInt32)))] H := hP
                have hD : va_D A [(zy, .inr (11, [.ref zy0, .ref zy1, .int 2, .int 0, .int 0, .ref zy5, .int 0, .int 0, .ref zy8, .ref zy9, .ref zy10, .ref zy11, .ref zy12, .ref zy13, .ref zy14, .long 0, .ref zy16, .ref zy17, .ref zy18, .int 0, .long 0, .ref zy21, .ref zy22, .int 0, .ref zy24, .ref zy25, .ref zy26, .ref zy27])), (zy1, .inl (cy 0, 80, .inl (upd (upd (fun _ => 0) (0 : Int32).toNatClampNeg w_223.toInt32) (1 : Int32).toNatClampNeg w_227.toInt32)))] := hD
                refine lv_iinc (v := 2) (lv' := [(4, .int 2), (0, .ref zy), (1, .long zja), (3, .int 5)]) hx hb dX11_type_110 hl (k := 0) rfl (by decide) (by decide) rfl (fun ls hl => ?_)
                refine lv_goto (tgt := 74) hx hb dX11_type_113 (by decide) ?_
                refine lv_iload hx hb dX11_type_74 (lv_at hl 0 rfl) ?_
                refine lv_if_lt (tgt := 116) hx hb dX11_type_76 (by decide) (fun c_229 => absurd c_229 (by decide)) (fun c_229 => ?_)
                refine lv_aload_n hx hb dX11_type_79 rfl (lv_at hl 1 rfl) ?_
                refine va_get (D := (dC, dI)) (ci := 11) (v := .ref zy1) (C := RX11) (T := TX11) (N := 28) hx hb hts (by decide +kernel) hown hK hP 0 rfl rfl 1 (by decide) (hts (.fieldLink RX11 13 "DripStoneModel" "tape" "[I") (by decide +kernel)) (fun _ h9 => h9) rfl dX11_type_80 ?_
                refine lv_aload_n hx hb dX11_type_83 rfl (lv_at hl 1 rfl) ?_
                refine va_get (D := (dC, dI)) (ci := 11) (v := .int 2) (C := RX11) (T := TX11) (N := 28) hx hb hts (by decide +kernel) hown hK hP 0 rfl rfl 2 (by decide) (hts (.fieldLink RX11 112 "DripStoneModel" "taped" "I") (by decide +kernel)) (fun _ h9 => h9) rfl dX11_type_84 ?_
                refine lv_lload_n hx hb dX11_type_87 rfl (lv_at hl 2 rfl) ?_
                refine lv_bipush (v := 8) hx hb dX11_type_88 (by decide) ?_
                refine lv_iload hx hb dX11_type_90 (lv_at hl 0 rfl) ?_
                refine lv_imul hx hb dX11_type_92 ?_
                refine lv_topi (fun v_230 ev_230 => ?_)
                obtain rfl : v_230 = (16 : Int32) := ev_230.trans (by decide)
                refine lv_lshr (v := zja >>> ((16 : Int32).toInt64 &&& 63)) hx hb dX11_type_93 rfl ?_
                refine lv_ldc2 (v := 255) hx hb hown (hts (.constantLong RX11 106 255) (by decide +kernel)) dX11_type_94 ?_
                refine lv_land hx hb dX11_type_97 ?_
                refine lv_topl (fun w_231 ew_231 => ?_)
                have tw_231 : w_231.toInt = by8 zja 2 := by rw [ew_231]; exact by8_l2 zja
                refine lv_l2i (v := w_231.toInt32) hx hb dX11_type_98 rfl ?_
                refine va_iast hx hb hK hP hD hS 1 0 rfl rfl (vp_in_iff.mpr ⟨by decide, by decide⟩) dX11_type_99 (fun H locs hP hD hS => ?_)
                have hP : va_P (dC, dI) vwCl [(zy, .inr (11, [.ref zy0, .ref zy1, .int 2, .int 0, .int 0, .ref zy5, .int 0, .int 0, .ref zy8, .ref zy9, .ref zy10, .ref zy11, .ref zy12, .ref zy13, .ref zy14, .long 0, .ref zy16, .ref zy17, .ref zy18, .int 0, .long 0, .ref zy21, .ref zy22, .int 0, .ref zy24, .ref zy25, .ref zy26, .ref zy27])), (zy1, .inl (cy 0, 80, .inl (upd (upd (upd (fun _ => 0) (0 : Int32).toNatClampNeg w_223.toInt32) (1 : Int32).toNatClampNeg w_227.toInt32) (2 : Int32).toNatClampNeg w_231.toInt32)))] H := hP
                have hD : va_D A [(zy, .inr (11, [.ref zy0, .ref zy1, .int 2, .int 0, .int 0, .ref zy5, .int 0, .int 0, .ref zy8, .ref zy9, .ref zy10, .ref zy11, .ref zy12, .ref zy13, .ref zy14, .long 0, .ref zy16, .ref zy17, .ref zy18, .int 0, .long 0, .ref zy21, .ref zy22, .int 0, .ref zy24, .ref zy25, .ref zy26, .ref zy27])), (zy1, .inl (cy 0, 80, .inl (upd (upd (upd (fun _ => 0) (0 : Int32).toNatClampNeg w_223.toInt32) (1 : Int32).toNatClampNeg w_227.toInt32) (2 : Int32).toNatClampNeg w_231.toInt32)))] := hD
                refine lv_aload_n hx hb dX11_type_100 rfl (lv_at hl 1 rfl) ?_
                refine lv_dup hx hb dX11_type_101 rfl ?_
                refine va_get (D := (dC, dI)) (ci := 11) (v := .int 2) (C := RX11) (T := TX11) (N := 28) hx hb hts (by decide +kernel) hown hK hP 0 rfl rfl 2 (by decide) (hts (.fieldLink RX11 112 "DripStoneModel" "taped" "I") (by decide +kernel)) (fun _ h9 => h9) rfl dX11_type_102 ?_
                refine lv_iconst (v := 1) hx hb dX11_type_105 (by decide) ?_
                refine lv_iadd hx hb dX11_type_106 ?_
                refine lv_topi (fun v_232 ev_232 => ?_)
                obtain rfl : v_232 = (3 : Int32) := ev_232.trans (by decide)
                refine va_put (D := (dC, dI)) (ci := 11) (v := .int 3) (ty := .int) (C := RX11) (T := TX11) (N := 28) hx hb hts (by decide +kernel) tyX11 tyX11_ok nmX11 hown hK hP hD hS 0 rfl rfl 2 (by decide) (hts (.fieldLink RX11 112 "DripStoneModel" "taped" "I") (by decide +kernel)) (fun _ h9 => h9) rfl (by decide +kernel) rfl rfl (Nat.le_of_ble_eq_true rfl) dX11_type_107 (fun H locs hP hD hS => ?_)
                have hP : va_P (dC, dI) vwCl [(zy, .inr (11, [.ref zy0, .ref zy1, .int 3, .int 0, .int 0, .ref zy5, .int 0, .int 0, .ref zy8, .ref zy9, .ref zy10, .ref zy11, .ref zy12, .ref zy13, .ref zy14, .long 0, .ref zy16, .ref zy17, .ref zy18, .int 0, .long 0, .ref zy21, .ref zy22, .int 0, .ref zy24, .ref zy25, .ref zy26, .ref zy27])), (zy1, .inl (cy 0, 80, .inl (upd (upd (upd (fun _ => 0) (0 : Int32).toNatClampNeg w_223.toInt32) (1 : Int32).toNatClampNeg w_227.toInt32) (2 : Int32).toNatClampNeg w_231.toInt32)))] H := hP
                have hD : va_D A [(zy, .inr (11, [.ref zy0, .ref zy1, .int 3, .int 0, .int 0, .ref zy5, .int 0, .int 0, .ref zy8, .ref zy9, .ref zy10, .ref zy11, .ref zy12, .ref zy13, .ref zy14, .long 0, .ref zy16, .ref zy17, .ref zy18, .int 0, .long 0, .ref zy21, .ref zy22, .int 0, .ref zy24, .ref zy25, .ref zy26, .ref zy27])), (zy1, .inl (cy 0, 80, .inl (upd (upd (upd (fun _ => 0) (0 : Int32).toNatClampNeg w_223.toInt32) (1 : Int32).toNatClampNeg w_227.toInt32) (2 : Int32).toNatClampNeg w_231.toInt32)))] := hD
                refine lv_iinc (v := 1) (lv' := [(4, .int 1), (0, .ref zy), (1, .long zja), (3, .int 5)]) hx hb dX11_type_110 hl (k := 0) rfl (by decide) (by decide) rfl (fun ls hl => ?_)
                refine lv_goto (tgt := 74) hx hb dX11_type_113 (by decide) ?_
                refine lv_iload hx hb dX11_type_74 (lv_at hl 0 rfl) ?_
                refine lv_if_lt (tgt := 116) hx hb dX11_type_76 (by decide) (fun c_233 => absurd c_233 (by decide)) (fun c_233 => ?_)
                refine lv_aload_n hx hb dX11_type_79 rfl (lv_at hl 1 rfl) ?_
                refine va_get (D := (dC, dI)) (ci := 11) (v := .ref zy1) (C := RX11) (T := TX11) (N := 28) hx hb hts (by decide +kernel) hown hK hP 0 rfl rfl 1 (by decide) (hts (.fieldLink RX11 13 "DripStoneModel" "tape" "[I") (by decide +kernel)) (fun _ h9 => h9) rfl dX11_type_80 ?_
                refine lv_aload_n hx hb dX11_type_83 rfl (lv_at hl 1 rfl) ?_
                refine va_get (D := (dC, dI)) (ci := 11) (v := .int 3) (C := RX11) (T := TX11) (N := 28) hx hb hts (by decide +kernel) hown hK hP 0 rfl rfl 2 (by decide) (hts (.fieldLink RX11 112 "DripStoneModel" "taped" "I") (by decide +kernel)) (fun _ h9 => h9) rfl dX11_type_84 ?_
                refine lv_lload_n hx hb dX11_type_87 rfl (lv_at hl 2 rfl) ?_
                refine lv_bipush (v := 8) hx hb dX11_type_88 (by decide) ?_
                refine lv_iload hx hb dX11_type_90 (lv_at hl 0 rfl) ?_
                refine lv_imul hx hb dX11_type_92 ?_
                refine lv_topi (fun v_234 ev_234 => ?_)
                obtain rfl : v_234 = (8 : Int32) := ev_234.trans (by decide)
                refine lv_lshr (v := zja >>> ((8 : Int32).toInt64 &&& 63)) hx hb dX11_type_93 rfl ?_
                refine lv_ldc2 (v := 255) hx hb hown (hts (.constantLong RX11 106 255) (by decide +kernel)) dX11_type_94 ?_
                refine lv_land hx hb dX11_type_97 ?_
                refine lv_topl (fun w_235 ew_235 => ?_)
                have tw_235 : w_235.toInt = by8 zja 1 := by rw [ew_235]; exact by8_l1 zja
                refine lv_l2i (v := w_235.toInt32) hx hb dX11_type_98 rfl ?_
                refine va_iast hx hb hK hP hD hS 1 0 rfl rfl (vp_in_iff.mpr ⟨by decide, by decide⟩) dX11_type_99 (fun H locs hP hD hS => ?_)
                have hP : va_P (dC, dI) vwCl [(zy, .inr (11, [.ref zy0, .ref zy1, .int 3, .int 0, .int 0, .ref zy5, .int 0, .int 0, .ref zy8, .ref zy9, .ref zy10, .ref zy11, .ref zy12, .ref zy13, .ref zy14, .long 0, .ref zy16, .ref zy17, .ref zy18, .int 0, .long 0, .ref zy21, .ref zy22, .int 0, .ref zy24, .ref zy25, .ref zy26, .ref zy27])), (zy1, .inl (cy 0, 80, .inl (upd (upd (upd (upd (fun _ => 0) (0 : Int32).toNatClampNeg w_223.toInt32) (1 : Int32).toNatClampNeg w_227.toInt32) (2 : Int32).toNatClampNeg w_231.toInt32) (3 : Int32).toNatClampNeg w_235.toInt32)))] H := hP
                have hD : va_D A [(zy, .inr (11, [.ref zy0, .ref zy1, .int 3, .int 0, .int 0, .ref zy5, .int 0, .int 0, .ref zy8, .ref zy9, .ref zy10, .ref zy11, .ref zy12, .ref zy13, .ref zy14, .long 0, .ref zy16, .ref zy17, .ref zy18, .int 0, .long 0, .ref zy21, .ref zy22, .int 0, .ref zy24, .ref zy25, .ref zy26, .ref zy27])), (zy1, .inl (cy 0, 80, .inl (upd (upd (upd (upd (fun _ => 0) (0 : Int32).toNatClampNeg w_223.toInt32) (1 : Int32).toNatClampNeg w_227.toInt32) (2 : Int32).toNatClampNeg w_231.toInt32) (3 : Int32).toNatClampNeg w_235.toInt32)))] := hD
                refine lv_aload_n hx hb dX11_type_100 rfl (lv_at hl 1 rfl) ?_
                refine lv_dup hx hb dX11_type_101 rfl ?_
                refine va_get (D := (dC, dI)) (ci := 11) (v := .int 3) (C := RX11) (T := TX11) (N := 28) hx hb hts (by decide +kernel) hown hK hP 0 rfl rfl 2 (by decide) (hts (.fieldLink RX11 112 "DripStoneModel" "taped" "I") (by decide +kernel)) (fun _ h9 => h9) rfl dX11_type_102 ?_
                refine lv_iconst (v := 1) hx hb dX11_type_105 (by decide) ?_
                refine lv_iadd hx hb dX11_type_106 ?_
                refine lv_topi (fun v_236 ev_236 => ?_)
                obtain rfl : v_236 = (4 : Int32) := ev_236.trans (by decide)
                refine va_put (D := (dC, dI)) (ci := 11) (v := .int 4) (ty := .int) (C := RX11) (T := TX11) (N := 28) hx hb hts (by decide +kernel) tyX11 tyX11_ok nmX11 hown hK hP hD hS 0 rfl rfl 2 (by decide) (hts (.fieldLink RX11 112 "DripStoneModel" "taped" "I") (by decide +kernel)) (fun _ h9 => h9) rfl (by decide +kernel) rfl rfl (Nat.le_of_ble_eq_true rfl) dX11_type_107 (fun H locs hP hD hS => ?_)
                have hP : va_P (dC, dI) vwCl [(zy, .inr (11, [.ref zy0, .ref zy1, .int 4, .int 0, .int 0, .ref zy5, .int 0, .int 0, .ref zy8, .ref zy9, .ref zy10, .ref zy11, .ref zy12, .ref zy13, .ref zy14, .long 0, .ref zy16, .ref zy17, .ref zy18, .int 0, .long 0, .ref zy21, .ref zy22, .int 0, .ref zy24, .ref zy25, .ref zy26, .ref zy27])), (zy1, .inl (cy 0, 80, .inl (upd (upd (upd (upd (fun _ => 0) (0 : Int32).toNatClampNeg w_223.toInt32) (1 : Int32).toNatClampNeg w_227.toInt32) (2 : Int32).toNatClampNeg w_231.toInt32) (3 : Int32).toNatClampNeg w_235.toInt32)))] H := hP
                have hD : va_D A [(zy, .inr (11, [.ref zy0, .ref zy1, .int 4, .int 0, .int 0, .ref zy5, .int 0, .int 0, .ref zy8, .ref zy9, .ref zy10, .ref zy11, .ref zy12, .ref zy13, .ref zy14, .long 0, .ref zy16, .ref zy17, .ref zy18, .int 0, .long 0, .ref zy21, .ref zy22, .int 0, .ref zy24, .ref zy25, .ref zy26, .ref zy27])), (zy1, .inl (cy 0, 80, .inl (upd (upd (upd (upd (fun _ => 0) (0 : Int32).toNatClampNeg w_223.toInt32) (1 : Int32).toNatClampNeg w_227.toInt32) (2 : Int32).toNatClampNeg w_231.toInt32) (3 : Int32).toNatClampNeg w_235.toInt32)))] := hD
                refine lv_iinc (v := 0) (lv' := [(4, .int 0), (0, .ref zy), (1, .long zja), (3, .int 5)]) hx hb dX11_type_110 hl (k := 0) rfl (by decide) (by decide) rfl (fun ls hl => ?_)
                refine lv_goto (tgt := 74) hx hb dX11_type_113 (by decide) ?_
                refine lv_iload hx hb dX11_type_74 (lv_at hl 0 rfl) ?_
                refine lv_if_lt (tgt := 116) hx hb dX11_type_76 (by decide) (fun c_237 => absurd c_237 (by decide)) (fun c_237 => ?_)
                refine lv_aload_n hx hb dX11_type_79 rfl (lv_at hl 1 rfl) ?_
                refine va_get (D := (dC, dI)) (ci := 11) (v := .ref zy1) (C := RX11) (T := TX11) (N := 28) hx hb hts (by decide +kernel) hown hK hP 0 rfl rfl 1 (by decide) (hts (.fieldLink RX11 13 "DripStoneModel" "tape" "[I") (by decide +kernel)) (fun _ h9 => h9) rfl dX11_type_80 ?_
                refine lv_aload_n hx hb dX11_type_83 rfl (lv_at hl 1 rfl) ?_
                refine va_get (D := (dC, dI)) (ci := 11) (v := .int 4) (C := RX11) (T := TX11) (N := 28) hx hb hts (by decide +kernel) hown hK hP 0 rfl rfl 2 (by decide) (hts (.fieldLink RX11 112 "DripStoneModel" "taped" "I") (by decide +kernel)) (fun _ h9 => h9) rfl dX11_type_84 ?_
                refine lv_lload_n hx hb dX11_type_87 rfl (lv_at hl 2 rfl) ?_
                refine lv_bipush (v := 8) hx hb dX11_type_88 (by decide) ?_
                refine lv_iload hx hb dX11_type_90 (lv_at hl 0 rfl) ?_
                refine lv_imul hx hb dX11_type_92 ?_
                refine lv_topi (fun v_238 ev_238 => ?_)
                obtain rfl : v_238 = (0 : Int32) := ev_238.trans (by decide)
                refine lv_lshr (v := zja >>> ((0 : Int32).toInt64 &&& 63)) hx hb dX11_type_93 rfl ?_
                refine lv_ldc2 (v := 255) hx hb hown (hts (.constantLong RX11 106 255) (by decide +kernel)) dX11_type_94 ?_
                refine lv_land hx hb dX11_type_97 ?_
                refine lv_topl (fun w_239 ew_239 => ?_)
                have tw_239 : w_239.toInt = by8 zja 0 := by rw [ew_239]; exact by8_l0 zja
                refine lv_l2i (v := w_239.toInt32) hx hb dX11_type_98 rfl ?_
                refine va_iast hx hb hK hP hD hS 1 0 rfl rfl (vp_in_iff.mpr ⟨by decide, by decide⟩) dX11_type_99 (fun H locs hP hD hS => ?_)
                have hP : va_P (dC, dI) vwCl [(zy, .inr (11, [.ref zy0, .ref zy1, .int 4, .int 0, .int 0, .ref zy5, .int 0, .int 0, .ref zy8, .ref zy9, .ref zy10, .ref zy11, .ref zy12, .ref zy13, .ref zy14, .long 0, .ref zy16, .ref zy17, .ref zy18, .int 0, .long 0, .ref zy21, .ref zy22, .int 0, .ref zy24, .ref zy25, .ref zy26, .ref zy27])), (zy1, .inl (cy 0, 80, .inl (upd (upd (upd (upd (upd (fun _ => 0) (0 : Int32).toNatClampNeg w_223.toInt32) (1 : Int32).toNatClampNeg w_227.toInt32) (2 : Int32).toNatClampNeg w_231.toInt32) (3 : Int32).toNatClampNeg w_235.toInt32) (4 : Int32).toNatClampNeg w_239.toInt32)))] H := hP
                have hD : va_D A [(zy, .inr (11, [.ref zy0, .ref zy1, .int 4, .int 0, .int 0, .ref zy5, .int 0, .int 0, .ref zy8, .ref zy9, .ref zy10, .ref zy11, .ref zy12, .ref zy13, .ref zy14, .long 0, .ref zy16, .ref zy17, .ref zy18, .int 0, .long 0, .ref zy21, .ref zy22, .int 0, .ref zy24, .ref zy25, .ref zy26, .ref zy27])), (zy1, .inl (cy 0, 80, .inl (upd (upd (upd (upd (upd (fun _ => 0) (0 : Int32).toNatClampNeg w_223.toInt32) (1 : Int32).toNatClampNeg w_227.toInt32) (2 : Int32).toNatClampNeg w_231.toInt32) (3 : Int32).toNatClampNeg w_235.toInt32) (4 : Int32).toNatClampNeg w_239.toInt32)))] := hD
                refine lv_aload_n hx hb dX11_type_100 rfl (lv_at hl 1 rfl) ?_
                refine lv_dup hx hb dX11_type_101 rfl ?_
                refine va_get (D := (dC, dI)) (ci := 11) (v := .int 4) (C := RX11) (T := TX11) (N := 28) hx hb hts (by decide +kernel) hown hK hP 0 rfl rfl 2 (by decide) (hts (.fieldLink RX11 112 "DripStoneModel" "taped" "I") (by decide +kernel)) (fun _ h9 => h9) rfl dX11_type_102 ?_
                refine lv_iconst (v := 1) hx hb dX11_type_105 (by decide) ?_
                refine lv_iadd hx hb dX11_type_106 ?_
                refine lv_topi (fun v_240 ev_240 => ?_)
                obtain rfl : v_240 = (5 : Int32) := ev_240.trans (by decide)
                refine va_put (D := (dC, dI)) (ci := 11) (v := .int 5) (ty := .int) (C := RX11) (T := TX11) (N := 28) hx hb hts (by decide +kernel) tyX11 tyX11_ok nmX11 hown hK hP hD hS 0 rfl rfl 2 (by decide) (hts (.fieldLink RX11 112 "DripStoneModel" "taped" "I") (by decide +kernel)) (fun _ h9 => h9) rfl (by decide +kernel) rfl rfl (Nat.le_of_ble_eq_true rfl) dX11_type_107 (fun H locs hP hD hS => ?_)
                have hP : va_P (dC, dI) vwCl [(zy, .inr (11, [.ref zy0, .ref zy1, .int 5, .int 0, .int 0, .ref zy5, .int 0, .int 0, .ref zy8, .ref zy9, .ref zy10, .ref zy11, .ref zy12, .ref zy13, .ref zy14, .long 0, .ref zy16, .ref zy17, .ref zy18, .int 0, .long 0, .ref zy21, .ref zy22, .int 0, .ref zy24, .ref zy25, .ref zy26, .ref zy27])), (zy1, .inl (cy 0, 80, .inl (upd (upd (upd (upd (upd (fun _ => 0) (0 : Int32).toNatClampNeg w_223.toInt32) (1 : Int32).toNatClampNeg w_227.toInt32) (2 : Int32).toNatClampNeg w_231.toInt32) (3 : Int32).toNatClampNeg w_235.toInt32) (4 : Int32).toNatClampNeg w_239.toInt32)))] H := hP
                have hD : va_D A [(zy, .inr (11, [.ref zy0, .ref zy1, .int 5, .int 0, .int 0, .ref zy5, .int 0, .int 0, .ref zy8, .ref zy9, .ref zy10, .ref zy11, .ref zy12, .ref zy13, .ref zy14, .long 0, .ref zy16, .ref zy17, .ref zy18, .int 0, .long 0, .ref zy21, .ref zy22, .int 0, .ref zy24, .ref zy25, .ref zy26, .ref zy27])), (zy1, .inl (cy 0, 80, .inl (upd (upd (upd (upd (upd (fun _ => 0) (0 : Int32).toNatClampNeg w_223.toInt32) (1 : Int32).toNatClampNeg w_227.toInt32) (2 : Int32).toNatClampNeg w_231.toInt32) (3 : Int32).toNatClampNeg w_235.toInt32) (4 : Int32).toNatClampNeg w_239.toInt32)))] := hD
                refine lv_iinc (v := (-1)) (lv' := [(4, .int (-1)), (0, .ref zy), (1, .long zja), (3, .int 5)]) hx hb dX11_type_110 hl (k := 0) rfl (by decide) (by decide) rfl (fun ls hl => ?_)
                refine lv_goto (tgt := 74) hx hb dX11_type_113 (by decide) ?_
                refine lv_iload hx hb dX11_type_74 (lv_at hl 0 rfl) ?_
                refine lv_if_lt (tgt := 116) hx hb dX11_type_76 (by decide) (fun c_241 => ?_) (fun c_241 => absurd (by decide) c_241)
                refine lv_aload_n hx hb dX11_type_116 rfl (lv_at hl 1 rfl) ?_
                refine va_get (D := (dC, dI)) (ci := 11) (v := .int 5) (C := RX11) (T := TX11) (N := 28) hx hb hts (by decide +kernel) hown hK hP 0 rfl rfl 2 (by decide) (hts (.fieldLink RX11 112 "DripStoneModel" "taped" "I") (by decide +kernel)) (fun _ h9 => h9) rfl dX11_type_117 ?_
                have hP9 := hP.sub (ws' := []) [] rfl
                have hD9 := hD.sub (ws' := []) [] (by decide) rfl
                exact W.iret (v := 5) hx hb hr (fun t ht hW => ⟨⟨5, (), rfl, ((an_type_5 _).trans (if_pos ⟨g_216, g_207, g_198, g_189, g_180⟩)).symm, ⟨by rw [ht]; exact hP9, va_K.moved hW.alike hK, hD9⟩⟩, hS.F ht⟩) hS.2.2 dX11_type_120
              · have f_215 : ¬ (32 ≤ w_210.toInt ∧ w_210.toInt ≤ 126) := bz_0 hw_213 c_214
                have g_242 : ¬ okb zja 0 := by unfold okb; rw [← tw_210]; exact f_215
                refine lv_iconst (v := (-1)) hx hb dX11_type_47 (by decide) ?_
                have hP9 := hP.sub (ws' := []) [] rfl
                have hD9 := hD.sub (ws' := []) [] (by decide) rfl
                exact W.iret (v := (-1)) hx hb hr (fun t ht hW => ⟨⟨(-1), (), rfl, ((an_type_5 _).trans (if_neg (fun h => g_242 (h.1)))).symm, ⟨by rw [ht]; exact hP9, va_K.moved hW.alike hK, hD9⟩⟩, hS.F ht⟩) hS.2.2 dX11_type_48
            · have f_206 : ¬ (32 ≤ w_201.toInt ∧ w_201.toInt ≤ 126) := bz_0 hw_204 c_205
              have g_243 : ¬ okb zja 1 := by unfold okb; rw [← tw_201]; exact f_206
              refine lv_iconst (v := (-1)) hx hb dX11_type_47 (by decide) ?_
              have hP9 := hP.sub (ws' := []) [] rfl
              have hD9 := hD.sub (ws' := []) [] (by decide) rfl
              exact W.iret (v := (-1)) hx hb hr (fun t ht hW => ⟨⟨(-1), (), rfl, ((an_type_5 _).trans (if_neg (fun h => g_243 (h.2.1)))).symm, ⟨by rw [ht]; exact hP9, va_K.moved hW.alike hK, hD9⟩⟩, hS.F ht⟩) hS.2.2 dX11_type_48
          · have f_197 : ¬ (32 ≤ w_192.toInt ∧ w_192.toInt ≤ 126) := bz_0 hw_195 c_196
            have g_244 : ¬ okb zja 2 := by unfold okb; rw [← tw_192]; exact f_197
            refine lv_iconst (v := (-1)) hx hb dX11_type_47 (by decide) ?_
            have hP9 := hP.sub (ws' := []) [] rfl
            have hD9 := hD.sub (ws' := []) [] (by decide) rfl
            exact W.iret (v := (-1)) hx hb hr (fun t ht hW => ⟨⟨(-1), (), rfl, ((an_type_5 _).trans (if_neg (fun h => g_244 (h.2.2.1)))).symm, ⟨by rw [ht]; exact hP9, va_K.moved hW.alike hK, hD9⟩⟩, hS.F ht⟩) hS.2.2 dX11_type_48
        · have f_188 : ¬ (32 ≤ w_183.toInt ∧ w_183.toInt ≤ 126) := bz_0 hw_186 c_187
          have g_245 : ¬ okb zja 3 := by unfold okb; rw [← tw_183]; exact f_188
          refine lv_iconst (v := (-1)) hx hb dX11_type_47 (by decide) ?_
          have hP9 := hP.sub (ws' := []) [] rfl
          have hD9 := hD.sub (ws' := []) [] (by decide) rfl
          exact W.iret (v := (-1)) hx hb hr (fun t ht hW => ⟨⟨(-1), (), rfl, ((an_type_5 _).trans (if_neg (fun h => g_245 (h.2.2.2.1)))).symm, ⟨by rw [ht]; exact hP9, va_K.moved hW.alike hK, hD9⟩⟩, hS.F ht⟩) hS.2.2 dX11_type_48
      · have f_179 : ¬ (32 ≤ w_174.toInt ∧ w_174.toInt ≤ 126) := bz_0 hw_177 c_178
        have g_246 : ¬ okb zja 4 := by unfold okb; rw [← tw_174]; exact f_179
        refine lv_iconst (v := (-1)) hx hb dX11_type_47 (by decide) ?_
        have hP9 := hP.sub (ws' := []) [] rfl
        have hD9 := hD.sub (ws' := []) [] (by decide) rfl
        exact W.iret (v := (-1)) hx hb hr (fun t ht hW => ⟨⟨(-1), (), rfl, ((an_type_5 _).trans (if_neg (fun h => g_246 (h.2.2.2.2)))).symm, ⟨by rw [ht]; exact hP9, va_K.moved hW.alike hK, hD9⟩⟩, hS.F ht⟩) hS.2.2 dX11_type_48
    · have zk_6_6 : (6 : Int32).toInt = 6 := by decide
      refine lv_iload_n hx hb dX11_type_14 rfl (lv_at hl 2 rfl) ?_
      refine lv_iconst (v := 1) hx hb dX11_type_15 (by decide) ?_
      refine lv_isub hx hb dX11_type_16 ?_
      refine lv_topi (fun v_247 ev_247 => ?_)
      obtain rfl : v_247 = (5 : Int32) := ev_247.trans (by decide)
      refine lv_istore (lv' := [(4, .int 5), (0, .ref zy), (1, .long zja), (3, .int 6)]) hx hb dX11_type_17 hl (by decide) rfl (fun ls hl => ?_)
      refine lv_iload hx hb dX11_type_19 (lv_at hl 0 rfl) ?_
      refine lv_if_lt (tgt := 55) hx hb dX11_type_21 (by decide) (fun c_248 => absurd c_248 (by decide)) (fun c_248 => ?_)
      refine lv_lload_n hx hb dX11_type_24 rfl (lv_at hl 2 rfl) ?_
      refine lv_bipush (v := 8) hx hb dX11_type_25 (by decide) ?_
      refine lv_iload hx hb dX11_type_27 (lv_at hl 0 rfl) ?_
      refine lv_imul hx hb dX11_type_29 ?_
      refine lv_topi (fun v_249 ev_249 => ?_)
      obtain rfl : v_249 = (40 : Int32) := ev_249.trans (by decide)
      refine lv_lshr (v := zja >>> ((40 : Int32).toInt64 &&& 63)) hx hb dX11_type_30 rfl ?_
      refine lv_ldc2 (v := 255) hx hb hown (hts (.constantLong RX11 106 255) (by decide +kernel)) dX11_type_31 ?_
      refine lv_land hx hb dX11_type_34 ?_
      refine lv_topl (fun w_250 ew_250 => ?_)
      have tw_250 : w_250.toInt = by8 zja 5 := by rw [ew_250]; exact by8_l5 zja
      refine lv_ldc2 (v := 32) hx hb hown (hts (.constantLong RX11 108 32) (by decide +kernel)) dX11_type_35 ?_
      refine lv_ldc2 (v := 126) hx hb hown (hts (.constantLong RX11 110 126) (by decide +kernel)) dX11_type_38 ?_
      refine cj_i (wc := []) (wr := [(zy, .inr (11, [.ref zy0, .ref zy1, .int 0, .int 0, .int 0, .ref zy5, .int 0, .int 0, .ref zy8, .ref zy9, .ref zy10, .ref zy11, .ref zy12, .ref zy13, .ref zy14, .long 0, .ref zy16, .ref zy17, .ref zy18, .int 0, .long 0, .ref zy21, .ref zy22, .int 0, .ref zy24, .ref zy25, .ref zy26, .ref zy27])), (zy1, .inl (cy 0, 80, .inl (fun _ => 0)))]) (w1 := fun (_ : Unit) => []) (va_runS (As := [.long w_250, .long 32, .long 126]) (rest := []) ⟨hx, hb, hml, hown, hts⟩ (c_X11_in l dC dI cy H.size w_250 32 126 32 126 w_250.toInt (by first | rfl | decide | omega | exact Int32.toInt_toInt64 _) (by first | rfl | decide | omega | exact Int32.toInt_toInt64 _) (by first | rfl | decide | omega | exact Int32.toInt_toInt64 _)) (va_cwS 3 hts gX11_type_X11_in rfl rfl rfl (by decide +kernel) ⟨(Nat.le_of_ble_eq_true rfl), (Nat.le_of_ble_eq_true rfl)⟩) (PRE.s (hP.sub [] rfl) hK (hD.sub [] (by decide) rfl) hN) rfl rfl hl.1 rfl (lv_room (Nat.le_of_ble_eq_true rfl)) dX11_type_41 ⟨(Nat.le_of_ble_eq_true rfl), (Nat.le_of_ble_eq_true rfl)⟩) hP hD hS hA [] [0, 1] rfl rfl rfl (by decide) (fun r_252 u_251 H locs hw_253 hP hD hS => ?_)
      have hP : va_P (dC, dI) vwCl [(zy, .inr (11, [.ref zy0, .ref zy1, .int 0, .int 0, .int 0, .ref zy5, .int 0, .int 0, .ref zy8, .ref zy9, .ref zy10, .ref zy11, .ref zy12, .ref zy13, .ref zy14, .long 0, .ref zy16, .ref zy17, .ref zy18, .int 0, .long 0, .ref zy21, .ref zy22, .int 0, .ref zy24, .ref zy25, .ref zy26, .ref zy27])), (zy1, .inl (cy 0, 80, .inl (fun _ => 0)))] H := hP
      have hD : va_D A [(zy, .inr (11, [.ref zy0, .ref zy1, .int 0, .int 0, .int 0, .ref zy5, .int 0, .int 0, .ref zy8, .ref zy9, .ref zy10, .ref zy11, .ref zy12, .ref zy13, .ref zy14, .long 0, .ref zy16, .ref zy17, .ref zy18, .int 0, .long 0, .ref zy21, .ref zy22, .int 0, .ref zy24, .ref zy25, .ref zy26, .ref zy27])), (zy1, .inl (cy 0, 80, .inl (fun _ => 0)))] := hD
      have hw_253 : r_252 = if 32 ≤ w_250.toInt ∧ w_250.toInt ≤ 126 then 1 else 0 := hw_253
      refine lv_if_ne (tgt := 49) hx hb dX11_type_44 (by decide) (fun c_254 => ?_) (fun c_254 => ?_)
      · have f_255 : 32 ≤ w_250.toInt ∧ w_250.toInt ≤ 126 := bz_1 hw_253 c_254
        have g_256 : okb zja 5 := by unfold okb; rw [← tw_250]; exact f_255
        refine lv_iinc (v := 4) (lv' := [(4, .int 4), (0, .ref zy), (1, .long zja), (3, .int 6)]) hx hb dX11_type_49 hl (k := 0) rfl (by decide) (by decide) rfl (fun ls hl => ?_)
        refine lv_goto (tgt := 19) hx hb dX11_type_52 (by decide) ?_
        refine lv_iload hx hb dX11_type_19 (lv_at hl 0 rfl) ?_
        refine lv_if_lt (tgt := 55) hx hb dX11_type_21 (by decide) (fun c_257 => absurd c_257 (by decide)) (fun c_257 => ?_)
        refine lv_lload_n hx hb dX11_type_24 rfl (lv_at hl 2 rfl) ?_
        refine lv_bipush (v := 8) hx hb dX11_type_25 (by decide) ?_
        refine lv_iload hx hb dX11_type_27 (lv_at hl 0 rfl) ?_
        refine lv_imul hx hb dX11_type_29 ?_
        refine lv_topi (fun v_258 ev_258 => ?_)
        obtain rfl : v_258 = (32 : Int32) := ev_258.trans (by decide)
        refine lv_lshr (v := zja >>> ((32 : Int32).toInt64 &&& 63)) hx hb dX11_type_30 rfl ?_
        refine lv_ldc2 (v := 255) hx hb hown (hts (.constantLong RX11 106 255) (by decide +kernel)) dX11_type_31 ?_
        refine lv_land hx hb dX11_type_34 ?_
        refine lv_topl (fun w_259 ew_259 => ?_)
        have tw_259 : w_259.toInt = by8 zja 4 := by rw [ew_259]; exact by8_l4 zja
        refine lv_ldc2 (v := 32) hx hb hown (hts (.constantLong RX11 108 32) (by decide +kernel)) dX11_type_35 ?_
        refine lv_ldc2 (v := 126) hx hb hown (hts (.constantLong RX11 110 126) (by decide +kernel)) dX11_type_38 ?_
        refine cj_i (wc := []) (wr := [(zy, .inr (11, [.ref zy0, .ref zy1, .int 0, .int 0, .int 0, .ref zy5, .int 0, .int 0, .ref zy8, .ref zy9, .ref zy10, .ref zy11, .ref zy12, .ref zy13, .ref zy14, .long 0, .ref zy16, .ref zy17, .ref zy18, .int 0, .long 0, .ref zy21, .ref zy22, .int 0, .ref zy24, .ref zy25, .ref zy26, .ref zy27])), (zy1, .inl (cy 0, 80, .inl (fun _ => 0)))]) (w1 := fun (_ : Unit) => []) (va_runS (As := [.long w_259, .long 32, .long 126]) (rest := []) ⟨hx, hb, hml, hown, hts⟩ (c_X11_in l dC dI cy H.size w_259 32 126 32 126 w_259.toInt (by first | rfl | decide | omega | exact Int32.toInt_toInt64 _) (by first | rfl | decide | omega | exact Int32.toInt_toInt64 _) (by first | rfl | decide | omega | exact Int32.toInt_toInt64 _)) (va_cwS 3 hts gX11_type_X11_in rfl rfl rfl (by decide +kernel) ⟨(Nat.le_of_ble_eq_true rfl), (Nat.le_of_ble_eq_true rfl)⟩) (PRE.s (hP.sub [] rfl) hK (hD.sub [] (by decide) rfl) hN) rfl rfl hl.1 rfl (lv_room (Nat.le_of_ble_eq_true rfl)) dX11_type_41 ⟨(Nat.le_of_ble_eq_true rfl), (Nat.le_of_ble_eq_true rfl)⟩) hP hD hS hA [] [0, 1] rfl rfl rfl (by decide) (fun r_261 u_260 H locs hw_262 hP hD hS => ?_)
        have hP : va_P (dC, dI) vwCl [(zy, .inr (11, [.ref zy0, .ref zy1, .int 0, .int 0, .int 0, .ref zy5, .int 0, .int 0, .ref zy8, .ref zy9, .ref zy10, .ref zy11, .ref zy12, .ref zy13, .ref zy14, .long 0, .ref zy16, .ref zy17, .ref zy18, .int 0, .long 0, .ref zy21, .ref zy22, .int 0, .ref zy24, .ref zy25, .ref zy26, .ref zy27])), (zy1, .inl (cy 0, 80, .inl (fun _ => 0)))] H := hP
        have hD : va_D A [(zy, .inr (11, [.ref zy0, .ref zy1, .int 0, .int 0, .int 0, .ref zy5, .int 0, .int 0, .ref zy8, .ref zy9, .ref zy10, .ref zy11, .ref zy12, .ref zy13, .ref zy14, .long 0, .ref zy16, .ref zy17, .ref zy18, .int 0, .long 0, .ref zy21, .ref zy22, .int 0, .ref zy24, .ref zy25, .ref zy26, .ref zy27])), (zy1, .inl (cy 0, 80, .inl (fun _ => 0)))] := hD
        have hw_262 : r_261 = if 32 ≤ w_259.toInt ∧ w_259.toInt ≤ 126 then 1 else 0 := hw_262
        refine lv_if_ne (tgt := 49) hx hb dX11_type_44 (by decide) (fun c_263 => ?_) (fun c_263 => ?_)
        · have f_264 : 32 ≤ w_259.toInt ∧ w_259.toInt ≤ 126 := bz_1 hw_262 c_263
          have g_265 : okb zja 4 := by unfold okb; rw [← tw_259]; exact f_264
          refine lv_iinc (v := 3) (lv' := [(4, .int 3), (0, .ref zy), (1, .long zja), (3, .int 6)]) hx hb dX11_type_49 hl (k := 0) rfl (by decide) (by decide) rfl (fun ls hl => ?_)
          refine lv_goto (tgt := 19) hx hb dX11_type_52 (by decide) ?_
          refine lv_iload hx hb dX11_type_19 (lv_at hl 0 rfl) ?_
          refine lv_if_lt (tgt := 55) hx hb dX11_type_21 (by decide) (fun c_266 => absurd c_266 (by decide)) (fun c_266 => ?_)
          refine lv_lload_n hx hb dX11_type_24 rfl (lv_at hl 2 rfl) ?_
          refine lv_bipush (v := 8) hx hb dX11_type_25 (by decide) ?_
          refine lv_iload hx hb dX11_type_27 (lv_at hl 0 rfl) ?_
          refine lv_imul hx hb dX11_type_29 ?_
          refine lv_topi (fun v_267 ev_267 => ?_)
          obtain rfl : v_267 = (24 : Int32) := ev_267.trans (by decide)
          refine lv_lshr (v := zja >>> ((24 : Int32).toInt64 &&& 63)) hx hb dX11_type_30 rfl ?_
          refine lv_ldc2 (v := 255) hx hb hown (hts (.constantLong RX11 106 255) (by decide +kernel)) dX11_type_31 ?_
          refine lv_land hx hb dX11_type_34 ?_
          refine lv_topl (fun w_268 ew_268 => ?_)
          have tw_268 : w_268.toInt = by8 zja 3 := by rw [ew_268]; exact by8_l3 zja
          refine lv_ldc2 (v := 32) hx hb hown (hts (.constantLong RX11 108 32) (by decide +kernel)) dX11_type_35 ?_
          refine lv_ldc2 (v := 126) hx hb hown (hts (.constantLong RX11 110 126) (by decide +kernel)) dX11_type_38 ?_
          refine cj_i (wc := []) (wr := [(zy, .inr (11, [.ref zy0, .ref zy1, .int 0, .int 0, .int 0, .ref zy5, .int 0, .int 0, .ref zy8, .ref zy9, .ref zy10, .ref zy11, .ref zy12, .ref zy13, .ref zy14, .long 0, .ref zy16, .ref zy17, .ref zy18, .int 0, .long 0, .ref zy21, .ref zy22, .int 0, .ref zy24, .ref zy25, .ref zy26, .ref zy27])), (zy1, .inl (cy 0, 80, .inl (fun _ => 0)))]) (w1 := fun (_ : Unit) => []) (va_runS (As := [.long w_268, .long 32, .long 126]) (rest := []) ⟨hx, hb, hml, hown, hts⟩ (c_X11_in l dC dI cy H.size w_268 32 126 32 126 w_268.toInt (by first | rfl | decide | omega | exact Int32.toInt_toInt64 _) (by first | rfl | decide | omega | exact Int32.toInt_toInt64 _) (by first | rfl | decide | omega | exact Int32.toInt_toInt64 _)) (va_cwS 3 hts gX11_type_X11_in rfl rfl rfl (by decide +kernel) ⟨(Nat.le_of_ble_eq_true rfl), (Nat.le_of_ble_eq_true rfl)⟩) (PRE.s (hP.sub [] rfl) hK (hD.sub [] (by decide) rfl) hN) rfl rfl hl.1 rfl (lv_room (Nat.le_of_ble_eq_true rfl)) dX11_type_41 ⟨(Nat.le_of_ble_eq_true rfl), (Nat.le_of_ble_eq_true rfl)⟩) hP hD hS hA [] [0, 1] rfl rfl rfl (by decide) (fun r_270 u_269 H locs hw_271 hP hD hS => ?_)
          have hP : va_P (dC, dI) vwCl [(zy, .inr (11, [.ref zy0, .ref zy1, .int 0, .int 0, .int 0, .ref zy5, .int 0, .int 0, .ref zy8, .ref zy9, .ref zy10, .ref zy11, .ref zy12, .ref zy13, .ref zy14, .long 0, .ref zy16, .ref zy17, .ref zy18, .int 0, .long 0, .ref zy21, .ref zy22, .int 0, .ref zy24, .ref zy25, .ref zy26, .ref zy27])), (zy1, .inl (cy 0, 80, .inl (fun _ => 0)))] H := hP
          have hD : va_D A [(zy, .inr (11, [.ref zy0, .ref zy1, .int 0, .int 0, .int 0, .ref zy5, .int 0, .int 0, .ref zy8, .ref zy9, .ref zy10, .ref zy11, .ref zy12, .ref zy13, .ref zy14, .long 0, .ref zy16, .ref zy17, .ref zy18, .int 0, .long 0, .ref zy21, .ref zy22, .int 0, .ref zy24, .ref zy25, .ref zy26, .ref zy27])), (zy1, .inl (cy 0, 80, .inl (fun _ => 0)))] := hD
          have hw_271 : r_270 = if 32 ≤ w_268.toInt ∧ w_268.toInt ≤ 126 then 1 else 0 := hw_271
          refine lv_if_ne (tgt := 49) hx hb dX11_type_44 (by decide) (fun c_272 => ?_) (fun c_272 => ?_)
          · have f_273 : 32 ≤ w_268.toInt ∧ w_268.toInt ≤ 126 := bz_1 hw_271 c_272
            have g_274 : okb zja 3 := by unfold okb; rw [← tw_268]; exact f_273
            refine lv_iinc (v := 2) (lv' := [(4, .int 2), (0, .ref zy), (1, .long zja), (3, .int 6)]) hx hb dX11_type_49 hl (k := 0) rfl (by decide) (by decide) rfl (fun ls hl => ?_)
            refine lv_goto (tgt := 19) hx hb dX11_type_52 (by decide) ?_
            refine lv_iload hx hb dX11_type_19 (lv_at hl 0 rfl) ?_
            refine lv_if_lt (tgt := 55) hx hb dX11_type_21 (by decide) (fun c_275 => absurd c_275 (by decide)) (fun c_275 => ?_)
            refine lv_lload_n hx hb dX11_type_24 rfl (lv_at hl 2 rfl) ?_
            refine lv_bipush (v := 8) hx hb dX11_type_25 (by decide) ?_
            refine lv_iload hx hb dX11_type_27 (lv_at hl 0 rfl) ?_
            refine lv_imul hx hb dX11_type_29 ?_
            refine lv_topi (fun v_276 ev_276 => ?_)
            obtain rfl : v_276 = (16 : Int32) := ev_276.trans (by decide)
            refine lv_lshr (v := zja >>> ((16 : Int32).toInt64 &&& 63)) hx hb dX11_type_30 rfl ?_
            refine lv_ldc2 (v := 255) hx hb hown (hts (.constantLong RX11 106 255) (by decide +kernel)) dX11_type_31 ?_
            refine lv_land hx hb dX11_type_34 ?_
            refine lv_topl (fun w_277 ew_277 => ?_)
            have tw_277 : w_277.toInt = by8 zja 2 := by rw [ew_277]; exact by8_l2 zja
            refine lv_ldc2 (v := 32) hx hb hown (hts (.constantLong RX11 108 32) (by decide +kernel)) dX11_type_35 ?_
            refine lv_ldc2 (v := 126) hx hb hown (hts (.constantLong RX11 110 126) (by decide +kernel)) dX11_type_38 ?_
            refine cj_i (wc := []) (wr := [(zy, .inr (11, [.ref zy0, .ref zy1, .int 0, .int 0, .int 0, .ref zy5, .int 0, .int 0, .ref zy8, .ref zy9, .ref zy10, .ref zy11, .ref zy12, .ref zy13, .ref zy14, .long 0, .ref zy16, .ref zy17, .ref zy18, .int 0, .long 0, .ref zy21, .ref zy22, .int 0, .ref zy24, .ref zy25, .ref zy26, .ref zy27])), (zy1, .inl (cy 0, 80, .inl (fun _ => 0)))]) (w1 := fun (_ : Unit) => []) (va_runS (As := [.long w_277, .long 32, .long 126]) (rest := []) ⟨hx, hb, hml, hown, hts⟩ (c_X11_in l dC dI cy H.size w_277 32 126 32 126 w_277.toInt (by first | rfl | decide | omega | exact Int32.toInt_toInt64 _) (by first | rfl | decide | omega | exact Int32.toInt_toInt64 _) (by first | rfl | decide | omega | exact Int32.toInt_toInt64 _)) (va_cwS 3 hts gX11_type_X11_in rfl rfl rfl (by decide +kernel) ⟨(Nat.le_of_ble_eq_true rfl), (Nat.le_of_ble_eq_true rfl)⟩) (PRE.s (hP.sub [] rfl) hK (hD.sub [] (by decide) rfl) hN) rfl rfl hl.1 rfl (lv_room (Nat.le_of_ble_eq_true rfl)) dX11_type_41 ⟨(Nat.le_of_ble_eq_true rfl), (Nat.le_of_ble_eq_true rfl)⟩) hP hD hS hA [] [0, 1] rfl rfl rfl (by decide) (fun r_279 u_278 H locs hw_280 hP hD hS => ?_)
            have hP : va_P (dC, dI) vwCl [(zy, .inr (11, [.ref zy0, .ref zy1, .int 0, .int 0, .int 0, .ref zy5, .int 0, .int 0, .ref zy8, .ref zy9, .ref zy10, .ref zy11, .ref zy12, .ref zy13, .ref zy14, .long 0, .ref zy16, .ref zy17, .ref zy18, .int 0, .long 0, .ref zy21, .ref zy22, .int 0, .ref zy24, .ref zy25, .ref zy26, .ref zy27])), (zy1, .inl (cy 0, 80, .inl (fun _ => 0)))] H := hP
            have hD : va_D A [(zy, .inr (11, [.ref zy0, .ref zy1, .int 0, .int 0, .int 0, .ref zy5, .int 0, .int 0, .ref zy8, .ref zy9, .ref zy10, .ref zy11, .ref zy12, .ref zy13, .ref zy14, .long 0, .ref zy16, .ref zy17, .ref zy18, .int 0, .long 0, .ref zy21, .ref zy22, .int 0, .ref zy24, .ref zy25, .ref zy26, .ref zy27])), (zy1, .inl (cy 0, 80, .inl (fun _ => 0)))] := hD
            have hw_280 : r_279 = if 32 ≤ w_277.toInt ∧ w_277.toInt ≤ 126 then 1 else 0 := hw_280
            refine lv_if_ne (tgt := 49) hx hb dX11_type_44 (by decide) (fun c_281 => ?_) (fun c_281 => ?_)
            · have f_282 : 32 ≤ w_277.toInt ∧ w_277.toInt ≤ 126 := bz_1 hw_280 c_281
              have g_283 : okb zja 2 := by unfold okb; rw [← tw_277]; exact f_282
              refine lv_iinc (v := 1) (lv' := [(4, .int 1), (0, .ref zy), (1, .long zja), (3, .int 6)]) hx hb dX11_type_49 hl (k := 0) rfl (by decide) (by decide) rfl (fun ls hl => ?_)
              refine lv_goto (tgt := 19) hx hb dX11_type_52 (by decide) ?_
              refine lv_iload hx hb dX11_type_19 (lv_at hl 0 rfl) ?_
              refine lv_if_lt (tgt := 55) hx hb dX11_type_21 (by decide) (fun c_284 => absurd c_284 (by decide)) (fun c_284 => ?_)
              refine lv_lload_n hx hb dX11_type_24 rfl (lv_at hl 2 rfl) ?_
              refine lv_bipush (v := 8) hx hb dX11_type_25 (by decide) ?_
              refine lv_iload hx hb dX11_type_27 (lv_at hl 0 rfl) ?_
              refine lv_imul hx hb dX11_type_29 ?_
              refine lv_topi (fun v_285 ev_285 => ?_)
              obtain rfl : v_285 = (8 : Int32) := ev_285.trans (by decide)
              refine lv_lshr (v := zja >>> ((8 : Int32).toInt64 &&& 63)) hx hb dX11_type_30 rfl ?_
              refine lv_ldc2 (v := 255) hx hb hown (hts (.constantLong RX11 106 255) (by decide +kernel)) dX11_type_31 ?_
              refine lv_land hx hb dX11_type_34 ?_
              refine lv_topl (fun w_286 ew_286 => ?_)
              have tw_286 : w_286.toInt = by8 zja 1 := by rw [ew_286]; exact by8_l1 zja
              refine lv_ldc2 (v := 32) hx hb hown (hts (.constantLong RX11 108 32) (by decide +kernel)) dX11_type_35 ?_
              refine lv_ldc2 (v := 126) hx hb hown (hts (.constantLong RX11 110 126) (by decide +kernel)) dX11_type_38 ?_
              refine cj_i (wc := []) (wr := [(zy, .inr (11, [.ref zy0, .ref zy1, .int 0, .int 0, .int 0, .ref zy5, .int 0, .int 0, .ref zy8, .ref zy9, .ref zy10, .ref zy11, .ref zy12, .ref zy13, .ref zy14, .long 0, .ref zy16, .ref zy17, .ref zy18, .int 0, .long 0, .ref zy21, .ref zy22, .int 0, .ref zy24, .ref zy25, .ref zy26, .ref zy27])), (zy1, .inl (cy 0, 80, .inl (fun _ => 0)))]) (w1 := fun (_ : Unit) => []) (va_runS (As := [.long w_286, .long 32, .long 126]) (rest := []) ⟨hx, hb, hml, hown, hts⟩ (c_X11_in l dC dI cy H.size w_286 32 126 32 126 w_286.toInt (by first | rfl | decide | omega | exact Int32.toInt_toInt64 _) (by first | rfl | decide | omega | exact Int32.toInt_toInt64 _) (by first | rfl | decide | omega | exact Int32.toInt_toInt64 _)) (va_cwS 3 hts gX11_type_X11_in rfl rfl rfl (by decide +kernel) ⟨(Nat.le_of_ble_eq_true rfl), (Nat.le_of_ble_eq_true rfl)⟩) (PRE.s (hP.sub [] rfl) hK (hD.sub [] (by decide) rfl) hN) rfl rfl hl.1 rfl (lv_room (Nat.le_of_ble_eq_true rfl)) dX11_type_41 ⟨(Nat.le_of_ble_eq_true rfl), (Nat.le_of_ble_eq_true rfl)⟩) hP hD hS hA [] [0, 1] rfl rfl rfl (by decide) (fun r_288 u_287 H locs hw_289 hP hD hS => ?_)
              have hP : va_P (dC, dI) vwCl [(zy, .inr (11, [.ref zy0, .ref zy1, .int 0, .int 0, .int 0, .ref zy5, .int 0, .int 0, .ref zy8, .ref zy9, .ref zy10, .ref zy11, .ref zy12, .ref zy13, .ref zy14, .long 0, .ref zy16, .ref zy17, .ref zy18, .int 0, .long 0, .ref zy21, .ref zy22, .int 0, .ref zy24, .ref zy25, .ref zy26, .ref zy27])), (zy1, .inl (cy 0, 80, .inl (fun _ => 0)))] H := hP
              have hD : va_D A [(zy, .inr (11, [.ref zy0, .ref zy1, .int 0, .int 0, .int 0, .ref zy5, .int 0, .int 0, .ref zy8, .ref zy9, .ref zy10, .ref zy11, .ref zy12, .ref zy13, .ref zy14, .long 0, .ref zy16, .ref zy17, .ref zy18, .int 0, .long 0, .ref zy21, .ref zy22, .int 0, .ref zy24, .ref zy25, .ref zy26, .ref zy27])), (zy1, .inl (cy 0, 80, .inl (fun _ => 0)))] := hD
              have hw_289 : r_288 = if 32 ≤ w_286.toInt ∧ w_286.toInt ≤ 126 then 1 else 0 := hw_289
              refine lv_if_ne (tgt := 49) hx hb dX11_type_44 (by decide) (fun c_290 => ?_) (fun c_290 => ?_)
              · have f_291 : 32 ≤ w_286.toInt ∧ w_286.toInt ≤ 126 := bz_1 hw_289 c_290
                have g_292 : okb zja 1 := by unfold okb; rw [← tw_286]; exact f_291
                refine lv_iinc (v := 0) (lv' := [(4, .int 0), (0, .ref zy), (1, .long zja), (3, .int 6)]) hx hb dX11_type_49 hl (k := 0) rfl (by decide) (by decide) rfl (fun ls hl => ?_)
                refine lv_goto (tgt := 19) hx hb dX11_type_52 (by decide) ?_
                refine lv_iload hx hb dX11_type_19 (lv_at hl 0 rfl) ?_
                refine lv_if_lt (tgt := 55) hx hb dX11_type_21 (by decide) (fun c_293 => absurd c_293 (by decide)) (fun c_293 => ?_)
                refine lv_lload_n hx hb dX11_type_24 rfl (lv_at hl 2 rfl) ?_
                refine lv_bipush (v := 8) hx hb dX11_type_25 (by decide) ?_
                refine lv_iload hx hb dX11_type_27 (lv_at hl 0 rfl) ?_
                refine lv_imul hx hb dX11_type_29 ?_
                refine lv_topi (fun v_294 ev_294 => ?_)
                obtain rfl : v_294 = (0 : Int32) := ev_294.trans (by decide)
                refine lv_lshr (v := zja >>> ((0 : Int32).toInt64 &&& 63)) hx hb dX11_type_30 rfl ?_
                refine lv_ldc2 (v := 255) hx hb hown (hts (.constantLong RX11 106 255) (by decide +kernel)) dX11_type_31 ?_
                refine lv_land hx hb dX11_type_34 ?_
                refine lv_topl (fun w_295 ew_295 => ?_)
                have tw_295 : w_295.toInt = by8 zja 0 := by rw [ew_295]; exact by8_l0 zja
                refine lv_ldc2 (v := 32) hx hb hown (hts (.constantLong RX11 108 32) (by decide +kernel)) dX11_type_35 ?_
                refine lv_ldc2 (v := 126) hx hb hown (hts (.constantLong RX11 110 126) (by decide +kernel)) dX11_type_38 ?_
                refine cj_i (wc := []) (wr := [(zy, .inr (11, [.ref zy0, .ref zy1, .int 0, .int 0, .int 0, .ref zy5, .int 0, .int 0, .ref zy8, .ref zy9, .ref zy10, .ref zy11, .ref zy12, .ref zy13, .ref zy14, .long 0, .ref zy16, .ref zy17, .ref zy18, .int 0, .long 0, .ref zy21, .ref zy22, .int 0, .ref zy24, .ref zy25, .ref zy26, .ref zy27])), (zy1, .inl (cy 0, 80, .inl (fun _ => 0)))]) (w1 := fun (_ : Unit) => []) (va_runS (As := [.long w_295, .long 32, .long 126]) (rest := []) ⟨hx, hb, hml, hown, hts⟩ (c_X11_in l dC dI cy H.size w_295 32 126 32 126 w_295.toInt (by first | rfl | decide | omega | exact Int32.toInt_toInt64 _) (by first | rfl | decide | omega | exact Int32.toInt_toInt64 _) (by first | rfl | decide | omega | exact Int32.toInt_toInt64 _)) (va_cwS 3 hts gX11_type_X11_in rfl rfl rfl (by decide +kernel) ⟨(Nat.le_of_ble_eq_true rfl), (Nat.le_of_ble_eq_true rfl)⟩) (PRE.s (hP.sub [] rfl) hK (hD.sub [] (by decide) rfl) hN) rfl rfl hl.1 rfl (lv_room (Nat.le_of_ble_eq_true rfl)) dX11_type_41 ⟨(Nat.le_of_ble_eq_true rfl), (Nat.le_of_ble_eq_true rfl)⟩) hP hD hS hA [] [0, 1] rfl rfl rfl (by decide) (fun r_297 u_296 H locs hw_298 hP hD hS => ?_)
                have hP : va_P (dC, dI) vwCl [(zy, .inr (11, [.ref zy0, .ref zy1, .int 0, .int 0, .int 0, .ref zy5, .int 0, .int 0, .ref zy8, .ref zy9, .ref zy10, .ref zy11, .ref zy12, .ref zy13, .ref zy14, .long 0, .ref zy16, .ref zy17, .ref zy18, .int 0, .long 0, .ref zy21, .ref zy22, .int 0, .ref zy24, .ref zy25, .ref zy26, .ref zy27])), (zy1, .inl (cy 0, 80, .inl (fun _ => 0)))] H := hP
                have hD : va_D A [(zy, .inr (11, [.ref zy0, .ref zy1, .int 0, .int 0, .int 0, .ref zy5, .int 0, .int 0, .ref zy8, .ref zy9, .ref zy10, .ref zy11, .ref zy12, .ref zy13, .ref zy14, .long 0, .ref zy16, .ref zy17, .ref zy18, .int 0, .long 0, .ref zy21, .ref zy22, .int 0, .ref zy24, .ref zy25, .ref zy26, .ref zy27])), (zy1, .inl (cy 0, 80, .inl (fun _ => 0)))] := hD
                have hw_298 : r_297 = if 32 ≤ w_295.toInt ∧ w_295.toInt ≤ 126 then 1 else 0 := hw_298
                refine lv_if_ne (tgt := 49) hx hb dX11_type_44 (by decide) (fun c_299 => ?_) (fun c_299 => ?_)
                · have f_300 : 32 ≤ w_295.toInt ∧ w_295.toInt ≤ 126 := bz_1 hw_298 c_299
                  have g_301 : okb zja 0 := by unfold okb; rw [← tw_295]; exact f_300
                  refine lv_iinc (v := (-1)) (lv' := [(4, .int (-1)), (0, .ref zy), (1, .long zja), (3, .int 6)]) hx hb dX11_type_49 hl (k := 0) rfl (by decide) (by decide) rfl (fun ls hl => ?_)
                  refine lv_goto (tgt := 19) hx hb dX11_type_52 (by decide) ?_
                  refine lv_iload hx hb dX11_type_19 (lv_at hl 0 rfl) ?_
                  refine lv_if_lt (tgt := 55) hx hb dX11_type_21 (by decide) (fun c_302 => ?_) (fun c_302 => absurd (by decide) c_302)
                  refine lv_aload_n hx hb dX11_type_55 rfl (lv_at hl 1 rfl) ?_
                  refine va_get (D := (dC, dI)) (ci := 11) (v := .int 0) (C := RX11) (T := TX11) (N := 28) hx hb hts (by decide +kernel) hown hK hP 0 rfl rfl 2 (by decide) (hts (.fieldLink RX11 112 "DripStoneModel" "taped" "I") (by decide +kernel)) (fun _ h9 => h9) rfl dX11_type_56 ?_
                  refine lv_iload_n hx hb dX11_type_59 rfl (lv_at hl 3 rfl) ?_
                  refine lv_iadd hx hb dX11_type_60 ?_
                  refine lv_topi (fun v_303 ev_303 => ?_)
                  obtain rfl : v_303 = (6 : Int32) := ev_303.trans (by decide)
                  refine lv_bipush (v := 80) hx hb dX11_type_61 (by decide) ?_
                  refine lv_icmp_le (tgt := 69) hx hb dX11_type_63 (by decide) (fun c_304 => ?_) (fun c_304 => absurd (by decide) c_304)
                  refine lv_iload_n hx hb dX11_type_69 rfl (lv_at hl 3 rfl) ?_
                  refine lv_iconst (v := 1) hx hb dX11_type_70 (by decide) ?_
                  refine lv_isub hx hb dX11_type_71 ?_
                  refine lv_topi (fun v_305 ev_305 => ?_)
                  obtain rfl : v_305 = (5 : Int32) := ev_305.trans (by decide)
                  refine lv_istore (lv' := [(4, .int 5), (0, .ref zy), (1, .long zja), (3, .int 6)]) hx hb dX11_type_72 hl (by decide) rfl (fun ls hl => ?_)
                  refine lv_iload hx hb dX11_type_74 (lv_at hl 0 rfl) ?_
                  refine lv_if_lt (tgt := 116) hx hb dX11_type_76 (by decide) (fun c_306 => absurd c_306 (by decide)) (fun c_306 => ?_)
                  refine lv_aload_n hx hb dX11_type_79 rfl (lv_at hl 1 rfl) ?_
                  refine va_get (D := (dC, dI)) (ci := 11) (v := .ref zy1) (C := RX11) (T := TX11) (N := 28) hx hb hts (by decide +kernel) hown hK hP 0 rfl rfl 1 (by decide) (hts (.fieldLink RX11 13 "DripStoneModel" "tape" "[I") (by decide +kernel)) (fun _ h9 => h9) rfl dX11_type_80 ?_
                  refine lv_aload_n hx hb dX11_type_83 rfl (lv_at hl 1 rfl) ?_
                  refine va_get (D := (dC, dI)) (ci := 11) (v := .int 0) (C := RX11) (T := TX11) (N := 28) hx hb hts (by decide +kernel) hown hK hP 0 rfl rfl 2 (by decide) (hts (.fieldLink RX11 112 "DripStoneModel" "taped" "I") (by decide +kernel)) (fun _ h9 => h9) rfl dX11_type_84 ?_
                  refine lv_lload_n hx hb dX11_type_87 rfl (lv_at hl 2 rfl) ?_
                  refine lv_bipush (v := 8) hx hb dX11_type_88 (by decide) ?_
                  refine lv_iload hx hb dX11_type_90 (lv_at hl 0 rfl) ?_
                  refine lv_imul hx hb dX11_type_92 ?_
                  refine lv_topi (fun v_307 ev_307 => ?_)
                  obtain rfl : v_307 = (40 : Int32) := ev_307.trans (by decide)
                  refine lv_lshr (v := zja >>> ((40 : Int32).toInt64 &&& 63)) hx hb dX11_type_93 rfl ?_
                  refine lv_ldc2 (v := 255) hx hb hown (hts (.constantLong RX11 106 255) (by decide +kernel)) dX11_type_94 ?_
                  refine lv_land hx hb dX11_type_97 ?_
                  refine lv_topl (fun w_308 ew_308 => ?_)
                  have tw_308 : w_308.toInt = by8 zja 5 := by rw [ew_308]; exact by8_l5 zja
                  refine lv_l2i (v := w_308.toInt32) hx hb dX11_type_98 rfl ?_
                  refine va_iast hx hb hK hP hD hS 1 0 rfl rfl (vp_in_iff.mpr ⟨by decide, by decide⟩) dX11_type_99 (fun H locs hP hD hS => ?_)
                  have hP : va_P (dC, dI) vwCl [(zy, .inr (11, [.ref zy0, .ref zy1, .int 0, .int 0, .int 0, .ref zy5, .int 0, .int 0, .ref zy8, .ref zy9, .ref zy10, .ref zy11, .ref zy12, .ref zy13, .ref zy14, .long 0, .ref zy16, .ref zy17, .ref zy18, .int 0, .long 0, .ref zy21, .ref zy22, .int 0, .ref zy24, .ref zy25, .ref zy26, .ref zy27])), (zy1, .inl (cy 0, 80, .inl (upd (fun _ => 0) (0 : Int32).toNatClampNeg w_308.toInt32)))] H := hP
                  have hD : va_D A [(zy, .inr (11, [.ref zy0, .ref zy1, .int 0, .int 0, .int 0, .ref zy5, .int 0, .int 0, .ref zy8, .ref zy9, .ref zy10, .ref zy11, .ref zy12, .ref zy13, .ref zy14, .long 0, .ref zy16, .ref zy17, .ref zy18, .int 0, .long 0, .ref zy21, .ref zy22, .int 0, .ref zy24, .ref zy25, .ref zy26, .ref zy27])), (zy1, .inl (cy 0, 80, .inl (upd (fun _ => 0) (0 : Int32).toNatClampNeg w_308.toInt32)))] := hD
                  refine lv_aload_n hx hb dX11_type_100 rfl (lv_at hl 1 rfl) ?_
                  refine lv_dup hx hb dX11_type_101 rfl ?_
                  refine va_get (D := (dC, dI)) (ci := 11) (v := .int 0) (C := RX11) (T := TX11) (N := 28) hx hb hts (by decide +kernel) hown hK hP 0 rfl rfl 2 (by decide) (hts (.fieldLink RX11 112 "DripStoneModel" "taped" "I") (by decide +kernel)) (fun _ h9 => h9) rfl dX11_type_102 ?_
                  refine lv_iconst (v := 1) hx hb dX11_type_105 (by decide) ?_
                  refine lv_iadd hx hb dX11_type_106 ?_
                  refine lv_topi (fun v_309 ev_309 => ?_)
                  obtain rfl : v_309 = (1 : Int32) := ev_309.trans (by decide)
                  refine va_put (D := (dC, dI)) (ci := 11) (v := .int 1) (ty := .int) (C := RX11) (T := TX11) (N := 28) hx hb hts (by decide +kernel) tyX11 tyX11_ok nmX11 hown hK hP hD hS 0 rfl rfl 2 (by decide) (hts (.fieldLink RX11 112 "DripStoneModel" "taped" "I") (by decide +kernel)) (fun _ h9 => h9) rfl (by decide +kernel) rfl rfl (Nat.le_of_ble_eq_true rfl) dX11_type_107 (fun H locs hP hD hS => ?_)
                  have hP : va_P (dC, dI) vwCl [(zy, .inr (11, [.ref zy0, .ref zy1, .int 1, .int 0, .int 0, .ref zy5, .int 0, .int 0, .ref zy8, .ref zy9, .ref zy10, .ref zy11, .ref zy12, .ref zy13, .ref zy14, .long 0, .ref zy16, .ref zy17, .ref zy18, .int 0, .long 0, .ref zy21, .ref zy22, .int 0, .ref zy24, .ref zy25, .ref zy26, .ref zy27])), (zy1, .inl (cy 0, 80, .inl (upd (fun _ => 0) (0 : Int32).toNatClampNeg w_308.toInt32)))] H := hP
                  have hD : va_D A [(zy, .inr (11, [.ref zy0, .ref zy1, .int 1, .int 0, .int 0, .ref zy5, .int 0, .int 0, .ref zy8, .ref zy9, .ref zy10, .ref zy11, .ref zy12, .ref zy13, .ref zy14, .long 0, .ref zy16, .ref zy17, .ref zy18, .int 0, .long 0, .ref zy21, .ref zy22, .int 0, .ref zy24, .ref zy25, .ref zy26, .ref zy27])), (zy1, .inl (cy 0, 80, .inl (upd (fun _ => 0) (0 : Int32).toNatClampNeg w_308.toInt32)))] := hD
                  refine lv_iinc (v := 4) (lv' := [(4, .int 4), (0, .ref zy), (1, .long zja), (3, .int 6)]) hx hb dX11_type_110 hl (k := 0) rfl (by decide) (by decide) rfl (fun ls hl => ?_)
                  refine lv_goto (tgt := 74) hx hb dX11_type_113 (by decide) ?_
                  refine lv_iload hx hb dX11_type_74 (lv_at hl 0 rfl) ?_
                  refine lv_if_lt (tgt := 116) hx hb dX11_type_76 (by decide) (fun c_310 => absurd c_310 (by decide)) (fun c_310 => ?_)
                  refine lv_aload_n hx hb dX11_type_79 rfl (lv_at hl 1 rfl) ?_
                  refine va_get (D := (dC, dI)) (ci := 11) (v := .ref zy1) (C := RX11) (T := TX11) (N := 28) hx hb hts (by decide +kernel) hown hK hP 0 rfl rfl 1 (by decide) (hts (.fieldLink RX11 13 "DripStoneModel" "tape" "[I") (by decide +kernel)) (fun _ h9 => h9) rfl dX11_type_80 ?_
                  refine lv_aload_n hx hb dX11_type_83 rfl (lv_at hl 1 rfl) ?_
                  refine va_get (D := (dC, dI)) (ci := 11) (v := .int 1) (C := RX11) (T := TX11) (N := 28) hx hb hts (by decide +kernel) hown hK hP 0 rfl rfl 2 (by decide) (hts (.fieldLink RX11 112 "DripStoneModel" "taped" "I") (by decide +kernel)) (fun _ h9 => h9) rfl dX11_type_84 ?_
                  refine lv_lload_n hx hb dX11_type_87 rfl (lv_at hl 2 rfl) ?_
                  refine lv_bipush (v := 8) hx hb dX11_type_88 (by decide) ?_
                  refine lv_iload hx hb dX11_type_90 (lv_at hl 0 rfl) ?_
                  refine lv_imul hx hb dX11_type_92 ?_
                  refine lv_topi (fun v_311 ev_311 => ?_)
                  obtain rfl : v_311 = (32 : Int32) := ev_311.trans (by decide)
                  refine lv_lshr (v := zja >>> ((32 : Int32).toInt64 &&& 63)) hx hb dX11_type_93 rfl ?_
                  refine lv_ldc2 (v := 255) hx hb hown (hts (.constantLong RX11 106 255) (by decide +kernel)) dX11_type_94 ?_
                  refine lv_land hx hb dX11_type_97 ?_
                  refine lv_topl (fun w_312 ew_312 => ?_)
                  have tw_312 : w_312.toInt = by8 zja 4 := by rw [ew_312]; exact by8_l4 zja
                  refine lv_l2i (v := w_312.toInt32) hx hb dX11_type_98 rfl ?_
                  refine va_iast hx hb hK hP hD hS 1 0 rfl rfl (vp_in_iff.mpr ⟨by decide, by decide⟩) dX11_type_99 (fun H locs hP hD hS => ?_)
                  have hP : va_P (dC, dI) vwCl [(zy, .inr (11, [.ref zy0, .ref zy1, .int 1, .int 0, .int 0, .ref zy5, .int 0, .int 0, .ref zy8, .ref zy9, .ref zy10, .ref zy11, .ref zy12, .ref zy13, .ref zy14, .long 0, .ref zy16, .ref zy17, .ref zy18, .int 0, .long 0, .ref zy21, .ref zy22, .int 0, .ref zy24, .ref zy25, .ref zy26, .ref zy27])), (zy1, .inl (cy 0, 80, .inl (upd (upd (fun _ => 0) (0 : Int32).toNatClampNeg w_308.toInt32) (1 : Int32).toNatClampNeg w_312.toInt32)))] H := hP
                  have hD : va_D A [(zy, .inr (11, [.ref zy0, .ref zy1, .int 1, .int 0, .int 0, .ref zy5, .int 0, .int 0, .ref zy8, .ref zy9, .ref zy10, .ref zy11, .ref zy12, .ref zy13, .ref zy14, .long 0, .ref zy16, .ref zy17, .ref zy18, .int 0, .long 0, .ref zy21, .ref zy22, .int 0, .ref zy24, .ref zy25, .ref zy26, .ref zy27])), (zy1, .inl (cy 0, 80, .inl (upd (upd (fun _ => 0) (0 : Int32).toNatClampNeg w_308.toInt32) (1 : Int32).toNatClampNeg w_312.toInt32)))] := hD
                  refine lv_aload_n hx hb dX11_type_100 rfl (lv_at hl 1 rfl) ?_
                  refine lv_dup hx hb dX11_type_101 rfl ?_
                  refine va_get (D := (dC, dI)) (ci := 11) (v := .int 1) (C := RX11) (T := TX11) (N := 28) hx hb hts (by decide +kernel) hown hK hP 0 rfl rfl 2 (by decide) (hts (.fieldLink RX11 112 "DripStoneModel" "taped" "I") (by decide +kernel)) (fun _ h9 => h9) rfl dX11_type_102 ?_
                  refine lv_iconst (v := 1) hx hb dX11_type_105 (by decide) ?_
                  refine lv_iadd hx hb dX11_type_106 ?_
                  refine lv_topi (fun v_313 ev_313 => ?_)
                  obtain rfl : v_313 = (2 : Int32) := ev_313.trans (by decide)
                  refine va_put (D := (dC, dI)) (ci := 11) (v := .int 2) (ty := .int) (C := RX11) (T := TX11) (N := 28) hx hb hts (by decide +kernel) tyX11 tyX11_ok nmX11 hown hK hP hD hS 0 rfl rfl 2 (by decide) (hts (.fieldLink RX11 112 "DripStoneModel" "taped" "I") (by decide +kernel)) (fun _ h9 => h9) rfl (by decide +kernel) rfl rfl (Nat.le_of_ble_eq_true rfl) dX11_type_107 (fun H locs hP hD hS => ?_)
                  have hP : va_P (dC, dI) vwCl [(zy, .inr (11, [.ref zy0, .ref zy1, .int 2, .int 0, .int 0, .ref zy5, .int 0, .int 0, .ref zy8, .ref zy9, .ref zy10, .ref zy11, .ref zy12, .ref zy13, .ref zy14, .long 0, .ref zy16, .ref zy17, .ref zy18, .int 0, .long 0, .ref zy21, .ref zy22, .int 0, .ref zy24, .ref zy25, .ref zy26, .ref zy27])), (zy1, .inl (cy 0, 80, .inl (upd (upd (fun _ => 0) (0 : Int32).toNatClampNeg w_308.toInt32) (1 : Int32).toNatClampNeg w_312.toInt32)))] H := hP
                  have hD : va_D A [(zy, .inr (11, [.ref zy0, .ref zy1, .int 2, .int 0, .int 0, .ref zy5, .int 0, .int 0, .ref zy8, .ref zy9, .ref zy10, .ref zy11, .ref zy12, .ref zy13, .ref zy14, .long 0, .ref zy16, .ref zy17, .ref zy18, .int 0, .long 0, .ref zy21, .ref zy22, .int 0, .ref zy24, .ref zy25, .ref zy26, .ref zy27])), (zy1, .inl (cy 0, 80, .inl (upd (upd (fun _ => 0) (0 : Int32).toNatClampNeg w_308.toInt32) (1 : Int32).toNatClampNeg w_312.toInt32)))] := hD
                  refine lv_iinc (v := 3) (lv' := [(4, .int 3), (0, .ref zy), (1, .long zja), (3, .int 6)]) hx hb dX11_type_110 hl (k := 0) rfl (by decide) (by decide) rfl (fun ls hl => ?_)
                  refine lv_goto (tgt := 74) hx hb dX11_type_113 (by decide) ?_
                  refine lv_iload hx hb dX11_type_74 (lv_at hl 0 rfl) ?_
                  refine lv_if_lt (tgt := 116) hx hb dX11_type_76 (by decide) (fun c_314 => absurd c_314 (by decide)) (fun c_314 => ?_)
                  refine lv_aload_n hx hb dX11_type_79 rfl (lv_at hl 1 rfl) ?_
                  refine va_get (D := (dC, dI)) (ci := 11) (v := .ref zy1) (C := RX11) (T := TX11) (N := 28) hx hb hts (by decide +kernel) hown hK hP 0 rfl rfl 1 (by decide) (hts (.fieldLink RX11 13 "DripStoneModel" "tape" "[I") (by decide +kernel)) (fun _ h9 => h9) rfl dX11_type_80 ?_
                  refine lv_aload_n hx hb dX11_type_83 rfl (lv_at hl 1 rfl) ?_
                  refine va_get (D := (dC, dI)) (ci := 11) (v := .int 2) (C := RX11) (T := TX11) (N := 28) hx hb hts (by decide +kernel) hown hK hP 0 rfl rfl 2 (by decide) (hts (.fieldLink RX11 112 "DripStoneModel" "taped" "I") (by decide +kernel)) (fun _ h9 => h9) rfl dX11_type_84 ?_
                  refine lv_lload_n hx hb dX11_type_87 rfl (lv_at hl 2 rfl) ?_
                  refine lv_bipush (v := 8) hx hb dX11_type_88 (by decide) ?_
                  refine lv_iload hx hb dX11_type_90 (lv_at hl 0 rfl) ?_
                  refine lv_imul hx hb dX11_type_92 ?_
                  refine lv_topi (fun v_315 ev_315 => ?_)
                  obtain rfl : v_315 = (24 : Int32) := ev_315.trans (by decide)
                  refine lv_lshr (v := zja >>> ((24 : Int32).toInt64 &&& 63)) hx hb dX11_type_93 rfl ?_
                  refine lv_ldc2 (v := 255) hx hb hown (hts (.constantLong RX11 106 255) (by decide +kernel)) dX11_type_94 ?_
                  refine lv_land hx hb dX11_type_97 ?_
                  refine lv_topl (fun w_316 ew_316 => ?_)
                  have tw_316 : w_316.toInt = by8 zja 3 := by rw [ew_316]; exact by8_l3 zja
                  refine lv_l2i (v := w_316.toInt32) hx hb dX11_type_98 rfl ?_
                  refine va_iast hx hb hK hP hD hS 1 0 rfl rfl (vp_in_iff.mpr ⟨by decide, by decide⟩) dX11_type_99 (fun H locs hP hD hS => ?_)
                  have hP : va_P (dC, dI) vwCl [(zy, .inr (11, [.ref zy0, .ref zy1, .int 2, .int 0, .int 0, .ref zy5, .int 0, .int 0, .ref zy8, .ref zy9, .ref zy10, .ref zy11, .ref zy12, .ref zy13, .ref zy14, .long 0, .ref zy16, .ref zy17, .ref zy18, .int 0, .long 0, .ref zy21, .ref zy22, .int 0, .ref zy24, .ref zy25, .ref zy26, .ref zy27])), (zy1, .inl (cy 0, 80, .inl (upd (upd (upd (fun _ => 0) (0 : Int32).toNatClampNeg w_308.toInt32) (1 : Int32).toNatClampNeg w_312.toInt32) (2 : Int32).toNatClampNeg w_316.toInt32)))] H := hP
                  have hD : va_D A [(zy, .inr (11, [.ref zy0, .ref zy1, .int 2, .int 0, .int 0, .ref zy5, .int 0, .int 0, .ref zy8, .ref zy9, .ref zy10, .ref zy11, .ref zy12, .ref zy13, .ref zy14, .long 0, .ref zy16, .ref zy17, .ref zy18, .int 0, .long 0, .ref zy21, .ref zy22, .int 0, .ref zy24, .ref zy25, .ref zy26, .ref zy27])), (zy1, .inl (cy 0, 80, .inl (upd (upd (upd (fun _ => 0) (0 : Int32).toNatClampNeg w_308.toInt32) (1 : Int32).toNatClampNeg w_312.toInt32) (2 : Int32).toNatClampNeg w_316.toInt32)))] := hD
                  refine lv_aload_n hx hb dX11_type_100 rfl (lv_at hl 1 rfl) ?_
                  refine lv_dup hx hb dX11_type_101 rfl ?_
                  refine va_get (D := (dC, dI)) (ci := 11) (v := .int 2) (C := RX11) (T := TX11) (N := 28) hx hb hts (by decide +kernel) hown hK hP 0 rfl rfl 2 (by decide) (hts (.fieldLink RX11 112 "DripStoneModel" "taped" "I") (by decide +kernel)) (fun _ h9 => h9) rfl dX11_type_102 ?_
                  refine lv_iconst (v := 1) hx hb dX11_type_105 (by decide) ?_
                  refine lv_iadd hx hb dX11_type_106 ?_
                  refine lv_topi (fun v_317 ev_317 => ?_)
                  obtain rfl : v_317 = (3 : Int32) := ev_317.trans (by decide)
                  refine va_put (D := (dC, dI)) (ci := 11) (v := .int 3) (ty := .int) (C := RX11) (T := TX11) (N := 28) hx hb hts (by decide +kernel) tyX11 tyX11_ok nmX11 hown hK hP hD hS 0 rfl rfl 2 (by decide) (hts (.fieldLink RX11 112 "DripStoneModel" "taped" "I") (by decide +kernel)) (fun _ h9 => h9) rfl (by decide +kernel) rfl rfl (Nat.le_of_ble_eq_true rfl) dX11_type_107 (fun H locs hP hD hS => ?_)
                  have hP : va_P (dC, dI) vwCl [(zy, .inr (11, [.ref zy0, .ref zy1, .int 3, .int 0, .int 0, .ref zy5, .int 0, .int 0, .ref zy8, .ref zy9, .ref zy10, .ref zy11, .ref zy12, .ref zy13, .ref zy14, .long 0, .ref zy16, .ref zy17, .ref zy18, .int 0, .long 0, .ref zy21, .ref zy22, .int 0, .ref zy24, .ref zy25, .ref zy26, .ref zy27])), (zy1, .inl (cy 0, 80, .inl (upd (upd (upd (fun _ => 0) (0 : Int32).toNatClampNeg w_308.toInt32) (1 : Int32).toNatClampNeg w_312.toInt32) (2 : Int32).toNatClampNeg w_316.toInt32)))] H := hP
                  have hD : va_D A [(zy, .inr (11, [.ref zy0, .ref zy1, .int 3, .int 0, .int 0, .ref zy5, .int 0, .int 0, .ref zy8, .ref zy9, .ref zy10, .ref zy11, .ref zy12, .ref zy13, .ref zy14, .long 0, .ref zy16, .ref zy17, .ref zy18, .int 0, .long 0, .ref zy21, .ref zy22, .int 0, .ref zy24, .ref zy25, .ref zy26, .ref zy27])), (zy1, .inl (cy 0, 80, .inl (upd (upd (upd (fun _ => 0) (0 : Int32).toNatClampNeg w_308.toInt32) (1 : Int32).toNatClampNeg w_312.toInt32) (2 : Int32).toNatClampNeg w_316.toInt32)))] := hD
                  refine lv_iinc (v := 2) (lv' := [(4, .int 2), (0, .ref zy), (1, .long zja), (3, .int 6)]) hx hb dX11_type_110 hl (k := 0) rfl (by decide) (by decide) rfl (fun ls hl => ?_)
                  refine lv_goto (tgt := 74) hx hb dX11_type_113 (by decide) ?_
                  refine lv_iload hx hb dX11_type_74 (lv_at hl 0 rfl) ?_
                  refine lv_if_lt (tgt := 116) hx hb dX11_type_76 (by decide) (fun c_318 => absurd c_318 (by decide)) (fun c_318 => ?_)
                  refine lv_aload_n hx hb dX11_type_79 rfl (lv_at hl 1 rfl) ?_
                  refine va_get (D := (dC, dI)) (ci := 11) (v := .ref zy1) (C := RX11) (T := TX11) (N := 28) hx hb hts (by decide +kernel) hown hK hP 0 rfl rfl 1 (by decide) (hts (.fieldLink RX11 13 "DripStoneModel" "tape" "[I") (by decide +kernel)) (fun _ h9 => h9) rfl dX11_type_80 ?_
                  refine lv_aload_n hx hb dX11_type_83 rfl (lv_at hl 1 rfl) ?_
                  refine va_get (D := (dC, dI)) (ci := 11) (v := .int 3) (C := RX11) (T := TX11) (N := 28) hx hb hts (by decide +kernel) hown hK hP 0 rfl rfl 2 (by decide) (hts (.fieldLink RX11 112 "DripStoneModel" "taped" "I") (by decide +kernel)) (fun _ h9 => h9) rfl dX11_type_84 ?_
                  refine lv_lload_n hx hb dX11_type_87 rfl (lv_at hl 2 rfl) ?_
                  refine lv_bipush (v := 8) hx hb dX11_type_88 (by decide) ?_
                  refine lv_iload hx hb dX11_type_90 (lv_at hl 0 rfl) ?_
                  refine lv_imul hx hb dX11_type_92 ?_
                  refine lv_topi (fun v_319 ev_319 => ?_)
                  obtain rfl : v_319 = (16 : Int32) := ev_319.trans (by decide)
                  refine lv_lshr (v := zja >>> ((16 : Int32).toInt64 &&& 63)) hx hb dX11_type_93 rfl ?_
                  refine lv_ldc2 (v := 255) hx hb hown (hts (.constantLong RX11 106 255) (by decide +kernel)) dX11_type_94 ?_
                  refine lv_land hx hb dX11_type_97 ?_
                  refine lv_topl (fun w_320 ew_320 => ?_)
                  have tw_320 : w_320.toInt = by8 zja 2 := by rw [ew_320]; exact by8_l2 zja
                  refine lv_l2i (v := w_320.toInt32) hx hb dX11_type_98 rfl ?_
                  refine va_iast hx hb hK hP hD hS 1 0 rfl rfl (vp_in_iff.mpr ⟨by decide, by decide⟩) dX11_type_99 (fun H locs hP hD hS => ?_)
                  have hP : va_P (dC, dI) vwCl [(zy, .inr (11, [.ref zy0, .ref zy1, .int 3, .int 0, .int 0, .ref zy5, .int 0, .int 0, .ref zy8, .ref zy9, .ref zy10, .ref zy11, .ref zy12, .ref zy13, .ref zy14, .long 0, .ref zy16, .ref zy17, .ref zy18, .int 0, .long 0, .ref zy21, .ref zy22, .int 0, .ref zy24, .ref zy25, .ref zy26, .ref zy27])), (zy1, .inl (cy 0, 80, .inl (upd (upd (upd (upd (fun _ => 0) (0 : Int32).toNatClampNeg w_308.toInt32) (1 : Int32).toNatClampNeg w_312.toInt32) (2 : Int32).toNatClampNeg w_316.toInt32) (3 : Int32).toNatClampNeg w_320.toInt32)))] H := hP
                  have hD : va_D A [(zy, .inr (11, [.ref zy0, .ref zy1, .int 3, .int 0, .int 0, .ref zy5, .int 0, .int 0, .ref zy8, .ref zy9, .ref zy10, .ref zy11, .ref zy12, .ref zy13, .ref zy14, .long 0, .ref zy16, .ref zy17, .ref zy18, .int 0, .long 0, .ref zy21, .ref zy22, .int 0, .ref zy24, .ref zy25, .ref zy26, .ref zy27])), (zy1, .inl (cy 0, 80, .inl (upd (upd (upd (upd (fun _ => 0) (0 : Int32).toNatClampNeg w_308.toInt32) (1 : Int32).toNatClampNeg w_312.toInt32) (2 : Int32).toNatClampNeg w_316.toInt32) (3 : Int32).toNatClampNeg w_320.toInt32)))] := hD
                  refine lv_aload_n hx hb dX11_type_100 rfl (lv_at hl 1 rfl) ?_
                  refine lv_dup hx hb dX11_type_101 rfl ?_
                  refine va_get (D := (dC, dI)) (ci := 11) (v := .int 3) (C := RX11) (T := TX11) (N := 28) hx hb hts (by decide +kernel) hown hK hP 0 rfl rfl 2 (by decide) (hts (.fieldLink RX11 112 "DripStoneModel" "taped" "I") (by decide +kernel)) (fun _ h9 => h9) rfl dX11_type_102 ?_
                  refine lv_iconst (v := 1) hx hb dX11_type_105 (by decide) ?_
                  refine lv_iadd hx hb dX11_type_106 ?_
                  refine lv_topi (fun v_321 ev_321 => ?_)
                  obtain rfl : v_321 = (4 : Int32) := ev_321.trans (by decide)
                  refine va_put (D := (dC, dI)) (ci := 11) (v := .int 4) (ty := .int) (C := RX11) (T := TX11) (N := 28) hx hb hts (by decide +kernel) tyX11 tyX11_ok nmX11 hown hK hP hD hS 0 rfl rfl 2 (by decide) (hts (.fieldLink RX11 112 "DripStoneModel" "taped" "I") (by decide +kernel)) (fun _ h9 => h9) rfl (by decide +kernel) rfl rfl (Nat.le_of_ble_eq_true rfl) dX11_type_107 (fun H locs hP hD hS => ?_)
                  have hP : va_P (dC, dI) vwCl [(zy, .inr (11, [.ref zy0, .ref zy1, .int 4, .int 0, .int 0, .ref zy5, .int 0, .int 0, .ref zy8, .ref zy9, .ref zy10, .ref zy11, .ref zy12, .ref zy13, .ref zy14, .long 0, .ref zy16, .ref zy17, .ref zy18, .int 0, .long 0, .ref zy21, .ref zy22, .int 0, .ref zy24, .ref zy25, .ref zy26, .ref zy27])), (zy1, .inl (cy 0, 80, .inl (upd (upd (upd (upd (fun _ => 0) (0 : Int32).toNatClampNeg w_308.toInt32) (1 : Int32).toNatClampNeg w_312.toInt32) (2 : Int32).toNatClampNeg w_316.toInt32) (3 : Int32).toNatClampNeg w_320.toInt32)))] H := hP
                  have hD : va_D A [(zy, .inr (11, [.ref zy0, .ref zy1, .int 4, .int 0, .int 0, .ref zy5, .int 0, .int 0, .ref zy8, .ref zy9, .ref zy10, .ref zy11, .ref zy12, .ref zy13, .ref zy14, .long 0, .ref zy16, .ref zy17, .ref zy18, .int 0, .long 0, .ref zy21, .ref zy22, .int 0, .ref zy24, .ref zy25, .ref zy26, .ref zy27])), (zy1, .inl (cy 0, 80, .inl (upd (upd (upd (upd (fun _ => 0) (0 : Int32).toNatClampNeg w_308.toInt32) (1 : Int32).toNatClampNeg w_312.toInt32) (2 : Int32).toNatClampNeg w_316.toInt32) (3 : Int32).toNatClampNeg w_320.toInt32)))] := hD
                  refine lv_iinc (v := 1) (lv' := [(4, .int 1), (0, .ref zy), (1, .long zja), (3, .int 6)]) hx hb dX11_type_110 hl (k := 0) rfl (by decide) (by decide) rfl (fun ls hl => ?_)
                  refine lv_goto (tgt := 74) hx hb dX11_type_113 (by decide) ?_
                  refine lv_iload hx hb dX11_type_74 (lv_at hl 0 rfl) ?_
                  refine lv_if_lt (tgt := 116) hx hb dX11_type_76 (by decide) (fun c_322 => absurd c_322 (by decide)) (fun c_322 => ?_)
                  refine lv_aload_n hx hb dX11_type_79 rfl (lv_at hl 1 rfl) ?_
                  refine va_get (D := (dC, dI)) (ci := 11) (v := .ref zy1) (C := RX11) (T := TX11) (N := 28) hx hb hts (by decide +kernel) hown hK hP 0 rfl rfl 1 (by decide) (hts (.fieldLink RX11 13 "DripStoneModel" "tape" "[I") (by decide +kernel)) (fun _ h9 => h9) rfl dX11_type_80 ?_
                  refine lv_aload_n hx hb dX11_type_83 rfl (lv_at hl 1 rfl) ?_
                  refine va_get (D := (dC, dI)) (ci := 11) (v := .int 4) (C := RX11) (T := TX11) (N := 28) hx hb hts (by decide +kernel) hown hK hP 0 rfl rfl 2 (by decide) (hts (.fieldLink RX11 112 "DripStoneModel" "taped" "I") (by decide +kernel)) (fun _ h9 => h9) rfl dX11_type_84 ?_
                  refine lv_lload_n hx hb dX11_type_87 rfl (lv_at hl 2 rfl) ?_
                  refine lv_bipush (v := 8) hx hb dX11_type_88 (by decide) ?_
                  refine lv_iload hx hb dX11_type_90 (lv_at hl 0 rfl) ?_
                  refine lv_imul hx hb dX11_type_92 ?_
                  refine lv_topi (fun v_323 ev_323 => ?_)
                  obtain rfl : v_323 = (8 : Int32) := ev_323.trans (by decide)
                  refine lv_lshr (v := zja >>> ((8 : Int32).toInt64 &&& 63)) hx hb dX11_type_93 rfl ?_
                  refine lv_ldc2 (v := 255) hx hb hown (hts (.constantLong RX11 106 255) (by decide +kernel)) dX11_type_94 ?_
                  refine lv_land hx hb dX11_type_97 ?_
                  refine lv_topl (fun w_324 ew_324 => ?_)
                  have tw_324 : w_324.toInt = by8 zja 1 := by rw [ew_324]; exact by8_l1 zja
                  refine lv_l2i (v := w_324.toInt32) hx hb dX11_type_98 rfl ?_
                  refine va_iast hx hb hK hP hD hS 1 0 rfl rfl (vp_in_iff.mpr ⟨by decide, by decide⟩) dX11_type_99 (fun H locs hP hD hS => ?_)
                  have hP : va_P (dC, dI) vwCl [(zy, .inr (11, [.ref zy0, .ref zy1, .int 4, .int 0, .int 0, .ref zy5, .int 0, .int 0, .ref zy8, .ref zy9, .ref zy10, .ref zy11, .ref zy12, .ref zy13, .ref zy14, .long 0, .ref zy16, .ref zy17, .ref zy18, .int 0, .long 0, .ref zy21, .ref zy22, .int 0, .ref zy24, .ref zy25, .ref zy26, .ref zy27])), (zy1, .inl (cy 0, 80, .inl (upd (upd (upd (upd (upd (fun _ => 0) (0 : Int32).toNatClampNeg w_308.toInt32) (1 : Int32).toNatClampNeg w_312.toInt32) (2 : Int32).toNatClampNeg w_316.toInt32) (3 : Int32).toNatClampNeg w_320.toInt32) (4 : Int32).toNatClampNeg w_324.toInt32)))] H := hP
                  have hD : va_D A [(zy, .inr (11, [.ref zy0, .ref zy1, .int 4, .int 0, .int 0, .ref zy5, .int 0, .int 0, .ref zy8, .ref zy9, .ref zy10, .ref zy11, .ref zy12, .ref zy13, .ref zy14, .long 0, .ref zy16, .ref zy17, .ref zy18, .int 0, .long 0, .ref zy21, .ref zy22, .int 0, .ref zy24, .ref zy25, .ref zy26, .ref zy27])), (zy1, .inl (cy 0, 80, .inl (upd (upd (upd (upd (upd (fun _ => 0) (0 : Int32).toNatClampNeg w_308.toInt32) (1 : Int32).toNatClampNeg w_312.toInt32) (2 : Int32).toNatClampNeg w_316.toInt32) (3 : Int32).toNatClampNeg w_320.toInt32) (4 : Int32).toNatClampNeg w_324.toInt32)))] := hD
                  refine lv_aload_n hx hb dX11_type_100 rfl (lv_at hl 1 rfl) ?_
                  refine lv_dup hx hb dX11_type_101 rfl ?_
                  refine va_get (D := (dC, dI)) (ci := 11) (v := .int 4) (C := RX11) (T := TX11) (N := 28) hx hb hts (by decide +kernel) hown hK hP 0 rfl rfl 2 (by decide) (hts (.fieldLink RX11 112 "DripStoneModel" "taped" "I") (by decide +kernel)) (fun _ h9 => h9) rfl dX11_type_102 ?_
                  refine lv_iconst (v := 1) hx hb dX11_type_105 (by decide) ?_
                  refine lv_iadd hx hb dX11_type_106 ?_
                  refine lv_topi (fun v_325 ev_325 => ?_)
                  obtain rfl : v_325 = (5 : Int32) := ev_325.trans (by decide)
                  refine va_put (D := (dC, dI)) (ci := 11) (v := .int 5) (ty := .int) (C := RX11) (T := TX11) (N := 28) hx hb hts (by decide +kernel) tyX11 tyX11_ok nmX11 hown hK hP hD hS 0 rfl rfl 2 (by decide) (hts (.fieldLink RX11 112 "DripStoneModel" "taped" "I") (by decide +kernel)) (fun _ h9 => h9) rfl (by decide +kernel) rfl rfl (Nat.le_of_ble_eq_true rfl) dX11_type_107 (fun H locs hP hD hS => ?_)
                  have hP : va_P (dC, dI) vwCl [(zy, .inr (11, [.ref zy0, .ref zy1, .int 5, .int 0, .int 0, .ref zy5, .int 0, .int 0, .ref zy8, .ref zy9, .ref zy10, .ref zy11, .ref zy12, .ref zy13, .ref zy14, .long 0, .ref zy16, .ref zy17, .ref zy18, .int 0, .long 0, .ref zy21, .ref zy22, .int 0, .ref zy24, .ref zy25, .ref zy26, .ref zy27])), (zy1, .inl (cy 0, 80, .inl (upd (upd (upd (upd (upd (fun _ => 0) (0 : Int32).toNatClampNeg w_308.toInt32) (1 : Int32).toNatClampNeg w_312.toInt32) (2 : Int32).toNatClampNeg w_316.toInt32) (3 : Int32).toNatClampNeg w_320.toInt32) (4 : Int32).toNatClampNeg w_324.toInt32)))] H := hP
                  have hD : va_D A [(zy, .inr (11, [.ref zy0, .ref zy1, .int 5, .int 0, .int 0, .ref zy5, .int 0, .int 0, .ref zy8, .ref zy9, .ref zy10, .ref zy11, .ref zy12, .ref zy13, .ref zy14, .long 0, .ref zy16, .ref zy17, .ref zy18, .int 0, .long 0, .ref zy21, .ref zy22, .int 0, .ref zy24, .ref zy25, .ref zy26, .ref zy27])), (zy1, .inl (cy 0, 80, .inl (upd (upd (upd (upd (upd (fun _ => 0) (0 : Int32).toNatClampNeg w_308.toInt32) (1 : Int32).toNatClampNeg w_312.toInt32) (2 : Int32).toNatClampNeg w_316.toInt32) (3 : Int32).toNatClampNeg w_320.toInt32) (4 : Int32).toNatClampNeg w_324.toInt32)))] := hD
                  refine lv_iinc (v := 0) (lv' := [(4, .int 0), (0, .ref zy), (1, .long zja), (3, .int 6)]) hx hb dX11_type_110 hl (k := 0) rfl (by decide) (by decide) rfl (fun ls hl => ?_)
                  refine lv_goto (tgt := 74) hx hb dX11_type_113 (by decide) ?_
                  refine lv_iload hx hb dX11_type_74 (lv_at hl 0 rfl) ?_
                  refine lv_if_lt (tgt := 116) hx hb dX11_type_76 (by decide) (fun c_326 => absurd c_326 (by decide)) (fun c_326 => ?_)
                  refine lv_aload_n hx hb dX11_type_79 rfl (lv_at hl 1 rfl) ?_
                  refine va_get (D := (dC, dI)) (ci := 11) (v := .ref zy1) (C := RX11) (T := TX11) (N := 28) hx hb hts (by decide +kernel) hown hK hP 0 rfl rfl 1 (by decide) (hts (.fieldLink RX11 13 "DripStoneModel" "tape" "[I") (by decide +kernel)) (fun _ h9 => h9) rfl dX11_type_80 ?_
                  refine lv_aload_n hx hb dX11_type_83 rfl (lv_at hl 1 rfl) ?_
                  refine va_get (D := (dC, dI)) (ci := 11) (v := .int 5) (C := RX11) (T := TX11) (N := 28) hx hb hts (by decide +kernel) hown hK hP 0 rfl rfl 2 (by decide) (hts (.fieldLink RX11 112 "DripStoneModel" "taped" "I") (by decide +kernel)) (fun _ h9 => h9) rfl dX11_type_84 ?_
                  refine lv_lload_n hx hb dX11_type_87 rfl (lv_at hl 2 rfl) ?_
                  refine lv_bipush (v := 8) hx hb dX11_type_88 (by decide) ?_
                  refine lv_iload hx hb dX11_type_90 (lv_at hl 0 rfl) ?_
                  refine lv_imul hx hb dX11_type_92 ?_
                  refine lv_topi (fun v_327 ev_327 => ?_)
                  obtain rfl : v_327 = (0 : Int32) := ev_327.trans (by decide)
                  refine lv_lshr (v := zja >>> ((0 : Int32).toInt64 &&& 63)) hx hb dX11_type_93 rfl ?_
                  refine lv_ldc2 (v := 255) hx hb hown (hts (.constantLong RX11 106 255) (by decide +kernel)) dX11_type_94 ?_
                  refine lv_land hx hb dX11_type_97 ?_
                  refine lv_topl (fun w_328 ew_328 => ?_)
                  have tw_328 : w_328.toInt = by8 zja 0 := by rw [ew_328]; exact by8_l0 zja
                  refine lv_l2i (v := w_328.toInt32) hx hb dX11_type_98 rfl ?_
                  refine va_iast hx hb hK hP hD hS 1 0 rfl rfl (vp_in_iff.mpr ⟨by decide, by decide⟩) dX11_type_99 (fun H locs hP hD hS => ?_)
                  have hP : va_P (dC, dI) vwCl [(zy, .inr (11, [.ref zy0, .ref zy1, .int 5, .int 0, .int 0, .ref zy5, .int 0, .int 0, .ref zy8, .ref zy9, .ref zy10, .ref zy11, .ref zy12, .ref zy13, .ref zy14, .long 0, .ref zy16, .ref zy17, .ref zy18, .int 0, .long 0, .ref zy21, .ref zy22, .int 0, .ref zy24, .ref zy25, .ref zy26, .ref zy27])), (zy1, .inl (cy 0, 80, .inl (upd (upd (upd (upd (upd (upd (fun _ => 0) (0 : Int32).toNatClampNeg w_308.toInt32) (1 : Int32).toNatClampNeg w_312.toInt32) (2 : Int32).toNatClampNeg w_316.toInt32) (3 : Int32).toNatClampNeg w_320.toInt32) (4 : Int32).toNatClampNeg w_324.toInt32) (5 : Int32).toNatClampNeg w_328.toInt32)))] H := hP
                  have hD : va_D A [(zy, .inr (11, [.ref zy0, .ref zy1, .int 5, .int 0, .int 0, .ref zy5, .int 0, .int 0, .ref zy8, .ref zy9, .ref zy10, .ref zy11, .ref zy12, .ref zy13, .ref zy14, .long 0, .ref zy16, .ref zy17, .ref zy18, .int 0, .long 0, .ref zy21, .ref zy22, .int 0, .ref zy24, .ref zy25, .ref zy26, .ref zy27])), (zy1, .inl (cy 0, 80, .inl (upd (upd (upd (upd (upd (upd (fun _ => 0) (0 : Int32).toNatClampNeg w_308.toInt32) (1 : Int32).toNatClampNeg w_312.toInt32) (2 : Int32).toNatClampNeg w_316.toInt32) (3 : Int32).toNatClampNeg w_320.toInt32) (4 : Int32).toNatClampNeg w_324.toInt32) (5 : Int32).toNatClampNeg w_328.toInt32)))] := hD
                  refine lv_aload_n hx hb dX11_type_100 rfl (lv_at hl 1 rfl) ?_
                  refine lv_dup hx hb dX11_type_101 rfl ?_
                  refine va_get (D := (dC, dI)) (ci := 11) (v := .int 5) (C := RX11) (T := TX11) (N := 28) hx hb hts (by decide +kernel) hown hK hP 0 rfl rfl 2 (by decide) (hts (.fieldLink RX11 112 "DripStoneModel" "taped" "I") (by decide +kernel)) (fun _ h9 => h9) rfl dX11_type_102 ?_
                  refine lv_iconst (v := 1) hx hb dX11_type_105 (by decide) ?_
                  refine lv_iadd hx hb dX11_type_106 ?_
                  refine lv_topi (fun v_329 ev_329 => ?_)
                  obtain rfl : v_329 = (6 : Int32) := ev_329.trans (by decide)
                  refine va_put (D := (dC, dI)) (ci := 11) (v := .int 6) (ty := .int) (C := RX11) (T := TX11) (N := 28) hx hb hts (by decide +kernel) tyX11 tyX11_ok nmX11 hown hK hP hD hS 0 rfl rfl 2 (by decide) (hts (.fieldLink RX11 112 "DripStoneModel" "taped" "I") (by decide +kernel)) (fun _ h9 => h9) rfl (by decide +kernel) rfl rfl (Nat.le_of_ble_eq_true rfl) dX11_type_107 (fun H locs hP hD hS => ?_)
                  have hP : va_P (dC, dI) vwCl [(zy, .inr (11, [.ref zy0, .ref zy1, .int 6, .int 0, .int 0, .ref zy5, .int 0, .int 0, .ref zy8, .ref zy9, .ref zy10, .ref zy11, .ref zy12, .ref zy13, .ref zy14, .long 0, .ref zy16, .ref zy17, .ref zy18, .int 0, .long 0, .ref zy21, .ref zy22, .int 0, .ref zy24, .ref zy25, .ref zy26, .ref zy27])), (zy1, .inl (cy 0, 80, .inl (upd (upd (upd (upd (upd (upd (fun _ => 0) (0 : Int32).toNatClampNeg w_308.toInt32) (1 : Int32).toNatClampNeg w_312.toInt32) (2 : Int32).toNatClampNeg w_316.toInt32) (3 : Int32).toNatClampNeg w_320.toInt32) (4 : Int32).toNatClampNeg w_324.toInt32) (5 : Int32).toNatClampNeg w_328.toInt32)))] H := hP
                  have hD : va_D A [(zy, .inr (11, [.ref zy0, .ref zy1, .int 6, .int 0, .int 0, .ref zy5, .int 0, .int 0, .ref zy8, .ref zy9, .ref zy10, .ref zy11, .ref zy12, .ref zy13, .ref zy14, .long 0, .ref zy16, .ref zy17, .ref zy18, .int 0, .long 0, .ref zy21, .ref zy22, .int 0, .ref zy24, .ref zy25, .ref zy26, .ref zy27])), (zy1, .inl (cy 0, 80, .inl (upd (upd (upd (upd (upd (upd (fun _ => 0) (0 : Int32).toNatClampNeg w_308.toInt32) (1 : Int32).toNatClampNeg w_312.toInt32) (2 : Int32).toNatClampNeg w_316.toInt32) (3 : Int32).toNatClampNeg w_320.toInt32) (4 : Int32).toNatClampNeg w_324.toInt32) (5 : Int32).toNatClampNeg w_328.toInt32)))] := hD
                  refine lv_iinc (v := (-1)) (lv' := [(4, .int (-1)), (0, .ref zy), (1, .long zja), (3, .int 6)]) hx hb dX11_type_110 hl (k := 0) rfl (by decide) (by decide) rfl (fun ls hl => ?_)
                  refine lv_goto (tgt := 74) hx hb dX11_type_113 (by decide) ?_
                  refine lv_iload hx hb dX11_type_74 (lv_at hl 0 rfl) ?_
                  refine lv_if_lt (tgt := 116) hx hb dX11_type_76 (by decide) (fun c_330 => ?_) (fun c_330 => absurd (by decide) c_330)
                  refine lv_aload_n hx hb dX11_type_116 rfl (lv_at hl 1 rfl) ?_
                  refine va_get (D := (dC, dI)) (ci := 11) (v := .int 6) (C := RX11) (T := TX11) (N := 28) hx hb hts (by decide +kernel) hown hK hP 0 rfl rfl 2 (by decide) (hts (.fieldLink RX11 112 "DripStoneModel" "taped" "I") (by decide +kernel)) (fun _ h9 => h9) rfl dX11_type_117 ?_
                  have hP9 := hP.sub (ws' := []) [] rfl
                  have hD9 := hD.sub (ws' := []) [] (by decide) rfl
                  exact W.iret (v := 6) hx hb hr (fun t ht hW => ⟨⟨6, (), rfl, ((an_type_6 _).trans (if_pos ⟨g_301, g_292, g_283, g_274, g_265, g_256⟩)).symm, ⟨by rw [ht]; exact hP9, va_K.moved hW.alike hK, hD9⟩⟩, hS.F ht⟩) hS.2.2 dX11_type_120
                · have f_300 : ¬ (32 ≤ w_295.toInt ∧ w_295.toInt ≤ 126) := bz_0 hw_298 c_299
                  have g_331 : ¬ okb zja 0 := by unfold okb; rw [← tw_295]; exact f_300
                  refine lv_iconst (v := (-1)) hx hb dX11_type_47 (by decide) ?_
                  have hP9 := hP.sub (ws' := []) [] rfl
                  have hD9 := hD.sub (ws' := []) [] (by decide) rfl
                  exact W.iret (v := (-1)) hx hb hr (fun t ht hW => ⟨⟨(-1), (), rfl, ((an_type_6 _).trans (if_neg (fun h => g_331 (h.1)))).symm, ⟨by rw [ht]; exact hP9, va_K.moved hW.alike hK, hD9⟩⟩, hS.F ht⟩) hS.2.2 dX11_type_48
              · have f_291 : ¬ (32 ≤ w_286.toInt ∧ w_286.toInt ≤ 126) := bz_0 hw_289 c_290
                have g_332 : ¬ okb zja 1 := by unfold okb; rw [← tw_286]; exact f_291
                refine lv_iconst (v := (-1)) hx hb dX11_type_47 (by decide) ?_
                have hP9 := hP.sub (ws' := []) [] rfl
                have hD9 := hD.sub (ws' := []) [] (by decide) rfl
                exact W.iret (v := (-1)) hx hb hr (fun t ht hW => ⟨⟨(-1), (), rfl, ((an_type_6 _).trans (if_neg (fun h => g_332 (h.2.1)))).symm, ⟨by rw [ht]; exact hP9, va_K.moved hW.alike hK, hD9⟩⟩, hS.F ht⟩) hS.2.2 dX11_type_48
            · have f_282 : ¬ (32 ≤ w_277.toInt ∧ w_277.toInt ≤ 126) := bz_0 hw_280 c_281
              have g_333 : ¬ okb zja 2 := by unfold okb; rw [← tw_277]; exact f_282
              refine lv_iconst (v := (-1)) hx hb dX11_type_47 (by decide) ?_
              have hP9 := hP.sub (ws' := []) [] rfl
              have hD9 := hD.sub (ws' := []) [] (by decide) rfl
              exact W.iret (v := (-1)) hx hb hr (fun t ht hW => ⟨⟨(-1), (), rfl, ((an_type_6 _).trans (if_neg (fun h => g_333 (h.2.2.1)))).symm, ⟨by rw [ht]; exact hP9, va_K.moved hW.alike hK, hD9⟩⟩, hS.F ht⟩) hS.2.2 dX11_type_48
          · have f_273 : ¬ (32 ≤ w_268.toInt ∧ w_268.toInt ≤ 126) := bz_0 hw_271 c_272
            have g_334 : ¬ okb zja 3 := by unfold okb; rw [← tw_268]; exact f_273
            refine lv_iconst (v := (-1)) hx hb dX11_type_47 (by decide) ?_
            have hP9 := hP.sub (ws' := []) [] rfl
            have hD9 := hD.sub (ws' := []) [] (by decide) rfl
            exact W.iret (v := (-1)) hx hb hr (fun t ht hW => ⟨⟨(-1), (), rfl, ((an_type_6 _).trans (if_neg (fun h => g_334 (h.2.2.2.1)))).symm, ⟨by rw [ht]; exact hP9, va_K.moved hW.alike hK, hD9⟩⟩, hS.F ht⟩) hS.2.2 dX11_type_48
        · have f_264 : ¬ (32 ≤ w_259.toInt ∧ w_259.toInt ≤ 126) := bz_0 hw_262 c_263
          have g_335 : ¬ okb zja 4 := by unfold okb; rw [← tw_259]; exact f_264
          refine lv_iconst (v := (-1)) hx hb dX11_type_47 (by decide) ?_
          have hP9 := hP.sub (ws' := []) [] rfl
          have hD9 := hD.sub (ws' := []) [] (by decide) rfl
          exact W.iret (v := (-1)) hx hb hr (fun t ht hW => ⟨⟨(-1), (), rfl, ((an_type_6 _).trans (if_neg (fun h => g_335 (h.2.2.2.2.1)))).symm, ⟨by rw [ht]; exact hP9, va_K.moved hW.alike hK, hD9⟩⟩, hS.F ht⟩) hS.2.2 dX11_type_48
      · have f_255 : ¬ (32 ≤ w_250.toInt ∧ w_250.toInt ≤ 126) := bz_0 hw_253 c_254
        have g_336 : ¬ okb zja 5 := by unfold okb; rw [← tw_250]; exact f_255
        refine lv_iconst (v := (-1)) hx hb dX11_type_47 (by decide) ?_
        have hP9 := hP.sub (ws' := []) [] rfl
        have hD9 := hD.sub (ws' := []) [] (by decide) rfl
        exact W.iret (v := (-1)) hx hb hr (fun t ht hW => ⟨⟨(-1), (), rfl, ((an_type_6 _).trans (if_neg (fun h => g_336 (h.2.2.2.2.2)))).symm, ⟨by rw [ht]; exact hP9, va_K.moved hW.alike hK, hD9⟩⟩, hS.F ht⟩) hS.2.2 dX11_type_48
    · have zk_6_7 : (7 : Int32).toInt = 7 := by decide
      refine lv_iload_n hx hb dX11_type_14 rfl (lv_at hl 2 rfl) ?_
      refine lv_iconst (v := 1) hx hb dX11_type_15 (by decide) ?_
      refine lv_isub hx hb dX11_type_16 ?_
      refine lv_topi (fun v_337 ev_337 => ?_)
      obtain rfl : v_337 = (6 : Int32) := ev_337.trans (by decide)
      refine lv_istore (lv' := [(4, .int 6), (0, .ref zy), (1, .long zja), (3, .int 7)]) hx hb dX11_type_17 hl (by decide) rfl (fun ls hl => ?_)
      refine lv_iload hx hb dX11_type_19 (lv_at hl 0 rfl) ?_
      refine lv_if_lt (tgt := 55) hx hb dX11_type_21 (by decide) (fun c_338 => absurd c_338 (by decide)) (fun c_338 => ?_)
      refine lv_lload_n hx hb dX11_type_24 rfl (lv_at hl 2 rfl) ?_
      refine lv_bipush (v := 8) hx hb dX11_type_25 (by decide) ?_
      refine lv_iload hx hb dX11_type_27 (lv_at hl 0 rfl) ?_
      refine lv_imul hx hb dX11_type_29 ?_
      refine lv_topi (fun v_339 ev_339 => ?_)
      obtain rfl : v_339 = (48 : Int32) := ev_339.trans (by decide)
      refine lv_lshr (v := zja >>> ((48 : Int32).toInt64 &&& 63)) hx hb dX11_type_30 rfl ?_
      refine lv_ldc2 (v := 255) hx hb hown (hts (.constantLong RX11 106 255) (by decide +kernel)) dX11_type_31 ?_
      refine lv_land hx hb dX11_type_34 ?_
      refine lv_topl (fun w_340 ew_340 => ?_)
      have tw_340 : w_340.toInt = by8 zja 6 := by rw [ew_340]; exact by8_l6 zja
      refine lv_ldc2 (v := 32) hx hb hown (hts (.constantLong RX11 108 32) (by decide +kernel)) dX11_type_35 ?_
      refine lv_ldc2 (v := 126) hx hb hown (hts (.constantLong RX11 110 126) (by decide +kernel)) dX11_type_38 ?_
      refine cj_i (wc := []) (wr := [(zy, .inr (11, [.ref zy0, .ref zy1, .int 0, .int 0, .int 0, .ref zy5, .int 0, .int 0, .ref zy8, .ref zy9, .ref zy10, .ref zy11, .ref zy12, .ref zy13, .ref zy14, .long 0, .ref zy16, .ref zy17, .ref zy18, .int 0, .long 0, .ref zy21, .ref zy22, .int 0, .ref zy24, .ref zy25, .ref zy26, .ref zy27])), (zy1, .inl (cy 0, 80, .inl (fun _ => 0)))]) (w1 := fun (_ : Unit) => []) (va_runS (As := [.long w_340, .long 32, .long 126]) (rest := []) ⟨hx, hb, hml, hown, hts⟩ (c_X11_in l dC dI cy H.size w_340 32 126 32 126 w_340.toInt (by first | rfl | decide | omega | exact Int32.toInt_toInt64 _) (by first | rfl | decide | omega | exact Int32.toInt_toInt64 _) (by first | rfl | decide | omega | exact Int32.toInt_toInt64 _)) (va_cwS 3 hts gX11_type_X11_in rfl rfl rfl (by decide +kernel) ⟨(Nat.le_of_ble_eq_true rfl), (Nat.le_of_ble_eq_true rfl)⟩) (PRE.s (hP.sub [] rfl) hK (hD.sub [] (by decide) rfl) hN) rfl rfl hl.1 rfl (lv_room (Nat.le_of_ble_eq_true rfl)) dX11_type_41 ⟨(Nat.le_of_ble_eq_true rfl), (Nat.le_of_ble_eq_true rfl)⟩) hP hD hS hA [] [0, 1] rfl rfl rfl (by decide) (fun r_342 u_341 H locs hw_343 hP hD hS => ?_)
      have hP : va_P (dC, dI) vwCl [(zy, .inr (11, [.ref zy0, .ref zy1, .int 0, .int 0, .int 0, .ref zy5, .int 0, .int 0, .ref zy8, .ref zy9, .ref zy10, .ref zy11, .ref zy12, .ref zy13, .ref zy14, .long 0, .ref zy16, .ref zy17, .ref zy18, .int 0, .long 0, .ref zy21, .ref zy22, .int 0, .ref zy24, .ref zy25, .ref zy26, .ref zy27])), (zy1, .inl (cy 0, 80, .inl (fun _ => 0)))] H := hP
      have hD : va_D A [(zy, .inr (11, [.ref zy0, .ref zy1, .int 0, .int 0, .int 0, .ref zy5, .int 0, .int 0, .ref zy8, .ref zy9, .ref zy10, .ref zy11, .ref zy12, .ref zy13, .ref zy14, .long 0, .ref zy16, .ref zy17, .ref zy18, .int 0, .long 0, .ref zy21, .ref zy22, .int 0, .ref zy24, .ref zy25, .ref zy26, .ref zy27])), (zy1, .inl (cy 0, 80, .inl (fun _ => 0)))] := hD
      have hw_343 : r_342 = if 32 ≤ w_340.toInt ∧ w_340.toInt ≤ 126 then 1 else 0 := hw_343
      refine lv_if_ne (tgt := 49) hx hb dX11_type_44 (by decide) (fun c_344 => ?_) (fun c_344 => ?_)
      · have f_345 : 32 ≤ w_340.toInt ∧ w_340.toInt ≤ 126 := bz_1 hw_343 c_344
        have g_346 : okb zja 6 := by unfold okb; rw [← tw_340]; exact f_345
        refine lv_iinc (v := 5) (lv' := [(4, .int 5), (0, .ref zy), (1, .long zja), (3, .int 7)]) hx hb dX11_type_49 hl (k := 0) rfl (by decide) (by decide) rfl (fun ls hl => ?_)
        refine lv_goto (tgt := 19) hx hb dX11_type_52 (by decide) ?_
        refine lv_iload hx hb dX11_type_19 (lv_at hl 0 rfl) ?_
        refine lv_if_lt (tgt := 55) hx hb dX11_type_21 (by decide) (fun c_347 => absurd c_347 (by decide)) (fun c_347 => ?_)
        refine lv_lload_n hx hb dX11_type_24 rfl (lv_at hl 2 rfl) ?_
        refine lv_bipush (v := 8) hx hb dX11_type_25 (by decide) ?_
        refine lv_iload hx hb dX11_type_27 (lv_at hl 0 rfl) ?_
        refine lv_imul hx hb dX11_type_29 ?_
        refine lv_topi (fun v_348 ev_348 => ?_)
        obtain rfl : v_348 = (40 : Int32) := ev_348.trans (by decide)
        refine lv_lshr (v := zja >>> ((40 : Int32).toInt64 &&& 63)) hx hb dX11_type_30 rfl ?_
        refine lv_ldc2 (v := 255) hx hb hown (hts (.constantLong RX11 106 255) (by decide +kernel)) dX11_type_31 ?_
        refine lv_land hx hb dX11_type_34 ?_
        refine lv_topl (fun w_349 ew_349 => ?_)
        have tw_349 : w_349.toInt = by8 zja 5 := by rw [ew_349]; exact by8_l5 zja
        refine lv_ldc2 (v := 32) hx hb hown (hts (.constantLong RX11 108 32) (by decide +kernel)) dX11_type_35 ?_
        refine lv_ldc2 (v := 126) hx hb hown (hts (.constantLong RX11 110 126) (by decide +kernel)) dX11_type_38 ?_
        refine cj_i (wc := []) (wr := [(zy, .inr (11, [.ref zy0, .ref zy1, .int 0, .int 0, .int 0, .ref zy5, .int 0, .int 0, .ref zy8, .ref zy9, .ref zy10, .ref zy11, .ref zy12, .ref zy13, .ref zy14, .long 0, .ref zy16, .ref zy17, .ref zy18, .int 0, .long 0, .ref zy21, .ref zy22, .int 0, .ref zy24, .ref zy25, .ref zy26, .ref zy27])), (zy1, .inl (cy 0, 80, .inl (fun _ => 0)))]) (w1 := fun (_ : Unit) => []) (va_runS (As := [.long w_349, .long 32, .long 126]) (rest := []) ⟨hx, hb, hml, hown, hts⟩ (c_X11_in l dC dI cy H.size w_349 32 126 32 126 w_349.toInt (by first | rfl | decide | omega | exact Int32.toInt_toInt64 _) (by first | rfl | decide | omega | exact Int32.toInt_toInt64 _) (by first | rfl | decide | omega | exact Int32.toInt_toInt64 _)) (va_cwS 3 hts gX11_type_X11_in rfl rfl rfl (by decide +kernel) ⟨(Nat.le_of_ble_eq_true rfl), (Nat.le_of_ble_eq_true rfl)⟩) (PRE.s (hP.sub [] rfl) hK (hD.sub [] (by decide) rfl) hN) rfl rfl hl.1 rfl (lv_room (Nat.le_of_ble_eq_true rfl)) dX11_type_41 ⟨(Nat.le_of_ble_eq_true rfl), (Nat.le_of_ble_eq_true rfl)⟩) hP hD hS hA [] [0, 1] rfl rfl rfl (by decide) (fun r_351 u_350 H locs hw_352 hP hD hS => ?_)
        have hP : va_P (dC, dI) vwCl [(zy, .inr (11, [.ref zy0, .ref zy1, .int 0, .int 0, .int 0, .ref zy5, .int 0, .int 0, .ref zy8, .ref zy9, .ref zy10, .ref zy11, .ref zy12, .ref zy13, .ref zy14, .long 0, .ref zy16, .ref zy17, .ref zy18, .int 0, .long 0, .ref zy21, .ref zy22, .int 0, .ref zy24, .ref zy25, .ref zy26, .ref zy27])), (zy1, .inl (cy 0, 80, .inl (fun _ => 0)))] H := hP
        have hD : va_D A [(zy, .inr (11, [.ref zy0, .ref zy1, .int 0, .int 0, .int 0, .ref zy5, .int 0, .int 0, .ref zy8, .ref zy9, .ref zy10, .ref zy11, .ref zy12, .ref zy13, .ref zy14, .long 0, .ref zy16, .ref zy17, .ref zy18, .int 0, .long 0, .ref zy21, .ref zy22, .int 0, .ref zy24, .ref zy25, .ref zy26, .ref zy27])), (zy1, .inl (cy 0, 80, .inl (fun _ => 0)))] := hD
        have hw_352 : r_351 = if 32 ≤ w_349.toInt ∧ w_349.toInt ≤ 126 then 1 else 0 := hw_352
        refine lv_if_ne (tgt := 49) hx hb dX11_type_44 (by decide) (fun c_353 => ?_) (fun c_353 => ?_)
        · have f_354 : 32 ≤ w_349.toInt ∧ w_349.toInt ≤ 126 := bz_1 hw_352 c_353
          have g_355 : okb zja 5 := by unfold okb; rw [← tw_349]; exact f_354
          refine lv_iinc (v := 4) (lv' := [(4, .int 4), (0, .ref zy), (1, .long zja), (3, .int 7)]) hx hb dX11_type_49 hl (k := 0) rfl (by decide) (by decide) rfl (fun ls hl => ?_)
          refine lv_goto (tgt := 19) hx hb dX11_type_52 (by decide) ?_
          refine lv_iload hx hb dX11_type_19 (lv_at hl 0 rfl) ?_
          refine lv_if_lt (tgt := 55) hx hb dX11_type_21 (by decide) (fun c_356 => absurd c_356 (by decide)) (fun c_356 => ?_)
          refine lv_lload_n hx hb dX11_type_24 rfl (lv_at hl 2 rfl) ?_
          refine lv_bipush (v := 8) hx hb dX11_type_25 (by decide) ?_
          refine lv_iload hx hb dX11_type_27 (lv_at hl 0 rfl) ?_
          refine lv_imul hx hb dX11_type_29 ?_
          refine lv_topi (fun v_357 ev_357 => ?_)
          obtain rfl : v_357 = (32 : Int32) := ev_357.trans (by decide)
          refine lv_lshr (v := zja >>> ((32 : Int32).toInt64 &&& 63)) hx hb dX11_type_30 rfl ?_
          refine lv_ldc2 (v := 255) hx hb hown (hts (.constantLong RX11 106 255) (by decide +kernel)) dX11_type_31 ?_
          refine lv_land hx hb dX11_type_34 ?_
          refine lv_topl (fun w_358 ew_358 => ?_)
          have tw_358 : w_358.toInt = by8 zja 4 := by rw [ew_358]; exact by8_l4 zja
          refine lv_ldc2 (v := 32) hx hb hown (hts (.constantLong RX11 108 32) (by decide +kernel)) dX11_type_35 ?_
          refine lv_ldc2 (v := 126) hx hb hown (hts (.constantLong RX11 110 126) (by decide +kernel)) dX11_type_38 ?_
          refine cj_i (wc := []) (wr := [(zy, .inr (11, [.ref zy0, .ref zy1, .int 0, .int 0, .int 0, .ref zy5, .int 0, .int 0, .ref zy8, .ref zy9, .ref zy10, .ref zy11, .ref zy12, .ref zy13, .ref zy14, .long 0, .ref zy16, .ref zy17, .ref zy18, .int 0, .long 0, .ref zy21, .ref zy22, .int 0, .ref zy24, .ref zy25, .ref zy26, .ref zy27])), (zy1, .inl (cy 0, 80, .inl (fun _ => 0)))]) (w1 := fun (_ : Unit) => []) (va_runS (As := [.long w_358, .long 32, .long 126]) (rest := []) ⟨hx, hb, hml, hown, hts⟩ (c_X11_in l dC dI cy H.size w_358 32 126 32 126 w_358.toInt (by first | rfl | decide | omega | exact Int32.toInt_toInt64 _) (by first | rfl | decide | omega | exact Int32.toInt_toInt64 _) (by first | rfl | decide | omega | exact Int32.toInt_toInt64 _)) (va_cwS 3 hts gX11_type_X11_in rfl rfl rfl (by decide +kernel) ⟨(Nat.le_of_ble_eq_true rfl), (Nat.le_of_ble_eq_true rfl)⟩) (PRE.s (hP.sub [] rfl) hK (hD.sub [] (by decide) rfl) hN) rfl rfl hl.1 rfl (lv_room (Nat.le_of_ble_eq_true rfl)) dX11_type_41 ⟨(Nat.le_of_ble_eq_true rfl), (Nat.le_of_ble_eq_true rfl)⟩) hP hD hS hA [] [0, 1] rfl rfl rfl (by decide) (fun r_360 u_359 H locs hw_361 hP hD hS => ?_)
          have hP : va_P (dC, dI) vwCl [(zy, .inr (11, [.ref zy0, .ref zy1, .int 0, .int 0, .int 0, .ref zy5, .int 0, .int 0, .ref zy8, .ref zy9, .ref zy10, .ref zy11, .ref zy12, .ref zy13, .ref zy14, .long 0, .ref zy16, .ref zy17, .ref zy18, .int 0, .long 0, .ref zy21, .ref zy22, .int 0, .ref zy24, .ref zy25, .ref zy26, .ref zy27])), (zy1, .inl (cy 0, 80, .inl (fun _ => 0)))] H := hP
          have hD : va_D A [(zy, .inr (11, [.ref zy0, .ref zy1, .int 0, .int 0, .int 0, .ref zy5, .int 0, .int 0, .ref zy8, .ref zy9, .ref zy10, .ref zy11, .ref zy12, .ref zy13, .ref zy14, .long 0, .ref zy16, .ref zy17, .ref zy18, .int 0, .long 0, .ref zy21, .ref zy22, .int 0, .ref zy24, .ref zy25, .ref zy26, .ref zy27])), (zy1, .inl (cy 0, 80, .inl (fun _ => 0)))] := hD
          have hw_361 : r_360 = if 32 ≤ w_358.toInt ∧ w_358.toInt ≤ 126 then 1 else 0 := hw_361
          refine lv_if_ne (tgt := 49) hx hb dX11_type_44 (by decide) (fun c_362 => ?_) (fun c_362 => ?_)
          · have f_363 : 32 ≤ w_358.toInt ∧ w_358.toInt ≤ 126 := bz_1 hw_361 c_362
            have g_364 : okb zja 4 := by unfold okb; rw [← tw_358]; exact f_363
            refine lv_iinc (v := 3) (lv' := [(4, .int 3), (0, .ref zy), (1, .long zja), (3, .int 7)]) hx hb dX11_type_49 hl (k := 0) rfl (by decide) (by decide) rfl (fun ls hl => ?_)
            refine lv_goto (tgt := 19) hx hb dX11_type_52 (by decide) ?_
            refine lv_iload hx hb dX11_type_19 (lv_at hl 0 rfl) ?_
            refine lv_if_lt (tgt := 55) hx hb dX11_type_21 (by decide) (fun c_365 => absurd c_365 (by decide)) (fun c_365 => ?_)
            refine lv_lload_n hx hb dX11_type_24 rfl (lv_at hl 2 rfl) ?_
            refine lv_bipush (v := 8) hx hb dX11_type_25 (by decide) ?_
            refine lv_iload hx hb dX11_type_27 (lv_at hl 0 rfl) ?_
            refine lv_imul hx hb dX11_type_29 ?_
            refine lv_topi (fun v_366 ev_366 => ?_)
            obtain rfl : v_366 = (24 : Int32) := ev_366.trans (by decide)
            refine lv_lshr (v := zja >>> ((24 : Int32).toInt64 &&& 63)) hx hb dX11_type_30 rfl ?_
            refine lv_ldc2 (v := 255) hx hb hown (hts (.constantLong RX11 106 255) (by decide +kernel)) dX11_type_31 ?_
            refine lv_land hx hb dX11_type_34 ?_
            refine lv_topl (fun w_367 ew_367 => ?_)
            have tw_367 : w_367.toInt = by8 zja 3 := by rw [ew_367]; exact by8_l3 zja
            refine lv_ldc2 (v := 32) hx hb hown (hts (.constantLong RX11 108 32) (by decide +kernel)) dX11_type_35 ?_
            refine lv_ldc2 (v := 126) hx hb hown (hts (.constantLong RX11 110 126) (by decide +kernel)) dX11_type_38 ?_
            refine cj_i (wc := []) (wr := [(zy, .inr (11, [.ref zy0, .ref zy1, .int 0, .int 0, .int 0, .ref zy5, .int 0, .int 0, .ref zy8, .ref zy9, .ref zy10, .ref zy11, .ref zy12, .ref zy13, .ref zy14, .long 0, .ref zy16, .ref zy17, .ref zy18, .int 0, .long 0, .ref zy21, .ref zy22, .int 0, .ref zy24, .ref zy25, .ref zy26, .ref zy27])), (zy1, .inl (cy 0, 80, .inl (fun _ => 0)))]) (w1 := fun (_ : Unit) => []) (va_runS (As := [.long w_367, .long 32, .long 126]) (rest := []) ⟨hx, hb, hml, hown, hts⟩ (c_X11_in l dC dI cy H.size w_367 32 126 32 126 w_367.toInt (by first | rfl | decide | omega | exact Int32.toInt_toInt64 _) (by first | rfl | decide | omega | exact Int32.toInt_toInt64 _) (by first | rfl | decide | omega | exact Int32.toInt_toInt64 _)) (va_cwS 3 hts gX11_type_X11_in rfl rfl rfl (by decide +kernel) ⟨(Nat.le_of_ble_eq_true rfl), (Nat.le_of_ble_eq_true rfl)⟩) (PRE.s (hP.sub [] rfl) hK (hD.sub [] (by decide) rfl) hN) rfl rfl hl.1 rfl (lv_room (Nat.le_of_ble_eq_true rfl)) dX11_type_41 ⟨(Nat.le_of_ble_eq_true rfl), (Nat.le_of_ble_eq_true rfl)⟩) hP hD hS hA [] [0, 1] rfl rfl rfl (by decide) (fun r_369 u_368 H locs hw_370 hP hD hS => ?_)
            have hP : va_P (dC, dI) vwCl [(zy, .inr (11, [.ref zy0, .ref zy1, .int 0, .int 0, .int 0, .ref zy5, .int 0, .int 0, .ref zy8, .ref zy9, .ref zy10, .ref zy11, .ref zy12, .ref zy13, .ref zy14, .long 0, .ref zy16, .ref zy17, .ref zy18, .int 0, .long 0, .ref zy21, .ref zy22, .int 0, .ref zy24, .ref zy25, .ref zy26, .ref zy27])), (zy1, .inl (cy 0, 80, .inl (fun _ => 0)))] H := hP
            have hD : va_D A [(zy, .inr (11, [.ref zy0, .ref zy1, .int 0, .int 0, .int 0, .ref zy5, .int 0, .int 0, .ref zy8, .ref zy9, .ref zy10, .ref zy11, .ref zy12, .ref zy13, .ref zy14, .long 0, .ref zy16, .ref zy17, .ref zy18, .int 0, .long 0, .ref zy21, .ref zy22, .int 0, .ref zy24, .ref zy25, .ref zy26, .ref zy27])), (zy1, .inl (cy 0, 80, .inl (fun _ => 0)))] := hD
            have hw_370 : r_369 = if 32 ≤ w_367.toInt ∧ w_367.toInt ≤ 126 then 1 else 0 := hw_370
            refine lv_if_ne (tgt := 49) hx hb dX11_type_44 (by decide) (fun c_371 => ?_) (fun c_371 => ?_)
            · have f_372 : 32 ≤ w_367.toInt ∧ w_367.toInt ≤ 126 := bz_1 hw_370 c_371
              have g_373 : okb zja 3 := by unfold okb; rw [← tw_367]; exact f_372
              refine lv_iinc (v := 2) (lv' := [(4, .int 2), (0, .ref zy), (1, .long zja), (3, .int 7)]) hx hb dX11_type_49 hl (k := 0) rfl (by decide) (by decide) rfl (fun ls hl => ?_)
              refine lv_goto (tgt := 19) hx hb dX11_type_52 (by decide) ?_
              refine lv_iload hx hb dX11_type_19 (lv_at hl 0 rfl) ?_
              refine lv_if_lt (tgt := 55) hx hb dX11_type_21 (by decide) (fun c_374 => absurd c_374 (by decide)) (fun c_374 => ?_)
              refine lv_lload_n hx hb dX11_type_24 rfl (lv_at hl 2 rfl) ?_
              refine lv_bipush (v := 8) hx hb dX11_type_25 (by decide) ?_
              refine lv_iload hx hb dX11_type_27 (lv_at hl 0 rfl) ?_
              refine lv_imul hx hb dX11_type_29 ?_
              refine lv_topi (fun v_375 ev_375 => ?_)
              obtain rfl : v_375 = (16 : Int32) := ev_375.trans (by decide)
              refine lv_lshr (v := zja >>> ((16 : Int32).toInt64 &&& 63)) hx hb dX11_type_30 rfl ?_
              refine lv_ldc2 (v := 255) hx hb hown (hts (.constantLong RX11 106 255) (by decide +kernel)) dX11_type_31 ?_
              refine lv_land hx hb dX11_type_34 ?_
              refine lv_topl (fun w_376 ew_376 => ?_)
              have tw_376 : w_376.toInt = by8 zja 2 := by rw [ew_376]; exact by8_l2 zja
              refine lv_ldc2 (v := 32) hx hb hown (hts (.constantLong RX11 108 32) (by decide +kernel)) dX11_type_35 ?_
              refine lv_ldc2 (v := 126) hx hb hown (hts (.constantLong RX11 110 126) (by decide +kernel)) dX11_type_38 ?_
              refine cj_i (wc := []) (wr := [(zy, .inr (11, [.ref zy0, .ref zy1, .int 0, .int 0, .int 0, .ref zy5, .int 0, .int 0, .ref zy8, .ref zy9, .ref zy10, .ref zy11, .ref zy12, .ref zy13, .ref zy14, .long 0, .ref zy16, .ref zy17, .ref zy18, .int 0, .long 0, .ref zy21, .ref zy22, .int 0, .ref zy24, .ref zy25, .ref zy26, .ref zy27])), (zy1, .inl (cy 0, 80, .inl (fun _ => 0)))]) (w1 := fun (_ : Unit) => []) (va_runS (As := [.long w_376, .long 32, .long 126]) (rest := []) ⟨hx, hb, hml, hown, hts⟩ (c_X11_in l dC dI cy H.size w_376 32 126 32 126 w_376.toInt (by first | rfl | decide | omega | exact Int32.toInt_toInt64 _) (by first | rfl | decide | omega | exact Int32.toInt_toInt64 _) (by first | rfl | decide | omega | exact Int32.toInt_toInt64 _)) (va_cwS 3 hts gX11_type_X11_in rfl rfl rfl (by decide +kernel) ⟨(Nat.le_of_ble_eq_true rfl), (Nat.le_of_ble_eq_true rfl)⟩) (PRE.s (hP.sub [] rfl) hK (hD.sub [] (by decide) rfl) hN) rfl rfl hl.1 rfl (lv_room (Nat.le_of_ble_eq_true rfl)) dX11_type_41 ⟨(Nat.le_of_ble_eq_true rfl), (Nat.le_of_ble_eq_true rfl)⟩) hP hD hS hA [] [0, 1] rfl rfl rfl (by decide) (fun r_378 u_377 H locs hw_379 hP hD hS => ?_)
              have hP : va_P (dC, dI) vwCl [(zy, .inr (11, [.ref zy0, .ref zy1, .int 0, .int 0, .int 0, .ref zy5, .int 0, .int 0, .ref zy8, .ref zy9, .ref zy10, .ref zy11, .ref zy12, .ref zy13, .ref zy14, .long 0, .ref zy16, .ref zy17, .ref zy18, .int 0, .long 0, .ref zy21, .ref zy22, .int 0, .ref zy24, .ref zy25, .ref zy26, .ref zy27])), (zy1, .inl (cy 0, 80, .inl (fun _ => 0)))] H := hP
              have hD : va_D A [(zy, .inr (11, [.ref zy0, .ref zy1, .int 0, .int 0, .int 0, .ref zy5, .int 0, .int 0, .ref zy8, .ref zy9, .ref zy10, .ref zy11, .ref zy12, .ref zy13, .ref zy14, .long 0, .ref zy16, .ref zy17, .ref zy18, .int 0, .long 0, .ref zy21, .ref zy22, .int 0, .ref zy24, .ref zy25, .ref zy26, .ref zy27])), (zy1, .inl (cy 0, 80, .inl (fun _ => 0)))] := hD
              have hw_379 : r_378 = if 32 ≤ w_376.toInt ∧ w_376.toInt ≤ 126 then 1 else 0 := hw_379
              refine lv_if_ne (tgt := 49) hx hb dX11_type_44 (by decide) (fun c_380 => ?_) (fun c_380 => ?_)
              · have f_381 : 32 ≤ w_376.toInt ∧ w_376.toInt ≤ 126 := bz_1 hw_379 c_380
                have g_382 : okb zja 2 := by unfold okb; rw [← tw_376]; exact f_381
                refine lv_iinc (v := 1) (lv' := [(4, .int 1), (0, .ref zy), (1, .long zja), (3, .int 7)]) hx hb dX11_type_49 hl (k := 0) rfl (by decide) (by decide) rfl (fun ls hl => ?_)
                refine lv_goto (tgt := 19) hx hb dX11_type_52 (by decide) ?_
                refine lv_iload hx hb dX11_type_19 (lv_at hl 0 rfl) ?_
                refine lv_if_lt (tgt := 55) hx hb dX11_type_21 (by decide) (fun c_383 => absurd c_383 (by decide)) (fun c_383 => ?_)
                refine lv_lload_n hx hb dX11_type_24 rfl (lv_at hl 2 rfl) ?_
                refine lv_bipush (v := 8) hx hb dX11_type_25 (by decide) ?_
                refine lv_iload hx hb dX11_type_27 (lv_at hl 0 rfl) ?_
                refine lv_imul hx hb dX11_type_29 ?_
                refine lv_topi (fun v_384 ev_384 => ?_)
                obtain rfl : v_384 = (8 : Int32) := ev_384.trans (by decide)
                refine lv_lshr (v := zja >>> ((8 : Int32).toInt64 &&& 63)) hx hb dX11_type_30 rfl ?_
                refine lv_ldc2 (v := 255) hx hb hown (hts (.constantLong RX11 106 255) (by decide +kernel)) dX11_type_31 ?_
                refine lv_land hx hb dX11_type_34 ?_
                refine lv_topl (fun w_385 ew_385 => ?_)
                have tw_385 : w_385.toInt = by8 zja 1 := by rw [ew_385]; exact by8_l1 zja
                refine lv_ldc2 (v := 32) hx hb hown (hts (.constantLong RX11 108 32) (by decide +kernel)) dX11_type_35 ?_
                refine lv_ldc2 (v := 126) hx hb hown (hts (.constantLong RX11 110 126) (by decide +kernel)) dX11_type_38 ?_
                refine cj_i (wc := []) (wr := [(zy, .inr (11, [.ref zy0, .ref zy1, .int 0, .int 0, .int 0, .ref zy5, .int 0, .int 0, .ref zy8, .ref zy9, .ref zy10, .ref zy11, .ref zy12, .ref zy13, .ref zy14, .long 0, .ref zy16, .ref zy17, .ref zy18, .int 0, .long 0, .ref zy21, .ref zy22, .int 0, .ref zy24, .ref zy25, .ref zy26, .ref zy27])), (zy1, .inl (cy 0, 80, .inl (fun _ => 0)))]) (w1 := fun (_ : Unit) => []) (va_runS (As := [.long w_385, .long 32, .long 126]) (rest := []) ⟨hx, hb, hml, hown, hts⟩ (c_X11_in l dC dI cy H.size w_385 32 126 32 126 w_385.toInt (by first | rfl | decide | omega | exact Int32.toInt_toInt64 _) (by first | rfl | decide | omega | exact Int32.toInt_toInt64 _) (by first | rfl | decide | omega | exact Int32.toInt_toInt64 _)) (va_cwS 3 hts gX11_type_X11_in rfl rfl rfl (by decide +kernel) ⟨(Nat.le_of_ble_eq_true rfl), (Nat.le_of_ble_eq_true rfl)⟩) (PRE.s (hP.sub [] rfl) hK (hD.sub [] (by decide) rfl) hN) rfl rfl hl.1 rfl (lv_room (Nat.le_of_ble_eq_true rfl)) dX11_type_41 ⟨(Nat.le_of_ble_eq_true rfl), (Nat.le_of_ble_eq_true rfl)⟩) hP hD hS hA [] [0, 1] rfl rfl rfl (by decide) (fun r_387 u_386 H locs hw_388 hP hD hS => ?_)
                have hP : va_P (dC, dI) vwCl [(zy, .inr (11, [.ref zy0, .ref zy1, .int 0, .int 0, .int 0, .ref zy5, .int 0, .int 0, .ref zy8, .ref zy9, .ref zy10, .ref zy11, .ref zy12, .ref zy13, .ref zy14, .long 0, .ref zy16, .ref zy17, .ref zy18, .int 0, .long 0, .ref zy21, .ref zy22, .int 0, .ref zy24, .ref zy25, .ref zy26, .ref zy27])), (zy1, .inl (cy 0, 80, .inl (fun _ => 0)))] H := hP
                have hD : va_D A [(zy, .inr (11, [.ref zy0, .ref zy1, .int 0, .int 0, .int 0, .ref zy5, .int 0, .int 0, .ref zy8, .ref zy9, .ref zy10, .ref zy11, .ref zy12, .ref zy13, .ref zy14, .long 0, .ref zy16, .ref zy17, .ref zy18, .int 0, .long 0, .ref zy21, .ref zy22, .int 0, .ref zy24, .ref zy25, .ref zy26, .ref zy27])), (zy1, .inl (cy 0, 80, .inl (fun _ => 0)))] := hD
                have hw_388 : r_387 = if 32 ≤ w_385.toInt ∧ w_385.toInt ≤ 126 then 1 else 0 := hw_388
                refine lv_if_ne (tgt := 49) hx hb dX11_type_44 (by decide) (fun c_389 => ?_) (fun c_389 => ?_)
                · have f_390 : 32 ≤ w_385.toInt ∧ w_385.toInt ≤ 126 := bz_1 hw_388 c_389
                  have g_391 : okb zja 1 := by unfold okb; rw [← tw_385]; exact f_390
                  refine lv_iinc (v := 0) (lv' := [(4, .int 0), (0, .ref zy), (1, .long zja), (3, .int 7)]) hx hb dX11_type_49 hl (k := 0) rfl (by decide) (by decide) rfl (fun ls hl => ?_)
                  refine lv_goto (tgt := 19) hx hb dX11_type_52 (by decide) ?_
                  refine lv_iload hx hb dX11_type_19 (lv_at hl 0 rfl) ?_
                  refine lv_if_lt (tgt := 55) hx hb dX11_type_21 (by decide) (fun c_392 => absurd c_392 (by decide)) (fun c_392 => ?_)
                  refine lv_lload_n hx hb dX11_type_24 rfl (lv_at hl 2 rfl) ?_
                  refine lv_bipush (v := 8) hx hb dX11_type_25 (by decide) ?_
                  refine lv_iload hx hb dX11_type_27 (lv_at hl 0 rfl) ?_
                  refine lv_imul hx hb dX11_type_29 ?_
                  refine lv_topi (fun v_393 ev_393 => ?_)
                  obtain rfl : v_393 = (0 : Int32) := ev_393.trans (by decide)
                  refine lv_lshr (v := zja >>> ((0 : Int32).toInt64 &&& 63)) hx hb dX11_type_30 rfl ?_
                  refine lv_ldc2 (v := 255) hx hb hown (hts (.constantLong RX11 106 255) (by decide +kernel)) dX11_type_31 ?_
                  refine lv_land hx hb dX11_type_34 ?_
                  refine lv_topl (fun w_394 ew_394 => ?_)
                  have tw_394 : w_394.toInt = by8 zja 0 := by rw [ew_394]; exact by8_l0 zja
                  refine lv_ldc2 (v := 32) hx hb hown (hts (.constantLong RX11 108 32) (by decide +kernel)) dX11_type_35 ?_
                  refine lv_ldc2 (v := 126) hx hb hown (hts (.constantLong RX11 110 126) (by decide +kernel)) dX11_type_38 ?_
                  refine cj_i (wc := []) (wr := [(zy, .inr (11, [.ref zy0, .ref zy1, .int 0, .int 0, .int 0, .ref zy5, .int 0, .int 0, .ref zy8, .ref zy9, .ref zy10, .ref zy11, .ref zy12, .ref zy13, .ref zy14, .long 0, .ref zy16, .ref zy17, .ref zy18, .int 0, .long 0, .ref zy21, .ref zy22, .int 0, .ref zy24, .ref zy25, .ref zy26, .ref zy27])), (zy1, .inl (cy 0, 80, .inl (fun _ => 0)))]) (w1 := fun (_ : Unit) => []) (va_runS (As := [.long w_394, .long 32, .long 126]) (rest := []) ⟨hx, hb, hml, hown, hts⟩ (c_X11_in l dC dI cy H.size w_394 32 126 32 126 w_394.toInt (by first | rfl | decide | omega | exact Int32.toInt_toInt64 _) (by first | rfl | decide | omega | exact Int32.toInt_toInt64 _) (by first | rfl | decide | omega | exact Int32.toInt_toInt64 _)) (va_cwS 3 hts gX11_type_X11_in rfl rfl rfl (by decide +kernel) ⟨(Nat.le_of_ble_eq_true rfl), (Nat.le_of_ble_eq_true rfl)⟩) (PRE.s (hP.sub [] rfl) hK (hD.sub [] (by decide) rfl) hN) rfl rfl hl.1 rfl (lv_room (Nat.le_of_ble_eq_true rfl)) dX11_type_41 ⟨(Nat.le_of_ble_eq_true rfl), (Nat.le_of_ble_eq_true rfl)⟩) hP hD hS hA [] [0, 1] rfl rfl rfl (by decide) (fun r_396 u_395 H locs hw_397 hP hD hS => ?_)
                  have hP : va_P (dC, dI) vwCl [(zy, .inr (11, [.ref zy0, .ref zy1, .int 0, .int 0, .int 0, .ref zy5, .int 0, .int 0, .ref zy8, .ref zy9, .ref zy10, .ref zy11, .ref zy12, .ref zy13, .ref zy14, .long 0, .ref zy16, .ref zy17, .ref zy18, .int 0, .long 0, .ref zy21, .ref zy22, .int 0, .ref zy24, .ref zy25, .ref zy26, .ref zy27])), (zy1, .inl (cy 0, 80, .inl (fun _ => 0)))] H := hP
                  have hD : va_D A [(zy, .inr (11, [.ref zy0, .ref zy1, .int 0, .int 0, .int 0, .ref zy5, .int 0, .int 0, .ref zy8, .ref zy9, .ref zy10, .ref zy11, .ref zy12, .ref zy13, .ref zy14, .long 0, .ref zy16, .ref zy17, .ref zy18, .int 0, .long 0, .ref zy21, .ref zy22, .int 0, .ref zy24, .ref zy25, .ref zy26, .ref zy27])), (zy1, .inl (cy 0, 80, .inl (fun _ => 0)))] := hD
                  have hw_397 : r_396 = if 32 ≤ w_394.toInt ∧ w_394.toInt ≤ 126 then 1 else 0 := hw_397
                  refine lv_if_ne (tgt := 49) hx hb dX11_type_44 (by decide) (fun c_398 => ?_) (fun c_398 => ?_)
                  · have f_399 : 32 ≤ w_394.toInt ∧ w_394.toInt ≤ 126 := bz_1 hw_397 c_398
                    have g_400 : okb zja 0 := by unfold okb; rw [← tw_394]; exact f_399
                    refine lv_iinc (v := (-1)) (lv' := [(4, .int (-1)), (0, .ref zy), (1, .long zja), (3, .int 7)]) hx hb dX11_type_49 hl (k := 0) rfl (by decide) (by decide) rfl (fun ls hl => ?_)
                    refine lv_goto (tgt := 19) hx hb dX11_type_52 (by decide) ?_
                    refine lv_iload hx hb dX11_type_19 (lv_at hl 0 rfl) ?_
                    refine lv_if_lt (tgt := 55) hx hb dX11_type_21 (by decide) (fun c_401 => ?_) (fun c_401 => absurd (by decide) c_401)
                    refine lv_aload_n hx hb dX11_type_55 rfl (lv_at hl 1 rfl) ?_
                    refine va_get (D := (dC, dI)) (ci := 11) (v := .int 0) (C := RX11) (T := TX11) (N := 28) hx hb hts (by decide +kernel) hown hK hP 0 rfl rfl 2 (by decide) (hts (.fieldLink RX11 112 "DripStoneModel" "taped" "I") (by decide +kernel)) (fun _ h9 => h9) rfl dX11_type_56 ?_
                    refine lv_iload_n hx hb dX11_type_59 rfl (lv_at hl 3 rfl) ?_
                    refine lv_iadd hx hb dX11_type_60 ?_
                    refine lv_topi (fun v_402 ev_402 => ?_)
                    obtain rfl : v_402 = (7 : Int32) := ev_402.trans (by decide)
                    refine lv_bipush (v := 80) hx hb dX11_type_61 (by decide) ?_
                    refine lv_icmp_le (tgt := 69) hx hb dX11_type_63 (by decide) (fun c_403 => ?_) (fun c_403 => absurd (by decide) c_403)
                    refine lv_iload_n hx hb dX11_type_69 rfl (lv_at hl 3 rfl) ?_
                    refine lv_iconst (v := 1) hx hb dX11_type_70 (by decide) ?_
                    refine lv_isub hx hb dX11_type_71 ?_
                    refine lv_topi (fun v_404 ev_404 => ?_)
                    obtain rfl : v_404 = (6 : Int32) := ev_404.trans (by decide)
                    refine lv_istore (lv' := [(4, .int 6), (0, .ref zy), (1, .long zja), (3, .int 7)]) hx hb dX11_type_72 hl (by decide) rfl (fun ls hl => ?_)
                    refine lv_iload hx hb dX11_type_74 (lv_at hl 0 rfl) ?_
                    refine lv_if_lt (tgt := 116) hx hb dX11_type_76 (by decide) (fun c_405 => absurd c_405 (by decide)) (fun c_405 => ?_)
                    refine lv_aload_n hx hb dX11_type_79 rfl (lv_at hl 1 rfl) ?_
                    refine va_get (D := (dC, dI)) (ci := 11) (v := .ref zy1) (C := RX11) (T := TX11) (N := 28) hx hb hts (by decide +kernel) hown hK hP 0 rfl rfl 1 (by decide) (hts (.fieldLink RX11 13 "DripStoneModel" "tape" "[I") (by decide +kernel)) (fun _ h9 => h9) rfl dX11_type_80 ?_
                    refine lv_aload_n hx hb dX11_type_83 rfl (lv_at hl 1 rfl) ?_
                    refine va_get (D := (dC, dI)) (ci := 11) (v := .int 0) (C := RX11) (T := TX11) (N := 28) hx hb hts (by decide +kernel) hown hK hP 0 rfl rfl 2 (by decide) (hts (.fieldLink RX11 112 "DripStoneModel" "taped" "I") (by decide +kernel)) (fun _ h9 => h9) rfl dX11_type_84 ?_
                    refine lv_lload_n hx hb dX11_type_87 rfl (lv_at hl 2 rfl) ?_
                    refine lv_bipush (v := 8) hx hb dX11_type_88 (by decide) ?_
                    refine lv_iload hx hb dX11_type_90 (lv_at hl 0 rfl) ?_
                    refine lv_imul hx hb dX11_type_92 ?_
                    refine lv_topi (fun v_406 ev_406 => ?_)
                    obtain rfl : v_406 = (48 : Int32) := ev_406.trans (by decide)
                    refine lv_lshr (v := zja >>> ((48 : Int32).toInt64 &&& 63)) hx hb dX11_type_93 rfl ?_
                    refine lv_ldc2 (v := 255) hx hb hown (hts (.constantLong RX11 106 255) (by decide +kernel)) dX11_type_94 ?_
                    refine lv_land hx hb dX11_type_97 ?_
                    refine lv_topl (fun w_407 ew_407 => ?_)
                    have tw_407 : w_407.toInt = by8 zja 6 := by rw [ew_407]; exact by8_l6 zja
                    refine lv_l2i (v := w_407.toInt32) hx hb dX11_type_98 rfl ?_
                    refine va_iast hx hb hK hP hD hS 1 0 rfl rfl (vp_in_iff.mpr ⟨by decide, by decide⟩) dX11_type_99 (fun H locs hP hD hS => ?_)
                    have hP : va_P (dC, dI) vwCl [(zy, .inr (11, [.ref zy0, .ref zy1, .int 0, .int 0, .int 0, .ref zy5, .int 0, .int 0, .ref zy8, .ref zy9, .ref zy10, .ref zy11, .ref zy12, .ref zy13, .ref zy14, .long 0, .ref zy16, .ref zy17, .ref zy18, .int 0, .long 0, .ref zy21, .ref zy22, .int 0, .ref zy24, .ref zy25, .ref zy26, .ref zy27])), (zy1, .inl (cy 0, 80, .inl (upd (fun _ => 0) (0 : Int32).toNatClampNeg w_407.toInt32)))] H := hP
                    have hD : va_D A [(zy, .inr (11, [.ref zy0, .ref zy1, .int 0, .int 0, .int 0, .ref zy5, .int 0, .int 0, .ref zy8, .ref zy9, .ref zy10, .ref zy11, .ref zy12, .ref zy13, .ref zy14, .long 0, .ref zy16, .ref zy17, .ref zy18, .int 0, .long 0, .ref zy21, .ref zy22, .int 0, .ref zy24, .ref zy25, .ref zy26, .ref zy27])), (zy1, .inl (cy 0, 80, .inl (upd (fun _ => 0) (0 : Int32).toNatClampNeg w_407.toInt32)))] := hD
                    refine lv_aload_n hx hb dX11_type_100 rfl (lv_at hl 1 rfl) ?_
                    refine lv_dup hx hb dX11_type_101 rfl ?_
                    refine va_get (D := (dC, dI)) (ci := 11) (v := .int 0) (C := RX11) (T := TX11) (N := 28) hx hb hts (by decide +kernel) hown hK hP 0 rfl rfl 2 (by decide) (hts (.fieldLink RX11 112 "DripStoneModel" "taped" "I") (by decide +kernel)) (fun _ h9 => h9) rfl dX11_type_102 ?_
                    refine lv_iconst (v := 1) hx hb dX11_type_105 (by decide) ?_
                    refine lv_iadd hx hb dX11_type_106 ?_
                    refine lv_topi (fun v_408 ev_408 => ?_)
                    obtain rfl : v_408 = (1 : Int32) := ev_408.trans (by decide)
                    refine va_put (D := (dC, dI)) (ci := 11) (v := .int 1) (ty := .int) (C := RX11) (T := TX11) (N := 28) hx hb hts (by decide +kernel) tyX11 tyX11_ok nmX11 hown hK hP hD hS 0 rfl rfl 2 (by decide) (hts (.fieldLink RX11 112 "DripStoneModel" "taped" "I") (by decide +kernel)) (fun _ h9 => h9) rfl (by decide +kernel) rfl rfl (Nat.le_of_ble_eq_true rfl) dX11_type_107 (fun H locs hP hD hS => ?_)
                    have hP : va_P (dC, dI) vwCl [(zy, .inr (11, [.ref zy0, .ref zy1, .int 1, .int 0, .int 0, .ref zy5, .int 0, .int 0, .ref zy8, .ref zy9, .ref zy10, .ref zy11, .ref zy12, .ref zy13, .ref zy14, .long 0, .ref zy16, .ref zy17, .ref zy18, .int 0, .long 0, .ref zy21, .ref zy22, .int 0, .ref zy24, .ref zy25, .ref zy26, .ref zy27])), (zy1, .inl (cy 0, 80, .inl (upd (fun _ => 0) (0 : Int32).toNatClampNeg w_407.toInt32)))] H := hP
                    have hD : va_D A [(zy, .inr (11, [.ref zy0, .ref zy1, .int 1, .int 0, .int 0, .ref zy5, .int 0, .int 0, .ref zy8, .ref zy9, .ref zy10, .ref zy11, .ref zy12, .ref zy13, .ref zy14, .long 0, .ref zy16, .ref zy17, .ref zy18, .int 0, .long 0, .ref zy21, .ref zy22, .int 0, .ref zy24, .ref zy25, .ref zy26, .ref zy27])), (zy1, .inl (cy 0, 80, .inl (upd (fun _ => 0) (0 : Int32).toNatClampNeg w_407.toInt32)))] := hD
                    refine lv_iinc (v := 5) (lv' := [(4, .int 5), (0, .ref zy), (1, .long zja), (3, .int 7)]) hx hb dX11_type_110 hl (k := 0) rfl (by decide) (by decide) rfl (fun ls hl => ?_)
                    refine lv_goto (tgt := 74) hx hb dX11_type_113 (by decide) ?_
                    refine lv_iload hx hb dX11_type_74 (lv_at hl 0 rfl) ?_
                    refine lv_if_lt (tgt := 116) hx hb dX11_type_76 (by decide) (fun c_409 => absurd c_409 (by decide)) (fun c_409 => ?_)
                    refine lv_aload_n hx hb dX11_type_79 rfl (lv_at hl 1 rfl) ?_
                    refine va_get (D := (dC, dI)) (ci := 11) (v := .ref zy1) (C := RX11) (T := TX11) (N := 28) hx hb hts (by decide +kernel) hown hK hP 0 rfl rfl 1 (by decide) (hts (.fieldLink RX11 13 "DripStoneModel" "tape" "[I") (by decide +kernel)) (fun _ h9 => h9) rfl dX11_type_80 ?_
                    refine lv_aload_n hx hb dX11_type_83 rfl (lv_at hl 1 rfl) ?_
                    refine va_get (D := (dC, dI)) (ci := 11) (v := .int 1) (C := RX11) (T := TX11) (N := 28) hx hb hts (by decide +kernel) hown hK hP 0 rfl rfl 2 (by decide) (hts (.fieldLink RX11 112 "DripStoneModel" "taped" "I") (by decide +kernel)) (fun _ h9 => h9) rfl dX11_type_84 ?_
                    refine lv_lload_n hx hb dX11_type_87 rfl (lv_at hl 2 rfl) ?_
                    refine lv_bipush (v := 8) hx hb dX11_type_88 (by decide) ?_
                    refine lv_iload hx hb dX11_type_90 (lv_at hl 0 rfl) ?_
                    refine lv_imul hx hb dX11_type_92 ?_
                    refine lv_topi (fun v_410 ev_410 => ?_)
                    obtain rfl : v_410 = (40 : Int32) := ev_410.trans (by decide)
                    refine lv_lshr (v := zja >>> ((40 : Int32).toInt64 &&& 63)) hx hb dX11_type_93 rfl ?_
                    refine lv_ldc2 (v := 255) hx hb hown (hts (.constantLong RX11 106 255) (by decide +kernel)) dX11_type_94 ?_
                    refine lv_land hx hb dX11_type_97 ?_
                    refine lv_topl (fun w_411 ew_411 => ?_)
                    have tw_411 : w_411.toInt = by8 zja 5 := by rw [ew_411]; exact by8_l5 zja
                    refine lv_l2i (v := w_411.toInt32) hx hb dX11_type_98 rfl ?_
                    refine va_iast hx hb hK hP hD hS 1 0 rfl rfl (vp_in_iff.mpr ⟨by decide, by decide⟩) dX11_type_99 (fun H locs hP hD hS => ?_)
                    have hP : va_P (dC, dI) vwCl [(zy, .inr (11, [.ref zy0, .ref zy1, .int 1, .int 0, .int 0, .ref zy5, .int 0, .int 0, .ref zy8, .ref zy9, .ref zy10, .ref zy11, .ref zy12, .ref zy13, .ref zy14, .long 0, .ref zy16, .ref zy17, .ref zy18, .int 0, .long 0, .ref zy21, .ref zy22, .int 0, .ref zy24, .ref zy25, .ref zy26, .ref zy27])), (zy1, .inl (cy 0, 80, .inl (upd (upd (fun _ => 0) (0 : Int32).toNatClampNeg w_407.toInt32) (1 : Int32).toNatClampNeg w_411.toInt32)))] H := hP
                    have hD : va_D A [(zy, .inr (11, [.ref zy0, .ref zy1, .int 1, .int 0, .int 0, .ref zy5, .int 0, .int 0, .ref zy8, .ref zy9, .ref zy10, .ref zy11, .ref zy12, .ref zy13, .ref zy14, .long 0, .ref zy16, .ref zy17, .ref zy18, .int 0, .long 0, .ref zy21, .ref zy22, .int 0, .ref zy24, .ref zy25, .ref zy26, .ref zy27])), (zy1, .inl (cy 0, 80, .inl (upd (upd (fun _ => 0) (0 : Int32).toNatClampNeg w_407.toInt32) (1 : Int32).toNatClampNeg w_411.toInt32)))] := hD
                    refine lv_aload_n hx hb dX11_type_100 rfl (lv_at hl 1 rfl) ?_
                    refine lv_dup hx hb dX11_type_101 rfl ?_
                    refine va_get (D := (dC, dI)) (ci := 11) (v := .int 1) (C := RX11) (T := TX11) (N := 28) hx hb hts (by decide +kernel) hown hK hP 0 rfl rfl 2 (by decide) (hts (.fieldLink RX11 112 "DripStoneModel" "taped" "I") (by decide +kernel)) (fun _ h9 => h9) rfl dX11_type_102 ?_
                    refine lv_iconst (v := 1) hx hb dX11_type_105 (by decide) ?_
                    refine lv_iadd hx hb dX11_type_106 ?_
                    refine lv_topi (fun v_412 ev_412 => ?_)
                    obtain rfl : v_412 = (2 : Int32) := ev_412.trans (by decide)
                    refine va_put (D := (dC, dI)) (ci := 11) (v := .int 2) (ty := .int) (C := RX11) (T := TX11) (N := 28) hx hb hts (by decide +kernel) tyX11 tyX11_ok nmX11 hown hK hP hD hS 0 rfl rfl 2 (by decide) (hts (.fieldLink RX11 112 "DripStoneModel" "taped" "I") (by decide +kernel)) (fun _ h9 => h9) rfl (by decide +kernel) rfl rfl (Nat.le_of_ble_eq_true rfl) dX11_type_107 (fun H locs hP hD hS => ?_)
                    have hP : va_P (dC, dI) vwCl [(zy, .inr (11, [.ref zy0, .ref zy1, .int 2, .int 0, .int 0, .ref zy5, .int 0, .int 0, .ref zy8, .ref zy9, .ref zy10, .ref zy11, .ref zy12, .ref zy13, .ref zy14, .long 0, .ref zy16, .ref zy17, .ref zy18, .int 0, .long 0, .ref zy21, .ref zy22, .int 0, .ref zy24, .ref zy25, .ref zy26, .ref zy27])), (zy1, .inl (cy 0, 80, .inl (upd (upd (fun _ => 0) (0 : Int32).toNatClampNeg w_407.toInt32) (1 : Int32).toNatClampNeg w_411.toInt32)))] H := hP
                    have hD : va_D A [(zy, .inr (11, [.ref zy0, .ref zy1, .int 2, .int 0, .int 0, .ref zy5, .int 0, .int 0, .ref zy8, .ref zy9, .ref zy10, .ref zy11, .ref zy12, .ref zy13, .ref zy14, .long 0, .ref zy16, .ref zy17, .ref zy18, .int 0, .long 0, .ref zy21, .ref zy22, .int 0, .ref zy24, .ref zy25, .ref zy26, .ref zy27])), (zy1, .inl (cy 0, 80, .inl (upd (upd (fun _ => 0) (0 : Int32).toNatClampNeg w_407.toInt32) (1 : Int32).toNatClampNeg w_411.toInt32)))] := hD
                    refine lv_iinc (v := 4) (lv' := [(4, .int 4), (0, .ref zy), (1, .long zja), (3, .int 7)]) hx hb dX11_type_110 hl (k := 0) rfl (by decide) (by decide) rfl (fun ls hl => ?_)
                    refine lv_goto (tgt := 74) hx hb dX11_type_113 (by decide) ?_
                    refine lv_iload hx hb dX11_type_74 (lv_at hl 0 rfl) ?_
                    refine lv_if_lt (tgt := 116) hx hb dX11_type_76 (by decide) (fun c_413 => absurd c_413 (by decide)) (fun c_413 => ?_)
                    refine lv_aload_n hx hb dX11_type_79 rfl (lv_at hl 1 rfl) ?_
                    refine va_get (D := (dC, dI)) (ci := 11) (v := .ref zy1) (C := RX11) (T := TX11) (N := 28) hx hb hts (by decide +kernel) hown hK hP 0 rfl rfl 1 (by decide) (hts (.fieldLink RX11 13 "DripStoneModel" "tape" "[I") (by decide +kernel)) (fun _ h9 => h9) rfl dX11_type_80 ?_
                    refine lv_aload_n hx hb dX11_type_83 rfl (lv_at hl 1 rfl) ?_
                    refine va_get (D := (dC, dI)) (ci := 11) (v := .int 2) (C := RX11) (T := TX11) (N := 28) hx hb hts (by decide +kernel) hown hK hP 0 rfl rfl 2 (by decide) (hts (.fieldLink RX11 112 "DripStoneModel" "taped" "I") (by decide +kernel)) (fun _ h9 => h9) rfl dX11_type_84 ?_
                    refine lv_lload_n hx hb dX11_type_87 rfl (lv_at hl 2 rfl) ?_
                    refine lv_bipush (v := 8) hx hb dX11_type_88 (by decide) ?_
                    refine lv_iload hx hb dX11_type_90 (lv_at hl 0 rfl) ?_
                    refine lv_imul hx hb dX11_type_92 ?_
                    refine lv_topi (fun v_414 ev_414 => ?_)
                    obtain rfl : v_414 = (32 : Int32) := ev_414.trans (by decide)
                    refine lv_lshr (v := zja >>> ((32 : Int32).toInt64 &&& 63)) hx hb dX11_type_93 rfl ?_
                    refine lv_ldc2 (v := 255) hx hb hown (hts (.constantLong RX11 106 255) (by decide +kernel)) dX11_type_94 ?_
                    refine lv_land hx hb dX11_type_97 ?_
                    refine lv_topl (fun w_415 ew_415 => ?_)
                    have tw_415 : w_415.toInt = by8 zja 4 := by rw [ew_415]; exact by8_l4 zja
                    refine lv_l2i (v := w_415.toInt32) hx hb dX11_type_98 rfl ?_
                    refine va_iast hx hb hK hP hD hS 1 0 rfl rfl (vp_in_iff.mpr ⟨by decide, by decide⟩) dX11_type_99 (fun H locs hP hD hS => ?_)
                    have hP : va_P (dC, dI) vwCl [(zy, .inr (11, [.ref zy0, .ref zy1, .int 2, .int 0, .int 0, .ref zy5, .int 0, .int 0, .ref zy8, .ref zy9, .ref zy10, .ref zy11, .ref zy12, .ref zy13, .ref zy14, .long 0, .ref zy16, .ref zy17, .ref zy18, .int 0, .long 0, .ref zy21, .ref zy22, .int 0, .ref zy24, .ref zy25, .ref zy26, .ref zy27])), (zy1, .inl (cy 0, 80, .inl (upd (upd (upd (fun _ => 0) (0 : Int32).toNatClampNeg w_407.toInt32) (1 : Int32).toNatClampNeg w_411.toInt32) (2 : Int32).toNatClampNeg w_415.toInt32)))] H := hP
                    have hD : va_D A [(zy, .inr (11, [.ref zy0, .ref zy1, .int 2, .int 0, .int 0, .ref zy5, .int 0, .int 0, .ref zy8, .ref zy9, .ref zy10, .ref zy11, .ref zy12, .ref zy13, .ref zy14, .long 0, .ref zy16, .ref zy17, .ref zy18, .int 0, .long 0, .ref zy21, .ref zy22, .int 0, .ref zy24, .ref zy25, .ref zy26, .ref zy27])), (zy1, .inl (cy 0, 80, .inl (upd (upd (upd (fun _ => 0) (0 : Int32).toNatClampNeg w_407.toInt32) (1 : Int32).toNatClampNeg w_411.toInt32) (2 : Int32).toNatClampNeg w_415.toInt32)))] := hD
                    refine lv_aload_n hx hb dX11_type_100 rfl (lv_at hl 1 rfl) ?_
                    refine lv_dup hx hb dX11_type_101 rfl ?_
                    refine va_get (D := (dC, dI)) (ci := 11) (v := .int 2) (C := RX11) (T := TX11) (N := 28) hx hb hts (by decide +kernel) hown hK hP 0 rfl rfl 2 (by decide) (hts (.fieldLink RX11 112 "DripStoneModel" "taped" "I") (by decide +kernel)) (fun _ h9 => h9) rfl dX11_type_102 ?_
                    refine lv_iconst (v := 1) hx hb dX11_type_105 (by decide) ?_
                    refine lv_iadd hx hb dX11_type_106 ?_
                    refine lv_topi (fun v_416 ev_416 => ?_)
                    obtain rfl : v_416 = (3 : Int32) := ev_416.trans (by decide)
                    refine va_put (D := (dC, dI)) (ci := 11) (v := .int 3) (ty := .int) (C := RX11) (T := TX11) (N := 28) hx hb hts (by decide +kernel) tyX11 tyX11_ok nmX11 hown hK hP hD hS 0 rfl rfl 2 (by decide) (hts (.fieldLink RX11 112 "DripStoneModel" "taped" "I") (by decide +kernel)) (fun _ h9 => h9) rfl (by decide +kernel) rfl rfl (Nat.le_of_ble_eq_true rfl) dX11_type_107 (fun H locs hP hD hS => ?_)
                    have hP : va_P (dC, dI) vwCl [(zy, .inr (11, [.ref zy0, .ref zy1, .int 3, .int 0, .int 0, .ref zy5, .int 0, .int 0, .ref zy8, .ref zy9, .ref zy10, .ref zy11, .ref zy12, .ref zy13, .ref zy14, .long 0, .ref zy16, .ref zy17, .ref zy18, .int 0, .long 0, .ref zy21, .ref zy22, .int 0, .ref zy24, .ref zy25, .ref zy26, .ref zy27])), (zy1, .inl (cy 0, 80, .inl (upd (upd (upd (fun _ => 0) (0 : Int32).toNatClampNeg w_407.toInt32) (1 : Int32).toNatClampNeg w_411.toInt32) (2 : Int32).toNatClampNeg w_415.toInt32)))] H := hP
                    have hD : va_D A [(zy, .inr (11, [.ref zy0, .ref zy1, .int 3, .int 0, .int 0, .ref zy5, .int 0, .int 0, .ref zy8, .ref zy9, .ref zy10, .ref zy11, .ref zy12, .ref zy13, .ref zy14, .long 0, .ref zy16, .ref zy17, .ref zy18, .int 0, .long 0, .ref zy21, .ref zy22, .int 0, .ref zy24, .ref zy25, .ref zy26, .ref zy27])), (zy1, .inl (cy 0, 80, .inl (upd (upd (upd (fun _ => 0) (0 : Int32).toNatClampNeg w_407.toInt32) (1 : Int32).toNatClampNeg w_411.toInt32) (2 : Int32).toNatClampNeg w_415.toInt32)))] := hD
                    refine lv_iinc (v := 3) (lv' := [(4, .int 3), (0, .ref zy), (1, .long zja), (3, .int 7)]) hx hb dX11_type_110 hl (k := 0) rfl (by decide) (by decide) rfl (fun ls hl => ?_)
                    refine lv_goto (tgt := 74) hx hb dX11_type_113 (by decide) ?_
                    refine lv_iload hx hb dX11_type_74 (lv_at hl 0 rfl) ?_
                    refine lv_if_lt (tgt := 116) hx hb dX11_type_76 (by decide) (fun c_417 => absurd c_417 (by decide)) (fun c_417 => ?_)
                    refine lv_aload_n hx hb dX11_type_79 rfl (lv_at hl 1 rfl) ?_
                    refine va_get (D := (dC, dI)) (ci := 11) (v := .ref zy1) (C := RX11) (T := TX11) (N := 28) hx hb hts (by decide +kernel) hown hK hP 0 rfl rfl 1 (by decide) (hts (.fieldLink RX11 13 "DripStoneModel" "tape" "[I") (by decide +kernel)) (fun _ h9 => h9) rfl dX11_type_80 ?_
                    refine lv_aload_n hx hb dX11_type_83 rfl (lv_at hl 1 rfl) ?_
                    refine va_get (D := (dC, dI)) (ci := 11) (v := .int 3) (C := RX11) (T := TX11) (N := 28) hx hb hts (by decide +kernel) hown hK hP 0 rfl rfl 2 (by decide) (hts (.fieldLink RX11 112 "DripStoneModel" "taped" "I") (by decide +kernel)) (fun _ h9 => h9) rfl dX11_type_84 ?_
                    refine lv_lload_n hx hb dX11_type_87 rfl (lv_at hl 2 rfl) ?_
                    refine lv_bipush (v := 8) hx hb dX11_type_88 (by decide) ?_
                    refine lv_iload hx hb dX11_type_90 (lv_at hl 0 rfl) ?_
                    refine lv_imul hx hb dX11_type_92 ?_
                    refine lv_topi (fun v_418 ev_418 => ?_)
                    obtain rfl : v_418 = (24 : Int32) := ev_418.trans (by decide)
                    refine lv_lshr (v := zja >>> ((24 : Int32).toInt64 &&& 63)) hx hb dX11_type_93 rfl ?_
                    refine lv_ldc2 (v := 255) hx hb hown (hts (.constantLong RX11 106 255) (by decide +kernel)) dX11_type_94 ?_
                    refine lv_land hx hb dX11_type_97 ?_
                    refine lv_topl (fun w_419 ew_419 => ?_)
                    have tw_419 : w_419.toInt = by8 zja 3 := by rw [ew_419]; exact by8_l3 zja
                    refine lv_l2i (v := w_419.toInt32) hx hb dX11_type_98 rfl ?_
                    refine va_iast hx hb hK hP hD hS 1 0 rfl rfl (vp_in_iff.mpr ⟨by decide, by decide⟩) dX11_type_99 (fun H locs hP hD hS => ?_)
                    have hP : va_P (dC, dI) vwCl [(zy, .inr (11, [.ref zy0, .ref zy1, .int 3, .int 0, .int 0, .ref zy5, .int 0, .int 0, .ref zy8, .ref zy9, .ref zy10, .ref zy11, .ref zy12, .ref zy13, .ref zy14, .long 0, .ref zy16, .ref zy17, .ref zy18, .int 0, .long 0, .ref zy21, .ref zy22, .int 0, .ref zy24, .ref zy25, .ref zy26, .ref zy27])), (zy1, .inl (cy 0, 80, .inl (upd (upd (upd (upd (fun _ => 0) (0 : Int32).toNatClampNeg w_407.toInt32) (1 : Int32).toNatClampNeg w_411.toInt32) (2 : Int32).toNatClampNeg w_415.toInt32) (3 : Int32).toNatClampNeg w_419.toInt32)))] H := hP
                    have hD : va_D A [(zy, .inr (11, [.ref zy0, .ref zy1, .int 3, .int 0, .int 0, .ref zy5, .int 0, .int 0, .ref zy8, .ref zy9, .ref zy10, .ref zy11, .ref zy12, .ref zy13, .ref zy14, .long 0, .ref zy16, .ref zy17, .ref zy18, .int 0, .long 0, .ref zy21, .ref zy22, .int 0, .ref zy24, .ref zy25, .ref zy26, .ref zy27])), (zy1, .inl (cy 0, 80, .inl (upd (upd (upd (upd (fun _ => 0) (0 : Int32).toNatClampNeg w_407.toInt32) (1 : Int32).toNatClampNeg w_411.toInt32) (2 : Int32).toNatClampNeg w_415.toInt32) (3 : Int32).toNatClampNeg w_419.toInt32)))] := hD
                    refine lv_aload_n hx hb dX11_type_100 rfl (lv_at hl 1 rfl) ?_
                    refine lv_dup hx hb dX11_type_101 rfl ?_
                    refine va_get (D := (dC, dI)) (ci := 11) (v := .int 3) (C := RX11) (T := TX11) (N := 28) hx hb hts (by decide +kernel) hown hK hP 0 rfl rfl 2 (by decide) (hts (.fieldLink RX11 112 "DripStoneModel" "taped" "I") (by decide +kernel)) (fun _ h9 => h9) rfl dX11_type_102 ?_
                    refine lv_iconst (v := 1) hx hb dX11_type_105 (by decide) ?_
                    refine lv_iadd hx hb dX11_type_106 ?_
                    refine lv_topi (fun v_420 ev_420 => ?_)
                    obtain rfl : v_420 = (4 : Int32) := ev_420.trans (by decide)
                    refine va_put (D := (dC, dI)) (ci := 11) (v := .int 4) (ty := .int) (C := RX11) (T := TX11) (N := 28) hx hb hts (by decide +kernel) tyX11 tyX11_ok nmX11 hown hK hP hD hS 0 rfl rfl 2 (by decide) (hts (.fieldLink RX11 112 "DripStoneModel" "taped" "I") (by decide +kernel)) (fun _ h9 => h9) rfl (by decide +kernel) rfl rfl (Nat.le_of_ble_eq_true rfl) dX11_type_107 (fun H locs hP hD hS => ?_)
                    have hP : va_P (dC, dI) vwCl [(zy, .inr (11, [.ref zy0, .ref zy1, .int 4, .int 0, .int 0, .ref zy5, .int 0, .int 0, .ref zy8, .ref zy9, .ref zy10, .ref zy11, .ref zy12, .ref zy13, .ref zy14, .long 0, .ref zy16, .ref zy17, .ref zy18, .int 0, .long 0, .ref zy21, .ref zy22, .int 0, .ref zy24, .ref zy25, .ref zy26, .ref zy27])), (zy1, .inl (cy 0, 80, .inl (upd (upd (upd (upd (fun _ => 0) (0 : Int32).toNatClampNeg w_407.toInt32) (1 : Int32).toNatClampNeg w_411.toInt32) (2 : Int32).toNatClampNeg w_415.toInt32) (3 : Int32).toNatClampNeg w_419.toInt32)))] H := hP
                    have hD : va_D A [(zy, .inr (11, [.ref zy0, .ref zy1, .int 4, .int 0, .int 0, .ref zy5, .int 0, .int 0, .ref zy8, .ref zy9, .ref zy10, .ref zy11, .ref zy12, .ref zy13, .ref zy14, .long 0, .ref zy16, .ref zy17, .ref zy18, .int 0, .long 0, .ref zy21, .ref zy22, .int 0, .ref zy24, .ref zy25, .ref zy26, .ref zy27])), (zy1, .inl (cy 0, 80, .inl (upd (upd (upd (upd (fun _ => 0) (0 : Int32).toNatClampNeg w_407.toInt32) (1 : Int32).toNatClampNeg w_411.toInt32) (2 : Int32).toNatClampNeg w_415.toInt32) (3 : Int32).toNatClampNeg w_419.toInt32)))] := hD
                    refine lv_iinc (v := 2) (lv' := [(4, .int 2), (0, .ref zy), (1, .long zja), (3, .int 7)]) hx hb dX11_type_110 hl (k := 0) rfl (by decide) (by decide) rfl (fun ls hl => ?_)
                    refine lv_goto (tgt := 74) hx hb dX11_type_113 (by decide) ?_
                    refine lv_iload hx hb dX11_type_74 (lv_at hl 0 rfl) ?_
                    refine lv_if_lt (tgt := 116) hx hb dX11_type_76 (by decide) (fun c_421 => absurd c_421 (by decide)) (fun c_421 => ?_)
                    refine lv_aload_n hx hb dX11_type_79 rfl (lv_at hl 1 rfl) ?_
                    refine va_get (D := (dC, dI)) (ci := 11) (v := .ref zy1) (C := RX11) (T := TX11) (N := 28) hx hb hts (by decide +kernel) hown hK hP 0 rfl rfl 1 (by decide) (hts (.fieldLink RX11 13 "DripStoneModel" "tape" "[I") (by decide +kernel)) (fun _ h9 => h9) rfl dX11_type_80 ?_
                    refine lv_aload_n hx hb dX11_type_83 rfl (lv_at hl 1 rfl) ?_
                    refine va_get (D := (dC, dI)) (ci := 11) (v := .int 4) (C := RX11) (T := TX11) (N := 28) hx hb hts (by decide +kernel) hown hK hP 0 rfl rfl 2 (by decide) (hts (.fieldLink RX11 112 "DripStoneModel" "taped" "I") (by decide +kernel)) (fun _ h9 => h9) rfl dX11_type_84 ?_
                    refine lv_lload_n hx hb dX11_type_87 rfl (lv_at hl 2 rfl) ?_
                    refine lv_bipush (v := 8) hx hb dX11_type_88 (by decide) ?_
                    refine lv_iload hx hb dX11_type_90 (lv_at hl 0 rfl) ?_
                    refine lv_imul hx hb dX11_type_92 ?_
                    refine lv_topi (fun v_422 ev_422 => ?_)
                    obtain rfl : v_422 = (16 : Int32) := ev_422.trans (by decide)
                    refine lv_lshr (v := zja >>> ((16 : Int32).toInt64 &&& 63)) hx hb dX11_type_93 rfl ?_
                    refine lv_ldc2 (v := 255) hx hb hown (hts (.constantLong RX11 106 255) (by decide +kernel)) dX11_type_94 ?_
                    refine lv_land hx hb dX11_type_97 ?_
                    refine lv_topl (fun w_423 ew_423 => ?_)
                    have tw_423 : w_423.toInt = by8 zja 2 := by rw [ew_423]; exact by8_l2 zja
                    refine lv_l2i (v := w_423.toInt32) hx hb dX11_type_98 rfl ?_
                    refine va_iast hx hb hK hP hD hS 1 0 rfl rfl (vp_in_iff.mpr ⟨by decide, by decide⟩) dX11_type_99 (fun H locs hP hD hS => ?_)
                    have hP : va_P (dC, dI) vwCl [(zy, .inr (11, [.ref zy0, .ref zy1, .int 4, .int 0, .int 0, .ref zy5, .int 0, .int 0, .ref zy8, .ref zy9, .ref zy10, .ref zy11, .ref zy12, .ref zy13, .ref zy14, .long 0, .ref zy16, .ref zy17, .ref zy18, .int 0, .long 0, .ref zy21, .ref zy22, .int 0, .ref zy24, .ref zy25, .ref zy26, .ref zy27])), (zy1, .inl (cy 0, 80, .inl (upd (upd (upd (upd (upd (fun _ => 0) (0 : Int32).toNatClampNeg w_407.toInt32) (1 : Int32).toNatClampNeg w_411.toInt32) (2 : Int32).toNatClampNeg w_415.toInt32) (3 : Int32).toNatClampNeg w_419.toInt32) (4 : Int32).toNatClampNeg w_423.toInt32)))] H := hP
                    have hD : va_D A [(zy, .inr (11, [.ref zy0, .ref zy1, .int 4, .int 0, .int 0, .ref zy5, .int 0, .int 0, .ref zy8, .ref zy9, .ref zy10, .ref zy11, .ref zy12, .ref zy13, .ref zy14, .long 0, .ref zy16, .ref zy17, .ref zy18, .int 0, .long 0, .ref zy21, .ref zy22, .int 0, .ref zy24, .ref zy25, .ref zy26, .ref zy27])), (zy1, .inl (cy 0, 80, .inl (upd (upd (upd (upd (upd (fun _ => 0) (0 : Int32).toNatClampNeg w_407.toInt32) (1 : Int32).toNatClampNeg w_411.toInt32) (2 : Int32).toNatClampNeg w_415.toInt32) (3 : Int32).toNatClampNeg w_419.toInt32) (4 : Int32).toNatClampNeg w_423.toInt32)))] := hD
                    refine lv_aload_n hx hb dX11_type_100 rfl (lv_at hl 1 rfl) ?_
                    refine lv_dup hx hb dX11_type_101 rfl ?_
                    refine va_get (D := (dC, dI)) (ci := 11) (v := .int 4) (C := RX11) (T := TX11) (N := 28) hx hb hts (by decide +kernel) hown hK hP 0 rfl rfl 2 (by decide) (hts (.fieldLink RX11 112 "DripStoneModel" "taped" "I") (by decide +kernel)) (fun _ h9 => h9) rfl dX11_type_102 ?_
                    refine lv_iconst (v := 1) hx hb dX11_type_105 (by decide) ?_
                    refine lv_iadd hx hb dX11_type_106 ?_
                    refine lv_topi (fun v_424 ev_424 => ?_)
                    obtain rfl : v_424 = (5 : Int32) := ev_424.trans (by decide)
                    refine va_put (D := (dC, dI)) (ci := 11) (v := .int 5) (ty := .int) (C := RX11) (T := TX11) (N := 28) hx hb hts (by decide +kernel) tyX11 tyX11_ok nmX11 hown hK hP hD hS 0 rfl rfl 2 (by decide) (hts (.fieldLink RX11 112 "DripStoneModel" "taped" "I") (by decide +kernel)) (fun _ h9 => h9) rfl (by decide +kernel) rfl rfl (Nat.le_of_ble_eq_true rfl) dX11_type_107 (fun H locs hP hD hS => ?_)
                    have hP : va_P (dC, dI) vwCl [(zy, .inr (11, [.ref zy0, .ref zy1, .int 5, .int 0, .int 0, .ref zy5, .int 0, .int 0, .ref zy8, .ref zy9, .ref zy10, .ref zy11, .ref zy12, .ref zy13, .ref zy14, .long 0, .ref zy16, .ref zy17, .ref zy18, .int 0, .long 0, .ref zy21, .ref zy22, .int 0, .ref zy24, .ref zy25, .ref zy26, .ref zy27])), (zy1, .inl (cy 0, 80, .inl (upd (upd (upd (upd (upd (fun _ => 0) (0 : Int32).toNatClampNeg w_407.toInt32) (1 : Int32).toNatClampNeg w_411.toInt32) (2 : Int32).toNatClampNeg w_415.toInt32) (3 : Int32).toNatClampNeg w_419.toInt32) (4 : Int32).toNatClampNeg w_423.toInt32)))] H := hP
                    have hD : va_D A [(zy, .inr (11, [.ref zy0, .ref zy1, .int 5, .int 0, .int 0, .ref zy5, .int 0, .int 0, .ref zy8, .ref zy9, .ref zy10, .ref zy11, .ref zy12, .ref zy13, .ref zy14, .long 0, .ref zy16, .ref zy17, .ref zy18, .int 0, .long 0, .ref zy21, .ref zy22, .int 0, .ref zy24, .ref zy25, .ref zy26, .ref zy27])), (zy1, .inl (cy 0, 80, .inl (upd (upd (upd (upd (upd (fun _ => 0) (0 : Int32).toNatClampNeg w_407.toInt32) (1 : Int32).toNatClampNeg w_411.toInt32) (2 : Int32).toNatClampNeg w_415.toInt32) (3 : Int32).toNatClampNeg w_419.toInt32) (4 : Int32).toNatClampNeg w_423.toInt32)))] := hD
                    refine lv_iinc (v := 1) (lv' := [(4, .int 1), (0, .ref zy), (1, .long zja), (3, .int 7)]) hx hb dX11_type_110 hl (k := 0) rfl (by decide) (by decide) rfl (fun ls hl => ?_)
                    refine lv_goto (tgt := 74) hx hb dX11_type_113 (by decide) ?_
                    refine lv_iload hx hb dX11_type_74 (lv_at hl 0 rfl) ?_
                    refine lv_if_lt (tgt := 116) hx hb dX11_type_76 (by decide) (fun c_425 => absurd c_425 (by decide)) (fun c_425 => ?_)
                    refine lv_aload_n hx hb dX11_type_79 rfl (lv_at hl 1 rfl) ?_
                    refine va_get (D := (dC, dI)) (ci := 11) (v := .ref zy1) (C := RX11) (T := TX11) (N := 28) hx hb hts (by decide +kernel) hown hK hP 0 rfl rfl 1 (by decide) (hts (.fieldLink RX11 13 "DripStoneModel" "tape" "[I") (by decide +kernel)) (fun _ h9 => h9) rfl dX11_type_80 ?_
                    refine lv_aload_n hx hb dX11_type_83 rfl (lv_at hl 1 rfl) ?_
                    refine va_get (D := (dC, dI)) (ci := 11) (v := .int 5) (C := RX11) (T := TX11) (N := 28) hx hb hts (by decide +kernel) hown hK hP 0 rfl rfl 2 (by decide) (hts (.fieldLink RX11 112 "DripStoneModel" "taped" "I") (by decide +kernel)) (fun _ h9 => h9) rfl dX11_type_84 ?_
                    refine lv_lload_n hx hb dX11_type_87 rfl (lv_at hl 2 rfl) ?_
                    refine lv_bipush (v := 8) hx hb dX11_type_88 (by decide) ?_
                    refine lv_iload hx hb dX11_type_90 (lv_at hl 0 rfl) ?_
                    refine lv_imul hx hb dX11_type_92 ?_
                    refine lv_topi (fun v_426 ev_426 => ?_)
                    obtain rfl : v_426 = (8 : Int32) := ev_426.trans (by decide)
                    refine lv_lshr (v := zja >>> ((8 : Int32).toInt64 &&& 63)) hx hb dX11_type_93 rfl ?_
                    refine lv_ldc2 (v := 255) hx hb hown (hts (.constantLong RX11 106 255) (by decide +kernel)) dX11_type_94 ?_
                    refine lv_land hx hb dX11_type_97 ?_
                    refine lv_topl (fun w_427 ew_427 => ?_)
                    have tw_427 : w_427.toInt = by8 zja 1 := by rw [ew_427]; exact by8_l1 zja
                    refine lv_l2i (v := w_427.toInt32) hx hb dX11_type_98 rfl ?_
                    refine va_iast hx hb hK hP hD hS 1 0 rfl rfl (vp_in_iff.mpr ⟨by decide, by decide⟩) dX11_type_99 (fun H locs hP hD hS => ?_)
                    have hP : va_P (dC, dI) vwCl [(zy, .inr (11, [.ref zy0, .ref zy1, .int 5, .int 0, .int 0, .ref zy5, .int 0, .int 0, .ref zy8, .ref zy9, .ref zy10, .ref zy11, .ref zy12, .ref zy13, .ref zy14, .long 0, .ref zy16, .ref zy17, .ref zy18, .int 0, .long 0, .ref zy21, .ref zy22, .int 0, .ref zy24, .ref zy25, .ref zy26, .ref zy27])), (zy1, .inl (cy 0, 80, .inl (upd (upd (upd (upd (upd (upd (fun _ => 0) (0 : Int32).toNatClampNeg w_407.toInt32) (1 : Int32).toNatClampNeg w_411.toInt32) (2 : Int32).toNatClampNeg w_415.toInt32) (3 : Int32).toNatClampNeg w_419.toInt32) (4 : Int32).toNatClampNeg w_423.toInt32) (5 : Int32).toNatClampNeg w_427.toInt32)))] H := hP
                    have hD : va_D A [(zy, .inr (11, [.ref zy0, .ref zy1, .int 5, .int 0, .int 0, .ref zy5, .int 0, .int 0, .ref zy8, .ref zy9, .ref zy10, .ref zy11, .ref zy12, .ref zy13, .ref zy14, .long 0, .ref zy16, .ref zy17, .ref zy18, .int 0, .long 0, .ref zy21, .ref zy22, .int 0, .ref zy24, .ref zy25, .ref zy26, .ref zy27])), (zy1, .inl (cy 0, 80, .inl (upd (upd (upd (upd (upd (upd (fun _ => 0) (0 : Int32).toNatClampNeg w_407.toInt32) (1 : Int32).toNatClampNeg w_411.toInt32) (2 : Int32).toNatClampNeg w_415.toInt32) (3 : Int32).toNatClampNeg w_419.toInt32) (4 : Int32).toNatClampNeg w_423.toInt32) (5 : Int32).toNatClampNeg w_427.toInt32)))] := hD
                    refine lv_aload_n hx hb dX11_type_100 rfl (lv_at hl 1 rfl) ?_
                    refine lv_dup hx hb dX11_type_101 rfl ?_
                    refine va_get (D := (dC, dI)) (ci := 11) (v := .int 5) (C := RX11) (T := TX11) (N := 28) hx hb hts (by decide +kernel) hown hK hP 0 rfl rfl 2 (by decide) (hts (.fieldLink RX11 112 "DripStoneModel" "taped" "I") (by decide +kernel)) (fun _ h9 => h9) rfl dX11_type_102 ?_
                    refine lv_iconst (v := 1) hx hb dX11_type_105 (by decide) ?_
                    refine lv_iadd hx hb dX11_type_106 ?_
                    refine lv_topi (fun v_428 ev_428 => ?_)
                    obtain rfl : v_428 = (6 : Int32) := ev_428.trans (by decide)
                    refine va_put (D := (dC, dI)) (ci := 11) (v := .int 6) (ty := .int) (C := RX11) (T := TX11) (N := 28) hx hb hts (by decide +kernel) tyX11 tyX11_ok nmX11 hown hK hP hD hS 0 rfl rfl 2 (by decide) (hts (.fieldLink RX11 112 "DripStoneModel" "taped" "I") (by decide +kernel)) (fun _ h9 => h9) rfl (by decide +kernel) rfl rfl (Nat.le_of_ble_eq_true rfl) dX11_type_107 (fun H locs hP hD hS => ?_)
                    have hP : va_P (dC, dI) vwCl [(zy, .inr (11, [.ref zy0, .ref zy1, .int 6, .int 0, .int 0, .ref zy5, .int 0, .int 0, .ref zy8, .ref zy9, .ref zy10, .ref zy11, .ref zy12, .ref zy13, .ref zy14, .long 0, .ref zy16, .ref zy17, .ref zy18, .int 0, .long 0, .ref zy21, .ref zy22, .int 0, .ref zy24, .ref zy25, .ref zy26, .ref zy27])), (zy1, .inl (cy 0, 80, .inl (upd (upd (upd (upd (upd (upd (fun _ => 0) (0 : Int32).toNatClampNeg w_407.toInt32) (1 : Int32).toNatClampNeg w_411.toInt32) (2 : Int32).toNatClampNeg w_415.toInt32) (3 : Int32).toNatClampNeg w_419.toInt32) (4 : Int32).toNatClampNeg w_423.toInt32) (5 : Int32).toNatClampNeg w_427.toInt32)))] H := hP
                    have hD : va_D A [(zy, .inr (11, [.ref zy0, .ref zy1, .int 6, .int 0, .int 0, .ref zy5, .int 0, .int 0, .ref zy8, .ref zy9, .ref zy10, .ref zy11, .ref zy12, .ref zy13, .ref zy14, .long 0, .ref zy16, .ref zy17, .ref zy18, .int 0, .long 0, .ref zy21, .ref zy22, .int 0, .ref zy24, .ref zy25, .ref zy26, .ref zy27])), (zy1, .inl (cy 0, 80, .inl (upd (upd (upd (upd (upd (upd (fun _ => 0) (0 : Int32).toNatClampNeg w_407.toInt32) (1 : Int32).toNatClampNeg w_411.toInt32) (2 : Int32).toNatClampNeg w_415.toInt32) (3 : Int32).toNatClampNeg w_419.toInt32) (4 : Int32).toNatClampNeg w_423.toInt32) (5 : Int32).toNatClampNeg w_427.toInt32)))] := hD
                    refine lv_iinc (v := 0) (lv' := [(4, .int 0), (0, .ref zy), (1, .long zja), (3, .int 7)]) hx hb dX11_type_110 hl (k := 0) rfl (by decide) (by decide) rfl (fun ls hl => ?_)
                    refine lv_goto (tgt := 74) hx hb dX11_type_113 (by decide) ?_
                    refine lv_iload hx hb dX11_type_74 (lv_at hl 0 rfl) ?_
                    refine lv_if_lt (tgt := 116) hx hb dX11_type_76 (by decide) (fun c_429 => absurd c_429 (by decide)) (fun c_429 => ?_)
                    refine lv_aload_n hx hb dX11_type_79 rfl (lv_at hl 1 rfl) ?_
                    refine va_get (D := (dC, dI)) (ci := 11) (v := .ref zy1) (C := RX11) (T := TX11) (N := 28) hx hb hts (by decide +kernel) hown hK hP 0 rfl rfl 1 (by decide) (hts (.fieldLink RX11 13 "DripStoneModel" "tape" "[I") (by decide +kernel)) (fun _ h9 => h9) rfl dX11_type_80 ?_
                    refine lv_aload_n hx hb dX11_type_83 rfl (lv_at hl 1 rfl) ?_
                    refine va_get (D := (dC, dI)) (ci := 11) (v := .int 6) (C := RX11) (T := TX11) (N := 28) hx hb hts (by decide +kernel) hown hK hP 0 rfl rfl 2 (by decide) (hts (.fieldLink RX11 112 "DripStoneModel" "taped" "I") (by decide +kernel)) (fun _ h9 => h9) rfl dX11_type_84 ?_
                    refine lv_lload_n hx hb dX11_type_87 rfl (lv_at hl 2 rfl) ?_
                    refine lv_bipush (v := 8) hx hb dX11_type_88 (by decide) ?_
                    refine lv_iload hx hb dX11_type_90 (lv_at hl 0 rfl) ?_
                    refine lv_imul hx hb dX11_type_92 ?_
                    refine lv_topi (fun v_430 ev_430 => ?_)
                    obtain rfl : v_430 = (0 : Int32) := ev_430.trans (by decide)
                    refine lv_lshr (v := zja >>> ((0 : Int32).toInt64 &&& 63)) hx hb dX11_type_93 rfl ?_
                    refine lv_ldc2 (v := 255) hx hb hown (hts (.constantLong RX11 106 255) (by decide +kernel)) dX11_type_94 ?_
                    refine lv_land hx hb dX11_type_97 ?_
                    refine lv_topl (fun w_431 ew_431 => ?_)
                    have tw_431 : w_431.toInt = by8 zja 0 := by rw [ew_431]; exact by8_l0 zja
                    refine lv_l2i (v := w_431.toInt32) hx hb dX11_type_98 rfl ?_
                    refine va_iast hx hb hK hP hD hS 1 0 rfl rfl (vp_in_iff.mpr ⟨by decide, by decide⟩) dX11_type_99 (fun H locs hP hD hS => ?_)
                    have hP : va_P (dC, dI) vwCl [(zy, .inr (11, [.ref zy0, .ref zy1, .int 6, .int 0, .int 0, .ref zy5, .int 0, .int 0, .ref zy8, .ref zy9, .ref zy10, .ref zy11, .ref zy12, .ref zy13, .ref zy14, .long 0, .ref zy16, .ref zy17, .ref zy18, .int 0, .long 0, .ref zy21, .ref zy22, .int 0, .ref zy24, .ref zy25, .ref zy26, .ref zy27])), (zy1, .inl (cy 0, 80, .inl (upd (upd (upd (upd (upd (upd (upd (fun _ => 0) (0 : Int32).toNatClampNeg w_407.toInt32) (1 : Int32).toNatClampNeg w_411.toInt32) (2 : Int32).toNatClampNeg w_415.toInt32) (3 : Int32).toNatClampNeg w_419.toInt32) (4 : Int32).toNatClampNeg w_423.toInt32) (5 : Int32).toNatClampNeg w_427.toInt32) (6 : Int32).toNatClampNeg w_431.toInt32)))] H := hP
                    have hD : va_D A [(zy, .inr (11, [.ref zy0, .ref zy1, .int 6, .int 0, .int 0, .ref zy5, .int 0, .int 0, .ref zy8, .ref zy9, .ref zy10, .ref zy11, .ref zy12, .ref zy13, .ref zy14, .long 0, .ref zy16, .ref zy17, .ref zy18, .int 0, .long 0, .ref zy21, .ref zy22, .int 0, .ref zy24, .ref zy25, .ref zy26, .ref zy27])), (zy1, .inl (cy 0, 80, .inl (upd (upd (upd (upd (upd (upd (upd (fun _ => 0) (0 : Int32).toNatClampNeg w_407.toInt32) (1 : Int32).toNatClampNeg w_411.toInt32) (2 : Int32).toNatClampNeg w_415.toInt32) (3 : Int32).toNatClampNeg w_419.toInt32) (4 : Int32).toNatClampNeg w_423.toInt32) (5 : Int32).toNatClampNeg w_427.toInt32) (6 : Int32).toNatClampNeg w_431.toInt32)))] := hD
                    refine lv_aload_n hx hb dX11_type_100 rfl (lv_at hl 1 rfl) ?_
                    refine lv_dup hx hb dX11_type_101 rfl ?_
                    refine va_get (D := (dC, dI)) (ci := 11) (v := .int 6) (C := RX11) (T := TX11) (N := 28) hx hb hts (by decide +kernel) hown hK hP 0 rfl rfl 2 (by decide) (hts (.fieldLink RX11 112 "DripStoneModel" "taped" "I") (by decide +kernel)) (fun _ h9 => h9) rfl dX11_type_102 ?_
                    refine lv_iconst (v := 1) hx hb dX11_type_105 (by decide) ?_
                    refine lv_iadd hx hb dX11_type_106 ?_
                    refine lv_topi (fun v_432 ev_432 => ?_)
                    obtain rfl : v_432 = (7 : Int32) := ev_432.trans (by decide)
                    refine va_put (D := (dC, dI)) (ci := 11) (v := .int 7) (ty := .int) (C := RX11) (T := TX11) (N := 28) hx hb hts (by decide +kernel) tyX11 tyX11_ok nmX11 hown hK hP hD hS 0 rfl rfl 2 (by decide) (hts (.fieldLink RX11 112 "DripStoneModel" "taped" "I") (by decide +kernel)) (fun _ h9 => h9) rfl (by decide +kernel) rfl rfl (Nat.le_of_ble_eq_true rfl) dX11_type_107 (fun H locs hP hD hS => ?_)
                    have hP : va_P (dC, dI) vwCl [(zy, .inr (11, [.ref zy0, .ref zy1, .int 7, .int 0, .int 0, .ref zy5, .int 0, .int 0, .ref zy8, .ref zy9, .ref zy10, .ref zy11, .ref zy12, .ref zy13, .ref zy14, .long 0, .ref zy16, .ref zy17, .ref zy18, .int 0, .long 0, .ref zy21, .ref zy22, .int 0, .ref zy24, .ref zy25, .ref zy26, .ref zy27])), (zy1, .inl (cy 0, 80, .inl (upd (upd (upd (upd (upd (upd (upd (fun _ => 0) (0 : Int32).toNatClampNeg w_407.toInt32) (1 : Int32).toNatClampNeg w_411.toInt32) (2 : Int32).toNatClampNeg w_415.toInt32) (3 : Int32).toNatClampNeg w_419.toInt32) (4 : Int32).toNatClampNeg w_423.toInt32) (5 : Int32).toNatClampNeg w_427.toInt32) (6 : Int32).toNatClampNeg w_431.toInt32)))] H := hP
                    have hD : va_D A [(zy, .inr (11, [.ref zy0, .ref zy1, .int 7, .int 0, .int 0, .ref zy5, .int 0, .int 0, .ref zy8, .ref zy9, .ref zy10, .ref zy11, .ref zy12, .ref zy13, .ref zy14, .long 0, .ref zy16, .ref zy17, .ref zy18, .int 0, .long 0, .ref zy21, .ref zy22, .int 0, .ref zy24, .ref zy25, .ref zy26, .ref zy27])), (zy1, .inl (cy 0, 80, .inl (upd (upd (upd (upd (upd (upd (upd (fun _ => 0) (0 : Int32).toNatClampNeg w_407.toInt32) (1 : Int32).toNatClampNeg w_411.toInt32) (2 : Int32).toNatClampNeg w_415.toInt32) (3 : Int32).toNatClampNeg w_419.toInt32) (4 : Int32).toNatClampNeg w_423.toInt32) (5 : Int32).toNatClampNeg w_427.toInt32) (6 : Int32).toNatClampNeg w_431.toInt32)))] := hD
                    refine lv_iinc (v := (-1)) (lv' := [(4, .int (-1)), (0, .ref zy), (1, .long zja), (3, .int 7)]) hx hb dX11_type_110 hl (k := 0) rfl (by decide) (by decide) rfl (fun ls hl => ?_)
                    refine lv_goto (tgt := 74) hx hb dX11_type_113 (by decide) ?_
                    refine lv_iload hx hb dX11_type_74 (lv_at hl 0 rfl) ?_
                    refine lv_if_lt (tgt := 116) hx hb dX11_type_76 (by decide) (fun c_433 => ?_) (fun c_433 => absurd (by decide) c_433)
                    refine lv_aload_n hx hb dX11_type_116 rfl (lv_at hl 1 rfl) ?_
                    refine va_get (D := (dC, dI)) (ci := 11) (v := .int 7) (C := RX11) (T := TX11) (N := 28) hx hb hts (by decide +kernel) hown hK hP 0 rfl rfl 2 (by decide) (hts (.fieldLink RX11 112 "DripStoneModel" "taped" "I") (by decide +kernel)) (fun _ h9 => h9) rfl dX11_type_117 ?_
                    have hP9 := hP.sub (ws' := []) [] rfl
                    have hD9 := hD.sub (ws' := []) [] (by decide) rfl
                    exact W.iret (v := 7) hx hb hr (fun t ht hW => ⟨⟨7, (), rfl, ((an_type_7 _).trans (if_pos ⟨g_400, g_391, g_382, g_373, g_364, g_355, g_346⟩)).symm, ⟨by rw [ht]; exact hP9, va_K.moved hW.alike hK, hD9⟩⟩, hS.F ht⟩) hS.2.2 dX11_type_120
                  · have f_399 : ¬ (32 ≤ w_394.toInt ∧ w_394.toInt ≤ 126) := bz_0 hw_397 c_398
                    have g_434 : ¬ okb zja 0 := by unfold okb; rw [← tw_394]; exact f_399
                    refine lv_iconst (v := (-1)) hx hb dX11_type_47 (by decide) ?_
                    have hP9 := hP.sub (ws' := []) [] rfl
                    have hD9 := hD.sub (ws' := []) [] (by decide) rfl
                    exact W.iret (v := (-1)) hx hb hr (fun t ht hW => ⟨⟨(-1), (), rfl, ((an_type_7 _).trans (if_neg (fun h => g_434 (h.1)))).symm, ⟨by rw [ht]; exact hP9, va_K.moved hW.alike hK, hD9⟩⟩, hS.F ht⟩) hS.2.2 dX11_type_48
                · have f_390 : ¬ (32 ≤ w_385.toInt ∧ w_385.toInt ≤ 126) := bz_0 hw_388 c_389
                  have g_435 : ¬ okb zja 1 := by unfold okb; rw [← tw_385]; exact f_390
                  refine lv_iconst (v := (-1)) hx hb dX11_type_47 (by decide) ?_
                  have hP9 := hP.sub (ws' := []) [] rfl
                  have hD9 := hD.sub (ws' := []) [] (by decide) rfl
                  exact W.iret (v := (-1)) hx hb hr (fun t ht hW => ⟨⟨(-1), (), rfl, ((an_type_7 _).trans (if_neg (fun h => g_435 (h.2.1)))).symm, ⟨by rw [ht]; exact hP9, va_K.moved hW.alike hK, hD9⟩⟩, hS.F ht⟩) hS.2.2 dX11_type_48
              · have f_381 : ¬ (32 ≤ w_376.toInt ∧ w_376.toInt ≤ 126) := bz_0 hw_379 c_380
                have g_436 : ¬ okb zja 2 := by unfold okb; rw [← tw_376]; exact f_381
                refine lv_iconst (v := (-1)) hx hb dX11_type_47 (by decide) ?_
                have hP9 := hP.sub (ws' := []) [] rfl
                have hD9 := hD.sub (ws' := []) [] (by decide) rfl
                exact W.iret (v := (-1)) hx hb hr (fun t ht hW => ⟨⟨(-1), (), rfl, ((an_type_7 _).trans (if_neg (fun h => g_436 (h.2.2.1)))).symm, ⟨by rw [ht]; exact hP9, va_K.moved hW.alike hK, hD9⟩⟩, hS.F ht⟩) hS.2.2 dX11_type_48
            · have f_372 : ¬ (32 ≤ w_367.toInt ∧ w_367.toInt ≤ 126) := bz_0 hw_370 c_371
              have g_437 : ¬ okb zja 3 := by unfold okb; rw [← tw_367]; exact f_372
              refine lv_iconst (v := (-1)) hx hb dX11_type_47 (by decide) ?_
              have hP9 := hP.sub (ws' := []) [] rfl
              have hD9 := hD.sub (ws' := []) [] (by decide) rfl
              exact W.iret (v := (-1)) hx hb hr (fun t ht hW => ⟨⟨(-1), (), rfl, ((an_type_7 _).trans (if_neg (fun h => g_437 (h.2.2.2.1)))).symm, ⟨by rw [ht]; exact hP9, va_K.moved hW.alike hK, hD9⟩⟩, hS.F ht⟩) hS.2.2 dX11_type_48
          · have f_363 : ¬ (32 ≤ w_358.toInt ∧ w_358.toInt ≤ 126) := bz_0 hw_361 c_362
            have g_438 : ¬ okb zja 4 := by unfold okb; rw [← tw_358]; exact f_363
            refine lv_iconst (v := (-1)) hx hb dX11_type_47 (by decide) ?_
            have hP9 := hP.sub (ws' := []) [] rfl
            have hD9 := hD.sub (ws' := []) [] (by decide) rfl
            exact W.iret (v := (-1)) hx hb hr (fun t ht hW => ⟨⟨(-1), (), rfl, ((an_type_7 _).trans (if_neg (fun h => g_438 (h.2.2.2.2.1)))).symm, ⟨by rw [ht]; exact hP9, va_K.moved hW.alike hK, hD9⟩⟩, hS.F ht⟩) hS.2.2 dX11_type_48
        · have f_354 : ¬ (32 ≤ w_349.toInt ∧ w_349.toInt ≤ 126) := bz_0 hw_352 c_353
          have g_439 : ¬ okb zja 5 := by unfold okb; rw [← tw_349]; exact f_354
          refine lv_iconst (v := (-1)) hx hb dX11_type_47 (by decide) ?_
          have hP9 := hP.sub (ws' := []) [] rfl
          have hD9 := hD.sub (ws' := []) [] (by decide) rfl
          exact W.iret (v := (-1)) hx hb hr (fun t ht hW => ⟨⟨(-1), (), rfl, ((an_type_7 _).trans (if_neg (fun h => g_439 (h.2.2.2.2.2.1)))).symm, ⟨by rw [ht]; exact hP9, va_K.moved hW.alike hK, hD9⟩⟩, hS.F ht⟩) hS.2.2 dX11_type_48
      · have f_345 : ¬ (32 ≤ w_340.toInt ∧ w_340.toInt ≤ 126) := bz_0 hw_343 c_344
        have g_440 : ¬ okb zja 6 := by unfold okb; rw [← tw_340]; exact f_345
        refine lv_iconst (v := (-1)) hx hb dX11_type_47 (by decide) ?_
        have hP9 := hP.sub (ws' := []) [] rfl
        have hD9 := hD.sub (ws' := []) [] (by decide) rfl
        exact W.iret (v := (-1)) hx hb hr (fun t ht hW => ⟨⟨(-1), (), rfl, ((an_type_7 _).trans (if_neg (fun h => g_440 (h.2.2.2.2.2.2)))).symm, ⟨by rw [ht]; exact hP9, va_K.moved hW.alike hK, hD9⟩⟩, hS.F ht⟩) hS.2.2 dX11_type_48
    · have zk_6_8 : (8 : Int32).toInt = 8 := by decide
      refine lv_iload_n hx hb dX11_type_14 rfl (lv_at hl 2 rfl) ?_
      refine lv_iconst (v := 1) hx hb dX11_type_15 (by decide) ?_
      refine lv_isub hx hb dX11_type_16 ?_
      refine lv_topi (fun v_441 ev_441 => ?_)
      obtain rfl : v_441 = (7 : Int32) := ev_441.trans (by decide)
      refine lv_istore (lv' := [(4, .int 7), (0, .ref zy), (1, .long zja), (3, .int 8)]) hx hb dX11_type_17 hl (by decide) rfl (fun ls hl => ?_)
      refine lv_iload hx hb dX11_type_19 (lv_at hl 0 rfl) ?_
      refine lv_if_lt (tgt := 55) hx hb dX11_type_21 (by decide) (fun c_442 => absurd c_442 (by decide)) (fun c_442 => ?_)
      refine lv_lload_n hx hb dX11_type_24 rfl (lv_at hl 2 rfl) ?_
      refine lv_bipush (v := 8) hx hb dX11_type_25 (by decide) ?_
      refine lv_iload hx hb dX11_type_27 (lv_at hl 0 rfl) ?_
      refine lv_imul hx hb dX11_type_29 ?_
      refine lv_topi (fun v_443 ev_443 => ?_)
      obtain rfl : v_443 = (56 : Int32) := ev_443.trans (by decide)
      refine lv_lshr (v := zja >>> ((56 : Int32).toInt64 &&& 63)) hx hb dX11_type_30 rfl ?_
      refine lv_ldc2 (v := 255) hx hb hown (hts (.constantLong RX11 106 255) (by decide +kernel)) dX11_type_31 ?_
      refine lv_land hx hb dX11_type_34 ?_
      refine lv_topl (fun w_444 ew_444 => ?_)
      have tw_444 : w_444.toInt = by8 zja 7 := by rw [ew_444]; exact by8_l7 zja
      refine lv_ldc2 (v := 32) hx hb hown (hts (.constantLong RX11 108 32) (by decide +kernel)) dX11_type_35 ?_
      refine lv_ldc2 (v := 126) hx hb hown (hts (.constantLong RX11 110 126) (by decide +kernel)) dX11_type_38 ?_
      refine cj_i (wc := []) (wr := [(zy, .inr (11, [.ref zy0, .ref zy1, .int 0, .int 0, .int 0, .ref zy5, .int 0, .int 0, .ref zy8, .ref zy9, .ref zy10, .ref zy11, .ref zy12, .ref zy13, .ref zy14, .long 0, .ref zy16, .ref zy17, .ref zy18, .int 0, .long 0, .ref zy21, .ref zy22, .int 0, .ref zy24, .ref zy25, .ref zy26, .ref zy27])), (zy1, .inl (cy 0, 80, .inl (fun _ => 0)))]) (w1 := fun (_ : Unit) => []) (va_runS (As := [.long w_444, .long 32, .long 126]) (rest := []) ⟨hx, hb, hml, hown, hts⟩ (c_X11_in l dC dI cy H.size w_444 32 126 32 126 w_444.toInt (by first | rfl | decide | omega | exact Int32.toInt_toInt64 _) (by first | rfl | decide | omega | exact Int32.toInt_toInt64 _) (by first | rfl | decide | omega | exact Int32.toInt_toInt64 _)) (va_cwS 3 hts gX11_type_X11_in rfl rfl rfl (by decide +kernel) ⟨(Nat.le_of_ble_eq_true rfl), (Nat.le_of_ble_eq_true rfl)⟩) (PRE.s (hP.sub [] rfl) hK (hD.sub [] (by decide) rfl) hN) rfl rfl hl.1 rfl (lv_room (Nat.le_of_ble_eq_true rfl)) dX11_type_41 ⟨(Nat.le_of_ble_eq_true rfl), (Nat.le_of_ble_eq_true rfl)⟩) hP hD hS hA [] [0, 1] rfl rfl rfl (by decide) (fun r_446 u_445 H locs hw_447 hP hD hS => ?_)
      have hP : va_P (dC, dI) vwCl [(zy, .inr (11, [.ref zy0, .ref zy1, .int 0, .int 0, .int 0, .ref zy5, .int 0, .int 0, .ref zy8, .ref zy9, .ref zy10, .ref zy11, .ref zy12, .ref zy13, .ref zy14, .long 0, .ref zy16, .ref zy17, .ref zy18, .int 0, .long 0, .ref zy21, .ref zy22, .int 0, .ref zy24, .ref zy25, .ref zy26, .ref zy27])), (zy1, .inl (cy 0, 80, .inl (fun _ => 0)))] H := hP
      have hD : va_D A [(zy, .inr (11, [.ref zy0, .ref zy1, .int 0, .int 0, .int 0, .ref zy5, .int 0, .int 0, .ref zy8, .ref zy9, .ref zy10, .ref zy11, .ref zy12, .ref zy13, .ref zy14, .long 0, .ref zy16, .ref zy17, .ref zy18, .int 0, .long 0, .ref zy21, .ref zy22, .int 0, .ref zy24, .ref zy25, .ref zy26, .ref zy27])), (zy1, .inl (cy 0, 80, .inl (fun _ => 0)))] := hD
      have hw_447 : r_446 = if 32 ≤ w_444.toInt ∧ w_444.toInt ≤ 126 then 1 else 0 := hw_447
      refine lv_if_ne (tgt := 49) hx hb dX11_type_44 (by decide) (fun c_448 => ?_) (fun c_448 => ?_)
      · have f_449 : 32 ≤ w_444.toInt ∧ w_444.toInt ≤ 126 := bz_1 hw_447 c_448
        have g_450 : okb zja 7 := by unfold okb; rw [← tw_444]; exact f_449
        refine lv_iinc (v := 6) (lv' := [(4, .int 6), (0, .ref zy), (1, .long zja), (3, .int 8)]) hx hb dX11_type_49 hl (k := 0) rfl (by decide) (by decide) rfl (fun ls hl => ?_)
        refine lv_goto (tgt := 19) hx hb dX11_type_52 (by decide) ?_
        refine lv_iload hx hb dX11_type_19 (lv_at hl 0 rfl) ?_
        refine lv_if_lt (tgt := 55) hx hb dX11_type_21 (by decide) (fun c_451 => absurd c_451 (by decide)) (fun c_451 => ?_)
        refine lv_lload_n hx hb dX11_type_24 rfl (lv_at hl 2 rfl) ?_
        refine lv_bipush (v := 8) hx hb dX11_type_25 (by decide) ?_
        refine lv_iload hx hb dX11_type_27 (lv_at hl 0 rfl) ?_
        refine lv_imul hx hb dX11_type_29 ?_
        refine lv_topi (fun v_452 ev_452 => ?_)
        obtain rfl : v_452 = (48 : Int32) := ev_452.trans (by decide)
        refine lv_lshr (v := zja >>> ((48 : Int32).toInt64 &&& 63)) hx hb dX11_type_30 rfl ?_
        refine lv_ldc2 (v := 255) hx hb hown (hts (.constantLong RX11 106 255) (by decide +kernel)) dX11_type_31 ?_
        refine lv_land hx hb dX11_type_34 ?_
        refine lv_topl (fun w_453 ew_453 => ?_)
        have tw_453 : w_453.toInt = by8 zja 6 := by rw [ew_453]; exact by8_l6 zja
        refine lv_ldc2 (v := 32) hx hb hown (hts (.constantLong RX11 108 32) (by decide +kernel)) dX11_type_35 ?_
        refine lv_ldc2 (v := 126) hx hb hown (hts (.constantLong RX11 110 126) (by decide +kernel)) dX11_type_38 ?_
        refine cj_i (wc := []) (wr := [(zy, .inr (11, [.ref zy0, .ref zy1, .int 0, .int 0, .int 0, .ref zy5, .int 0, .int 0, .ref zy8, .ref zy9, .ref zy10, .ref zy11, .ref zy12, .ref zy13, .ref zy14, .long 0, .ref zy16, .ref zy17, .ref zy18, .int 0, .long 0, .ref zy21, .ref zy22, .int 0, .ref zy24, .ref zy25, .ref zy26, .ref zy27])), (zy1, .inl (cy 0, 80, .inl (fun _ => 0)))]) (w1 := fun (_ : Unit) => []) (va_runS (As := [.long w_453, .long 32, .long 126]) (rest := []) ⟨hx, hb, hml, hown, hts⟩ (c_X11_in l dC dI cy H.size w_453 32 126 32 126 w_453.toInt (by first | rfl | decide | omega | exact Int32.toInt_toInt64 _) (by first | rfl | decide | omega | exact Int32.toInt_toInt64 _) (by first | rfl | decide | omega | exact Int32.toInt_toInt64 _)) (va_cwS 3 hts gX11_type_X11_in rfl rfl rfl (by decide +kernel) ⟨(Nat.le_of_ble_eq_true rfl), (Nat.le_of_ble_eq_true rfl)⟩) (PRE.s (hP.sub [] rfl) hK (hD.sub [] (by decide) rfl) hN) rfl rfl hl.1 rfl (lv_room (Nat.le_of_ble_eq_true rfl)) dX11_type_41 ⟨(Nat.le_of_ble_eq_true rfl), (Nat.le_of_ble_eq_true rfl)⟩) hP hD hS hA [] [0, 1] rfl rfl rfl (by decide) (fun r_455 u_454 H locs hw_456 hP hD hS => ?_)
        have hP : va_P (dC, dI) vwCl [(zy, .inr (11, [.ref zy0, .ref zy1, .int 0, .int 0, .int 0, .ref zy5, .int 0, .int 0, .ref zy8, .ref zy9, .ref zy10, .ref zy11, .ref zy12, .ref zy13, .ref zy14, .long 0, .ref zy16, .ref zy17, .ref zy18, .int 0, .long 0, .ref zy21, .ref zy22, .int 0, .ref zy24, .ref zy25, .ref zy26, .ref zy27])), (zy1, .inl (cy 0, 80, .inl (fun _ => 0)))] H := hP
        have hD : va_D A [(zy, .inr (11, [.ref zy0, .ref zy1, .int 0, .int 0, .int 0, .ref zy5, .int 0, .int 0, .ref zy8, .ref zy9, .ref zy10, .ref zy11, .ref zy12, .ref zy13, .ref zy14, .long 0, .ref zy16, .ref zy17, .ref zy18, .int 0, .long 0, .ref zy21, .ref zy22, .int 0, .ref zy24, .ref zy25, .ref zy26, .ref zy27])), (zy1, .inl (cy 0, 80, .inl (fun _ => 0)))] := hD
        have hw_456 : r_455 = if 32 ≤ w_453.toInt ∧ w_453.toInt ≤ 126 then 1 else 0 := hw_456
        refine lv_if_ne (tgt := 49) hx hb dX11_type_44 (by decide) (fun c_457 => ?_) (fun c_457 => ?_)
        · have f_458 : 32 ≤ w_453.toInt ∧ w_453.toInt ≤ 126 := bz_1 hw_456 c_457
          have g_459 : okb zja 6 := by unfold okb; rw [← tw_453]; exact f_458
          refine lv_iinc (v := 5) (lv' := [(4, .int 5), (0, .ref zy), (1, .long zja), (3, .int 8)]) hx hb dX11_type_49 hl (k := 0) rfl (by decide) (by decide) rfl (fun ls hl => ?_)
          refine lv_goto (tgt := 19) hx hb dX11_type_52 (by decide) ?_
          refine lv_iload hx hb dX11_type_19 (lv_at hl 0 rfl) ?_
          refine lv_if_lt (tgt := 55) hx hb dX11_type_21 (by decide) (fun c_460 => absurd c_460 (by decide)) (fun c_460 => ?_)
          refine lv_lload_n hx hb dX11_type_24 rfl (lv_at hl 2 rfl) ?_
          refine lv_bipush (v := 8) hx hb dX11_type_25 (by decide) ?_
          refine lv_iload hx hb dX11_type_27 (lv_at hl 0 rfl) ?_
          refine lv_imul hx hb dX11_type_29 ?_
          refine lv_topi (fun v_461 ev_461 => ?_)
          obtain rfl : v_461 = (40 : Int32) := ev_461.trans (by decide)
          refine lv_lshr (v := zja >>> ((40 : Int32).toInt64 &&& 63)) hx hb dX11_type_30 rfl ?_
          refine lv_ldc2 (v := 255) hx hb hown (hts (.constantLong RX11 106 255) (by decide +kernel)) dX11_type_31 ?_
          refine lv_land hx hb dX11_type_34 ?_
          refine lv_topl (fun w_462 ew_462 => ?_)
          have tw_462 : w_462.toInt = by8 zja 5 := by rw [ew_462]; exact by8_l5 zja
          refine lv_ldc2 (v := 32) hx hb hown (hts (.constantLong RX11 108 32) (by decide +kernel)) dX11_type_35 ?_
          refine lv_ldc2 (v := 126) hx hb hown (hts (.constantLong RX11 110 126) (by decide +kernel)) dX11_type_38 ?_
          refine cj_i (wc := []) (wr := [(zy, .inr (11, [.ref zy0, .ref zy1, .int 0, .int 0, .int 0, .ref zy5, .int 0, .int 0, .ref zy8, .ref zy9, .ref zy10, .ref zy11, .ref zy12, .ref zy13, .ref zy14, .long 0, .ref zy16, .ref zy17, .ref zy18, .int 0, .long 0, .ref zy21, .ref zy22, .int 0, .ref zy24, .ref zy25, .ref zy26, .ref zy27])), (zy1, .inl (cy 0, 80, .inl (fun _ => 0)))]) (w1 := fun (_ : Unit) => []) (va_runS (As := [.long w_462, .long 32, .long 126]) (rest := []) ⟨hx, hb, hml, hown, hts⟩ (c_X11_in l dC dI cy H.size w_462 32 126 32 126 w_462.toInt (by first | rfl | decide | omega | exact Int32.toInt_toInt64 _) (by first | rfl | decide | omega | exact Int32.toInt_toInt64 _) (by first | rfl | decide | omega | exact Int32.toInt_toInt64 _)) (va_cwS 3 hts gX11_type_X11_in rfl rfl rfl (by decide +kernel) ⟨(Nat.le_of_ble_eq_true rfl), (Nat.le_of_ble_eq_true rfl)⟩) (PRE.s (hP.sub [] rfl) hK (hD.sub [] (by decide) rfl) hN) rfl rfl hl.1 rfl (lv_room (Nat.le_of_ble_eq_true rfl)) dX11_type_41 ⟨(Nat.le_of_ble_eq_true rfl), (Nat.le_of_ble_eq_true rfl)⟩) hP hD hS hA [] [0, 1] rfl rfl rfl (by decide) (fun r_464 u_463 H locs hw_465 hP hD hS => ?_)
          have hP : va_P (dC, dI) vwCl [(zy, .inr (11, [.ref zy0, .ref zy1, .int 0, .int 0, .int 0, .ref zy5, .int 0, .int 0, .ref zy8, .ref zy9, .ref zy10, .ref zy11, .ref zy12, .ref zy13, .ref zy14, .long 0, .ref zy16, .ref zy17, .ref zy18, .int 0, .long 0, .ref zy21, .ref zy22, .int 0, .ref zy24, .ref zy25, .ref zy26, .ref zy27])), (zy1, .inl (cy 0, 80, .inl (fun _ => 0)))] H := hP
          have hD : va_D A [(zy, .inr (11, [.ref zy0, .ref zy1, .int 0, .int 0, .int 0, .ref zy5, .int 0, .int 0, .ref zy8, .ref zy9, .ref zy10, .ref zy11, .ref zy12, .ref zy13, .ref zy14, .long 0, .ref zy16, .ref zy17, .ref zy18, .int 0, .long 0, .ref zy21, .ref zy22, .int 0, .ref zy24, .ref zy25, .ref zy26, .ref zy27])), (zy1, .inl (cy 0, 80, .inl (fun _ => 0)))] := hD
          have hw_465 : r_464 = if 32 ≤ w_462.toInt ∧ w_462.toInt ≤ 126 then 1 else 0 := hw_465
          refine lv_if_ne (tgt := 49) hx hb dX11_type_44 (by decide) (fun c_466 => ?_) (fun c_466 => ?_)
          · have f_467 : 32 ≤ w_462.toInt ∧ w_462.toInt ≤ 126 := bz_1 hw_465 c_466
            have g_468 : okb zja 5 := by unfold okb; rw [← tw_462]; exact f_467
            refine lv_iinc (v := 4) (lv' := [(4, .int 4), (0, .ref zy), (1, .long zja), (3, .int 8)]) hx hb dX11_type_49 hl (k := 0) rfl (by decide) (by decide) rfl (fun ls hl => ?_)
            refine lv_goto (tgt := 19) hx hb dX11_type_52 (by decide) ?_
            refine lv_iload hx hb dX11_type_19 (lv_at hl 0 rfl) ?_
            refine lv_if_lt (tgt := 55) hx hb dX11_type_21 (by decide) (fun c_469 => absurd c_469 (by decide)) (fun c_469 => ?_)
            refine lv_lload_n hx hb dX11_type_24 rfl (lv_at hl 2 rfl) ?_
            refine lv_bipush (v := 8) hx hb dX11_type_25 (by decide) ?_
            refine lv_iload hx hb dX11_type_27 (lv_at hl 0 rfl) ?_
            refine lv_imul hx hb dX11_type_29 ?_
            refine lv_topi (fun v_470 ev_470 => ?_)
            obtain rfl : v_470 = (32 : Int32) := ev_470.trans (by decide)
            refine lv_lshr (v := zja >>> ((32 : Int32).toInt64 &&& 63)) hx hb dX11_type_30 rfl ?_
            refine lv_ldc2 (v := 255) hx hb hown (hts (.constantLong RX11 106 255) (by decide +kernel)) dX11_type_31 ?_
            refine lv_land hx hb dX11_type_34 ?_
            refine lv_topl (fun w_471 ew_471 => ?_)
            have tw_471 : w_471.toInt = by8 zja 4 := by rw [ew_471]; exact by8_l4 zja
            refine lv_ldc2 (v := 32) hx hb hown (hts (.constantLong RX11 108 32) (by decide +kernel)) dX11_type_35 ?_
            refine lv_ldc2 (v := 126) hx hb hown (hts (.constantLong RX11 110 126) (by decide +kernel)) dX11_type_38 ?_
            refine cj_i (wc := []) (wr := [(zy, .inr (11, [.ref zy0, .ref zy1, .int 0, .int 0, .int 0, .ref zy5, .int 0, .int 0, .ref zy8, .ref zy9, .ref zy10, .ref zy11, .ref zy12, .ref zy13, .ref zy14, .long 0, .ref zy16, .ref zy17, .ref zy18, .int 0, .long 0, .ref zy21, .ref zy22, .int 0, .ref zy24, .ref zy25, .ref zy26, .ref zy27])), (zy1, .inl (cy 0, 80, .inl (fun _ => 0)))]) (w1 := fun (_ : Unit) => []) (va_runS (As := [.long w_471, .long 32, .long 126]) (rest := []) ⟨hx, hb, hml, hown, hts⟩ (c_X11_in l dC dI cy H.size w_471 32 126 32 126 w_471.toInt (by first | rfl | decide | omega | exact Int32.toInt_toInt64 _) (by first | rfl | decide | omega | exact Int32.toInt_toInt64 _) (by first | rfl | decide | omega | exact Int32.toInt_toInt64 _)) (va_cwS 3 hts gX11_type_X11_in rfl rfl rfl (by decide +kernel) ⟨(Nat.le_of_ble_eq_true rfl), (Nat.le_of_ble_eq_true rfl)⟩) (PRE.s (hP.sub [] rfl) hK (hD.sub [] (by decide) rfl) hN) rfl rfl hl.1 rfl (lv_room (Nat.le_of_ble_eq_true rfl)) dX11_type_41 ⟨(Nat.le_of_ble_eq_true rfl), (Nat.le_of_ble_eq_true rfl)⟩) hP hD hS hA [] [0, 1] rfl rfl rfl (by decide) (fun r_473 u_472 H locs hw_474 hP hD hS => ?_)
            have hP : va_P (dC, dI) vwCl [(zy, .inr (11, [.ref zy0, .ref zy1, .int 0, .int 0, .int 0, .ref zy5, .int 0, .int 0, .ref zy8, .ref zy9, .ref zy10, .ref zy11, .ref zy12, .ref zy13, .ref zy14, .long 0, .ref zy16, .ref zy17, .ref zy18, .int 0, .long 0, .ref zy21, .ref zy22, .int 0, .ref zy24, .ref zy25, .ref zy26, .ref zy27])), (zy1, .inl (cy 0, 80, .inl (fun _ => 0)))] H := hP
            have hD : va_D A [(zy, .inr (11, [.ref zy0, .ref zy1, .int 0, .int 0, .int 0, .ref zy5, .int 0, .int 0, .ref zy8, .ref zy9, .ref zy10, .ref zy11, .ref zy12, .ref zy13, .ref zy14, .long 0, .ref zy16, .ref zy17, .ref zy18, .int 0, .long 0, .ref zy21, .ref zy22, .int 0, .ref zy24, .ref zy25, .ref zy26, .ref zy27])), (zy1, .inl (cy 0, 80, .inl (fun _ => 0)))] := hD
            have hw_474 : r_473 = if 32 ≤ w_471.toInt ∧ w_471.toInt ≤ 126 then 1 else 0 := hw_474
            refine lv_if_ne (tgt := 49) hx hb dX11_type_44 (by decide) (fun c_475 => ?_) (fun c_475 => ?_)
            · have f_476 : 32 ≤ w_471.toInt ∧ w_471.toInt ≤ 126 := bz_1 hw_474 c_475
              have g_477 : okb zja 4 := by unfold okb; rw [← tw_471]; exact f_476
              refine lv_iinc (v := 3) (lv' := [(4, .int 3), (0, .ref zy), (1, .long zja), (3, .int 8)]) hx hb dX11_type_49 hl (k := 0) rfl (by decide) (by decide) rfl (fun ls hl => ?_)
              refine lv_goto (tgt := 19) hx hb dX11_type_52 (by decide) ?_
              refine lv_iload hx hb dX11_type_19 (lv_at hl 0 rfl) ?_
              refine lv_if_lt (tgt := 55) hx hb dX11_type_21 (by decide) (fun c_478 => absurd c_478 (by decide)) (fun c_478 => ?_)
              refine lv_lload_n hx hb dX11_type_24 rfl (lv_at hl 2 rfl) ?_
              refine lv_bipush (v := 8) hx hb dX11_type_25 (by decide) ?_
              refine lv_iload hx hb dX11_type_27 (lv_at hl 0 rfl) ?_
              refine lv_imul hx hb dX11_type_29 ?_
              refine lv_topi (fun v_479 ev_479 => ?_)
              obtain rfl : v_479 = (24 : Int32) := ev_479.trans (by decide)
              refine lv_lshr (v := zja >>> ((24 : Int32).toInt64 &&& 63)) hx hb dX11_type_30 rfl ?_
              refine lv_ldc2 (v := 255) hx hb hown (hts (.constantLong RX11 106 255) (by decide +kernel)) dX11_type_31 ?_
              refine lv_land hx hb dX11_type_34 ?_
              refine lv_topl (fun w_480 ew_480 => ?_)
              have tw_480 : w_480.toInt = by8 zja 3 := by rw [ew_480]; exact by8_l3 zja
              refine lv_ldc2 (v := 32) hx hb hown (hts (.constantLong RX11 108 32) (by decide +kernel)) dX11_type_35 ?_
              refine lv_ldc2 (v := 126) hx hb hown (hts (.constantLong RX11 110 126) (by decide +kernel)) dX11_type_38 ?_
              refine cj_i (wc := []) (wr := [(zy, .inr (11, [.ref zy0, .ref zy1, .int 0, .int 0, .int 0, .ref zy5, .int 0, .int 0, .ref zy8, .ref zy9, .ref zy10, .ref zy11, .ref zy12, .ref zy13, .ref zy14, .long 0, .ref zy16, .ref zy17, .ref zy18, .int 0, .long 0, .ref zy21, .ref zy22, .int 0, .ref zy24, .ref zy25, .ref zy26, .ref zy27])), (zy1, .inl (cy 0, 80, .inl (fun _ => 0)))]) (w1 := fun (_ : Unit) => []) (va_runS (As := [.long w_480, .long 32, .long 126]) (rest := []) ⟨hx, hb, hml, hown, hts⟩ (c_X11_in l dC dI cy H.size w_480 32 126 32 126 w_480.toInt (by first | rfl | decide | omega | exact Int32.toInt_toInt64 _) (by first | rfl | decide | omega | exact Int32.toInt_toInt64 _) (by first | rfl | decide | omega | exact Int32.toInt_toInt64 _)) (va_cwS 3 hts gX11_type_X11_in rfl rfl rfl (by decide +kernel) ⟨(Nat.le_of_ble_eq_true rfl), (Nat.le_of_ble_eq_true rfl)⟩) (PRE.s (hP.sub [] rfl) hK (hD.sub [] (by decide) rfl) hN) rfl rfl hl.1 rfl (lv_room (Nat.le_of_ble_eq_true rfl)) dX11_type_41 ⟨(Nat.le_of_ble_eq_true rfl), (Nat.le_of_ble_eq_true rfl)⟩) hP hD hS hA [] [0, 1] rfl rfl rfl (by decide) (fun r_482 u_481 H locs hw_483 hP hD hS => ?_)
              have hP : va_P (dC, dI) vwCl [(zy, .inr (11, [.ref zy0, .ref zy1, .int 0, .int 0, .int 0, .ref zy5, .int 0, .int 0, .ref zy8, .ref zy9, .ref zy10, .ref zy11, .ref zy12, .ref zy13, .ref zy14, .long 0, .ref zy16, .ref zy17, .ref zy18, .int 0, .long 0, .ref zy21, .ref zy22, .int 0, .ref zy24, .ref zy25, .ref zy26, .ref zy27])), (zy1, .inl (cy 0, 80, .inl (fun _ => 0)))] H := hP
              have hD : va_D A [(zy, .inr (11, [.ref zy0, .ref zy1, .int 0, .int 0, .int 0, .ref zy5, .int 0, .int 0, .ref zy8, .ref zy9, .ref zy10, .ref zy11, .ref zy12, .ref zy13, .ref zy14, .long 0, .ref zy16, .ref zy17, .ref zy18, .int 0, .long 0, .ref zy21, .ref zy22, .int 0, .ref zy24, .ref zy25, .ref zy26, .ref zy27])), (zy1, .inl (cy 0, 80, .inl (fun _ => 0)))] := hD
              have hw_483 : r_482 = if 32 ≤ w_480.toInt ∧ w_480.toInt ≤ 126 then 1 else 0 := hw_483
              refine lv_if_ne (tgt := 49) hx hb dX11_type_44 (by decide) (fun c_484 => ?_) (fun c_484 => ?_)
              · have f_485 : 32 ≤ w_480.toInt ∧ w_480.toInt ≤ 126 := bz_1 hw_483 c_484
                have g_486 : okb zja 3 := by unfold okb; rw [← tw_480]; exact f_485
                refine lv_iinc (v := 2) (lv' := [(4, .int 2), (0, .ref zy), (1, .long zja), (3, .int 8)]) hx hb dX11_type_49 hl (k := 0) rfl (by decide) (by decide) rfl (fun ls hl => ?_)
                refine lv_goto (tgt := 19) hx hb dX11_type_52 (by decide) ?_
                refine lv_iload hx hb dX11_type_19 (lv_at hl 0 rfl) ?_
                refine lv_if_lt (tgt := 55) hx hb dX11_type_21 (by decide) (fun c_487 => absurd c_487 (by decide)) (fun c_487 => ?_)
                refine lv_lload_n hx hb dX11_type_24 rfl (lv_at hl 2 rfl) ?_
                refine lv_bipush (v := 8) hx hb dX11_type_25 (by decide) ?_
                refine lv_iload hx hb dX11_type_27 (lv_at hl 0 rfl) ?_
                refine lv_imul hx hb dX11_type_29 ?_
                refine lv_topi (fun v_488 ev_488 => ?_)
                obtain rfl : v_488 = (16 : Int32) := ev_488.trans (by decide)
                refine lv_lshr (v := zja >>> ((16 : Int32).toInt64 &&& 63)) hx hb dX11_type_30 rfl ?_
                refine lv_ldc2 (v := 255) hx hb hown (hts (.constantLong RX11 106 255) (by decide +kernel)) dX11_type_31 ?_
                refine lv_land hx hb dX11_type_34 ?_
                refine lv_topl (fun w_489 ew_489 => ?_)
                have tw_489 : w_489.toInt = by8 zja 2 := by rw [ew_489]; exact by8_l2 zja
                refine lv_ldc2 (v := 32) hx hb hown (hts (.constantLong RX11 108 32) (by decide +kernel)) dX11_type_35 ?_
                refine lv_ldc2 (v := 126) hx hb hown (hts (.constantLong RX11 110 126) (by decide +kernel)) dX11_type_38 ?_
                refine cj_i (wc := []) (wr := [(zy, .inr (11, [.ref zy0, .ref zy1, .int 0, .int 0, .int 0, .ref zy5, .int 0, .int 0, .ref zy8, .ref zy9, .ref zy10, .ref zy11, .ref zy12, .ref zy13, .ref zy14, .long 0, .ref zy16, .ref zy17, .ref zy18, .int 0, .long 0, .ref zy21, .ref zy22, .int 0, .ref zy24, .ref zy25, .ref zy26, .ref zy27])), (zy1, .inl (cy 0, 80, .inl (fun _ => 0)))]) (w1 := fun (_ : Unit) => []) (va_runS (As := [.long w_489, .long 32, .long 126]) (rest := []) ⟨hx, hb, hml, hown, hts⟩ (c_X11_in l dC dI cy H.size w_489 32 126 32 126 w_489.toInt (by first | rfl | decide | omega | exact Int32.toInt_toInt64 _) (by first | rfl | decide | omega | exact Int32.toInt_toInt64 _) (by first | rfl | decide | omega | exact Int32.toInt_toInt64 _)) (va_cwS 3 hts gX11_type_X11_in rfl rfl rfl (by decide +kernel) ⟨(Nat.le_of_ble_eq_true rfl), (Nat.le_of_ble_eq_true rfl)⟩) (PRE.s (hP.sub [] rfl) hK (hD.sub [] (by decide) rfl) hN) rfl rfl hl.1 rfl (lv_room (Nat.le_of_ble_eq_true rfl)) dX11_type_41 ⟨(Nat.le_of_ble_eq_true rfl), (Nat.le_of_ble_eq_true rfl)⟩) hP hD hS hA [] [0, 1] rfl rfl rfl (by decide) (fun r_491 u_490 H locs hw_492 hP hD hS => ?_)
                have hP : va_P (dC, dI) vwCl [(zy, .inr (11, [.ref zy0, .ref zy1, .int 0, .int 0, .int 0, .ref zy5, .int 0, .int 0, .ref zy8, .ref zy9, .ref zy10, .ref zy11, .ref zy12, .ref zy13, .ref zy14, .long 0, .ref zy16, .ref zy17, .ref zy18, .int 0, .long 0, .ref zy21, .ref zy22, .int 0, .ref zy24, .ref zy25, .ref zy26, .ref zy27])), (zy1, .inl (cy 0, 80, .inl (fun _ => 0)))] H := hP
                have hD : va_D A [(zy, .inr (11, [.ref zy0, .ref zy1, .int 0, .int 0, .int 0, .ref zy5, .int 0, .int 0, .ref zy8, .ref zy9, .ref zy10, .ref zy11, .ref zy12, .ref zy13, .ref zy14, .long 0, .ref zy16, .ref zy17, .ref zy18, .int 0, .long 0, .ref zy21, .ref zy22, .int 0, .ref zy24, .ref zy25, .ref zy26, .ref zy27])), (zy1, .inl (cy 0, 80, .inl (fun _ => 0)))] := hD
                have hw_492 : r_491 = if 32 ≤ w_489.toInt ∧ w_489.toInt ≤ 126 then 1 else 0 := hw_492
                refine lv_if_ne (tgt := 49) hx hb dX11_type_44 (by decide) (fun c_493 => ?_) (fun c_493 => ?_)
                · have f_494 : 32 ≤ w_489.toInt ∧ w_489.toInt ≤ 126 := bz_1 hw_492 c_493
                  have g_495 : okb zja 2 := by unfold okb; rw [← tw_489]; exact f_494
                  refine lv_iinc (v := 1) (lv' := [(4, .int 1), (0, .ref zy), (1, .long zja), (3, .int 8)]) hx hb dX11_type_49 hl (k := 0) rfl (by decide) (by decide) rfl (fun ls hl => ?_)
                  refine lv_goto (tgt := 19) hx hb dX11_type_52 (by decide) ?_
                  refine lv_iload hx hb dX11_type_19 (lv_at hl 0 rfl) ?_
                  refine lv_if_lt (tgt := 55) hx hb dX11_type_21 (by decide) (fun c_496 => absurd c_496 (by decide)) (fun c_496 => ?_)
                  refine lv_lload_n hx hb dX11_type_24 rfl (lv_at hl 2 rfl) ?_
                  refine lv_bipush (v := 8) hx hb dX11_type_25 (by decide) ?_
                  refine lv_iload hx hb dX11_type_27 (lv_at hl 0 rfl) ?_
                  refine lv_imul hx hb dX11_type_29 ?_
                  refine lv_topi (fun v_497 ev_497 => ?_)
                  obtain rfl : v_497 = (8 : Int32) := ev_497.trans (by decide)
                  refine lv_lshr (v := zja >>> ((8 : Int32).toInt64 &&& 63)) hx hb dX11_type_30 rfl ?_
                  refine lv_ldc2 (v := 255) hx hb hown (hts (.constantLong RX11 106 255) (by decide +kernel)) dX11_type_31 ?_
                  refine lv_land hx hb dX11_type_34 ?_
                  refine lv_topl (fun w_498 ew_498 => ?_)
                  have tw_498 : w_498.toInt = by8 zja 1 := by rw [ew_498]; exact by8_l1 zja
                  refine lv_ldc2 (v := 32) hx hb hown (hts (.constantLong RX11 108 32) (by decide +kernel)) dX11_type_35 ?_
                  refine lv_ldc2 (v := 126) hx hb hown (hts (.constantLong RX11 110 126) (by decide +kernel)) dX11_type_38 ?_
                  refine cj_i (wc := []) (wr := [(zy, .inr (11, [.ref zy0, .ref zy1, .int 0, .int 0, .int 0, .ref zy5, .int 0, .int 0, .ref zy8, .ref zy9, .ref zy10, .ref zy11, .ref zy12, .ref zy13, .ref zy14, .long 0, .ref zy16, .ref zy17, .ref zy18, .int 0, .long 0, .ref zy21, .ref zy22, .int 0, .ref zy24, .ref zy25, .ref zy26, .ref zy27])), (zy1, .inl (cy 0, 80, .inl (fun _ => 0)))]) (w1 := fun (_ : Unit) => []) (va_runS (As := [.long w_498, .long 32, .long 126]) (rest := []) ⟨hx, hb, hml, hown, hts⟩ (c_X11_in l dC dI cy H.size w_498 32 126 32 126 w_498.toInt (by first | rfl | decide | omega | exact Int32.toInt_toInt64 _) (by first | rfl | decide | omega | exact Int32.toInt_toInt64 _) (by first | rfl | decide | omega | exact Int32.toInt_toInt64 _)) (va_cwS 3 hts gX11_type_X11_in rfl rfl rfl (by decide +kernel) ⟨(Nat.le_of_ble_eq_true rfl), (Nat.le_of_ble_eq_true rfl)⟩) (PRE.s (hP.sub [] rfl) hK (hD.sub [] (by decide) rfl) hN) rfl rfl hl.1 rfl (lv_room (Nat.le_of_ble_eq_true rfl)) dX11_type_41 ⟨(Nat.le_of_ble_eq_true rfl), (Nat.le_of_ble_eq_true rfl)⟩) hP hD hS hA [] [0, 1] rfl rfl rfl (by decide) (fun r_500 u_499 H locs hw_501 hP hD hS => ?_)
                  have hP : va_P (dC, dI) vwCl [(zy, .inr (11, [.ref zy0, .ref zy1, .int 0, .int 0, .int 0, .ref zy5, .int 0, .int 0, .ref zy8, .ref zy9, .ref zy10, .ref zy11, .ref zy12, .ref zy13, .ref zy14, .long 0, .ref zy16, .ref zy17, .ref zy18, .int 0, .long 0, .ref zy21, .ref zy22, .int 0, .ref zy24, .ref zy25, .ref zy26, .ref zy27])), (zy1, .inl (cy 0, 80, .inl (fun _ => 0)))] H := hP
                  have hD : va_D A [(zy, .inr (11, [.ref zy0, .ref zy1, .int 0, .int 0, .int 0, .ref zy5, .int 0, .int 0, .ref zy8, .ref zy9, .ref zy10, .ref zy11, .ref zy12, .ref zy13, .ref zy14, .long 0, .ref zy16, .ref zy17, .ref zy18, .int 0, .long 0, .ref zy21, .ref zy22, .int 0, .ref zy24, .ref zy25, .ref zy26, .ref zy27])), (zy1, .inl (cy 0, 80, .inl (fun _ => 0)))] := hD
                  have hw_501 : r_500 = if 32 ≤ w_498.toInt ∧ w_498.toInt ≤ 126 then 1 else 0 := hw_501
                  refine lv_if_ne (tgt := 49) hx hb dX11_type_44 (by decide) (fun c_502 => ?_) (fun c_502 => ?_)
                  · have f_503 : 32 ≤ w_498.toInt ∧ w_498.toInt ≤ 126 := bz_1 hw_501 c_502
                    have g_504 : okb zja 1 := by unfold okb; rw [← tw_498]; exact f_503
                    refine lv_iinc (v := 0) (lv' := [(4, .int 0), (0, .ref zy), (1, .long zja), (3, .int 8)]) hx hb dX11_type_49 hl (k := 0) rfl (by decide) (by decide) rfl (fun ls hl => ?_)
                    refine lv_goto (tgt := 19) hx hb dX11_type_52 (by decide) ?_
                    refine lv_iload hx hb dX11_type_19 (lv_at hl 0 rfl) ?_
                    refine lv_if_lt (tgt := 55) hx hb dX11_type_21 (by decide) (fun c_505 => absurd c_505 (by decide)) (fun c_505 => ?_)
                    refine lv_lload_n hx hb dX11_type_24 rfl (lv_at hl 2 rfl) ?_
                    refine lv_bipush (v := 8) hx hb dX11_type_25 (by decide) ?_
                    refine lv_iload hx hb dX11_type_27 (lv_at hl 0 rfl) ?_
                    refine lv_imul hx hb dX11_type_29 ?_
                    refine lv_topi (fun v_506 ev_506 => ?_)
                    obtain rfl : v_506 = (0 : Int32) := ev_506.trans (by decide)
                    refine lv_lshr (v := zja >>> ((0 : Int32).toInt64 &&& 63)) hx hb dX11_type_30 rfl ?_
                    refine lv_ldc2 (v := 255) hx hb hown (hts (.constantLong RX11 106 255) (by decide +kernel)) dX11_type_31 ?_
                    refine lv_land hx hb dX11_type_34 ?_
                    refine lv_topl (fun w_507 ew_507 => ?_)
                    have tw_507 : w_507.toInt = by8 zja 0 := by rw [ew_507]; exact by8_l0 zja
                    refine lv_ldc2 (v := 32) hx hb hown (hts (.constantLong RX11 108 32) (by decide +kernel)) dX11_type_35 ?_
                    refine lv_ldc2 (v := 126) hx hb hown (hts (.constantLong RX11 110 126) (by decide +kernel)) dX11_type_38 ?_
                    refine cj_i (wc := []) (wr := [(zy, .inr (11, [.ref zy0, .ref zy1, .int 0, .int 0, .int 0, .ref zy5, .int 0, .int 0, .ref zy8, .ref zy9, .ref zy10, .ref zy11, .ref zy12, .ref zy13, .ref zy14, .long 0, .ref zy16, .ref zy17, .ref zy18, .int 0, .long 0, .ref zy21, .ref zy22, .int 0, .ref zy24, .ref zy25, .ref zy26, .ref zy27])), (zy1, .inl (cy 0, 80, .inl (fun _ => 0)))]) (w1 := fun (_ : Unit) => []) (va_runS (As := [.long w_507, .long 32, .long 126]) (rest := []) ⟨hx, hb, hml, hown, hts⟩ (c_X11_in l dC dI cy H.size w_507 32 126 32 126 w_507.toInt (by first | rfl | decide | omega | exact Int32.toInt_toInt64 _) (by first | rfl | decide | omega | exact Int32.toInt_toInt64 _) (by first | rfl | decide | omega | exact Int32.toInt_toInt64 _)) (va_cwS 3 hts gX11_type_X11_in rfl rfl rfl (by decide +kernel) ⟨(Nat.le_of_ble_eq_true rfl), (Nat.le_of_ble_eq_true rfl)⟩) (PRE.s (hP.sub [] rfl) hK (hD.sub [] (by decide) rfl) hN) rfl rfl hl.1 rfl (lv_room (Nat.le_of_ble_eq_true rfl)) dX11_type_41 ⟨(Nat.le_of_ble_eq_true rfl), (Nat.le_of_ble_eq_true rfl)⟩) hP hD hS hA [] [0, 1] rfl rfl rfl (by decide) (fun r_509 u_508 H locs hw_510 hP hD hS => ?_)
                    have hP : va_P (dC, dI) vwCl [(zy, .inr (11, [.ref zy0, .ref zy1, .int 0, .int 0, .int 0, .ref zy5, .int 0, .int 0, .ref zy8, .ref zy9, .ref zy10, .ref zy11, .ref zy12, .ref zy13, .ref zy14, .long 0, .ref zy16, .ref zy17, .ref zy18, .int 0, .long 0, .ref zy21, .ref zy22, .int 0, .ref zy24, .ref zy25, .ref zy26, .ref zy27])), (zy1, .inl (cy 0, 80, .inl (fun _ => 0)))] H := hP
                    have hD : va_D A [(zy, .inr (11, [.ref zy0, .ref zy1, .int 0, .int 0, .int 0, .ref zy5, .int 0, .int 0, .ref zy8, .ref zy9, .ref zy10, .ref zy11, .ref zy12, .ref zy13, .ref zy14, .long 0, .ref zy16, .ref zy17, .ref zy18, .int 0, .long 0, .ref zy21, .ref zy22, .int 0, .ref zy24, .ref zy25, .ref zy26, .ref zy27])), (zy1, .inl (cy 0, 80, .inl (fun _ => 0)))] := hD
                    have hw_510 : r_509 = if 32 ≤ w_507.toInt ∧ w_507.toInt ≤ 126 then 1 else 0 := hw_510
                    refine lv_if_ne (tgt := 49) hx hb dX11_type_44 (by decide) (fun c_511 => ?_) (fun c_511 => ?_)
                    · have f_512 : 32 ≤ w_507.toInt ∧ w_507.toInt ≤ 126 := bz_1 hw_510 c_511
                      have g_513 : okb zja 0 := by unfold okb; rw [← tw_507]; exact f_512
                      refine lv_iinc (v := (-1)) (lv' := [(4, .int (-1)), (0, .ref zy), (1, .long zja), (3, .int 8)]) hx hb dX11_type_49 hl (k := 0) rfl (by decide) (by decide) rfl (fun ls hl => ?_)
                      refine lv_goto (tgt := 19) hx hb dX11_type_52 (by decide) ?_
                      refine lv_iload hx hb dX11_type_19 (lv_at hl 0 rfl) ?_
                      refine lv_if_lt (tgt := 55) hx hb dX11_type_21 (by decide) (fun c_514 => ?_) (fun c_514 => absurd (by decide) c_514)
                      refine lv_aload_n hx hb dX11_type_55 rfl (lv_at hl 1 rfl) ?_
                      refine va_get (D := (dC, dI)) (ci := 11) (v := .int 0) (C := RX11) (T := TX11) (N := 28) hx hb hts (by decide +kernel) hown hK hP 0 rfl rfl 2 (by decide) (hts (.fieldLink RX11 112 "DripStoneModel" "taped" "I") (by decide +kernel)) (fun _ h9 => h9) rfl dX11_type_56 ?_
                      refine lv_iload_n hx hb dX11_type_59 rfl (lv_at hl 3 rfl) ?_
                      refine lv_iadd hx hb dX11_type_60 ?_
                      refine lv_topi (fun v_515 ev_515 => ?_)
                      obtain rfl : v_515 = (8 : Int32) := ev_515.trans (by decide)
                      refine lv_bipush (v := 80) hx hb dX11_type_61 (by decide) ?_
                      refine lv_icmp_le (tgt := 69) hx hb dX11_type_63 (by decide) (fun c_516 => ?_) (fun c_516 => absurd (by decide) c_516)
                      refine lv_iload_n hx hb dX11_type_69 rfl (lv_at hl 3 rfl) ?_
                      refine lv_iconst (v := 1) hx hb dX11_type_70 (by decide) ?_
                      refine lv_isub hx hb dX11_type_71 ?_
                      refine lv_topi (fun v_517 ev_517 => ?_)
                      obtain rfl : v_517 = (7 : Int32) := ev_517.trans (by decide)
                      refine lv_istore (lv' := [(4, .int 7), (0, .ref zy), (1, .long zja), (3, .int 8)]) hx hb dX11_type_72 hl (by decide) rfl (fun ls hl => ?_)
                      refine lv_iload hx hb dX11_type_74 (lv_at hl 0 rfl) ?_
                      refine lv_if_lt (tgt := 116) hx hb dX11_type_76 (by decide) (fun c_518 => absurd c_518 (by decide)) (fun c_518 => ?_)
                      refine lv_aload_n hx hb dX11_type_79 rfl (lv_at hl 1 rfl) ?_
                      refine va_get (D := (dC, dI)) (ci := 11) (v := .ref zy1) (C := RX11) (T := TX11) (N := 28) hx hb hts (by decide +kernel) hown hK hP 0 rfl rfl 1 (by decide) (hts (.fieldLink RX11 13 "DripStoneModel" "tape" "[I") (by decide +kernel)) (fun _ h9 => h9) rfl dX11_type_80 ?_
                      refine lv_aload_n hx hb dX11_type_83 rfl (lv_at hl 1 rfl) ?_
                      refine va_get (D := (dC, dI)) (ci := 11) (v := .int 0) (C := RX11) (T := TX11) (N := 28) hx hb hts (by decide +kernel) hown hK hP 0 rfl rfl 2 (by decide) (hts (.fieldLink RX11 112 "DripStoneModel" "taped" "I") (by decide +kernel)) (fun _ h9 => h9) rfl dX11_type_84 ?_
                      refine lv_lload_n hx hb dX11_type_87 rfl (lv_at hl 2 rfl) ?_
                      refine lv_bipush (v := 8) hx hb dX11_type_88 (by decide) ?_
                      refine lv_iload hx hb dX11_type_90 (lv_at hl 0 rfl) ?_
                      refine lv_imul hx hb dX11_type_92 ?_
                      refine lv_topi (fun v_519 ev_519 => ?_)
                      obtain rfl : v_519 = (56 : Int32) := ev_519.trans (by decide)
                      refine lv_lshr (v := zja >>> ((56 : Int32).toInt64 &&& 63)) hx hb dX11_type_93 rfl ?_
                      refine lv_ldc2 (v := 255) hx hb hown (hts (.constantLong RX11 106 255) (by decide +kernel)) dX11_type_94 ?_
                      refine lv_land hx hb dX11_type_97 ?_
                      refine lv_topl (fun w_520 ew_520 => ?_)
                      have tw_520 : w_520.toInt = by8 zja 7 := by rw [ew_520]; exact by8_l7 zja
                      refine lv_l2i (v := w_520.toInt32) hx hb dX11_type_98 rfl ?_
                      refine va_iast hx hb hK hP hD hS 1 0 rfl rfl (vp_in_iff.mpr ⟨by decide, by decide⟩) dX11_type_99 (fun H locs hP hD hS => ?_)
                      have hP : va_P (dC, dI) vwCl [(zy, .inr (11, [.ref zy0, .ref zy1, .int 0, .int 0, .int 0, .ref zy5, .int 0, .int 0, .ref zy8, .ref zy9, .ref zy10, .ref zy11, .ref zy12, .ref zy13, .ref zy14, .long 0, .ref zy16, .ref zy17, .ref zy18, .int 0, .long 0, .ref zy21, .ref zy22, .int 0, .ref zy24, .ref zy25, .ref zy26, .ref zy27])), (zy1, .inl (cy 0, 80, .inl (upd (fun _ => 0) (0 : Int32).toNatClampNeg w_520.toInt32)))] H := hP
                      have hD : va_D A [(zy, .inr (11, [.ref zy0, .ref zy1, .int 0, .int 0, .int 0, .ref zy5, .int 0, .int 0, .ref zy8, .ref zy9, .ref zy10, .ref zy11, .ref zy12, .ref zy13, .ref zy14, .long 0, .ref zy16, .ref zy17, .ref zy18, .int 0, .long 0, .ref zy21, .ref zy22, .int 0, .ref zy24, .ref zy25, .ref zy26, .ref zy27])), (zy1, .inl (cy 0, 80, .inl (upd (fun _ => 0) (0 : Int32).toNatClampNeg w_520.toInt32)))] := hD
                      refine lv_aload_n hx hb dX11_type_100 rfl (lv_at hl 1 rfl) ?_
                      refine lv_dup hx hb dX11_type_101 rfl ?_
                      refine va_get (D := (dC, dI)) (ci := 11) (v := .int 0) (C := RX11) (T := TX11) (N := 28) hx hb hts (by decide +kernel) hown hK hP 0 rfl rfl 2 (by decide) (hts (.fieldLink RX11 112 "DripStoneModel" "taped" "I") (by decide +kernel)) (fun _ h9 => h9) rfl dX11_type_102 ?_
                      refine lv_iconst (v := 1) hx hb dX11_type_105 (by decide) ?_
                      refine lv_iadd hx hb dX11_type_106 ?_
                      refine lv_topi (fun v_521 ev_521 => ?_)
                      obtain rfl : v_521 = (1 : Int32) := ev_521.trans (by decide)
                      refine va_put (D := (dC, dI)) (ci := 11) (v := .int 1) (ty := .int) (C := RX11) (T := TX11) (N := 28) hx hb hts (by decide +kernel) tyX11 tyX11_ok nmX11 hown hK hP hD hS 0 rfl rfl 2 (by decide) (hts (.fieldLink RX11 112 "DripStoneModel" "taped" "I") (by decide +kernel)) (fun _ h9 => h9) rfl (by decide +kernel) rfl rfl (Nat.le_of_ble_eq_true rfl) dX11_type_107 (fun H locs hP hD hS => ?_)
                      have hP : va_P (dC, dI) vwCl [(zy, .inr (11, [.ref zy0, .ref zy1, .int 1, .int 0, .int 0, .ref zy5, .int 0, .int 0, .ref zy8, .ref zy9, .ref zy10, .ref zy11, .ref zy12, .ref zy13, .ref zy14, .long 0, .ref zy16, .ref zy17, .ref zy18, .int 0, .long 0, .ref zy21, .ref zy22, .int 0, .ref zy24, .ref zy25, .ref zy26, .ref zy27])), (zy1, .inl (cy 0, 80, .inl (upd (fun _ => 0) (0 : Int32).toNatClampNeg w_520.toInt32)))] H := hP
                      have hD : va_D A [(zy, .inr (11, [.ref zy0, .ref zy1, .int 1, .int 0, .int 0, .ref zy5, .int 0, .int 0, .ref zy8, .ref zy9, .ref zy10, .ref zy11, .ref zy12, .ref zy13, .ref zy14, .long 0, .ref zy16, .ref zy17, .ref zy18, .int 0, .long 0, .ref zy21, .ref zy22, .int 0, .ref zy24, .ref zy25, .ref zy26, .ref zy27])), (zy1, .inl (cy 0, 80, .inl (upd (fun _ => 0) (0 : Int32).toNatClampNeg w_520.toInt32)))] := hD
                      refine lv_iinc (v := 6) (lv' := [(4, .int 6), (0, .ref zy), (1, .long zja), (3, .int 8)]) hx hb dX11_type_110 hl (k := 0) rfl (by decide) (by decide) rfl (fun ls hl => ?_)
                      refine lv_goto (tgt := 74) hx hb dX11_type_113 (by decide) ?_
                      refine lv_iload hx hb dX11_type_74 (lv_at hl 0 rfl) ?_
                      refine lv_if_lt (tgt := 116) hx hb dX11_type_76 (by decide) (fun c_522 => absurd c_522 (by decide)) (fun c_522 => ?_)
                      refine lv_aload_n hx hb dX11_type_79 rfl (lv_at hl 1 rfl) ?_
                      refine va_get (D := (dC, dI)) (ci := 11) (v := .ref zy1) (C := RX11) (T := TX11) (N := 28) hx hb hts (by decide +kernel) hown hK hP 0 rfl rfl 1 (by decide) (hts (.fieldLink RX11 13 "DripStoneModel" "tape" "[I") (by decide +kernel)) (fun _ h9 => h9) rfl dX11_type_80 ?_
                      refine lv_aload_n hx hb dX11_type_83 rfl (lv_at hl 1 rfl) ?_
                      refine va_get (D := (dC, dI)) (ci := 11) (v := .int 1) (C := RX11) (T := TX11) (N := 28) hx hb hts (by decide +kernel) hown hK hP 0 rfl rfl 2 (by decide) (hts (.fieldLink RX11 112 "DripStoneModel" "taped" "I") (by decide +kernel)) (fun _ h9 => h9) rfl dX11_type_84 ?_
                      refine lv_lload_n hx hb dX11_type_87 rfl (lv_at hl 2 rfl) ?_
                      refine lv_bipush (v := 8) hx hb dX11_type_88 (by decide) ?_
                      refine lv_iload hx hb dX11_type_90 (lv_at hl 0 rfl) ?_
                      refine lv_imul hx hb dX11_type_92 ?_
                      refine lv_topi (fun v_523 ev_523 => ?_)
                      obtain rfl : v_523 = (48 : Int32) := ev_523.trans (by decide)
                      refine lv_lshr (v := zja >>> ((48 : Int32).toInt64 &&& 63)) hx hb dX11_type_93 rfl ?_
                      refine lv_ldc2 (v := 255) hx hb hown (hts (.constantLong RX11 106 255) (by decide +kernel)) dX11_type_94 ?_
                      refine lv_land hx hb dX11_type_97 ?_
                      refine lv_topl (fun w_524 ew_524 => ?_)
                      have tw_524 : w_524.toInt = by8 zja 6 := by rw [ew_524]; exact by8_l6 zja
                      refine lv_l2i (v := w_524.toInt32) hx hb dX11_type_98 rfl ?_
                      refine va_iast hx hb hK hP hD hS 1 0 rfl rfl (vp_in_iff.mpr ⟨by decide, by decide⟩) dX11_type_99 (fun H locs hP hD hS => ?_)
                      have hP : va_P (dC, dI) vwCl [(zy, .inr (11, [.ref zy0, .ref zy1, .int 1, .int 0, .int 0, .ref zy5, .int 0, .int 0, .ref zy8, .ref zy9, .ref zy10, .ref zy11, .ref zy12, .ref zy13, .ref zy14, .long 0, .ref zy16, .ref zy17, .ref zy18, .int 0, .long 0, .ref zy21, .ref zy22, .int 0, .ref zy24, .ref zy25, .ref zy26, .ref zy27])), (zy1, .inl (cy 0, 80, .inl (upd (upd (fun _ => 0) (0 : Int32).toNatClampNeg w_520.toInt32) (1 : Int32).toNatClampNeg w_524.toInt32)))] H := hP
                      have hD : va_D A [(zy, .inr (11, [.ref zy0, .ref zy1, .int 1, .int 0, .int 0, .ref zy5, .int 0, .int 0, .ref zy8, .ref zy9, .ref zy10, .ref zy11, .ref zy12, .ref zy13, .ref zy14, .long 0, .ref zy16, .ref zy17, .ref zy18, .int 0, .long 0, .ref zy21, .ref zy22, .int 0, .ref zy24, .ref zy25, .ref zy26, .ref zy27])), (zy1, .inl (cy 0, 80, .inl (upd (upd (fun _ => 0) (0 : Int32).toNatClampNeg w_520.toInt32) (1 : Int32).toNatClampNeg w_524.toInt32)))] := hD
                      refine lv_aload_n hx hb dX11_type_100 rfl (lv_at hl 1 rfl) ?_
                      refine lv_dup hx hb dX11_type_101 rfl ?_
                      refine va_get (D := (dC, dI)) (ci := 11) (v := .int 1) (C := RX11) (T := TX11) (N := 28) hx hb hts (by decide +kernel) hown hK hP 0 rfl rfl 2 (by decide) (hts (.fieldLink RX11 112 "DripStoneModel" "taped" "I") (by decide +kernel)) (fun _ h9 => h9) rfl dX11_type_102 ?_
                      refine lv_iconst (v := 1) hx hb dX11_type_105 (by decide) ?_
                      refine lv_iadd hx hb dX11_type_106 ?_
                      refine lv_topi (fun v_525 ev_525 => ?_)
                      obtain rfl : v_525 = (2 : Int32) := ev_525.trans (by decide)
                      refine va_put (D := (dC, dI)) (ci := 11) (v := .int 2) (ty := .int) (C := RX11) (T := TX11) (N := 28) hx hb hts (by decide +kernel) tyX11 tyX11_ok nmX11 hown hK hP hD hS 0 rfl rfl 2 (by decide) (hts (.fieldLink RX11 112 "DripStoneModel" "taped" "I") (by decide +kernel)) (fun _ h9 => h9) rfl (by decide +kernel) rfl rfl (Nat.le_of_ble_eq_true rfl) dX11_type_107 (fun H locs hP hD hS => ?_)
                      have hP : va_P (dC, dI) vwCl [(zy, .inr (11, [.ref zy0, .ref zy1, .int 2, .int 0, .int 0, .ref zy5, .int 0, .int 0, .ref zy8, .ref zy9, .ref zy10, .ref zy11, .ref zy12, .ref zy13, .ref zy14, .long 0, .ref zy16, .ref zy17, .ref zy18, .int 0, .long 0, .ref zy21, .ref zy22, .int 0, .ref zy24, .ref zy25, .ref zy26, .ref zy27])), (zy1, .inl (cy 0, 80, .inl (upd (upd (fun _ => 0) (0 : Int32).toNatClampNeg w_520.toInt32) (1 : Int32).toNatClampNeg w_524.toInt32)))] H := hP
                      have hD : va_D A [(zy, .inr (11, [.ref zy0, .ref zy1, .int 2, .int 0, .int 0, .ref zy5, .int 0, .int 0, .ref zy8, .ref zy9, .ref zy10, .ref zy11, .ref zy12, .ref zy13, .ref zy14, .long 0, .ref zy16, .ref zy17, .ref zy18, .int 0, .long 0, .ref zy21, .ref zy22, .int 0, .ref zy24, .ref zy25, .ref zy26, .ref zy27])), (zy1, .inl (cy 0, 80, .inl (upd (upd (fun _ => 0) (0 : Int32).toNatClampNeg w_520.toInt32) (1 : Int32).toNatClampNeg w_524.toInt32)))] := hD
                      refine lv_iinc (v := 5) (lv' := [(4, .int 5), (0, .ref zy), (1, .long zja), (3, .int 8)]) hx hb dX11_type_110 hl (k := 0) rfl (by decide) (by decide) rfl (fun ls hl => ?_)
                      refine lv_goto (tgt := 74) hx hb dX11_type_113 (by decide) ?_
                      refine lv_iload hx hb dX11_type_74 (lv_at hl 0 rfl) ?_
                      refine lv_if_lt (tgt := 116) hx hb dX11_type_76 (by decide) (fun c_526 => absurd c_526 (by decide)) (fun c_526 => ?_)
                      refine lv_aload_n hx hb dX11_type_79 rfl (lv_at hl 1 rfl) ?_
                      refine va_get (D := (dC, dI)) (ci := 11) (v := .ref zy1) (C := RX11) (T := TX11) (N := 28) hx hb hts (by decide +kernel) hown hK hP 0 rfl rfl 1 (by decide) (hts (.fieldLink RX11 13 "DripStoneModel" "tape" "[I") (by decide +kernel)) (fun _ h9 => h9) rfl dX11_type_80 ?_
                      refine lv_aload_n hx hb dX11_type_83 rfl (lv_at hl 1 rfl) ?_
                      refine va_get (D := (dC, dI)) (ci := 11) (v := .int 2) (C := RX11) (T := TX11) (N := 28) hx hb hts (by decide +kernel) hown hK hP 0 rfl rfl 2 (by decide) (hts (.fieldLink RX11 112 "DripStoneModel" "taped" "I") (by decide +kernel)) (fun _ h9 => h9) rfl dX11_type_84 ?_
                      refine lv_lload_n hx hb dX11_type_87 rfl (lv_at hl 2 rfl) ?_
                      refine lv_bipush (v := 8) hx hb dX11_type_88 (by decide) ?_
                      refine lv_iload hx hb dX11_type_90 (lv_at hl 0 rfl) ?_
                      refine lv_imul hx hb dX11_type_92 ?_
                      refine lv_topi (fun v_527 ev_527 => ?_)
                      obtain rfl : v_527 = (40 : Int32) := ev_527.trans (by decide)
                      refine lv_lshr (v := zja >>> ((40 : Int32).toInt64 &&& 63)) hx hb dX11_type_93 rfl ?_
                      refine lv_ldc2 (v := 255) hx hb hown (hts (.constantLong RX11 106 255) (by decide +kernel)) dX11_type_94 ?_
                      refine lv_land hx hb dX11_type_97 ?_
                      refine lv_topl (fun w_528 ew_528 => ?_)
                      have tw_528 : w_528.toInt = by8 zja 5 := by rw [ew_528]; exact by8_l5 zja
                      refine lv_l2i (v := w_528.toInt32) hx hb dX11_type_98 rfl ?_
                      refine va_iast hx hb hK hP hD hS 1 0 rfl rfl (vp_in_iff.mpr ⟨by decide, by decide⟩) dX11_type_99 (fun H locs hP hD hS => ?_)
                      have hP : va_P (dC, dI) vwCl [(zy, .inr (11, [.ref zy0, .ref zy1, .int 2, .int 0, .int 0, .ref zy5, .int 0, .int 0, .ref zy8, .ref zy9, .ref zy10, .ref zy11, .ref zy12, .ref zy13, .ref zy14, .long 0, .ref zy16, .ref zy17, .ref zy18, .int 0, .long 0, .ref zy21, .ref zy22, .int 0, .ref zy24, .ref zy25, .ref zy26, .ref zy27])), (zy1, .inl (cy 0, 80, .inl (upd (upd (upd (fun _ => 0) (0 : Int32).toNatClampNeg w_520.toInt32) (1 : Int32).toNatClampNeg w_524.toInt32) (2 : Int32).toNatClampNeg w_528.toInt32)))] H := hP
                      have hD : va_D A [(zy, .inr (11, [.ref zy0, .ref zy1, .int 2, .int 0, .int 0, .ref zy5, .int 0, .int 0, .ref zy8, .ref zy9, .ref zy10, .ref zy11, .ref zy12, .ref zy13, .ref zy14, .long 0, .ref zy16, .ref zy17, .ref zy18, .int 0, .long 0, .ref zy21, .ref zy22, .int 0, .ref zy24, .ref zy25, .ref zy26, .ref zy27])), (zy1, .inl (cy 0, 80, .inl (upd (upd (upd (fun _ => 0) (0 : Int32).toNatClampNeg w_520.toInt32) (1 : Int32).toNatClampNeg w_524.toInt32) (2 : Int32).toNatClampNeg w_528.toInt32)))] := hD
                      refine lv_aload_n hx hb dX11_type_100 rfl (lv_at hl 1 rfl) ?_
                      refine lv_dup hx hb dX11_type_101 rfl ?_
                      refine va_get (D := (dC, dI)) (ci := 11) (v := .int 2) (C := RX11) (T := TX11) (N := 28) hx hb hts (by decide +kernel) hown hK hP 0 rfl rfl 2 (by decide) (hts (.fieldLink RX11 112 "DripStoneModel" "taped" "I") (by decide +kernel)) (fun _ h9 => h9) rfl dX11_type_102 ?_
                      refine lv_iconst (v := 1) hx hb dX11_type_105 (by decide) ?_
                      refine lv_iadd hx hb dX11_type_106 ?_
                      refine lv_topi (fun v_529 ev_529 => ?_)
                      obtain rfl : v_529 = (3 : Int32) := ev_529.trans (by decide)
                      refine va_put (D := (dC, dI)) (ci := 11) (v := .int 3) (ty := .int) (C := RX11) (T := TX11) (N := 28) hx hb hts (by decide +kernel) tyX11 tyX11_ok nmX11 hown hK hP hD hS 0 rfl rfl 2 (by decide) (hts (.fieldLink RX11 112 "DripStoneModel" "taped" "I") (by decide +kernel)) (fun _ h9 => h9) rfl (by decide +kernel) rfl rfl (Nat.le_of_ble_eq_true rfl) dX11_type_107 (fun H locs hP hD hS => ?_)
                      have hP : va_P (dC, dI) vwCl [(zy, .inr (11, [.ref zy0, .ref zy1, .int 3, .int 0, .int 0, .ref zy5, .int 0, .int 0, .ref zy8, .ref zy9, .ref zy10, .ref zy11, .ref zy12, .ref zy13, .ref zy14, .long 0, .ref zy16, .ref zy17, .ref zy18, .int 0, .long 0, .ref zy21, .ref zy22, .int 0, .ref zy24, .ref zy25, .ref zy26, .ref zy27])), (zy1, .inl (cy 0, 80, .inl (upd (upd (upd (fun _ => 0) (0 : Int32).toNatClampNeg w_520.toInt32) (1 : Int32).toNatClampNeg w_524.toInt32) (2 : Int32).toNatClampNeg w_528.toInt32)))] H := hP
                      have hD : va_D A [(zy, .inr (11, [.ref zy0, .ref zy1, .int 3, .int 0, .int 0, .ref zy5, .int 0, .int 0, .ref zy8, .ref zy9, .ref zy10, .ref zy11, .ref zy12, .ref zy13, .ref zy14, .long 0, .ref zy16, .ref zy17, .ref zy18, .int 0, .long 0, .ref zy21, .ref zy22, .int 0, .ref zy24, .ref zy25, .ref zy26, .ref zy27])), (zy1, .inl (cy 0, 80, .inl (upd (upd (upd (fun _ => 0) (0 : Int32).toNatClampNeg w_520.toInt32) (1 : Int32).toNatClampNeg w_524.toInt32) (2 : Int32).toNatClampNeg w_528.toInt32)))] := hD
                      refine lv_iinc (v := 4) (lv' := [(4, .int 4), (0, .ref zy), (1, .long zja), (3, .int 8)]) hx hb dX11_type_110 hl (k := 0) rfl (by decide) (by decide) rfl (fun ls hl => ?_)
                      refine lv_goto (tgt := 74) hx hb dX11_type_113 (by decide) ?_
                      refine lv_iload hx hb dX11_type_74 (lv_at hl 0 rfl) ?_
                      refine lv_if_lt (tgt := 116) hx hb dX11_type_76 (by decide) (fun c_530 => absurd c_530 (by decide)) (fun c_530 => ?_)
                      refine lv_aload_n hx hb dX11_type_79 rfl (lv_at hl 1 rfl) ?_
                      refine va_get (D := (dC, dI)) (ci := 11) (v := .ref zy1) (C := RX11) (T := TX11) (N := 28) hx hb hts (by decide +kernel) hown hK hP 0 rfl rfl 1 (by decide) (hts (.fieldLink RX11 13 "DripStoneModel" "tape" "[I") (by decide +kernel)) (fun _ h9 => h9) rfl dX11_type_80 ?_
                      refine lv_aload_n hx hb dX11_type_83 rfl (lv_at hl 1 rfl) ?_
                      refine va_get (D := (dC, dI)) (ci := 11) (v := .int 3) (C := RX11) (T := TX11) (N := 28) hx hb hts (by decide +kernel) hown hK hP 0 rfl rfl 2 (by decide) (hts (.fieldLink RX11 112 "DripStoneModel" "taped" "I") (by decide +kernel)) (fun _ h9 => h9) rfl dX11_type_84 ?_
                      refine lv_lload_n hx hb dX11_type_87 rfl (lv_at hl 2 rfl) ?_
                      refine lv_bipush (v := 8) hx hb dX11_type_88 (by decide) ?_
                      refine lv_iload hx hb dX11_type_90 (lv_at hl 0 rfl) ?_
                      refine lv_imul hx hb dX11_type_92 ?_
                      refine lv_topi (fun v_531 ev_531 => ?_)
                      obtain rfl : v_531 = (32 : Int32) := ev_531.trans (by decide)
                      refine lv_lshr (v := zja >>> ((32 : Int32).toInt64 &&& 63)) hx hb dX11_type_93 rfl ?_
                      refine lv_ldc2 (v := 255) hx hb hown (hts (.constantLong RX11 106 255) (by decide +kernel)) dX11_type_94 ?_
                      refine lv_land hx hb dX11_type_97 ?_
                      refine lv_topl (fun w_532 ew_532 => ?_)
                      have tw_532 : w_532.toInt = by8 zja 4 := by rw [ew_532]; exact by8_l4 zja
                      refine lv_l2i (v := w_532.toInt32) hx hb dX11_type_98 rfl ?_
                      refine va_iast hx hb hK hP hD hS 1 0 rfl rfl (vp_in_iff.mpr ⟨by decide, by decide⟩) dX11_type_99 (fun H locs hP hD hS => ?_)
                      have hP : va_P (dC, dI) vwCl [(zy, .inr (11, [.ref zy0, .ref zy1, .int 3, .int 0, .int 0, .ref zy5, .int 0, .int 0, .ref zy8, .ref zy9, .ref zy10, .ref zy11, .ref zy12, .ref zy13, .ref zy14, .long 0, .ref zy16, .ref zy17, .ref zy18, .int 0, .long 0, .ref zy21, .ref zy22, .int 0, .ref zy24, .ref zy25, .ref zy26, .ref zy27])), (zy1, .inl (cy 0, 80, .inl (upd (upd (upd (upd (fun _ => 0) (0 : Int32).toNatClampNeg w_520.toInt32) (1 : Int32).toNatClampNeg w_524.toInt32) (2 : Int32).toNatClampNeg w_528.toInt32) (3 : Int32).toNatClampNeg w_532.toInt32)))] H := hP
                      have hD : va_D A [(zy, .inr (11, [.ref zy0, .ref zy1, .int 3, .int 0, .int 0, .ref zy5, .int 0, .int 0, .ref zy8, .ref zy9, .ref zy10, .ref zy11, .ref zy12, .ref zy13, .ref zy14, .long 0, .ref zy16, .ref zy17, .ref zy18, .int 0, .long 0, .ref zy21, .ref zy22, .int 0, .ref zy24, .ref zy25, .ref zy26, .ref zy27])), (zy1, .inl (cy 0, 80, .inl (upd (upd (upd (upd (fun _ => 0) (0 : Int32).toNatClampNeg w_520.toInt32) (1 : Int32).toNatClampNeg w_524.toInt32) (2 : Int32).toNatClampNeg w_528.toInt32) (3 : Int32).toNatClampNeg w_532.toInt32)))] := hD
                      refine lv_aload_n hx hb dX11_type_100 rfl (lv_at hl 1 rfl) ?_
                      refine lv_dup hx hb dX11_type_101 rfl ?_
                      refine va_get (D := (dC, dI)) (ci := 11) (v := .int 3) (C := RX11) (T := TX11) (N := 28) hx hb hts (by decide +kernel) hown hK hP 0 rfl rfl 2 (by decide) (hts (.fieldLink RX11 112 "DripStoneModel" "taped" "I") (by decide +kernel)) (fun _ h9 => h9) rfl dX11_type_102 ?_
                      refine lv_iconst (v := 1) hx hb dX11_type_105 (by decide) ?_
                      refine lv_iadd hx hb dX11_type_106 ?_
                      refine lv_topi (fun v_533 ev_533 => ?_)
                      obtain rfl : v_533 = (4 : Int32) := ev_533.trans (by decide)
                      refine va_put (D := (dC, dI)) (ci := 11) (v := .int 4) (ty := .int) (C := RX11) (T := TX11) (N := 28) hx hb hts (by decide +kernel) tyX11 tyX11_ok nmX11 hown hK hP hD hS 0 rfl rfl 2 (by decide) (hts (.fieldLink RX11 112 "DripStoneModel" "taped" "I") (by decide +kernel)) (fun _ h9 => h9) rfl (by decide +kernel) rfl rfl (Nat.le_of_ble_eq_true rfl) dX11_type_107 (fun H locs hP hD hS => ?_)
                      have hP : va_P (dC, dI) vwCl [(zy, .inr (11, [.ref zy0, .ref zy1, .int 4, .int 0, .int 0, .ref zy5, .int 0, .int 0, .ref zy8, .ref zy9, .ref zy10, .ref zy11, .ref zy12, .ref zy13, .ref zy14, .long 0, .ref zy16, .ref zy17, .ref zy18, .int 0, .long 0, .ref zy21, .ref zy22, .int 0, .ref zy24, .ref zy25, .ref zy26, .ref zy27])), (zy1, .inl (cy 0, 80, .inl (upd (upd (upd (upd (fun _ => 0) (0 : Int32).toNatClampNeg w_520.toInt32) (1 : Int32).toNatClampNeg w_524.toInt32) (2 : Int32).toNatClampNeg w_528.toInt32) (3 : Int32).toNatClampNeg w_532.toInt32)))] H := hP
                      have hD : va_D A [(zy, .inr (11, [.ref zy0, .ref zy1, .int 4, .int 0, .int 0, .ref zy5, .int 0, .int 0, .ref zy8, .ref zy9, .ref zy10, .ref zy11, .ref zy12, .ref zy13, .ref zy14, .long 0, .ref zy16, .ref zy17, .ref zy18, .int 0, .long 0, .ref zy21, .ref zy22, .int 0, .ref zy24, .ref zy25, .ref zy26, .ref zy27])), (zy1, .inl (cy 0, 80, .inl (upd (upd (upd (upd (fun _ => 0) (0 : Int32).toNatClampNeg w_520.toInt32) (1 : Int32).toNatClampNeg w_524.toInt32) (2 : Int32).toNatClampNeg w_528.toInt32) (3 : Int32).toNatClampNeg w_532.toInt32)))] := hD
                      refine lv_iinc (v := 3) (lv' := [(4, .int 3), (0, .ref zy), (1, .long zja), (3, .int 8)]) hx hb dX11_type_110 hl (k := 0) rfl (by decide) (by decide) rfl (fun ls hl => ?_)
                      refine lv_goto (tgt := 74) hx hb dX11_type_113 (by decide) ?_
                      refine lv_iload hx hb dX11_type_74 (lv_at hl 0 rfl) ?_
                      refine lv_if_lt (tgt := 116) hx hb dX11_type_76 (by decide) (fun c_534 => absurd c_534 (by decide)) (fun c_534 => ?_)
                      refine lv_aload_n hx hb dX11_type_79 rfl (lv_at hl 1 rfl) ?_
                      refine va_get (D := (dC, dI)) (ci := 11) (v := .ref zy1) (C := RX11) (T := TX11) (N := 28) hx hb hts (by decide +kernel) hown hK hP 0 rfl rfl 1 (by decide) (hts (.fieldLink RX11 13 "DripStoneModel" "tape" "[I") (by decide +kernel)) (fun _ h9 => h9) rfl dX11_type_80 ?_
                      refine lv_aload_n hx hb dX11_type_83 rfl (lv_at hl 1 rfl) ?_
                      refine va_get (D := (dC, dI)) (ci := 11) (v := .int 4) (C := RX11) (T := TX11) (N := 28) hx hb hts (by decide +kernel) hown hK hP 0 rfl rfl 2 (by decide) (hts (.fieldLink RX11 112 "DripStoneModel" "taped" "I") (by decide +kernel)) (fun _ h9 => h9) rfl dX11_type_84 ?_
                      refine lv_lload_n hx hb dX11_type_87 rfl (lv_at hl 2 rfl) ?_
                      refine lv_bipush (v := 8) hx hb dX11_type_88 (by decide) ?_
                      refine lv_iload hx hb dX11_type_90 (lv_at hl 0 rfl) ?_
                      refine lv_imul hx hb dX11_type_92 ?_
                      refine lv_topi (fun v_535 ev_535 => ?_)
                      obtain rfl : v_535 = (24 : Int32) := ev_535.trans (by decide)
                      refine lv_lshr (v := zja >>> ((24 : Int32).toInt64 &&& 63)) hx hb dX11_type_93 rfl ?_
                      refine lv_ldc2 (v := 255) hx hb hown (hts (.constantLong RX11 106 255) (by decide +kernel)) dX11_type_94 ?_
                      refine lv_land hx hb dX11_type_97 ?_
                      refine lv_topl (fun w_536 ew_536 => ?_)
                      have tw_536 : w_536.toInt = by8 zja 3 := by rw [ew_536]; exact by8_l3 zja
                      refine lv_l2i (v := w_536.toInt32) hx hb dX11_type_98 rfl ?_
                      refine va_iast hx hb hK hP hD hS 1 0 rfl rfl (vp_in_iff.mpr ⟨by decide, by decide⟩) dX11_type_99 (fun H locs hP hD hS => ?_)
                      have hP : va_P (dC, dI) vwCl [(zy, .inr (11, [.ref zy0, .ref zy1, .int 4, .int 0, .int 0, .ref zy5, .int 0, .int 0, .ref zy8, .ref zy9, .ref zy10, .ref zy11, .ref zy12, .ref zy13, .ref zy14, .long 0, .ref zy16, .ref zy17, .ref zy18, .int 0, .long 0, .ref zy21, .ref zy22, .int 0, .ref zy24, .ref zy25, .ref zy26, .ref zy27])), (zy1, .inl (cy 0, 80, .inl (upd (upd (upd (upd (upd (fun _ => 0) (0 : Int32).toNatClampNeg w_520.toInt32) (1 : Int32).toNatClampNeg w_524.toInt32) (2 : Int32).toNatClampNeg w_528.toInt32) (3 : Int32).toNatClampNeg w_532.toInt32) (4 : Int32).toNatClampNeg w_536.toInt32)))] H := hP
                      have hD : va_D A [(zy, .inr (11, [.ref zy0, .ref zy1, .int 4, .int 0, .int 0, .ref zy5, .int 0, .int 0, .ref zy8, .ref zy9, .ref zy10, .ref zy11, .ref zy12, .ref zy13, .ref zy14, .long 0, .ref zy16, .ref zy17, .ref zy18, .int 0, .long 0, .ref zy21, .ref zy22, .int 0, .ref zy24, .ref zy25, .ref zy26, .ref zy27])), (zy1, .inl (cy 0, 80, .inl (upd (upd (upd (upd (upd (fun _ => 0) (0 : Int32).toNatClampNeg w_520.toInt32) (1 : Int32).toNatClampNeg w_524.toInt32) (2 : Int32).toNatClampNeg w_528.toInt32) (3 : Int32).toNatClampNeg w_532.toInt32) (4 : Int32).toNatClampNeg w_536.toInt32)))] := hD
                      refine lv_aload_n hx hb dX11_type_100 rfl (lv_at hl 1 rfl) ?_
                      refine lv_dup hx hb dX11_type_101 rfl ?_
                      refine va_get (D := (dC, dI)) (ci := 11) (v := .int 4) (C := RX11) (T := TX11) (N := 28) hx hb hts (by decide +kernel) hown hK hP 0 rfl rfl 2 (by decide) (hts (.fieldLink RX11 112 "DripStoneModel" "taped" "I") (by decide +kernel)) (fun _ h9 => h9) rfl dX11_type_102 ?_
                      refine lv_iconst (v := 1) hx hb dX11_type_105 (by decide) ?_
                      refine lv_iadd hx hb dX11_type_106 ?_
                      refine lv_topi (fun v_537 ev_537 => ?_)
                      obtain rfl : v_537 = (5 : Int32) := ev_537.trans (by decide)
                      refine va_put (D := (dC, dI)) (ci := 11) (v := .int 5) (ty := .int) (C := RX11) (T := TX11) (N := 28) hx hb hts (by decide +kernel) tyX11 tyX11_ok nmX11 hown hK hP hD hS 0 rfl rfl 2 (by decide) (hts (.fieldLink RX11 112 "DripStoneModel" "taped" "I") (by decide +kernel)) (fun _ h9 => h9) rfl (by decide +kernel) rfl rfl (Nat.le_of_ble_eq_true rfl) dX11_type_107 (fun H locs hP hD hS => ?_)
                      have hP : va_P (dC, dI) vwCl [(zy, .inr (11, [.ref zy0, .ref zy1, .int 5, .int 0, .int 0, .ref zy5, .int 0, .int 0, .ref zy8, .ref zy9, .ref zy10, .ref zy11, .ref zy12, .ref zy13, .ref zy14, .long 0, .ref zy16, .ref zy17, .ref zy18, .int 0, .long 0, .ref zy21, .ref zy22, .int 0, .ref zy24, .ref zy25, .ref zy26, .ref zy27])), (zy1, .inl (cy 0, 80, .inl (upd (upd (upd (upd (upd (fun _ => 0) (0 : Int32).toNatClampNeg w_520.toInt32) (1 : Int32).toNatClampNeg w_524.toInt32) (2 : Int32).toNatClampNeg w_528.toInt32) (3 : Int32).toNatClampNeg w_532.toInt32) (4 : Int32).toNatClampNeg w_536.toInt32)))] H := hP
                      have hD : va_D A [(zy, .inr (11, [.ref zy0, .ref zy1, .int 5, .int 0, .int 0, .ref zy5, .int 0, .int 0, .ref zy8, .ref zy9, .ref zy10, .ref zy11, .ref zy12, .ref zy13, .ref zy14, .long 0, .ref zy16, .ref zy17, .ref zy18, .int 0, .long 0, .ref zy21, .ref zy22, .int 0, .ref zy24, .ref zy25, .ref zy26, .ref zy27])), (zy1, .inl (cy 0, 80, .inl (upd (upd (upd (upd (upd (fun _ => 0) (0 : Int32).toNatClampNeg w_520.toInt32) (1 : Int32).toNatClampNeg w_524.toInt32) (2 : Int32).toNatClampNeg w_528.toInt32) (3 : Int32).toNatClampNeg w_532.toInt32) (4 : Int32).toNatClampNeg w_536.toInt32)))] := hD
                      refine lv_iinc (v := 2) (lv' := [(4, .int 2), (0, .ref zy), (1, .long zja), (3, .int 8)]) hx hb dX11_type_110 hl (k := 0) rfl (by decide) (by decide) rfl (fun ls hl => ?_)
                      refine lv_goto (tgt := 74) hx hb dX11_type_113 (by decide) ?_
                      refine lv_iload hx hb dX11_type_74 (lv_at hl 0 rfl) ?_
                      refine lv_if_lt (tgt := 116) hx hb dX11_type_76 (by decide) (fun c_538 => absurd c_538 (by decide)) (fun c_538 => ?_)
                      refine lv_aload_n hx hb dX11_type_79 rfl (lv_at hl 1 rfl) ?_
                      refine va_get (D := (dC, dI)) (ci := 11) (v := .ref zy1) (C := RX11) (T := TX11) (N := 28) hx hb hts (by decide +kernel) hown hK hP 0 rfl rfl 1 (by decide) (hts (.fieldLink RX11 13 "DripStoneModel" "tape" "[I") (by decide +kernel)) (fun _ h9 => h9) rfl dX11_type_80 ?_
                      refine lv_aload_n hx hb dX11_type_83 rfl (lv_at hl 1 rfl) ?_
                      refine va_get (D := (dC, dI)) (ci := 11) (v := .int 5) (C := RX11) (T := TX11) (N := 28) hx hb hts (by decide +kernel) hown hK hP 0 rfl rfl 2 (by decide) (hts (.fieldLink RX11 112 "DripStoneModel" "taped" "I") (by decide +kernel)) (fun _ h9 => h9) rfl dX11_type_84 ?_
                      refine lv_lload_n hx hb dX11_type_87 rfl (lv_at hl 2 rfl) ?_
                      refine lv_bipush (v := 8) hx hb dX11_type_88 (by decide) ?_
                      refine lv_iload hx hb dX11_type_90 (lv_at hl 0 rfl) ?_
                      refine lv_imul hx hb dX11_type_92 ?_
                      refine lv_topi (fun v_539 ev_539 => ?_)
                      obtain rfl : v_539 = (16 : Int32) := ev_539.trans (by decide)
                      refine lv_lshr (v := zja >>> ((16 : Int32).toInt64 &&& 63)) hx hb dX11_type_93 rfl ?_
                      refine lv_ldc2 (v := 255) hx hb hown (hts (.constantLong RX11 106 255) (by decide +kernel)) dX11_type_94 ?_
                      refine lv_land hx hb dX11_type_97 ?_
                      refine lv_topl (fun w_540 ew_540 => ?_)
                      have tw_540 : w_540.toInt = by8 zja 2 := by rw [ew_540]; exact by8_l2 zja
                      refine lv_l2i (v := w_540.toInt32) hx hb dX11_type_98 rfl ?_
                      refine va_iast hx hb hK hP hD hS 1 0 rfl rfl (vp_in_iff.mpr ⟨by decide, by decide⟩) dX11_type_99 (fun H locs hP hD hS => ?_)
                      have hP : va_P (dC, dI) vwCl [(zy, .inr (11, [.ref zy0, .ref zy1, .int 5, .int 0, .int 0, .ref zy5, .int 0, .int 0, .ref zy8, .ref zy9, .ref zy10, .ref zy11, .ref zy12, .ref zy13, .ref zy14, .long 0, .ref zy16, .ref zy17, .ref zy18, .int 0, .long 0, .ref zy21, .ref zy22, .int 0, .ref zy24, .ref zy25, .ref zy26, .ref zy27])), (zy1, .inl (cy 0, 80, .inl (upd (upd (upd (upd (upd (upd (fun _ => 0) (0 : Int32).toNatClampNeg w_520.toInt32) (1 : Int32).toNatClampNeg w_524.toInt32) (2 : Int32).toNatClampNeg w_528.toInt32) (3 : Int32).toNatClampNeg w_532.toInt32) (4 : Int32).toNatClampNeg w_536.toInt32) (5 : Int32).toNatClampNeg w_540.toInt32)))] H := hP
                      have hD : va_D A [(zy, .inr (11, [.ref zy0, .ref zy1, .int 5, .int 0, .int 0, .ref zy5, .int 0, .int 0, .ref zy8, .ref zy9, .ref zy10, .ref zy11, .ref zy12, .ref zy13, .ref zy14, .long 0, .ref zy16, .ref zy17, .ref zy18, .int 0, .long 0, .ref zy21, .ref zy22, .int 0, .ref zy24, .ref zy25, .ref zy26, .ref zy27])), (zy1, .inl (cy 0, 80, .inl (upd (upd (upd (upd (upd (upd (fun _ => 0) (0 : Int32).toNatClampNeg w_520.toInt32) (1 : Int32).toNatClampNeg w_524.toInt32) (2 : Int32).toNatClampNeg w_528.toInt32) (3 : Int32).toNatClampNeg w_532.toInt32) (4 : Int32).toNatClampNeg w_536.toInt32) (5 : Int32).toNatClampNeg w_540.toInt32)))] := hD
                      refine lv_aload_n hx hb dX11_type_100 rfl (lv_at hl 1 rfl) ?_
                      refine lv_dup hx hb dX11_type_101 rfl ?_
                      refine va_get (D := (dC, dI)) (ci := 11) (v := .int 5) (C := RX11) (T := TX11) (N := 28) hx hb hts (by decide +kernel) hown hK hP 0 rfl rfl 2 (by decide) (hts (.fieldLink RX11 112 "DripStoneModel" "taped" "I") (by decide +kernel)) (fun _ h9 => h9) rfl dX11_type_102 ?_
                      refine lv_iconst (v := 1) hx hb dX11_type_105 (by decide) ?_
                      refine lv_iadd hx hb dX11_type_106 ?_
                      refine lv_topi (fun v_541 ev_541 => ?_)
                      obtain rfl : v_541 = (6 : Int32) := ev_541.trans (by decide)
                      refine va_put (D := (dC, dI)) (ci := 11) (v := .int 6) (ty := .int) (C := RX11) (T := TX11) (N := 28) hx hb hts (by decide +kernel) tyX11 tyX11_ok nmX11 hown hK hP hD hS 0 rfl rfl 2 (by decide) (hts (.fieldLink RX11 112 "DripStoneModel" "taped" "I") (by decide +kernel)) (fun _ h9 => h9) rfl (by decide +kernel) rfl rfl (Nat.le_of_ble_eq_true rfl) dX11_type_107 (fun H locs hP hD hS => ?_)
                      have hP : va_P (dC, dI) vwCl [(zy, .inr (11, [.ref zy0, .ref zy1, .int 6, .int 0, .int 0, .ref zy5, .int 0, .int 0, .ref zy8, .ref zy9, .ref zy10, .ref zy11, .ref zy12, .ref zy13, .ref zy14, .long 0, .ref zy16, .ref zy17, .ref zy18, .int 0, .long 0, .ref zy21, .ref zy22, .int 0, .ref zy24, .ref zy25, .ref zy26, .ref zy27])), (zy1, .inl (cy 0, 80, .inl (upd (upd (upd (upd (upd (upd (fun _ => 0) (0 : Int32).toNatClampNeg w_520.toInt32) (1 : Int32).toNatClampNeg w_524.toInt32) (2 : Int32).toNatClampNeg w_528.toInt32) (3 : Int32).toNatClampNeg w_532.toInt32) (4 : Int32).toNatClampNeg w_536.toInt32) (5 : Int32).toNatClampNeg w_540.toInt32)))] H := hP
                      have hD : va_D A [(zy, .inr (11, [.ref zy0, .ref zy1, .int 6, .int 0, .int 0, .ref zy5, .int 0, .int 0, .ref zy8, .ref zy9, .ref zy10, .ref zy11, .ref zy12, .ref zy13, .ref zy14, .long 0, .ref zy16, .ref zy17, .ref zy18, .int 0, .long 0, .ref zy21, .ref zy22, .int 0, .ref zy24, .ref zy25, .ref zy26, .ref zy27])), (zy1, .inl (cy 0, 80, .inl (upd (upd (upd (upd (upd (upd (fun _ => 0) (0 : Int32).toNatClampNeg w_520.toInt32) (1 : Int32).toNatClampNeg w_524.toInt32) (2 : Int32).toNatClampNeg w_528.toInt32) (3 : Int32).toNatClampNeg w_532.toInt32) (4 : Int32).toNatClampNeg w_536.toInt32) (5 : Int32).toNatClampNeg w_540.toInt32)))] := hD
                      refine lv_iinc (v := 1) (lv' := [(4, .int 1), (0, .ref zy), (1, .long zja), (3, .int 8)]) hx hb dX11_type_110 hl (k := 0) rfl (by decide) (by decide) rfl (fun ls hl => ?_)
                      refine lv_goto (tgt := 74) hx hb dX11_type_113 (by decide) ?_
                      refine lv_iload hx hb dX11_type_74 (lv_at hl 0 rfl) ?_
                      refine lv_if_lt (tgt := 116) hx hb dX11_type_76 (by decide) (fun c_542 => absurd c_542 (by decide)) (fun c_542 => ?_)
                      refine lv_aload_n hx hb dX11_type_79 rfl (lv_at hl 1 rfl) ?_
                      refine va_get (D := (dC, dI)) (ci := 11) (v := .ref zy1) (C := RX11) (T := TX11) (N := 28) hx hb hts (by decide +kernel) hown hK hP 0 rfl rfl 1 (by decide) (hts (.fieldLink RX11 13 "DripStoneModel" "tape" "[I") (by decide +kernel)) (fun _ h9 => h9) rfl dX11_type_80 ?_
                      refine lv_aload_n hx hb dX11_type_83 rfl (lv_at hl 1 rfl) ?_
                      refine va_get (D := (dC, dI)) (ci := 11) (v := .int 6) (C := RX11) (T := TX11) (N := 28) hx hb hts (by decide +kernel) hown hK hP 0 rfl rfl 2 (by decide) (hts (.fieldLink RX11 112 "DripStoneModel" "taped" "I") (by decide +kernel)) (fun _ h9 => h9) rfl dX11_type_84 ?_
                      refine lv_lload_n hx hb dX11_type_87 rfl (lv_at hl 2 rfl) ?_
                      refine lv_bipush (v := 8) hx hb dX11_type_88 (by decide) ?_
                      refine lv_iload hx hb dX11_type_90 (lv_at hl 0 rfl) ?_
                      refine lv_imul hx hb dX11_type_92 ?_
                      refine lv_topi (fun v_543 ev_543 => ?_)
                      obtain rfl : v_543 = (8 : Int32) := ev_543.trans (by decide)
                      refine lv_lshr (v := zja >>> ((8 : Int32).toInt64 &&& 63)) hx hb dX11_type_93 rfl ?_
                      refine lv_ldc2 (v := 255) hx hb hown (hts (.constantLong RX11 106 255) (by decide +kernel)) dX11_type_94 ?_
                      refine lv_land hx hb dX11_type_97 ?_
                      refine lv_topl (fun w_544 ew_544 => ?_)
                      have tw_544 : w_544.toInt = by8 zja 1 := by rw [ew_544]; exact by8_l1 zja
                      refine lv_l2i (v := w_544.toInt32) hx hb dX11_type_98 rfl ?_
                      refine va_iast hx hb hK hP hD hS 1 0 rfl rfl (vp_in_iff.mpr ⟨by decide, by decide⟩) dX11_type_99 (fun H locs hP hD hS => ?_)
                      have hP : va_P (dC, dI) vwCl [(zy, .inr (11, [.ref zy0, .ref zy1, .int 6, .int 0, .int 0, .ref zy5, .int 0, .int 0, .ref zy8, .ref zy9, .ref zy10, .ref zy11, .ref zy12, .ref zy13, .ref zy14, .long 0, .ref zy16, .ref zy17, .ref zy18, .int 0, .long 0, .ref zy21, .ref zy22, .int 0, .ref zy24, .ref zy25, .ref zy26, .ref zy27])), (zy1, .inl (cy 0, 80, .inl (upd (upd (upd (upd (upd (upd (upd (fun _ => 0) (0 : Int32).toNatClampNeg w_520.toInt32) (1 : Int32).toNatClampNeg w_524.toInt32) (2 : Int32).toNatClampNeg w_528.toInt32) (3 : Int32).toNatClampNeg w_532.toInt32) (4 : Int32).toNatClampNeg w_536.toInt32) (5 : Int32).toNatClampNeg w_540.toInt32) (6 : Int32).toNatClampNeg w_544.toInt32)))] H := hP
                      have hD : va_D A [(zy, .inr (11, [.ref zy0, .ref zy1, .int 6, .int 0, .int 0, .ref zy5, .int 0, .int 0, .ref zy8, .ref zy9, .ref zy10, .ref zy11, .ref zy12, .ref zy13, .ref zy14, .long 0, .ref zy16, .ref zy17, .ref zy18, .int 0, .long 0, .ref zy21, .ref zy22, .int 0, .ref zy24, .ref zy25, .ref zy26, .ref zy27])), (zy1, .inl (cy 0, 80, .inl (upd (upd (upd (upd (upd (upd (upd (fun _ => 0) (0 : Int32).toNatClampNeg w_520.toInt32) (1 : Int32).toNatClampNeg w_524.toInt32) (2 : Int32).toNatClampNeg w_528.toInt32) (3 : Int32).toNatClampNeg w_532.toInt32) (4 : Int32).toNatClampNeg w_536.toInt32) (5 : Int32).toNatClampNeg w_540.toInt32) (6 : Int32).toNatClampNeg w_544.toInt32)))] := hD
                      refine lv_aload_n hx hb dX11_type_100 rfl (lv_at hl 1 rfl) ?_
                      refine lv_dup hx hb dX11_type_101 rfl ?_
                      refine va_get (D := (dC, dI)) (ci := 11) (v := .int 6) (C := RX11) (T := TX11) (N := 28) hx hb hts (by decide +kernel) hown hK hP 0 rfl rfl 2 (by decide) (hts (.fieldLink RX11 112 "DripStoneModel" "taped" "I") (by decide +kernel)) (fun _ h9 => h9) rfl dX11_type_102 ?_
                      refine lv_iconst (v := 1) hx hb dX11_type_105 (by decide) ?_
                      refine lv_iadd hx hb dX11_type_106 ?_
                      refine lv_topi (fun v_545 ev_545 => ?_)
                      obtain rfl : v_545 = (7 : Int32) := ev_545.trans (by decide)
                      refine va_put (D := (dC, dI)) (ci := 11) (v := .int 7) (ty := .int) (C := RX11) (T := TX11) (N := 28) hx hb hts (by decide +kernel) tyX11 tyX11_ok nmX11 hown hK hP hD hS 0 rfl rfl 2 (by decide) (hts (.fieldLink RX11 112 "DripStoneModel" "taped" "I") (by decide +kernel)) (fun _ h9 => h9) rfl (by decide +kernel) rfl rfl (Nat.le_of_ble_eq_true rfl) dX11_type_107 (fun H locs hP hD hS => ?_)
                      have hP : va_P (dC, dI) vwCl [(zy, .inr (11, [.ref zy0, .ref zy1, .int 7, .int 0, .int 0, .ref zy5, .int 0, .int 0, .ref zy8, .ref zy9, .ref zy10, .ref zy11, .ref zy12, .ref zy13, .ref zy14, .long 0, .ref zy16, .ref zy17, .ref zy18, .int 0, .long 0, .ref zy21, .ref zy22, .int 0, .ref zy24, .ref zy25, .ref zy26, .ref zy27])), (zy1, .inl (cy 0, 80, .inl (upd (upd (upd (upd (upd (upd (upd (fun _ => 0) (0 : Int32).toNatClampNeg w_520.toInt32) (1 : Int32).toNatClampNeg w_524.toInt32) (2 : Int32).toNatClampNeg w_528.toInt32) (3 : Int32).toNatClampNeg w_532.toInt32) (4 : Int32).toNatClampNeg w_536.toInt32) (5 : Int32).toNatClampNeg w_540.toInt32) (6 : Int32).toNatClampNeg w_544.toInt32)))] H := hP
                      have hD : va_D A [(zy, .inr (11, [.ref zy0, .ref zy1, .int 7, .int 0, .int 0, .ref zy5, .int 0, .int 0, .ref zy8, .ref zy9, .ref zy10, .ref zy11, .ref zy12, .ref zy13, .ref zy14, .long 0, .ref zy16, .ref zy17, .ref zy18, .int 0, .long 0, .ref zy21, .ref zy22, .int 0, .ref zy24, .ref zy25, .ref zy26, .ref zy27])), (zy1, .inl (cy 0, 80, .inl (upd (upd (upd (upd (upd (upd (upd (fun _ => 0) (0 : Int32).toNatClampNeg w_520.toInt32) (1 : Int32).toNatClampNeg w_524.toInt32) (2 : Int32).toNatClampNeg w_528.toInt32) (3 : Int32).toNatClampNeg w_532.toInt32) (4 : Int32).toNatClampNeg w_536.toInt32) (5 : Int32).toNatClampNeg w_540.toInt32) (6 : Int32).toNatClampNeg w_544.toInt32)))] := hD
                      refine lv_iinc (v := 0) (lv' := [(4, .int 0), (0, .ref zy), (1, .long zja), (3, .int 8)]) hx hb dX11_type_110 hl (k := 0) rfl (by decide) (by decide) rfl (fun ls hl => ?_)
                      refine lv_goto (tgt := 74) hx hb dX11_type_113 (by decide) ?_
                      refine lv_iload hx hb dX11_type_74 (lv_at hl 0 rfl) ?_
                      refine lv_if_lt (tgt := 116) hx hb dX11_type_76 (by decide) (fun c_546 => absurd c_546 (by decide)) (fun c_546 => ?_)
                      refine lv_aload_n hx hb dX11_type_79 rfl (lv_at hl 1 rfl) ?_
                      refine va_get (D := (dC, dI)) (ci := 11) (v := .ref zy1) (C := RX11) (T := TX11) (N := 28) hx hb hts (by decide +kernel) hown hK hP 0 rfl rfl 1 (by decide) (hts (.fieldLink RX11 13 "DripStoneModel" "tape" "[I") (by decide +kernel)) (fun _ h9 => h9) rfl dX11_type_80 ?_
                      refine lv_aload_n hx hb dX11_type_83 rfl (lv_at hl 1 rfl) ?_
                      refine va_get (D := (dC, dI)) (ci := 11) (v := .int 7) (C := RX11) (T := TX11) (N := 28) hx hb hts (by decide +kernel) hown hK hP 0 rfl rfl 2 (by decide) (hts (.fieldLink RX11 112 "DripStoneModel" "taped" "I") (by decide +kernel)) (fun _ h9 => h9) rfl dX11_type_84 ?_
                      refine lv_lload_n hx hb dX11_type_87 rfl (lv_at hl 2 rfl) ?_
                      refine lv_bipush (v := 8) hx hb dX11_type_88 (by decide) ?_
                      refine lv_iload hx hb dX11_type_90 (lv_at hl 0 rfl) ?_
                      refine lv_imul hx hb dX11_type_92 ?_
                      refine lv_topi (fun v_547 ev_547 => ?_)
                      obtain rfl : v_547 = (0 : Int32) := ev_547.trans (by decide)
                      refine lv_lshr (v := zja >>> ((0 : Int32).toInt64 &&& 63)) hx hb dX11_type_93 rfl ?_
                      refine lv_ldc2 (v := 255) hx hb hown (hts (.constantLong RX11 106 255) (by decide +kernel)) dX11_type_94 ?_
                      refine lv_land hx hb dX11_type_97 ?_
                      refine lv_topl (fun w_548 ew_548 => ?_)
                      have tw_548 : w_548.toInt = by8 zja 0 := by rw [ew_548]; exact by8_l0 zja
                      refine lv_l2i (v := w_548.toInt32) hx hb dX11_type_98 rfl ?_
                      refine va_iast hx hb hK hP hD hS 1 0 rfl rfl (vp_in_iff.mpr ⟨by decide, by decide⟩) dX11_type_99 (fun H locs hP hD hS => ?_)
                      have hP : va_P (dC, dI) vwCl [(zy, .inr (11, [.ref zy0, .ref zy1, .int 7, .int 0, .int 0, .ref zy5, .int 0, .int 0, .ref zy8, .ref zy9, .ref zy10, .ref zy11, .ref zy12, .ref zy13, .ref zy14, .long 0, .ref zy16, .ref zy17, .ref zy18, .int 0, .long 0, .ref zy21, .ref zy22, .int 0, .ref zy24, .ref zy25, .ref zy26, .ref zy27])), (zy1, .inl (cy 0, 80, .inl (upd (upd (upd (upd (upd (upd (upd (upd (fun _ => 0) (0 : Int32).toNatClampNeg w_520.toInt32) (1 : Int32).toNatClampNeg w_524.toInt32) (2 : Int32).toNatClampNeg w_528.toInt32) (3 : Int32).toNatClampNeg w_532.toInt32) (4 : Int32).toNatClampNeg w_536.toInt32) (5 : Int32).toNatClampNeg w_540.toInt32) (6 : Int32).toNatClampNeg w_544.toInt32) (7 : Int32).toNatClampNeg w_548.toInt32)))] H := hP
                      have hD : va_D A [(zy, .inr (11, [.ref zy0, .ref zy1, .int 7, .int 0, .int 0, .ref zy5, .int 0, .int 0, .ref zy8, .ref zy9, .ref zy10, .ref zy11, .ref zy12, .ref zy13, .ref zy14, .long 0, .ref zy16, .ref zy17, .ref zy18, .int 0, .long 0, .ref zy21, .ref zy22, .int 0, .ref zy24, .ref zy25, .ref zy26, .ref zy27])), (zy1, .inl (cy 0, 80, .inl (upd (upd (upd (upd (upd (upd (upd (upd (fun _ => 0) (0 : Int32).toNatClampNeg w_520.toInt32) (1 : Int32).toNatClampNeg w_524.toInt32) (2 : Int32).toNatClampNeg w_528.toInt32) (3 : Int32).toNatClampNeg w_532.toInt32) (4 : Int32).toNatClampNeg w_536.toInt32) (5 : Int32).toNatClampNeg w_540.toInt32) (6 : Int32).toNatClampNeg w_544.toInt32) (7 : Int32).toNatClampNeg w_548.toInt32)))] := hD
                      refine lv_aload_n hx hb dX11_type_100 rfl (lv_at hl 1 rfl) ?_
                      refine lv_dup hx hb dX11_type_101 rfl ?_
                      refine va_get (D := (dC, dI)) (ci := 11) (v := .int 7) (C := RX11) (T := TX11) (N := 28) hx hb hts (by decide +kernel) hown hK hP 0 rfl rfl 2 (by decide) (hts (.fieldLink RX11 112 "DripStoneModel" "taped" "I") (by decide +kernel)) (fun _ h9 => h9) rfl dX11_type_102 ?_
                      refine lv_iconst (v := 1) hx hb dX11_type_105 (by decide) ?_
                      refine lv_iadd hx hb dX11_type_106 ?_
                      refine lv_topi (fun v_549 ev_549 => ?_)
                      obtain rfl : v_549 = (8 : Int32) := ev_549.trans (by decide)
                      refine va_put (D := (dC, dI)) (ci := 11) (v := .int 8) (ty := .int) (C := RX11) (T := TX11) (N := 28) hx hb hts (by decide +kernel) tyX11 tyX11_ok nmX11 hown hK hP hD hS 0 rfl rfl 2 (by decide) (hts (.fieldLink RX11 112 "DripStoneModel" "taped" "I") (by decide +kernel)) (fun _ h9 => h9) rfl (by decide +kernel) rfl rfl (Nat.le_of_ble_eq_true rfl) dX11_type_107 (fun H locs hP hD hS => ?_)
                      have hP : va_P (dC, dI) vwCl [(zy, .inr (11, [.ref zy0, .ref zy1, .int 8, .int 0, .int 0, .ref zy5, .int 0, .int 0, .ref zy8, .ref zy9, .ref zy10, .ref zy11, .ref zy12, .ref zy13, .ref zy14, .long 0, .ref zy16, .ref zy17, .ref zy18, .int 0, .long 0, .ref zy21, .ref zy22, .int 0, .ref zy24, .ref zy25, .ref zy26, .ref zy27])), (zy1, .inl (cy 0, 80, .inl (upd (upd (upd (upd (upd (upd (upd (upd (fun _ => 0) (0 : Int32).toNatClampNeg w_520.toInt32) (1 : Int32).toNatClampNeg w_524.toInt32) (2 : Int32).toNatClampNeg w_528.toInt32) (3 : Int32).toNatClampNeg w_532.toInt32) (4 : Int32).toNatClampNeg w_536.toInt32) (5 : Int32).toNatClampNeg w_540.toInt32) (6 : Int32).toNatClampNeg w_544.toInt32) (7 : Int32).toNatClampNeg w_548.toInt32)))] H := hP
                      have hD : va_D A [(zy, .inr (11, [.ref zy0, .ref zy1, .int 8, .int 0, .int 0, .ref zy5, .int 0, .int 0, .ref zy8, .ref zy9, .ref zy10, .ref zy11, .ref zy12, .ref zy13, .ref zy14, .long 0, .ref zy16, .ref zy17, .ref zy18, .int 0, .long 0, .ref zy21, .ref zy22, .int 0, .ref zy24, .ref zy25, .ref zy26, .ref zy27])), (zy1, .inl (cy 0, 80, .inl (upd (upd (upd (upd (upd (upd (upd (upd (fun _ => 0) (0 : Int32).toNatClampNeg w_520.toInt32) (1 : Int32).toNatClampNeg w_524.toInt32) (2 : Int32).toNatClampNeg w_528.toInt32) (3 : Int32).toNatClampNeg w_532.toInt32) (4 : Int32).toNatClampNeg w_536.toInt32) (5 : Int32).toNatClampNeg w_540.toInt32) (6 : Int32).toNatClampNeg w_544.toInt32) (7 : Int32).toNatClampNeg w_548.toInt32)))] := hD
                      refine lv_iinc (v := (-1)) (lv' := [(4, .int (-1)), (0, .ref zy), (1, .long zja), (3, .int 8)]) hx hb dX11_type_110 hl (k := 0) rfl (by decide) (by decide) rfl (fun ls hl => ?_)
                      refine lv_goto (tgt := 74) hx hb dX11_type_113 (by decide) ?_
                      refine lv_iload hx hb dX11_type_74 (lv_at hl 0 rfl) ?_
                      refine lv_if_lt (tgt := 116) hx hb dX11_type_76 (by decide) (fun c_550 => ?_) (fun c_550 => absurd (by decide) c_550)
                      refine lv_aload_n hx hb dX11_type_116 rfl (lv_at hl 1 rfl) ?_
                      refine va_get (D := (dC, dI)) (ci := 11) (v := .int 8) (C := RX11) (T := TX11) (N := 28) hx hb hts (by decide +kernel) hown hK hP 0 rfl rfl 2 (by decide) (hts (.fieldLink RX11 112 "DripStoneModel" "taped" "I") (by decide +kernel)) (fun _ h9 => h9) rfl dX11_type_117 ?_
                      have hP9 := hP.sub (ws' := []) [] rfl
                      have hD9 := hD.sub (ws' := []) [] (by decide) rfl
                      exact W.iret (v := 8) hx hb hr (fun t ht hW => ⟨⟨8, (), rfl, ((an_type_8 _).trans (if_pos ⟨g_513, g_504, g_495, g_486, g_477, g_468, g_459, g_450⟩)).symm, ⟨by rw [ht]; exact hP9, va_K.moved hW.alike hK, hD9⟩⟩, hS.F ht⟩) hS.2.2 dX11_type_120
                    · have f_512 : ¬ (32 ≤ w_507.toInt ∧ w_507.toInt ≤ 126) := bz_0 hw_510 c_511
                      have g_551 : ¬ okb zja 0 := by unfold okb; rw [← tw_507]; exact f_512
                      refine lv_iconst (v := (-1)) hx hb dX11_type_47 (by decide) ?_
                      have hP9 := hP.sub (ws' := []) [] rfl
                      have hD9 := hD.sub (ws' := []) [] (by decide) rfl
                      exact W.iret (v := (-1)) hx hb hr (fun t ht hW => ⟨⟨(-1), (), rfl, ((an_type_8 _).trans (if_neg (fun h => g_551 (h.1)))).symm, ⟨by rw [ht]; exact hP9, va_K.moved hW.alike hK, hD9⟩⟩, hS.F ht⟩) hS.2.2 dX11_type_48
                  · have f_503 : ¬ (32 ≤ w_498.toInt ∧ w_498.toInt ≤ 126) := bz_0 hw_501 c_502
                    have g_552 : ¬ okb zja 1 := by unfold okb; rw [← tw_498]; exact f_503
                    refine lv_iconst (v := (-1)) hx hb dX11_type_47 (by decide) ?_
                    have hP9 := hP.sub (ws' := []) [] rfl
                    have hD9 := hD.sub (ws' := []) [] (by decide) rfl
                    exact W.iret (v := (-1)) hx hb hr (fun t ht hW => ⟨⟨(-1), (), rfl, ((an_type_8 _).trans (if_neg (fun h => g_552 (h.2.1)))).symm, ⟨by rw [ht]; exact hP9, va_K.moved hW.alike hK, hD9⟩⟩, hS.F ht⟩) hS.2.2 dX11_type_48
                · have f_494 : ¬ (32 ≤ w_489.toInt ∧ w_489.toInt ≤ 126) := bz_0 hw_492 c_493
                  have g_553 : ¬ okb zja 2 := by unfold okb; rw [← tw_489]; exact f_494
                  refine lv_iconst (v := (-1)) hx hb dX11_type_47 (by decide) ?_
                  have hP9 := hP.sub (ws' := []) [] rfl
                  have hD9 := hD.sub (ws' := []) [] (by decide) rfl
                  exact W.iret (v := (-1)) hx hb hr (fun t ht hW => ⟨⟨(-1), (), rfl, ((an_type_8 _).trans (if_neg (fun h => g_553 (h.2.2.1)))).symm, ⟨by rw [ht]; exact hP9, va_K.moved hW.alike hK, hD9⟩⟩, hS.F ht⟩) hS.2.2 dX11_type_48
              · have f_485 : ¬ (32 ≤ w_480.toInt ∧ w_480.toInt ≤ 126) := bz_0 hw_483 c_484
                have g_554 : ¬ okb zja 3 := by unfold okb; rw [← tw_480]; exact f_485
                refine lv_iconst (v := (-1)) hx hb dX11_type_47 (by decide) ?_
                have hP9 := hP.sub (ws' := []) [] rfl
                have hD9 := hD.sub (ws' := []) [] (by decide) rfl
                exact W.iret (v := (-1)) hx hb hr (fun t ht hW => ⟨⟨(-1), (), rfl, ((an_type_8 _).trans (if_neg (fun h => g_554 (h.2.2.2.1)))).symm, ⟨by rw [ht]; exact hP9, va_K.moved hW.alike hK, hD9⟩⟩, hS.F ht⟩) hS.2.2 dX11_type_48
            · have f_476 : ¬ (32 ≤ w_471.toInt ∧ w_471.toInt ≤ 126) := bz_0 hw_474 c_475
              have g_555 : ¬ okb zja 4 := by unfold okb; rw [← tw_471]; exact f_476
              refine lv_iconst (v := (-1)) hx hb dX11_type_47 (by decide) ?_
              have hP9 := hP.sub (ws' := []) [] rfl
              have hD9 := hD.sub (ws' := []) [] (by decide) rfl
              exact W.iret (v := (-1)) hx hb hr (fun t ht hW => ⟨⟨(-1), (), rfl, ((an_type_8 _).trans (if_neg (fun h => g_555 (h.2.2.2.2.1)))).symm, ⟨by rw [ht]; exact hP9, va_K.moved hW.alike hK, hD9⟩⟩, hS.F ht⟩) hS.2.2 dX11_type_48
          · have f_467 : ¬ (32 ≤ w_462.toInt ∧ w_462.toInt ≤ 126) := bz_0 hw_465 c_466
            have g_556 : ¬ okb zja 5 := by unfold okb; rw [← tw_462]; exact f_467
            refine lv_iconst (v := (-1)) hx hb dX11_type_47 (by decide) ?_
            have hP9 := hP.sub (ws' := []) [] rfl
            have hD9 := hD.sub (ws' := []) [] (by decide) rfl
            exact W.iret (v := (-1)) hx hb hr (fun t ht hW => ⟨⟨(-1), (), rfl, ((an_type_8 _).trans (if_neg (fun h => g_556 (h.2.2.2.2.2.1)))).symm, ⟨by rw [ht]; exact hP9, va_K.moved hW.alike hK, hD9⟩⟩, hS.F ht⟩) hS.2.2 dX11_type_48
        · have f_458 : ¬ (32 ≤ w_453.toInt ∧ w_453.toInt ≤ 126) := bz_0 hw_456 c_457
          have g_557 : ¬ okb zja 6 := by unfold okb; rw [← tw_453]; exact f_458
          refine lv_iconst (v := (-1)) hx hb dX11_type_47 (by decide) ?_
          have hP9 := hP.sub (ws' := []) [] rfl
          have hD9 := hD.sub (ws' := []) [] (by decide) rfl
          exact W.iret (v := (-1)) hx hb hr (fun t ht hW => ⟨⟨(-1), (), rfl, ((an_type_8 _).trans (if_neg (fun h => g_557 (h.2.2.2.2.2.2.1)))).symm, ⟨by rw [ht]; exact hP9, va_K.moved hW.alike hK, hD9⟩⟩, hS.F ht⟩) hS.2.2 dX11_type_48
      · have f_449 : ¬ (32 ≤ w_444.toInt ∧ w_444.toInt ≤ 126) := bz_0 hw_447 c_448
        have g_558 : ¬ okb zja 7 := by unfold okb; rw [← tw_444]; exact f_449
        refine lv_iconst (v := (-1)) hx hb dX11_type_47 (by decide) ?_
        have hP9 := hP.sub (ws' := []) [] rfl
        have hD9 := hD.sub (ws' := []) [] (by decide) rfl
        exact W.iret (v := (-1)) hx hb hr (fun t ht hW => ⟨⟨(-1), (), rfl, ((an_type_8 _).trans (if_neg (fun h => g_558 (h.2.2.2.2.2.2.2)))).symm, ⟨by rw [ht]; exact hP9, va_K.moved hW.alike hK, hD9⟩⟩, hS.F ht⟩) hS.2.2 dX11_type_48
  · have f_5 : ¬ (1 ≤ zib.toInt ∧ zib.toInt ≤ 8) := bz_0 hw_3 c_4
    refine lv_iconst (v := (-1)) hx hb dX11_type_12 (by decide) ?_
    have hP9 := hP.sub (ws' := []) [] rfl
    have hD9 := hD.sub (ws' := []) [] (by decide) rfl
    exact W.iret (v := (-1)) hx hb hr (fun t ht hW => ⟨⟨(-1), (), rfl, (an_type_out (by omega)).symm, ⟨by rw [ht]; exact hP9, va_K.moved hW.alike hK, hD9⟩⟩, hS.F ht⟩) hS.2.2 dX11_type_13
