set_option maxHeartbeats 4000000 in
set_option maxRecDepth 100000 in
theorem c_X11_rain (l : Launch) (dC : Nat → ClassId) (dI : Nat → Nat → Nat) (cy : Nat → ClassId) (sz : Nat) (zy : Nat) (zia : Int32) (zib : Int32) (zic : Int32) (zy0 : Nat) (zy1 : Nat) (zy5 : Nat) (zy8 : Nat) (zy9 : Nat) (zy10 : Nat) (zy11 : Nat) (zy12 : Nat) (zy13 : Nat) (zy14 : Nat) (zy16 : Nat) (zy17 : Nat) (zy18 : Nat) (zy21 : Nat) (zy22 : Nat) (zy24 : Nat) (zy25 : Nat) (zy26 : Nat) (zy27 : Nat)  : Met l yX11_rain wsX11_rain ({ frames := 2, cells := 0, slots := 0, locals := 46 }) (va_Pc [.ref zy, .int zia, .int zib, .int zic] (PRE dC dI cy [(zy, .inr (11, [.ref zy0, .ref zy1, .int 0, .int 0, .int 0, .ref zy5, .int 0, .int 0, .ref zy8, .ref zy9, .ref zy10, .ref zy11, .ref zy12, .ref zy13, .ref zy14, .long 0, .ref zy16, .ref zy17, .ref zy18, .int 0, .long 0, .ref zy21, .ref zy22, .int 0, .ref zy24, .ref zy25, .ref zy26, .ref zy27])), (zy0, .inl (cy 0, 392, .inl zz))] sz)) (va_Qi (fun (r : Int32) (_ : Unit) => r = an_rain zia zib zic) (fun u t => POST dC dI cy (va_A [(zy, .inr (11, [.ref zy0, .ref zy1, .int 0, .int 0, .int 0, .ref zy5, .int 0, .int 0, .ref zy8, .ref zy9, .ref zy10, .ref zy11, .ref zy12, .ref zy13, .ref zy14, .long 0, .ref zy16, .ref zy17, .ref zy18, .int 0, .long 0, .ref zy21, .ref zy22, .int 0, .ref zy24, .ref zy25, .ref zy26, .ref zy27])), (zy0, .inl (cy 0, 392, .inl zz))] sz) [] t) (va_A [(zy, .inr (11, [.ref zy0, .ref zy1, .int 0, .int 0, .int 0, .ref zy5, .int 0, .int 0, .ref zy8, .ref zy9, .ref zy10, .ref zy11, .ref zy12, .ref zy13, .ref zy14, .long 0, .ref zy16, .ref zy17, .ref zy18, .int 0, .long 0, .ref zy21, .ref zy22, .int 0, .ref zy24, .ref zy25, .ref zy26, .ref zy27])), (zy0, .inl (cy 0, 392, .inl zz))] sz)) 0 0 (va_A [(zy, .inr (11, [.ref zy0, .ref zy1, .int 0, .int 0, .int 0, .ref zy5, .int 0, .int 0, .ref zy8, .ref zy9, .ref zy10, .ref zy11, .ref zy12, .ref zy13, .ref zy14, .long 0, .ref zy16, .ref zy17, .ref zy18, .int 0, .long 0, .ref zy21, .ref zy22, .int 0, .ref zy24, .ref zy25, .ref zy26, .ref zy27])), (zy0, .inl (cy 0, 392, .inl zz))] sz) := by
  refine Met.ofW (cc := cX11_rain) (maxL := 5) (ret := (some .int)) (by decide) rfl ?_
  intro p e s m args below meth c s₁ B hml hv
  obtain ⟨rfl, hsz, hP, hK, hD0, hN⟩ := hv
  have hx := B.exec
  have hb := B.bytes
  have hr := B.returns
  have hts := atoms_spec (ws := wsX11_rain) B.pre
  have hown : s.vm.findClass RX11 = some m.cls := findClass_of_methodNamed B.named
  have hlocks := B.notSynchronized
  subst hsz
  have hD := hD0.self (sz := s.heap.size)
  generalize hAe : va_A [(zy, .inr (11, [.ref zy0, .ref zy1, .int 0, .int 0, .int 0, .ref zy5, .int 0, .int 0, .ref zy8, .ref zy9, .ref zy10, .ref zy11, .ref zy12, .ref zy13, .ref zy14, .long 0, .ref zy16, .ref zy17, .ref zy18, .int 0, .long 0, .ref zy21, .ref zy22, .int 0, .ref zy24, .ref zy25, .ref zy26, .ref zy27])), (zy0, .inl (cy 0, 392, .inl zz))] s.heap.size = A at hD ⊢
  have hA : ∀ q : Nat, s.heap.size ≤ q → A q := fun q h => by rw [← hAe]; exact Or.inr h
  have hS : va_S A s.heap s.heap [] := va_S.rf
  have hP : va_P (dC, dI) vwCl [(zy, .inr (11, [.ref zy0, .ref zy1, .int 0, .int 0, .int 0, .ref zy5, .int 0, .int 0, .ref zy8, .ref zy9, .ref zy10, .ref zy11, .ref zy12, .ref zy13, .ref zy14, .long 0, .ref zy16, .ref zy17, .ref zy18, .int 0, .long 0, .ref zy21, .ref zy22, .int 0, .ref zy24, .ref zy25, .ref zy26, .ref zy27])), (zy0, .inl (cy 0, 392, .inl zz))] s.heap := hP
  have hl := lv_entry ([.ref zy, .int zia, .int zib, .int zic] : List Value) (n := 5) (Nat.le_of_ble_eq_true rfl)
  rw [lg_entry_eq]
  generalize (lg_sl ([.ref zy, .int zia, .int zib, .int zic] : List Value) ++ List.replicate (5 - (lg_sl ([.ref zy, .int zia, .int zib, .int zic] : List Value)).length) Slot.unset).toArray = ls at hl ⊢
  have hl : lv_has ls 5 [(0, .ref zy), (1, .int zia), (2, .int zib), (3, .int zic)] := hl
  refine lv_iload_n hx hb dX11_rain_0 rfl (lv_at hl 1 rfl) ?_
  refine cj_i (wc := []) (wr := [(zy, .inr (11, [.ref zy0, .ref zy1, .int 0, .int 0, .int 0, .ref zy5, .int 0, .int 0, .ref zy8, .ref zy9, .ref zy10, .ref zy11, .ref zy12, .ref zy13, .ref zy14, .long 0, .ref zy16, .ref zy17, .ref zy18, .int 0, .long 0, .ref zy21, .ref zy22, .int 0, .ref zy24, .ref zy25, .ref zy26, .ref zy27])), (zy0, .inl (cy 0, 392, .inl zz))]) (w1 := fun (_ : Unit) => []) (va_runS (As := [.int zia]) (rest := []) ⟨hx, hb, hml, hown, hts⟩ (c_X11_isYear l dC dI cy s.heap.size zia) (va_cwS 1 hts gX11_rain_X11_isYear rfl rfl rfl (by decide +kernel) ⟨(Nat.le_of_ble_eq_true rfl), (Nat.le_of_ble_eq_true rfl)⟩) (PRE.s (hP.sub [] rfl) hK (hD.sub [] (by decide) rfl) hN) rfl rfl hl.1 rfl (lv_room (Nat.le_of_ble_eq_true rfl)) dX11_rain_1 ⟨(Nat.le_of_ble_eq_true rfl), (Nat.le_of_ble_eq_true rfl)⟩) hP hD hS hA [] [0, 1] rfl rfl rfl (by decide) (fun r_2 u_1 H locs hw_3 hP hD hS => ?_)
  have hP : va_P (dC, dI) vwCl [(zy, .inr (11, [.ref zy0, .ref zy1, .int 0, .int 0, .int 0, .ref zy5, .int 0, .int 0, .ref zy8, .ref zy9, .ref zy10, .ref zy11, .ref zy12, .ref zy13, .ref zy14, .long 0, .ref zy16, .ref zy17, .ref zy18, .int 0, .long 0, .ref zy21, .ref zy22, .int 0, .ref zy24, .ref zy25, .ref zy26, .ref zy27])), (zy0, .inl (cy 0, 392, .inl zz))] H := hP
  have hD : va_D A [(zy, .inr (11, [.ref zy0, .ref zy1, .int 0, .int 0, .int 0, .ref zy5, .int 0, .int 0, .ref zy8, .ref zy9, .ref zy10, .ref zy11, .ref zy12, .ref zy13, .ref zy14, .long 0, .ref zy16, .ref zy17, .ref zy18, .int 0, .long 0, .ref zy21, .ref zy22, .int 0, .ref zy24, .ref zy25, .ref zy26, .ref zy27])), (zy0, .inl (cy 0, 392, .inl zz))] := hD
  have hw_3 : r_2 = if 0 ≤ zia.toInt ∧ zia.toInt ≤ 23 then 1 else 0 := hw_3
  refine lv_if_eq (tgt := 15) hx hb dX11_rain_4 (by decide) (fun c_4 => ?_) (fun c_4 => ?_)
  · have f_5 : ¬ (0 ≤ zia.toInt ∧ zia.toInt ≤ 23) := bz_0 hw_3 c_4
    refine lv_sipush (v := (-1001)) hx hb dX11_rain_15 (by decide) ?_
    have hP9 := hP.sub (ws' := []) [] rfl
    have hD9 := hD.sub (ws' := []) [] (by decide) rfl
    exact W.iret (v := (-1001)) hx hb hr (fun t ht hW => ⟨⟨(-1001), (), rfl, (by unfold an_rain; (repeat' split) <;> first | rfl | (exfalso; omega)), ⟨by rw [ht]; exact hP9, va_K.moved hW.alike hK, hD9⟩⟩, hS.F ht⟩) hS.2.2 dX11_rain_18
  · have f_5 : 0 ≤ zia.toInt ∧ zia.toInt ≤ 23 := bz_1 hw_3 c_4
    refine lv_iload_n hx hb dX11_rain_7 rfl (lv_at hl 2 rfl) ?_
    refine lv_iload_n hx hb dX11_rain_8 rfl (lv_at hl 3 rfl) ?_
    refine cj_i (wc := []) (wr := [(zy, .inr (11, [.ref zy0, .ref zy1, .int 0, .int 0, .int 0, .ref zy5, .int 0, .int 0, .ref zy8, .ref zy9, .ref zy10, .ref zy11, .ref zy12, .ref zy13, .ref zy14, .long 0, .ref zy16, .ref zy17, .ref zy18, .int 0, .long 0, .ref zy21, .ref zy22, .int 0, .ref zy24, .ref zy25, .ref zy26, .ref zy27])), (zy0, .inl (cy 0, 392, .inl zz))]) (w1 := fun (_ : Unit) => []) (va_runS (As := [.int zib, .int zic]) (rest := []) ⟨hx, hb, hml, hown, hts⟩ (c_X11_mayRain l dC dI cy H.size zib zic) (va_cwS 2 hts gX11_rain_X11_mayRain rfl rfl rfl (by decide +kernel) ⟨(Nat.le_of_ble_eq_true rfl), (Nat.le_of_ble_eq_true rfl)⟩) (PRE.s (hP.sub [] rfl) hK (hD.sub [] (by decide) rfl) hN) rfl rfl hl.1 rfl (lv_room (Nat.le_of_ble_eq_true rfl)) dX11_rain_9 ⟨(Nat.le_of_ble_eq_true rfl), (Nat.le_of_ble_eq_true rfl)⟩) hP hD hS hA [] [0, 1] rfl rfl rfl (by decide) (fun r_7 u_6 H locs hw_8 hP hD hS => ?_)
    have hP : va_P (dC, dI) vwCl [(zy, .inr (11, [.ref zy0, .ref zy1, .int 0, .int 0, .int 0, .ref zy5, .int 0, .int 0, .ref zy8, .ref zy9, .ref zy10, .ref zy11, .ref zy12, .ref zy13, .ref zy14, .long 0, .ref zy16, .ref zy17, .ref zy18, .int 0, .long 0, .ref zy21, .ref zy22, .int 0, .ref zy24, .ref zy25, .ref zy26, .ref zy27])), (zy0, .inl (cy 0, 392, .inl zz))] H := hP
    have hD : va_D A [(zy, .inr (11, [.ref zy0, .ref zy1, .int 0, .int 0, .int 0, .ref zy5, .int 0, .int 0, .ref zy8, .ref zy9, .ref zy10, .ref zy11, .ref zy12, .ref zy13, .ref zy14, .long 0, .ref zy16, .ref zy17, .ref zy18, .int 0, .long 0, .ref zy21, .ref zy22, .int 0, .ref zy24, .ref zy25, .ref zy26, .ref zy27])), (zy0, .inl (cy 0, 392, .inl zz))] := hD
    have hw_8 : r_7 = if (0 ≤ zib.toInt ∧ zib.toInt ≤ 2) ∧ ((zib.toInt = 1 ∧ -20 ≤ zic.toInt ∧ zic.toInt ≤ 20) ∨ (¬ zib.toInt = 1 ∧ 0 ≤ zic.toInt ∧ zic.toInt ≤ 9)) then 1 else 0 := hw_8
    refine lv_if_ne (tgt := 19) hx hb dX11_rain_12 (by decide) (fun c_9 => ?_) (fun c_9 => ?_)
    · have f_10 : (0 ≤ zib.toInt ∧ zib.toInt ≤ 2) ∧ ((zib.toInt = 1 ∧ -20 ≤ zic.toInt ∧ zic.toInt ≤ 20) ∨ (¬ zib.toInt = 1 ∧ 0 ≤ zic.toInt ∧ zic.toInt ≤ 9)) := bz_1 hw_8 c_9
      refine lv_aload_n hx hb dX11_rain_19 rfl (lv_at hl 0 rfl) ?_
      refine va_get (D := (dC, dI)) (ci := 11) (v := .ref zy0) (C := RX11) (T := TX11) (N := 28) hx hb hts (by decide +kernel) hown hK hP 0 rfl rfl 0 (by decide) (hts (.fieldLink RX11 7 "DripStoneModel" "z" "[I") (by decide +kernel)) (fun _ h9 => h9) rfl dX11_rain_20 ?_
      refine lv_bipush (v := 20) hx hb dX11_rain_23 (by decide) ?_
      refine lv_iconst (v := 3) hx hb dX11_rain_25 (by decide) ?_
      refine lv_iload_n hx hb dX11_rain_26 rfl (lv_at hl 1 rfl) ?_
      refine lv_imul hx hb dX11_rain_27 ?_
      refine lv_topi (fun v_11 ev_11 => ?_)
      have tv_11 : v_11.toInt = (3 : Int) * zia.toInt := by rw [ev_11]; exact tmul (show (3 : Int32).toInt = 3 by decide) (rfl) (by omega) (by omega)
      refine lv_iadd hx hb dX11_rain_28 ?_
      refine lv_topi (fun v_12 ev_12 => ?_)
      have tv_12 : v_12.toInt = (20 : Int) + v_11.toInt := by rw [ev_12]; exact tadd (show (20 : Int32).toInt = 20 by decide) (rfl) (by omega) (by omega)
      refine lv_iload_n hx hb dX11_rain_29 rfl (lv_at hl 2 rfl) ?_
      refine lv_iadd hx hb dX11_rain_30 ?_
      refine lv_topi (fun v_13 ev_13 => ?_)
      have tv_13 : v_13.toInt = v_12.toInt + zib.toInt := by rw [ev_13]; exact tadd (rfl) (rfl) (by omega) (by omega)
      refine va_iald hx hb hK hP 1 0 rfl rfl (vp_in_iff.mpr ⟨by omega, by omega⟩) dX11_rain_31 ?_
      refine lv_topi (fun v_14 ev_14 => ?_)
      obtain rfl : v_14 = (0 : Int32) := ev_14.trans (zz_ge (by omega))
      refine lv_istore (lv' := [(4, .int 0), (0, .ref zy), (1, .int zia), (2, .int zib), (3, .int zic)]) hx hb dX11_rain_32 hl (by decide) rfl (fun ls hl => ?_)
      refine lv_aload_n hx hb dX11_rain_34 rfl (lv_at hl 1 rfl) ?_
      refine va_get (D := (dC, dI)) (ci := 11) (v := .ref zy0) (C := RX11) (T := TX11) (N := 28) hx hb hts (by decide +kernel) hown hK hP 0 rfl rfl 0 (by decide) (hts (.fieldLink RX11 7 "DripStoneModel" "z" "[I") (by decide +kernel)) (fun _ h9 => h9) rfl dX11_rain_35 ?_
      refine lv_bipush (v := 20) hx hb dX11_rain_38 (by decide) ?_
      refine lv_iconst (v := 3) hx hb dX11_rain_40 (by decide) ?_
      refine lv_iload_n hx hb dX11_rain_41 rfl (lv_at hl 2 rfl) ?_
      refine lv_imul hx hb dX11_rain_42 ?_
      refine lv_topi (fun v_15 ev_15 => ?_)
      have tv_15 : v_15.toInt = (3 : Int) * zia.toInt := by rw [ev_15]; exact tmul (show (3 : Int32).toInt = 3 by decide) (rfl) (by omega) (by omega)
      refine lv_iadd hx hb dX11_rain_43 ?_
      refine lv_topi (fun v_16 ev_16 => ?_)
      have tv_16 : v_16.toInt = (20 : Int) + v_15.toInt := by rw [ev_16]; exact tadd (show (20 : Int32).toInt = 20 by decide) (rfl) (by omega) (by omega)
      refine lv_iload_n hx hb dX11_rain_44 rfl (lv_at hl 3 rfl) ?_
      refine lv_iadd hx hb dX11_rain_45 ?_
      refine lv_topi (fun v_17 ev_17 => ?_)
      have tv_17 : v_17.toInt = v_16.toInt + zib.toInt := by rw [ev_17]; exact tadd (rfl) (rfl) (by omega) (by omega)
      refine lv_iload_n hx hb dX11_rain_46 rfl (lv_at hl 4 rfl) ?_
      refine va_iast hx hb hK hP hD hS 1 0 rfl rfl (vp_in_iff.mpr ⟨by omega, by omega⟩) dX11_rain_47 (fun H locs hP hD hS => ?_)
      have hP : va_P (dC, dI) vwCl [(zy, .inr (11, [.ref zy0, .ref zy1, .int 0, .int 0, .int 0, .ref zy5, .int 0, .int 0, .ref zy8, .ref zy9, .ref zy10, .ref zy11, .ref zy12, .ref zy13, .ref zy14, .long 0, .ref zy16, .ref zy17, .ref zy18, .int 0, .long 0, .ref zy21, .ref zy22, .int 0, .ref zy24, .ref zy25, .ref zy26, .ref zy27])), (zy0, .inl (cy 0, 392, .inl (upd zz v_17.toNatClampNeg zic)))] H := hP
      have hD : va_D A [(zy, .inr (11, [.ref zy0, .ref zy1, .int 0, .int 0, .int 0, .ref zy5, .int 0, .int 0, .ref zy8, .ref zy9, .ref zy10, .ref zy11, .ref zy12, .ref zy13, .ref zy14, .long 0, .ref zy16, .ref zy17, .ref zy18, .int 0, .long 0, .ref zy21, .ref zy22, .int 0, .ref zy24, .ref zy25, .ref zy26, .ref zy27])), (zy0, .inl (cy 0, 392, .inl (upd zz v_17.toNatClampNeg zic)))] := hD
      refine lv_iload hx hb dX11_rain_48 (lv_at hl 0 rfl) ?_
      have hP9 := hP.sub (ws' := []) [] rfl
      have hD9 := hD.sub (ws' := []) [] (by decide) rfl
      exact W.iret (v := 0) hx hb hr (fun t ht hW => ⟨⟨0, (), rfl, (by unfold an_rain; (repeat' split) <;> first | rfl | (exfalso; omega)), ⟨by rw [ht]; exact hP9, va_K.moved hW.alike hK, hD9⟩⟩, hS.F ht⟩) hS.2.2 dX11_rain_50
    · have f_10 : ¬ ((0 ≤ zib.toInt ∧ zib.toInt ≤ 2) ∧ ((zib.toInt = 1 ∧ -20 ≤ zic.toInt ∧ zic.toInt ≤ 20) ∨ (¬ zib.toInt = 1 ∧ 0 ≤ zic.toInt ∧ zic.toInt ≤ 9))) := bz_0 hw_8 c_9
      refine lv_sipush (v := (-1001)) hx hb dX11_rain_15 (by decide) ?_
      have hP9 := hP.sub (ws' := []) [] rfl
      have hD9 := hD.sub (ws' := []) [] (by decide) rfl
      exact W.iret (v := (-1001)) hx hb hr (fun t ht hW => ⟨⟨(-1001), (), rfl, (by unfold an_rain; (repeat' split) <;> first | rfl | (exfalso; omega)), ⟨by rw [ht]; exact hP9, va_K.moved hW.alike hK, hD9⟩⟩, hS.F ht⟩) hS.2.2 dX11_rain_18
set_option maxHeartbeats 4000000 in
set_option maxRecDepth 100000 in
theorem c_X11_rains (l : Launch) (dC : Nat → ClassId) (dI : Nat → Nat → Nat) (cy : Nat → ClassId) (sz : Nat) (zy : Nat) (zia : Int32) (zib : Int32) (zic : Int32) (zid : Int32) (zie : Int32) (zy0 : Nat) (zy1 : Nat) (zy5 : Nat) (zy8 : Nat) (zy9 : Nat) (zy10 : Nat) (zy11 : Nat) (zy12 : Nat) (zy13 : Nat) (zy14 : Nat) (zy16 : Nat) (zy17 : Nat) (zy18 : Nat) (zy21 : Nat) (zy22 : Nat) (zy24 : Nat) (zy25 : Nat) (zy26 : Nat) (zy27 : Nat)  : Met l yX11_rains wsX11_rains ({ frames := 2, cells := 0, slots := 0, locals := 46 }) (va_Pc [.ref zy, .int zia, .int zib, .int zic, .int zid, .int zie] (PRE dC dI cy [(zy, .inr (11, [.ref zy0, .ref zy1, .int 0, .int 0, .int 0, .ref zy5, .int 0, .int 0, .ref zy8, .ref zy9, .ref zy10, .ref zy11, .ref zy12, .ref zy13, .ref zy14, .long 0, .ref zy16, .ref zy17, .ref zy18, .int 0, .long 0, .ref zy21, .ref zy22, .int 0, .ref zy24, .ref zy25, .ref zy26, .ref zy27])), (zy25, .inl (cy 0, 4, .inl ll))] sz)) (va_Qi (fun (r : Int32) (_ : Unit) => r = an_rains zia zib zic zid zie) (fun u t => POST dC dI cy (va_A [(zy, .inr (11, [.ref zy0, .ref zy1, .int 0, .int 0, .int 0, .ref zy5, .int 0, .int 0, .ref zy8, .ref zy9, .ref zy10, .ref zy11, .ref zy12, .ref zy13, .ref zy14, .long 0, .ref zy16, .ref zy17, .ref zy18, .int 0, .long 0, .ref zy21, .ref zy22, .int 0, .ref zy24, .ref zy25, .ref zy26, .ref zy27])), (zy25, .inl (cy 0, 4, .inl ll))] sz) [] t) (va_A [(zy, .inr (11, [.ref zy0, .ref zy1, .int 0, .int 0, .int 0, .ref zy5, .int 0, .int 0, .ref zy8, .ref zy9, .ref zy10, .ref zy11, .ref zy12, .ref zy13, .ref zy14, .long 0, .ref zy16, .ref zy17, .ref zy18, .int 0, .long 0, .ref zy21, .ref zy22, .int 0, .ref zy24, .ref zy25, .ref zy26, .ref zy27])), (zy25, .inl (cy 0, 4, .inl ll))] sz)) 0 0 (va_A [(zy, .inr (11, [.ref zy0, .ref zy1, .int 0, .int 0, .int 0, .ref zy5, .int 0, .int 0, .ref zy8, .ref zy9, .ref zy10, .ref zy11, .ref zy12, .ref zy13, .ref zy14, .long 0, .ref zy16, .ref zy17, .ref zy18, .int 0, .long 0, .ref zy21, .ref zy22, .int 0, .ref zy24, .ref zy25, .ref zy26, .ref zy27])), (zy25, .inl (cy 0, 4, .inl ll))] sz) := by
  refine Met.ofW (cc := cX11_rains) (maxL := 9) (ret := (some .int)) (by decide) rfl ?_
  intro p e s m args below meth c s₁ B hml hv
  obtain ⟨rfl, hsz, hP, hK, hD0, hN⟩ := hv
  have hx := B.exec
  have hb := B.bytes
  have hr := B.returns
  have hts := atoms_spec (ws := wsX11_rains) B.pre
  have hown : s.vm.findClass RX11 = some m.cls := findClass_of_methodNamed B.named
  have hlocks := B.notSynchronized
  subst hsz
  have hD := hD0.self (sz := s.heap.size)
  generalize hAe : va_A [(zy, .inr (11, [.ref zy0, .ref zy1, .int 0, .int 0, .int 0, .ref zy5, .int 0, .int 0, .ref zy8, .ref zy9, .ref zy10, .ref zy11, .ref zy12, .ref zy13, .ref zy14, .long 0, .ref zy16, .ref zy17, .ref zy18, .int 0, .long 0, .ref zy21, .ref zy22, .int 0, .ref zy24, .ref zy25, .ref zy26, .ref zy27])), (zy25, .inl (cy 0, 4, .inl ll))] s.heap.size = A at hD ⊢
  have hA : ∀ q : Nat, s.heap.size ≤ q → A q := fun q h => by rw [← hAe]; exact Or.inr h
  have hS : va_S A s.heap s.heap [] := va_S.rf
  have hP : va_P (dC, dI) vwCl [(zy, .inr (11, [.ref zy0, .ref zy1, .int 0, .int 0, .int 0, .ref zy5, .int 0, .int 0, .ref zy8, .ref zy9, .ref zy10, .ref zy11, .ref zy12, .ref zy13, .ref zy14, .long 0, .ref zy16, .ref zy17, .ref zy18, .int 0, .long 0, .ref zy21, .ref zy22, .int 0, .ref zy24, .ref zy25, .ref zy26, .ref zy27])), (zy25, .inl (cy 0, 4, .inl ll))] s.heap := hP
  have hl := lv_entry ([.ref zy, .int zia, .int zib, .int zic, .int zid, .int zie] : List Value) (n := 9) (Nat.le_of_ble_eq_true rfl)
  rw [lg_entry_eq]
  generalize (lg_sl ([.ref zy, .int zia, .int zib, .int zic, .int zid, .int zie] : List Value) ++ List.replicate (9 - (lg_sl ([.ref zy, .int zia, .int zib, .int zic, .int zid, .int zie] : List Value)).length) Slot.unset).toArray = ls at hl ⊢
  have hl : lv_has ls 9 [(0, .ref zy), (1, .int zia), (2, .int zib), (3, .int zic), (4, .int zid), (5, .int zie)] := hl
  refine lv_iload_n hx hb dX11_rains_0 rfl (lv_at hl 1 rfl) ?_
  refine lv_i2l (v := zia.toInt64) hx hb dX11_rains_1 rfl ?_
  refine lv_lconst (v := 0) hx hb dX11_rains_2 (by decide) ?_
  refine lv_ldc2 (v := 2) hx hb hown (hts (.constantLong RX11 180 2) (by decide +kernel)) dX11_rains_3 ?_
  refine cj_i (wc := []) (wr := [(zy, .inr (11, [.ref zy0, .ref zy1, .int 0, .int 0, .int 0, .ref zy5, .int 0, .int 0, .ref zy8, .ref zy9, .ref zy10, .ref zy11, .ref zy12, .ref zy13, .ref zy14, .long 0, .ref zy16, .ref zy17, .ref zy18, .int 0, .long 0, .ref zy21, .ref zy22, .int 0, .ref zy24, .ref zy25, .ref zy26, .ref zy27])), (zy25, .inl (cy 0, 4, .inl ll))]) (w1 := fun (_ : Unit) => []) (va_runS (As := [.long zia.toInt64, .long 0, .long 2]) (rest := []) ⟨hx, hb, hml, hown, hts⟩ (c_X11_in l dC dI cy s.heap.size zia.toInt64 0 2 0 2 zia.toInt (by first | rfl | decide | omega | exact Int32.toInt_toInt64 _) (by first | rfl | decide | omega | exact Int32.toInt_toInt64 _) (by first | rfl | decide | omega | exact Int32.toInt_toInt64 _)) (va_cwS 3 hts gX11_rains_X11_in rfl rfl rfl (by decide +kernel) ⟨(Nat.le_of_ble_eq_true rfl), (Nat.le_of_ble_eq_true rfl)⟩) (PRE.s (hP.sub [] rfl) hK (hD.sub [] (by decide) rfl) hN) rfl rfl hl.1 rfl (lv_room (Nat.le_of_ble_eq_true rfl)) dX11_rains_6 ⟨(Nat.le_of_ble_eq_true rfl), (Nat.le_of_ble_eq_true rfl)⟩) hP hD hS hA [] [0, 1] rfl rfl rfl (by decide) (fun r_2 u_1 H locs hw_3 hP hD hS => ?_)
  have hP : va_P (dC, dI) vwCl [(zy, .inr (11, [.ref zy0, .ref zy1, .int 0, .int 0, .int 0, .ref zy5, .int 0, .int 0, .ref zy8, .ref zy9, .ref zy10, .ref zy11, .ref zy12, .ref zy13, .ref zy14, .long 0, .ref zy16, .ref zy17, .ref zy18, .int 0, .long 0, .ref zy21, .ref zy22, .int 0, .ref zy24, .ref zy25, .ref zy26, .ref zy27])), (zy25, .inl (cy 0, 4, .inl ll))] H := hP
  have hD : va_D A [(zy, .inr (11, [.ref zy0, .ref zy1, .int 0, .int 0, .int 0, .ref zy5, .int 0, .int 0, .ref zy8, .ref zy9, .ref zy10, .ref zy11, .ref zy12, .ref zy13, .ref zy14, .long 0, .ref zy16, .ref zy17, .ref zy18, .int 0, .long 0, .ref zy21, .ref zy22, .int 0, .ref zy24, .ref zy25, .ref zy26, .ref zy27])), (zy25, .inl (cy 0, 4, .inl ll))] := hD
  have hw_3 : r_2 = if 0 ≤ zia.toInt ∧ zia.toInt ≤ 2 then 1 else 0 := hw_3
  refine lv_if_eq (tgt := 33) hx hb dX11_rains_9 (by decide) (fun c_4 => ?_) (fun c_4 => ?_)
  · have f_5 : ¬ (0 ≤ zia.toInt ∧ zia.toInt ≤ 2) := bz_0 hw_3 c_4
    refine lv_iconst (v := (-1)) hx hb dX11_rains_33 (by decide) ?_
    have hP9 := hP.sub (ws' := []) [] rfl
    have hD9 := hD.sub (ws' := []) [] (by decide) rfl
    exact W.iret (v := (-1)) hx hb hr (fun t ht hW => ⟨⟨(-1), (), rfl, (by unfold an_rains; (repeat' split) <;> first | rfl | (exfalso; omega)), ⟨by rw [ht]; exact hP9, va_K.moved hW.alike hK, hD9⟩⟩, hS.F ht⟩) hS.2.2 dX11_rains_34
  · have f_5 : 0 ≤ zia.toInt ∧ zia.toInt ≤ 2 := bz_1 hw_3 c_4
    refine lv_iload_n hx hb dX11_rains_12 rfl (lv_at hl 2 rfl) ?_
    refine lv_iload_n hx hb dX11_rains_13 rfl (lv_at hl 3 rfl) ?_
    refine cj_i (wc := []) (wr := [(zy, .inr (11, [.ref zy0, .ref zy1, .int 0, .int 0, .int 0, .ref zy5, .int 0, .int 0, .ref zy8, .ref zy9, .ref zy10, .ref zy11, .ref zy12, .ref zy13, .ref zy14, .long 0, .ref zy16, .ref zy17, .ref zy18, .int 0, .long 0, .ref zy21, .ref zy22, .int 0, .ref zy24, .ref zy25, .ref zy26, .ref zy27])), (zy25, .inl (cy 0, 4, .inl ll))]) (w1 := fun (_ : Unit) => []) (va_runS (As := [.int zib, .int zic]) (rest := []) ⟨hx, hb, hml, hown, hts⟩ (c_X11_isSheet l dC dI cy H.size zib zic) (va_cwS 2 hts gX11_rains_X11_isSheet rfl rfl rfl (by decide +kernel) ⟨(Nat.le_of_ble_eq_true rfl), (Nat.le_of_ble_eq_true rfl)⟩) (PRE.s (hP.sub [] rfl) hK (hD.sub [] (by decide) rfl) hN) rfl rfl hl.1 rfl (lv_room (Nat.le_of_ble_eq_true rfl)) dX11_rains_14 ⟨(Nat.le_of_ble_eq_true rfl), (Nat.le_of_ble_eq_true rfl)⟩) hP hD hS hA [] [0, 1] rfl rfl rfl (by decide) (fun r_7 u_6 H locs hw_8 hP hD hS => ?_)
    have hP : va_P (dC, dI) vwCl [(zy, .inr (11, [.ref zy0, .ref zy1, .int 0, .int 0, .int 0, .ref zy5, .int 0, .int 0, .ref zy8, .ref zy9, .ref zy10, .ref zy11, .ref zy12, .ref zy13, .ref zy14, .long 0, .ref zy16, .ref zy17, .ref zy18, .int 0, .long 0, .ref zy21, .ref zy22, .int 0, .ref zy24, .ref zy25, .ref zy26, .ref zy27])), (zy25, .inl (cy 0, 4, .inl ll))] H := hP
    have hD : va_D A [(zy, .inr (11, [.ref zy0, .ref zy1, .int 0, .int 0, .int 0, .ref zy5, .int 0, .int 0, .ref zy8, .ref zy9, .ref zy10, .ref zy11, .ref zy12, .ref zy13, .ref zy14, .long 0, .ref zy16, .ref zy17, .ref zy18, .int 0, .long 0, .ref zy21, .ref zy22, .int 0, .ref zy24, .ref zy25, .ref zy26, .ref zy27])), (zy25, .inl (cy 0, 4, .inl ll))] := hD
    have hw_8 : r_7 = if (0 ≤ zib.toInt ∧ zib.toInt ≤ 3) ∧ 0 ≤ zic.toInt ∧ zic.toInt ≤ 2 then 1 else 0 := hw_8
    refine lv_if_eq (tgt := 33) hx hb dX11_rains_17 (by decide) (fun c_9 => ?_) (fun c_9 => ?_)
    · have f_10 : ¬ ((0 ≤ zib.toInt ∧ zib.toInt ≤ 3) ∧ 0 ≤ zic.toInt ∧ zic.toInt ≤ 2) := bz_0 hw_8 c_9
      refine lv_iconst (v := (-1)) hx hb dX11_rains_33 (by decide) ?_
      have hP9 := hP.sub (ws' := []) [] rfl
      have hD9 := hD.sub (ws' := []) [] (by decide) rfl
      exact W.iret (v := (-1)) hx hb hr (fun t ht hW => ⟨⟨(-1), (), rfl, (by unfold an_rains; (repeat' split) <;> first | rfl | (exfalso; omega)), ⟨by rw [ht]; exact hP9, va_K.moved hW.alike hK, hD9⟩⟩, hS.F ht⟩) hS.2.2 dX11_rains_34
    · have f_10 : (0 ≤ zib.toInt ∧ zib.toInt ≤ 3) ∧ 0 ≤ zic.toInt ∧ zic.toInt ≤ 2 := bz_1 hw_8 c_9
      refine lv_iload hx hb dX11_rains_20 (lv_at hl 5 rfl) ?_
      refine lv_i2l (v := zie.toInt64) hx hb dX11_rains_22 rfl ?_
      refine lv_lconst (v := 1) hx hb dX11_rains_23 (by decide) ?_
      refine lv_ldc2 (v := 24) hx hb hown (hts (.constantLong RX11 348 24) (by decide +kernel)) dX11_rains_24 ?_
      refine cj_i (wc := []) (wr := [(zy, .inr (11, [.ref zy0, .ref zy1, .int 0, .int 0, .int 0, .ref zy5, .int 0, .int 0, .ref zy8, .ref zy9, .ref zy10, .ref zy11, .ref zy12, .ref zy13, .ref zy14, .long 0, .ref zy16, .ref zy17, .ref zy18, .int 0, .long 0, .ref zy21, .ref zy22, .int 0, .ref zy24, .ref zy25, .ref zy26, .ref zy27])), (zy25, .inl (cy 0, 4, .inl ll))]) (w1 := fun (_ : Unit) => []) (va_runS (As := [.long zie.toInt64, .long 1, .long 24]) (rest := []) ⟨hx, hb, hml, hown, hts⟩ (c_X11_in l dC dI cy H.size zie.toInt64 1 24 1 24 zie.toInt (by first | rfl | decide | omega | exact Int32.toInt_toInt64 _) (by first | rfl | decide | omega | exact Int32.toInt_toInt64 _) (by first | rfl | decide | omega | exact Int32.toInt_toInt64 _)) (va_cwS 3 hts gX11_rains_X11_in rfl rfl rfl (by decide +kernel) ⟨(Nat.le_of_ble_eq_true rfl), (Nat.le_of_ble_eq_true rfl)⟩) (PRE.s (hP.sub [] rfl) hK (hD.sub [] (by decide) rfl) hN) rfl rfl hl.1 rfl (lv_room (Nat.le_of_ble_eq_true rfl)) dX11_rains_27 ⟨(Nat.le_of_ble_eq_true rfl), (Nat.le_of_ble_eq_true rfl)⟩) hP hD hS hA [] [0, 1] rfl rfl rfl (by decide) (fun r_12 u_11 H locs hw_13 hP hD hS => ?_)
      have hP : va_P (dC, dI) vwCl [(zy, .inr (11, [.ref zy0, .ref zy1, .int 0, .int 0, .int 0, .ref zy5, .int 0, .int 0, .ref zy8, .ref zy9, .ref zy10, .ref zy11, .ref zy12, .ref zy13, .ref zy14, .long 0, .ref zy16, .ref zy17, .ref zy18, .int 0, .long 0, .ref zy21, .ref zy22, .int 0, .ref zy24, .ref zy25, .ref zy26, .ref zy27])), (zy25, .inl (cy 0, 4, .inl ll))] H := hP
      have hD : va_D A [(zy, .inr (11, [.ref zy0, .ref zy1, .int 0, .int 0, .int 0, .ref zy5, .int 0, .int 0, .ref zy8, .ref zy9, .ref zy10, .ref zy11, .ref zy12, .ref zy13, .ref zy14, .long 0, .ref zy16, .ref zy17, .ref zy18, .int 0, .long 0, .ref zy21, .ref zy22, .int 0, .ref zy24, .ref zy25, .ref zy26, .ref zy27])), (zy25, .inl (cy 0, 4, .inl ll))] := hD
      have hw_13 : r_12 = if 1 ≤ zie.toInt ∧ zie.toInt ≤ 24 then 1 else 0 := hw_13
      refine lv_if_ne (tgt := 35) hx hb dX11_rains_30 (by decide) (fun c_14 => ?_) (fun c_14 => ?_)
      · have f_15 : 1 ≤ zie.toInt ∧ zie.toInt ≤ 24 := bz_1 hw_13 c_14
        refine lv_aload_n hx hb dX11_rains_35 rfl (lv_at hl 0 rfl) ?_
        refine lv_iload_n hx hb dX11_rains_36 rfl (lv_at hl 2 rfl) ?_
        refine lv_iload_n hx hb dX11_rains_37 rfl (lv_at hl 3 rfl) ?_
        refine lv_iload hx hb dX11_rains_38 (lv_at hl 4 rfl) ?_
        refine lv_iload hx hb dX11_rains_40 (lv_at hl 5 rfl) ?_
        refine cj_i (wc := [(zy, .inr (11, [.ref zy0, .ref zy1, .int 0, .int 0, .int 0, .ref zy5, .int 0, .int 0, .ref zy8, .ref zy9, .ref zy10, .ref zy11, .ref zy12, .ref zy13, .ref zy14, .long 0, .ref zy16, .ref zy17, .ref zy18, .int 0, .long 0, .ref zy21, .ref zy22, .int 0, .ref zy24, .ref zy25, .ref zy26, .ref zy27])), (zy25, .inl (cy 0, 4, .inl ll))]) (wr := []) (w1 := fun (_ : Unit) => []) (va_runV (As := [.int zib, .int zic, .int zid, .int zie]) (rest := []) ⟨hx, hb, hml, hown, hts⟩ (c_X11_lacksRow l dC dI cy H.size zy zib zic zid zie zy0 zy1 zy5 zy8 zy9 zy10 zy11 zy12 zy13 zy14 zy16 zy17 zy18 zy21 zy22 zy24 zy25 zy26 zy27 (by first | rfl | decide | omega | exact Int32.toInt_toInt64 _)) (cwV 4 hts gX11_rains_X11_lacksRow rfl rfl rfl (by decide +kernel) ⟨(Nat.le_of_ble_eq_true rfl), (Nat.le_of_ble_eq_true rfl)⟩) (PRE.v (hP.sub [0, 1] rfl) hK (hD.sub [0, 1] (by decide) rfl) hN (va_recv hK hP (ci := 11) (q0 := 0) rfl rfl)) rfl rfl hl.1 rfl (lv_room (Nat.le_of_ble_eq_true rfl)) dX11_rains_42 ⟨(Nat.le_of_ble_eq_true rfl), (Nat.le_of_ble_eq_true rfl)⟩) hP hD hS hA [0, 1] [] rfl rfl rfl (by decide) (fun r_17 u_16 H locs hw_18 hP hD hS => ?_)
        have hP : va_P (dC, dI) vwCl [] H := hP
        have hD : va_D A [] := hD
        obtain rfl : r_17 = (-11) := hw_18
        refine lv_istore (lv' := [(6, .int (-11)), (0, .ref zy), (1, .int zia), (2, .int zib), (3, .int zic), (4, .int zid), (5, .int zie)]) hx hb dX11_rains_45 hl (by decide) rfl (fun ls hl => ?_)
        refine lv_iload hx hb dX11_rains_47 (lv_at hl 0 rfl) ?_
        refine lv_if_ge (tgt := 55) hx hb dX11_rains_49 (by decide) (fun c_19 => absurd c_19 (by decide)) (fun c_19 => ?_)
        refine lv_iload hx hb dX11_rains_52 (lv_at hl 0 rfl) ?_
        have hP9 := hP.sub (ws' := []) [] rfl
        have hD9 := hD.sub (ws' := []) [] (by decide) rfl
        exact W.iret (v := (-11)) hx hb hr (fun t ht hW => ⟨⟨(-11), (), rfl, (by unfold an_rains; (repeat' split) <;> first | rfl | (exfalso; omega)), ⟨by rw [ht]; exact hP9, va_K.moved hW.alike hK, hD9⟩⟩, hS.F ht⟩) hS.2.2 dX11_rains_54
      · have f_15 : ¬ (1 ≤ zie.toInt ∧ zie.toInt ≤ 24) := bz_0 hw_13 c_14
        refine lv_iconst (v := (-1)) hx hb dX11_rains_33 (by decide) ?_
        have hP9 := hP.sub (ws' := []) [] rfl
        have hD9 := hD.sub (ws' := []) [] (by decide) rfl
        exact W.iret (v := (-1)) hx hb hr (fun t ht hW => ⟨⟨(-1), (), rfl, (by unfold an_rains; (repeat' split) <;> first | rfl | (exfalso; omega)), ⟨by rw [ht]; exact hP9, va_K.moved hW.alike hK, hD9⟩⟩, hS.F ht⟩) hS.2.2 dX11_rains_34
set_option maxHeartbeats 4000000 in
set_option maxRecDepth 100000 in
theorem c_X11_set (l : Launch) (dC : Nat → ClassId) (dI : Nat → Nat → Nat) (cy : Nat → ClassId) (sz : Nat) (zy : Nat) (zia : Int32) (zib : Int32) (zy0 : Nat) (zy1 : Nat) (zy5 : Nat) (zy8 : Nat) (zy9 : Nat) (zy10 : Nat) (zy11 : Nat) (zy12 : Nat) (zy13 : Nat) (zy14 : Nat) (zy16 : Nat) (zy17 : Nat) (zy18 : Nat) (zy21 : Nat) (zy22 : Nat) (zy24 : Nat) (zy25 : Nat) (zy26 : Nat) (zy27 : Nat)  : Met l yX11_set wsX11_set ({ frames := 1, cells := 0, slots := 0, locals := 25 }) (va_Pc [.ref zy, .int zia, .int zib] (PRE dC dI cy [(zy, .inr (11, [.ref zy0, .ref zy1, .int 0, .int 0, .int 0, .ref zy5, .int 0, .int 0, .ref zy8, .ref zy9, .ref zy10, .ref zy11, .ref zy12, .ref zy13, .ref zy14, .long 0, .ref zy16, .ref zy17, .ref zy18, .int 0, .long 0, .ref zy21, .ref zy22, .int 0, .ref zy24, .ref zy25, .ref zy26, .ref zy27])), (zy0, .inl (cy 0, 392, .inl zz))] sz)) (va_Qi (fun (r : Int32) (_ : Unit) => r = an_set zia zib) (fun u t => POST dC dI cy (va_A [(zy, .inr (11, [.ref zy0, .ref zy1, .int 0, .int 0, .int 0, .ref zy5, .int 0, .int 0, .ref zy8, .ref zy9, .ref zy10, .ref zy11, .ref zy12, .ref zy13, .ref zy14, .long 0, .ref zy16, .ref zy17, .ref zy18, .int 0, .long 0, .ref zy21, .ref zy22, .int 0, .ref zy24, .ref zy25, .ref zy26, .ref zy27])), (zy0, .inl (cy 0, 392, .inl zz))] sz) [] t) (va_A [(zy, .inr (11, [.ref zy0, .ref zy1, .int 0, .int 0, .int 0, .ref zy5, .int 0, .int 0, .ref zy8, .ref zy9, .ref zy10, .ref zy11, .ref zy12, .ref zy13, .ref zy14, .long 0, .ref zy16, .ref zy17, .ref zy18, .int 0, .long 0, .ref zy21, .ref zy22, .int 0, .ref zy24, .ref zy25, .ref zy26, .ref zy27])), (zy0, .inl (cy 0, 392, .inl zz))] sz)) 0 0 (va_A [(zy, .inr (11, [.ref zy0, .ref zy1, .int 0, .int 0, .int 0, .ref zy5, .int 0, .int 0, .ref zy8, .ref zy9, .ref zy10, .ref zy11, .ref zy12, .ref zy13, .ref zy14, .long 0, .ref zy16, .ref zy17, .ref zy18, .int 0, .long 0, .ref zy21, .ref zy22, .int 0, .ref zy24, .ref zy25, .ref zy26, .ref zy27])), (zy0, .inl (cy 0, 392, .inl zz))] sz) := by
  refine Met.ofW (cc := cX11_set) (maxL := 4) (ret := (some .int)) (by decide) rfl ?_
  intro p e s m args below meth c s₁ B hml hv
  obtain ⟨rfl, hsz, hP, hK, hD0, hN⟩ := hv
  have hx := B.exec
  have hb := B.bytes
  have hr := B.returns
  have hts := atoms_spec (ws := wsX11_set) B.pre
  have hown : s.vm.findClass RX11 = some m.cls := findClass_of_methodNamed B.named
  have hlocks := B.notSynchronized
  subst hsz
  have hD := hD0.self (sz := s.heap.size)
  generalize hAe : va_A [(zy, .inr (11, [.ref zy0, .ref zy1, .int 0, .int 0, .int 0, .ref zy5, .int 0, .int 0, .ref zy8, .ref zy9, .ref zy10, .ref zy11, .ref zy12, .ref zy13, .ref zy14, .long 0, .ref zy16, .ref zy17, .ref zy18, .int 0, .long 0, .ref zy21, .ref zy22, .int 0, .ref zy24, .ref zy25, .ref zy26, .ref zy27])), (zy0, .inl (cy 0, 392, .inl zz))] s.heap.size = A at hD ⊢
  have hA : ∀ q : Nat, s.heap.size ≤ q → A q := fun q h => by rw [← hAe]; exact Or.inr h
  have hS : va_S A s.heap s.heap [] := va_S.rf
  have hP : va_P (dC, dI) vwCl [(zy, .inr (11, [.ref zy0, .ref zy1, .int 0, .int 0, .int 0, .ref zy5, .int 0, .int 0, .ref zy8, .ref zy9, .ref zy10, .ref zy11, .ref zy12, .ref zy13, .ref zy14, .long 0, .ref zy16, .ref zy17, .ref zy18, .int 0, .long 0, .ref zy21, .ref zy22, .int 0, .ref zy24, .ref zy25, .ref zy26, .ref zy27])), (zy0, .inl (cy 0, 392, .inl zz))] s.heap := hP
  have hl := lv_entry ([.ref zy, .int zia, .int zib] : List Value) (n := 4) (Nat.le_of_ble_eq_true rfl)
  rw [lg_entry_eq]
  generalize (lg_sl ([.ref zy, .int zia, .int zib] : List Value) ++ List.replicate (4 - (lg_sl ([.ref zy, .int zia, .int zib] : List Value)).length) Slot.unset).toArray = ls at hl ⊢
  have hl : lv_has ls 4 [(0, .ref zy), (1, .int zia), (2, .int zib)] := hl
  refine lv_iload_n hx hb dX11_set_0 rfl (lv_at hl 1 rfl) ?_
  refine lv_if_ne (tgt := 19) hx hb dX11_set_1 (by decide) (fun c_1 => ?_) (fun c_1 => ?_)
  · have f_2 : zia.toInt ≠ 0 := ic_ne (rfl) (by decide) c_1
    refine lv_iload_n hx hb dX11_set_19 rfl (lv_at hl 1 rfl) ?_
    refine lv_iconst (v := 1) hx hb dX11_set_20 (by decide) ?_
    refine lv_icmp_ne (tgt := 36) hx hb dX11_set_21 (by decide) (fun c_3 => ?_) (fun c_3 => ?_)
    · have f_4 : zia.toInt ≠ (1 : Int) := ic_ne (rfl) (show (1 : Int32).toInt = 1 by decide) c_3
      refine lv_iconst (v := (-1)) hx hb dX11_set_36 (by decide) ?_
      have hP9 := hP.sub (ws' := []) [] rfl
      have hD9 := hD.sub (ws' := []) [] (by decide) rfl
      exact W.iret (v := (-1)) hx hb hr (fun t ht hW => ⟨⟨(-1), (), rfl, (by unfold an_set; (repeat' split) <;> first | rfl | (exfalso; omega)), ⟨by rw [ht]; exact hP9, va_K.moved hW.alike hK, hD9⟩⟩, hS.F ht⟩) hS.2.2 dX11_set_37
    · have f_4 : ¬ (zia.toInt ≠ (1 : Int)) := ic_nne (rfl) (show (1 : Int32).toInt = 1 by decide) c_3
      refine lv_iload_n hx hb dX11_set_24 rfl (lv_at hl 2 rfl) ?_
      refine lv_i2l (v := zib.toInt64) hx hb dX11_set_25 rfl ?_
      refine lv_lconst (v := 1) hx hb dX11_set_26 (by decide) ?_
      refine lv_ldc2 (v := 9) hx hb hown (hts (.constantLong RX11 74 9) (by decide +kernel)) dX11_set_27 ?_
      refine cj_i (wc := []) (wr := [(zy, .inr (11, [.ref zy0, .ref zy1, .int 0, .int 0, .int 0, .ref zy5, .int 0, .int 0, .ref zy8, .ref zy9, .ref zy10, .ref zy11, .ref zy12, .ref zy13, .ref zy14, .long 0, .ref zy16, .ref zy17, .ref zy18, .int 0, .long 0, .ref zy21, .ref zy22, .int 0, .ref zy24, .ref zy25, .ref zy26, .ref zy27])), (zy0, .inl (cy 0, 392, .inl zz))]) (w1 := fun (_ : Unit) => []) (va_runS (As := [.long zib.toInt64, .long 1, .long 9]) (rest := []) ⟨hx, hb, hml, hown, hts⟩ (c_X11_in l dC dI cy s.heap.size zib.toInt64 1 9 1 9 zib.toInt (by first | rfl | decide | omega | exact Int32.toInt_toInt64 _) (by first | rfl | decide | omega | exact Int32.toInt_toInt64 _) (by first | rfl | decide | omega | exact Int32.toInt_toInt64 _)) (va_cwS 3 hts gX11_set_X11_in rfl rfl rfl (by decide +kernel) ⟨(Nat.le_of_ble_eq_true rfl), (Nat.le_of_ble_eq_true rfl)⟩) (PRE.s (hP.sub [] rfl) hK (hD.sub [] (by decide) rfl) hN) rfl rfl hl.1 rfl (lv_room (Nat.le_of_ble_eq_true rfl)) dX11_set_30 ⟨(Nat.le_of_ble_eq_true rfl), (Nat.le_of_ble_eq_true rfl)⟩) hP hD hS hA [] [0, 1] rfl rfl rfl (by decide) (fun r_6 u_5 H locs hw_7 hP hD hS => ?_)
      have hP : va_P (dC, dI) vwCl [(zy, .inr (11, [.ref zy0, .ref zy1, .int 0, .int 0, .int 0, .ref zy5, .int 0, .int 0, .ref zy8, .ref zy9, .ref zy10, .ref zy11, .ref zy12, .ref zy13, .ref zy14, .long 0, .ref zy16, .ref zy17, .ref zy18, .int 0, .long 0, .ref zy21, .ref zy22, .int 0, .ref zy24, .ref zy25, .ref zy26, .ref zy27])), (zy0, .inl (cy 0, 392, .inl zz))] H := hP
      have hD : va_D A [(zy, .inr (11, [.ref zy0, .ref zy1, .int 0, .int 0, .int 0, .ref zy5, .int 0, .int 0, .ref zy8, .ref zy9, .ref zy10, .ref zy11, .ref zy12, .ref zy13, .ref zy14, .long 0, .ref zy16, .ref zy17, .ref zy18, .int 0, .long 0, .ref zy21, .ref zy22, .int 0, .ref zy24, .ref zy25, .ref zy26, .ref zy27])), (zy0, .inl (cy 0, 392, .inl zz))] := hD
      have hw_7 : r_6 = if 1 ≤ zib.toInt ∧ zib.toInt ≤ 9 then 1 else 0 := hw_7
      refine lv_if_ne (tgt := 38) hx hb dX11_set_33 (by decide) (fun c_8 => ?_) (fun c_8 => ?_)
      · have f_9 : 1 ≤ zib.toInt ∧ zib.toInt ≤ 9 := bz_1 hw_7 c_8
        refine lv_aload_n hx hb dX11_set_38 rfl (lv_at hl 0 rfl) ?_
        refine va_get (D := (dC, dI)) (ci := 11) (v := .ref zy0) (C := RX11) (T := TX11) (N := 28) hx hb hts (by decide +kernel) hown hK hP 0 rfl rfl 0 (by decide) (hts (.fieldLink RX11 7 "DripStoneModel" "z" "[I") (by decide +kernel)) (fun _ h9 => h9) rfl dX11_set_39 ?_
        refine lv_iconst (v := 0) hx hb dX11_set_42 (by decide) ?_
        refine lv_iload_n hx hb dX11_set_43 rfl (lv_at hl 1 rfl) ?_
        refine lv_iadd hx hb dX11_set_44 ?_
        refine lv_topi (fun v_10 ev_10 => ?_)
        have tv_10 : v_10.toInt = (0 : Int) + zia.toInt := by rw [ev_10]; exact tadd (show (0 : Int32).toInt = 0 by decide) (rfl) (by omega) (by omega)
        refine va_iald hx hb hK hP 1 0 rfl rfl (vp_in_iff.mpr ⟨by omega, by omega⟩) dX11_set_45 ?_
        refine lv_topi (fun v_11 ev_11 => ?_)
        obtain rfl : v_11 = (3 : Int32) := ev_11.trans (zz_1 (by omega))
        refine lv_istore_n (lv' := [(3, .int 3), (0, .ref zy), (1, .int zia), (2, .int zib)]) hx hb dX11_set_46 rfl hl (by decide) rfl (fun ls hl => ?_)
        refine lv_aload_n hx hb dX11_set_47 rfl (lv_at hl 1 rfl) ?_
        refine va_get (D := (dC, dI)) (ci := 11) (v := .ref zy0) (C := RX11) (T := TX11) (N := 28) hx hb hts (by decide +kernel) hown hK hP 0 rfl rfl 0 (by decide) (hts (.fieldLink RX11 7 "DripStoneModel" "z" "[I") (by decide +kernel)) (fun _ h9 => h9) rfl dX11_set_48 ?_
        refine lv_iconst (v := 0) hx hb dX11_set_51 (by decide) ?_
        refine lv_iload_n hx hb dX11_set_52 rfl (lv_at hl 2 rfl) ?_
        refine lv_iadd hx hb dX11_set_53 ?_
        refine lv_topi (fun v_12 ev_12 => ?_)
        have tv_12 : v_12.toInt = (0 : Int) + zia.toInt := by rw [ev_12]; exact tadd (show (0 : Int32).toInt = 0 by decide) (rfl) (by omega) (by omega)
        refine lv_iload_n hx hb dX11_set_54 rfl (lv_at hl 3 rfl) ?_
        refine va_iast hx hb hK hP hD hS 1 0 rfl rfl (vp_in_iff.mpr ⟨by omega, by omega⟩) dX11_set_55 (fun H locs hP hD hS => ?_)
        have hP : va_P (dC, dI) vwCl [(zy, .inr (11, [.ref zy0, .ref zy1, .int 0, .int 0, .int 0, .ref zy5, .int 0, .int 0, .ref zy8, .ref zy9, .ref zy10, .ref zy11, .ref zy12, .ref zy13, .ref zy14, .long 0, .ref zy16, .ref zy17, .ref zy18, .int 0, .long 0, .ref zy21, .ref zy22, .int 0, .ref zy24, .ref zy25, .ref zy26, .ref zy27])), (zy0, .inl (cy 0, 392, .inl (upd zz v_12.toNatClampNeg zib)))] H := hP
        have hD : va_D A [(zy, .inr (11, [.ref zy0, .ref zy1, .int 0, .int 0, .int 0, .ref zy5, .int 0, .int 0, .ref zy8, .ref zy9, .ref zy10, .ref zy11, .ref zy12, .ref zy13, .ref zy14, .long 0, .ref zy16, .ref zy17, .ref zy18, .int 0, .long 0, .ref zy21, .ref zy22, .int 0, .ref zy24, .ref zy25, .ref zy26, .ref zy27])), (zy0, .inl (cy 0, 392, .inl (upd zz v_12.toNatClampNeg zib)))] := hD
        refine lv_iload_n hx hb dX11_set_56 rfl (lv_at hl 0 rfl) ?_
        have hP9 := hP.sub (ws' := []) [] rfl
        have hD9 := hD.sub (ws' := []) [] (by decide) rfl
        exact W.iret (v := 3) hx hb hr (fun t ht hW => ⟨⟨3, (), rfl, (by unfold an_set; (repeat' split) <;> first | rfl | (exfalso; omega)), ⟨by rw [ht]; exact hP9, va_K.moved hW.alike hK, hD9⟩⟩, hS.F ht⟩) hS.2.2 dX11_set_57
      · have f_9 : ¬ (1 ≤ zib.toInt ∧ zib.toInt ≤ 9) := bz_0 hw_7 c_8
        refine lv_iconst (v := (-1)) hx hb dX11_set_36 (by decide) ?_
        have hP9 := hP.sub (ws' := []) [] rfl
        have hD9 := hD.sub (ws' := []) [] (by decide) rfl
        exact W.iret (v := (-1)) hx hb hr (fun t ht hW => ⟨⟨(-1), (), rfl, (by unfold an_set; (repeat' split) <;> first | rfl | (exfalso; omega)), ⟨by rw [ht]; exact hP9, va_K.moved hW.alike hK, hD9⟩⟩, hS.F ht⟩) hS.2.2 dX11_set_37
  · have f_2 : ¬ (zia.toInt ≠ 0) := ic_nne (rfl) (by decide) c_1
    refine lv_iload_n hx hb dX11_set_4 rfl (lv_at hl 2 rfl) ?_
    refine lv_i2l (v := zib.toInt64) hx hb dX11_set_5 rfl ?_
    refine lv_lconst (v := 1) hx hb dX11_set_6 (by decide) ?_
    refine lv_ldc2 (v := 5) hx hb hown (hts (.constantLong RX11 88 5) (by decide +kernel)) dX11_set_7 ?_
    refine cj_i (wc := []) (wr := [(zy, .inr (11, [.ref zy0, .ref zy1, .int 0, .int 0, .int 0, .ref zy5, .int 0, .int 0, .ref zy8, .ref zy9, .ref zy10, .ref zy11, .ref zy12, .ref zy13, .ref zy14, .long 0, .ref zy16, .ref zy17, .ref zy18, .int 0, .long 0, .ref zy21, .ref zy22, .int 0, .ref zy24, .ref zy25, .ref zy26, .ref zy27])), (zy0, .inl (cy 0, 392, .inl zz))]) (w1 := fun (_ : Unit) => []) (va_runS (As := [.long zib.toInt64, .long 1, .long 5]) (rest := []) ⟨hx, hb, hml, hown, hts⟩ (c_X11_in l dC dI cy s.heap.size zib.toInt64 1 5 1 5 zib.toInt (by first | rfl | decide | omega | exact Int32.toInt_toInt64 _) (by first | rfl | decide | omega | exact Int32.toInt_toInt64 _) (by first | rfl | decide | omega | exact Int32.toInt_toInt64 _)) (va_cwS 3 hts gX11_set_X11_in rfl rfl rfl (by decide +kernel) ⟨(Nat.le_of_ble_eq_true rfl), (Nat.le_of_ble_eq_true rfl)⟩) (PRE.s (hP.sub [] rfl) hK (hD.sub [] (by decide) rfl) hN) rfl rfl hl.1 rfl (lv_room (Nat.le_of_ble_eq_true rfl)) dX11_set_10 ⟨(Nat.le_of_ble_eq_true rfl), (Nat.le_of_ble_eq_true rfl)⟩) hP hD hS hA [] [0, 1] rfl rfl rfl (by decide) (fun r_14 u_13 H locs hw_15 hP hD hS => ?_)
    have hP : va_P (dC, dI) vwCl [(zy, .inr (11, [.ref zy0, .ref zy1, .int 0, .int 0, .int 0, .ref zy5, .int 0, .int 0, .ref zy8, .ref zy9, .ref zy10, .ref zy11, .ref zy12, .ref zy13, .ref zy14, .long 0, .ref zy16, .ref zy17, .ref zy18, .int 0, .long 0, .ref zy21, .ref zy22, .int 0, .ref zy24, .ref zy25, .ref zy26, .ref zy27])), (zy0, .inl (cy 0, 392, .inl zz))] H := hP
    have hD : va_D A [(zy, .inr (11, [.ref zy0, .ref zy1, .int 0, .int 0, .int 0, .ref zy5, .int 0, .int 0, .ref zy8, .ref zy9, .ref zy10, .ref zy11, .ref zy12, .ref zy13, .ref zy14, .long 0, .ref zy16, .ref zy17, .ref zy18, .int 0, .long 0, .ref zy21, .ref zy22, .int 0, .ref zy24, .ref zy25, .ref zy26, .ref zy27])), (zy0, .inl (cy 0, 392, .inl zz))] := hD
    have hw_15 : r_14 = if 1 ≤ zib.toInt ∧ zib.toInt ≤ 5 then 1 else 0 := hw_15
    refine lv_if_ne (tgt := 38) hx hb dX11_set_13 (by decide) (fun c_16 => ?_) (fun c_16 => ?_)
    · have f_17 : 1 ≤ zib.toInt ∧ zib.toInt ≤ 5 := bz_1 hw_15 c_16
      refine lv_aload_n hx hb dX11_set_38 rfl (lv_at hl 0 rfl) ?_
      refine va_get (D := (dC, dI)) (ci := 11) (v := .ref zy0) (C := RX11) (T := TX11) (N := 28) hx hb hts (by decide +kernel) hown hK hP 0 rfl rfl 0 (by decide) (hts (.fieldLink RX11 7 "DripStoneModel" "z" "[I") (by decide +kernel)) (fun _ h9 => h9) rfl dX11_set_39 ?_
      refine lv_iconst (v := 0) hx hb dX11_set_42 (by decide) ?_
      refine lv_iload_n hx hb dX11_set_43 rfl (lv_at hl 1 rfl) ?_
      refine lv_iadd hx hb dX11_set_44 ?_
      refine lv_topi (fun v_18 ev_18 => ?_)
      have tv_18 : v_18.toInt = (0 : Int) + zia.toInt := by rw [ev_18]; exact tadd (show (0 : Int32).toInt = 0 by decide) (rfl) (by omega) (by omega)
      refine va_iald hx hb hK hP 1 0 rfl rfl (vp_in_iff.mpr ⟨by omega, by omega⟩) dX11_set_45 ?_
      refine lv_topi (fun v_19 ev_19 => ?_)
      obtain rfl : v_19 = (1 : Int32) := ev_19.trans (zz_0 (by omega))
      refine lv_istore_n (lv' := [(3, .int 1), (0, .ref zy), (1, .int zia), (2, .int zib)]) hx hb dX11_set_46 rfl hl (by decide) rfl (fun ls hl => ?_)
      refine lv_aload_n hx hb dX11_set_47 rfl (lv_at hl 1 rfl) ?_
      refine va_get (D := (dC, dI)) (ci := 11) (v := .ref zy0) (C := RX11) (T := TX11) (N := 28) hx hb hts (by decide +kernel) hown hK hP 0 rfl rfl 0 (by decide) (hts (.fieldLink RX11 7 "DripStoneModel" "z" "[I") (by decide +kernel)) (fun _ h9 => h9) rfl dX11_set_48 ?_
      refine lv_iconst (v := 0) hx hb dX11_set_51 (by decide) ?_
      refine lv_iload_n hx hb dX11_set_52 rfl (lv_at hl 2 rfl) ?_
      refine lv_iadd hx hb dX11_set_53 ?_
      refine lv_topi (fun v_20 ev_20 => ?_)
      have tv_20 : v_20.toInt = (0 : Int) + zia.toInt := by rw [ev_20]; exact tadd (show (0 : Int32).toInt = 0 by decide) (rfl) (by omega) (by omega)
      refine lv_iload_n hx hb dX11_set_54 rfl (lv_at hl 3 rfl) ?_
      refine va_iast hx hb hK hP hD hS 1 0 rfl rfl (vp_in_iff.mpr ⟨by omega, by omega⟩) dX11_set_55 (fun H locs hP hD hS => ?_)
      have hP : va_P (dC, dI) vwCl [(zy, .inr (11, [.ref zy0, .ref zy1, .int 0, .int 0, .int 0, .ref zy5, .int 0, .int 0, .ref zy8, .ref zy9, .ref zy10, .ref zy11, .ref zy12, .ref zy13, .ref zy14, .long 0, .ref zy16, .ref zy17, .ref zy18, .int 0, .long 0, .ref zy21, .ref zy22, .int 0, .ref zy24, .ref zy25, .ref zy26, .ref zy27])), (zy0, .inl (cy 0, 392, .inl (upd zz v_20.toNatClampNeg zib)))] H := hP
      have hD : va_D A [(zy, .inr (11, [.ref zy0, .ref zy1, .int 0, .int 0, .int 0, .ref zy5, .int 0, .int 0, .ref zy8, .ref zy9, .ref zy10, .ref zy11, .ref zy12, .ref zy13, .ref zy14, .long 0, .ref zy16, .ref zy17, .ref zy18, .int 0, .long 0, .ref zy21, .ref zy22, .int 0, .ref zy24, .ref zy25, .ref zy26, .ref zy27])), (zy0, .inl (cy 0, 392, .inl (upd zz v_20.toNatClampNeg zib)))] := hD
      refine lv_iload_n hx hb dX11_set_56 rfl (lv_at hl 0 rfl) ?_
      have hP9 := hP.sub (ws' := []) [] rfl
      have hD9 := hD.sub (ws' := []) [] (by decide) rfl
      exact W.iret (v := 1) hx hb hr (fun t ht hW => ⟨⟨1, (), rfl, (by unfold an_set; (repeat' split) <;> first | rfl | (exfalso; omega)), ⟨by rw [ht]; exact hP9, va_K.moved hW.alike hK, hD9⟩⟩, hS.F ht⟩) hS.2.2 dX11_set_57
    · have f_17 : ¬ (1 ≤ zib.toInt ∧ zib.toInt ≤ 5) := bz_0 hw_15 c_16
      refine lv_goto (tgt := 36) hx hb dX11_set_16 (by decide) ?_
      refine lv_iconst (v := (-1)) hx hb dX11_set_36 (by decide) ?_
      have hP9 := hP.sub (ws' := []) [] rfl
      have hD9 := hD.sub (ws' := []) [] (by decide) rfl
      exact W.iret (v := (-1)) hx hb hr (fun t ht hW => ⟨⟨(-1), (), rfl, (by unfold an_set; (repeat' split) <;> first | rfl | (exfalso; omega)), ⟨by rw [ht]; exact hP9, va_K.moved hW.alike hK, hD9⟩⟩, hS.F ht⟩) hS.2.2 dX11_set_37
set_option maxHeartbeats 4000000 in
set_option maxRecDepth 100000 in
theorem c_X11_wet (l : Launch) (dC : Nat → ClassId) (dI : Nat → Nat → Nat) (cy : Nat → ClassId) (sz : Nat) (zy : Nat) (zia : Int32) (zy0 : Nat) (zy1 : Nat) (zy5 : Nat) (zy8 : Nat) (zy9 : Nat) (zy10 : Nat) (zy11 : Nat) (zy12 : Nat) (zy13 : Nat) (zy14 : Nat) (zy16 : Nat) (zy17 : Nat) (zy18 : Nat) (zy21 : Nat) (zy22 : Nat) (zy24 : Nat) (zy25 : Nat) (zy26 : Nat) (zy27 : Nat)  : Met l yX11_wet wsX11_wet ({ frames := 2, cells := 0, slots := 0, locals := 45 }) (va_Pc [.ref zy, .int zia] (PRE dC dI cy [(zy, .inr (11, [.ref zy0, .ref zy1, .int 0, .int 0, .int 0, .ref zy5, .int 0, .int 0, .ref zy8, .ref zy9, .ref zy10, .ref zy11, .ref zy12, .ref zy13, .ref zy14, .long 0, .ref zy16, .ref zy17, .ref zy18, .int 0, .long 0, .ref zy21, .ref zy22, .int 0, .ref zy24, .ref zy25, .ref zy26, .ref zy27])), (zy0, .inl (cy 0, 392, .inl zz))] sz)) (va_Qi (fun (r : Int32) (_ : Unit) => r = an_wet zia) (fun u t => POST dC dI cy (va_A [(zy, .inr (11, [.ref zy0, .ref zy1, .int 0, .int 0, .int 0, .ref zy5, .int 0, .int 0, .ref zy8, .ref zy9, .ref zy10, .ref zy11, .ref zy12, .ref zy13, .ref zy14, .long 0, .ref zy16, .ref zy17, .ref zy18, .int 0, .long 0, .ref zy21, .ref zy22, .int 0, .ref zy24, .ref zy25, .ref zy26, .ref zy27])), (zy0, .inl (cy 0, 392, .inl zz))] sz) [] t) (va_A [(zy, .inr (11, [.ref zy0, .ref zy1, .int 0, .int 0, .int 0, .ref zy5, .int 0, .int 0, .ref zy8, .ref zy9, .ref zy10, .ref zy11, .ref zy12, .ref zy13, .ref zy14, .long 0, .ref zy16, .ref zy17, .ref zy18, .int 0, .long 0, .ref zy21, .ref zy22, .int 0, .ref zy24, .ref zy25, .ref zy26, .ref zy27])), (zy0, .inl (cy 0, 392, .inl zz))] sz)) 0 0 (va_A [(zy, .inr (11, [.ref zy0, .ref zy1, .int 0, .int 0, .int 0, .ref zy5, .int 0, .int 0, .ref zy8, .ref zy9, .ref zy10, .ref zy11, .ref zy12, .ref zy13, .ref zy14, .long 0, .ref zy16, .ref zy17, .ref zy18, .int 0, .long 0, .ref zy21, .ref zy22, .int 0, .ref zy24, .ref zy25, .ref zy26, .ref zy27])), (zy0, .inl (cy 0, 392, .inl zz))] sz) := by
  refine Met.ofW (cc := cX11_wet) (maxL := 2) (ret := (some .int)) (by decide) rfl ?_
  intro p e s m args below meth c s₁ B hml hv
  obtain ⟨rfl, hsz, hP, hK, hD0, hN⟩ := hv
  have hx := B.exec
  have hb := B.bytes
  have hr := B.returns
  have hts := atoms_spec (ws := wsX11_wet) B.pre
  have hown : s.vm.findClass RX11 = some m.cls := findClass_of_methodNamed B.named
  have hlocks := B.notSynchronized
  subst hsz
  have hD := hD0.self (sz := s.heap.size)
  generalize hAe : va_A [(zy, .inr (11, [.ref zy0, .ref zy1, .int 0, .int 0, .int 0, .ref zy5, .int 0, .int 0, .ref zy8, .ref zy9, .ref zy10, .ref zy11, .ref zy12, .ref zy13, .ref zy14, .long 0, .ref zy16, .ref zy17, .ref zy18, .int 0, .long 0, .ref zy21, .ref zy22, .int 0, .ref zy24, .ref zy25, .ref zy26, .ref zy27])), (zy0, .inl (cy 0, 392, .inl zz))] s.heap.size = A at hD ⊢
  have hA : ∀ q : Nat, s.heap.size ≤ q → A q := fun q h => by rw [← hAe]; exact Or.inr h
  have hS : va_S A s.heap s.heap [] := va_S.rf
  have hP : va_P (dC, dI) vwCl [(zy, .inr (11, [.ref zy0, .ref zy1, .int 0, .int 0, .int 0, .ref zy5, .int 0, .int 0, .ref zy8, .ref zy9, .ref zy10, .ref zy11, .ref zy12, .ref zy13, .ref zy14, .long 0, .ref zy16, .ref zy17, .ref zy18, .int 0, .long 0, .ref zy21, .ref zy22, .int 0, .ref zy24, .ref zy25, .ref zy26, .ref zy27])), (zy0, .inl (cy 0, 392, .inl zz))] s.heap := hP
  have hl := lv_entry ([.ref zy, .int zia] : List Value) (n := 2) (Nat.le_of_ble_eq_true rfl)
  rw [lg_entry_eq]
  generalize (lg_sl ([.ref zy, .int zia] : List Value) ++ List.replicate (2 - (lg_sl ([.ref zy, .int zia] : List Value)).length) Slot.unset).toArray = ls at hl ⊢
  have hl : lv_has ls 2 [(0, .ref zy), (1, .int zia)] := hl
  refine lv_iload_n hx hb dX11_wet_0 rfl (lv_at hl 1 rfl) ?_
  refine cj_i (wc := []) (wr := [(zy, .inr (11, [.ref zy0, .ref zy1, .int 0, .int 0, .int 0, .ref zy5, .int 0, .int 0, .ref zy8, .ref zy9, .ref zy10, .ref zy11, .ref zy12, .ref zy13, .ref zy14, .long 0, .ref zy16, .ref zy17, .ref zy18, .int 0, .long 0, .ref zy21, .ref zy22, .int 0, .ref zy24, .ref zy25, .ref zy26, .ref zy27])), (zy0, .inl (cy 0, 392, .inl zz))]) (w1 := fun (_ : Unit) => []) (va_runS (As := [.int zia]) (rest := []) ⟨hx, hb, hml, hown, hts⟩ (c_X11_isYear l dC dI cy s.heap.size zia) (va_cwS 1 hts gX11_wet_X11_isYear rfl rfl rfl (by decide +kernel) ⟨(Nat.le_of_ble_eq_true rfl), (Nat.le_of_ble_eq_true rfl)⟩) (PRE.s (hP.sub [] rfl) hK (hD.sub [] (by decide) rfl) hN) rfl rfl hl.1 rfl (lv_room (Nat.le_of_ble_eq_true rfl)) dX11_wet_1 ⟨(Nat.le_of_ble_eq_true rfl), (Nat.le_of_ble_eq_true rfl)⟩) hP hD hS hA [] [0, 1] rfl rfl rfl (by decide) (fun r_2 u_1 H locs hw_3 hP hD hS => ?_)
  have hP : va_P (dC, dI) vwCl [(zy, .inr (11, [.ref zy0, .ref zy1, .int 0, .int 0, .int 0, .ref zy5, .int 0, .int 0, .ref zy8, .ref zy9, .ref zy10, .ref zy11, .ref zy12, .ref zy13, .ref zy14, .long 0, .ref zy16, .ref zy17, .ref zy18, .int 0, .long 0, .ref zy21, .ref zy22, .int 0, .ref zy24, .ref zy25, .ref zy26, .ref zy27])), (zy0, .inl (cy 0, 392, .inl zz))] H := hP
  have hD : va_D A [(zy, .inr (11, [.ref zy0, .ref zy1, .int 0, .int 0, .int 0, .ref zy5, .int 0, .int 0, .ref zy8, .ref zy9, .ref zy10, .ref zy11, .ref zy12, .ref zy13, .ref zy14, .long 0, .ref zy16, .ref zy17, .ref zy18, .int 0, .long 0, .ref zy21, .ref zy22, .int 0, .ref zy24, .ref zy25, .ref zy26, .ref zy27])), (zy0, .inl (cy 0, 392, .inl zz))] := hD
  have hw_3 : r_2 = if 0 ≤ zia.toInt ∧ zia.toInt ≤ 23 then 1 else 0 := hw_3
  refine lv_if_eq (tgt := 21) hx hb dX11_wet_4 (by decide) (fun c_4 => ?_) (fun c_4 => ?_)
  · have f_5 : ¬ (0 ≤ zia.toInt ∧ zia.toInt ≤ 23) := bz_0 hw_3 c_4
    refine lv_iconst (v := (-1)) hx hb dX11_wet_21 (by decide) ?_
    have hP9 := hP.sub (ws' := []) [] rfl
    have hD9 := hD.sub (ws' := []) [] (by decide) rfl
    exact W.iret (v := (-1)) hx hb hr (fun t ht hW => ⟨⟨(-1), (), rfl, (by unfold an_wet; (repeat' split) <;> first | rfl | (exfalso; omega)), ⟨by rw [ht]; exact hP9, va_K.moved hW.alike hK, hD9⟩⟩, hS.F ht⟩) hS.2.2 dX11_wet_22
  · have f_5 : 0 ≤ zia.toInt ∧ zia.toInt ≤ 23 := bz_1 hw_3 c_4
    refine lv_aload_n hx hb dX11_wet_7 rfl (lv_at hl 0 rfl) ?_
    refine lv_iload_n hx hb dX11_wet_8 rfl (lv_at hl 1 rfl) ?_
    refine lv_aload_n hx hb dX11_wet_9 rfl (lv_at hl 0 rfl) ?_
    refine va_get (D := (dC, dI)) (ci := 11) (v := .ref zy0) (C := RX11) (T := TX11) (N := 28) hx hb hts (by decide +kernel) hown hK hP 0 rfl rfl 0 (by decide) (hts (.fieldLink RX11 7 "DripStoneModel" "z" "[I") (by decide +kernel)) (fun _ h9 => h9) rfl dX11_wet_10 ?_
    refine lv_iconst (v := 0) hx hb dX11_wet_13 (by decide) ?_
    refine va_iald hx hb hK hP 1 0 rfl rfl (vp_in_iff.mpr ⟨by decide, by decide⟩) dX11_wet_14 ?_
    refine W.eq (g2 := F0 m 15 ls [.int 1, .int zia, .ref zy]) rfl ?_
    refine cj_i (wc := [(zy, .inr (11, [.ref zy0, .ref zy1, .int 0, .int 0, .int 0, .ref zy5, .int 0, .int 0, .ref zy8, .ref zy9, .ref zy10, .ref zy11, .ref zy12, .ref zy13, .ref zy14, .long 0, .ref zy16, .ref zy17, .ref zy18, .int 0, .long 0, .ref zy21, .ref zy22, .int 0, .ref zy24, .ref zy25, .ref zy26, .ref zy27])), (zy0, .inl (cy 0, 392, .inl zz))]) (wr := []) (w1 := fun (_ : Unit) => [(zy, .inr (11, [.ref zy0, .ref zy1, .int 0, .int 0, .int 0, .ref zy5, .int 0, .int 0, .ref zy8, .ref zy9, .ref zy10, .ref zy11, .ref zy12, .ref zy13, .ref zy14, .long 0, .ref zy16, .ref zy17, .ref zy18, .int 0, .long 0, .ref zy21, .ref zy22, .int 0, .ref zy24, .ref zy25, .ref zy26, .ref zy27])), (zy0, .inl (cy 0, 392, .inl zz))]) (va_runV (As := [.int zia, .int 1]) (rest := []) ⟨hx, hb, hml, hown, hts⟩ (c_X11_wetBy l dC dI cy H.size zy zia zy0 zy1 zy5 zy8 zy9 zy10 zy11 zy12 zy13 zy14 zy16 zy17 zy18 zy21 zy22 zy24 zy25 zy26 zy27 (by first | rfl | decide | omega | exact Int32.toInt_toInt64 _)) (cwV 2 hts gX11_wet_X11_wetBy rfl rfl rfl (by decide +kernel) ⟨(Nat.le_of_ble_eq_true rfl), (Nat.le_of_ble_eq_true rfl)⟩) (PRE.v (hP.sub [0, 1] rfl) hK (hD.sub [0, 1] (by decide) rfl) hN (va_recv hK hP (ci := 11) (q0 := 0) rfl rfl)) rfl rfl hl.1 rfl (lv_room (Nat.le_of_ble_eq_true rfl)) dX11_wet_15 ⟨(Nat.le_of_ble_eq_true rfl), (Nat.le_of_ble_eq_true rfl)⟩) hP hD hS hA [0, 1] [] rfl rfl rfl (by decide) (fun r_7 u_6 H locs hw_8 hP hD hS => ?_)
    have hP : va_P (dC, dI) vwCl [(zy, .inr (11, [.ref zy0, .ref zy1, .int 0, .int 0, .int 0, .ref zy5, .int 0, .int 0, .ref zy8, .ref zy9, .ref zy10, .ref zy11, .ref zy12, .ref zy13, .ref zy14, .long 0, .ref zy16, .ref zy17, .ref zy18, .int 0, .long 0, .ref zy21, .ref zy22, .int 0, .ref zy24, .ref zy25, .ref zy26, .ref zy27])), (zy0, .inl (cy 0, 392, .inl zz))] H := hP
    have hD : va_D A [(zy, .inr (11, [.ref zy0, .ref zy1, .int 0, .int 0, .int 0, .ref zy5, .int 0, .int 0, .ref zy8, .ref zy9, .ref zy10, .ref zy11, .ref zy12, .ref zy13, .ref zy14, .long 0, .ref zy16, .ref zy17, .ref zy18, .int 0, .long 0, .ref zy21, .ref zy22, .int 0, .ref zy24, .ref zy25, .ref zy26, .ref zy27])), (zy0, .inl (cy 0, 392, .inl zz))] := hD
    obtain rfl : r_7 = 0 := hw_8
    refine lv_goto (tgt := 22) hx hb dX11_wet_18 (by decide) ?_
    have hP9 := hP.sub (ws' := []) [] rfl
    have hD9 := hD.sub (ws' := []) [] (by decide) rfl
    exact W.iret (v := 0) hx hb hr (fun t ht hW => ⟨⟨0, (), rfl, (by unfold an_wet; (repeat' split) <;> first | rfl | (exfalso; omega)), ⟨by rw [ht]; exact hP9, va_K.moved hW.alike hK, hD9⟩⟩, hS.F ht⟩) hS.2.2 dX11_wet_22
set_option maxHeartbeats 4000000 in
set_option maxRecDepth 100000 in
theorem c_X11_water (l : Launch) (dC : Nat → ClassId) (dI : Nat → Nat → Nat) (cy : Nat → ClassId) (sz : Nat) (zy : Nat) (zia : Int32) (zy0 : Nat) (zy1 : Nat) (zy5 : Nat) (zy8 : Nat) (zy9 : Nat) (zy10 : Nat) (zy11 : Nat) (zy12 : Nat) (zy13 : Nat) (zy14 : Nat) (zy16 : Nat) (zy17 : Nat) (zy18 : Nat) (zy21 : Nat) (zy22 : Nat) (zy24 : Nat) (zy25 : Nat) (zy26 : Nat) (zy27 : Nat)  : Met l yX11_water wsX11_water ({ frames := 2, cells := 0, slots := 0, locals := 45 }) (va_Pc [.ref zy, .int zia] (PRE dC dI cy [(zy, .inr (11, [.ref zy0, .ref zy1, .int 0, .int 0, .int 0, .ref zy5, .int 0, .int 0, .ref zy8, .ref zy9, .ref zy10, .ref zy11, .ref zy12, .ref zy13, .ref zy14, .long 0, .ref zy16, .ref zy17, .ref zy18, .int 0, .long 0, .ref zy21, .ref zy22, .int 0, .ref zy24, .ref zy25, .ref zy26, .ref zy27])), (zy0, .inl (cy 0, 392, .inl zz))] sz)) (va_Qi (fun (r : Int32) (_ : Unit) => r = an_water zia) (fun u t => POST dC dI cy (va_A [(zy, .inr (11, [.ref zy0, .ref zy1, .int 0, .int 0, .int 0, .ref zy5, .int 0, .int 0, .ref zy8, .ref zy9, .ref zy10, .ref zy11, .ref zy12, .ref zy13, .ref zy14, .long 0, .ref zy16, .ref zy17, .ref zy18, .int 0, .long 0, .ref zy21, .ref zy22, .int 0, .ref zy24, .ref zy25, .ref zy26, .ref zy27])), (zy0, .inl (cy 0, 392, .inl zz))] sz) [] t) (va_A [(zy, .inr (11, [.ref zy0, .ref zy1, .int 0, .int 0, .int 0, .ref zy5, .int 0, .int 0, .ref zy8, .ref zy9, .ref zy10, .ref zy11, .ref zy12, .ref zy13, .ref zy14, .long 0, .ref zy16, .ref zy17, .ref zy18, .int 0, .long 0, .ref zy21, .ref zy22, .int 0, .ref zy24, .ref zy25, .ref zy26, .ref zy27])), (zy0, .inl (cy 0, 392, .inl zz))] sz)) 0 0 (va_A [(zy, .inr (11, [.ref zy0, .ref zy1, .int 0, .int 0, .int 0, .ref zy5, .int 0, .int 0, .ref zy8, .ref zy9, .ref zy10, .ref zy11, .ref zy12, .ref zy13, .ref zy14, .long 0, .ref zy16, .ref zy17, .ref zy18, .int 0, .long 0, .ref zy21, .ref zy22, .int 0, .ref zy24, .ref zy25, .ref zy26, .ref zy27])), (zy0, .inl (cy 0, 392, .inl zz))] sz) := by
  refine Met.ofW (cc := cX11_water) (maxL := 2) (ret := (some .int)) (by decide) rfl ?_
  intro p e s m args below meth c s₁ B hml hv
  obtain ⟨rfl, hsz, hP, hK, hD0, hN⟩ := hv
  have hx := B.exec
  have hb := B.bytes
  have hr := B.returns
  have hts := atoms_spec (ws := wsX11_water) B.pre
  have hown : s.vm.findClass RX11 = some m.cls := findClass_of_methodNamed B.named
  have hlocks := B.notSynchronized
  subst hsz
  have hD := hD0.self (sz := s.heap.size)
  generalize hAe : va_A [(zy, .inr (11, [.ref zy0, .ref zy1, .int 0, .int 0, .int 0, .ref zy5, .int 0, .int 0, .ref zy8, .ref zy9, .ref zy10, .ref zy11, .ref zy12, .ref zy13, .ref zy14, .long 0, .ref zy16, .ref zy17, .ref zy18, .int 0, .long 0, .ref zy21, .ref zy22, .int 0, .ref zy24, .ref zy25, .ref zy26, .ref zy27])), (zy0, .inl (cy 0, 392, .inl zz))] s.heap.size = A at hD ⊢
  have hA : ∀ q : Nat, s.heap.size ≤ q → A q := fun q h => by rw [← hAe]; exact Or.inr h
  have hS : va_S A s.heap s.heap [] := va_S.rf
  have hP : va_P (dC, dI) vwCl [(zy, .inr (11, [.ref zy0, .ref zy1, .int 0, .int 0, .int 0, .ref zy5, .int 0, .int 0, .ref zy8, .ref zy9, .ref zy10, .ref zy11, .ref zy12, .ref zy13, .ref zy14, .long 0, .ref zy16, .ref zy17, .ref zy18, .int 0, .long 0, .ref zy21, .ref zy22, .int 0, .ref zy24, .ref zy25, .ref zy26, .ref zy27])), (zy0, .inl (cy 0, 392, .inl zz))] s.heap := hP
  have hl := lv_entry ([.ref zy, .int zia] : List Value) (n := 2) (Nat.le_of_ble_eq_true rfl)
  rw [lg_entry_eq]
  generalize (lg_sl ([.ref zy, .int zia] : List Value) ++ List.replicate (2 - (lg_sl ([.ref zy, .int zia] : List Value)).length) Slot.unset).toArray = ls at hl ⊢
  have hl : lv_has ls 2 [(0, .ref zy), (1, .int zia)] := hl
  refine lv_iload_n hx hb dX11_water_0 rfl (lv_at hl 1 rfl) ?_
  refine cj_i (wc := []) (wr := [(zy, .inr (11, [.ref zy0, .ref zy1, .int 0, .int 0, .int 0, .ref zy5, .int 0, .int 0, .ref zy8, .ref zy9, .ref zy10, .ref zy11, .ref zy12, .ref zy13, .ref zy14, .long 0, .ref zy16, .ref zy17, .ref zy18, .int 0, .long 0, .ref zy21, .ref zy22, .int 0, .ref zy24, .ref zy25, .ref zy26, .ref zy27])), (zy0, .inl (cy 0, 392, .inl zz))]) (w1 := fun (_ : Unit) => []) (va_runS (As := [.int zia]) (rest := []) ⟨hx, hb, hml, hown, hts⟩ (c_X11_isYear l dC dI cy s.heap.size zia) (va_cwS 1 hts gX11_water_X11_isYear rfl rfl rfl (by decide +kernel) ⟨(Nat.le_of_ble_eq_true rfl), (Nat.le_of_ble_eq_true rfl)⟩) (PRE.s (hP.sub [] rfl) hK (hD.sub [] (by decide) rfl) hN) rfl rfl hl.1 rfl (lv_room (Nat.le_of_ble_eq_true rfl)) dX11_water_1 ⟨(Nat.le_of_ble_eq_true rfl), (Nat.le_of_ble_eq_true rfl)⟩) hP hD hS hA [] [0, 1] rfl rfl rfl (by decide) (fun r_2 u_1 H locs hw_3 hP hD hS => ?_)
  have hP : va_P (dC, dI) vwCl [(zy, .inr (11, [.ref zy0, .ref zy1, .int 0, .int 0, .int 0, .ref zy5, .int 0, .int 0, .ref zy8, .ref zy9, .ref zy10, .ref zy11, .ref zy12, .ref zy13, .ref zy14, .long 0, .ref zy16, .ref zy17, .ref zy18, .int 0, .long 0, .ref zy21, .ref zy22, .int 0, .ref zy24, .ref zy25, .ref zy26, .ref zy27])), (zy0, .inl (cy 0, 392, .inl zz))] H := hP
  have hD : va_D A [(zy, .inr (11, [.ref zy0, .ref zy1, .int 0, .int 0, .int 0, .ref zy5, .int 0, .int 0, .ref zy8, .ref zy9, .ref zy10, .ref zy11, .ref zy12, .ref zy13, .ref zy14, .long 0, .ref zy16, .ref zy17, .ref zy18, .int 0, .long 0, .ref zy21, .ref zy22, .int 0, .ref zy24, .ref zy25, .ref zy26, .ref zy27])), (zy0, .inl (cy 0, 392, .inl zz))] := hD
  have hw_3 : r_2 = if 0 ≤ zia.toInt ∧ zia.toInt ≤ 23 then 1 else 0 := hw_3
  refine lv_if_ne (tgt := 11) hx hb dX11_water_4 (by decide) (fun c_4 => ?_) (fun c_4 => ?_)
  · have f_5 : 0 ≤ zia.toInt ∧ zia.toInt ≤ 23 := bz_1 hw_3 c_4
    refine lv_aload_n hx hb dX11_water_11 rfl (lv_at hl 0 rfl) ?_
    refine lv_iload_n hx hb dX11_water_12 rfl (lv_at hl 1 rfl) ?_
    refine lv_aload_n hx hb dX11_water_13 rfl (lv_at hl 0 rfl) ?_
    refine va_get (D := (dC, dI)) (ci := 11) (v := .ref zy0) (C := RX11) (T := TX11) (N := 28) hx hb hts (by decide +kernel) hown hK hP 0 rfl rfl 0 (by decide) (hts (.fieldLink RX11 7 "DripStoneModel" "z" "[I") (by decide +kernel)) (fun _ h9 => h9) rfl dX11_water_14 ?_
    refine lv_iconst (v := 0) hx hb dX11_water_17 (by decide) ?_
    refine va_iald hx hb hK hP 1 0 rfl rfl (vp_in_iff.mpr ⟨by decide, by decide⟩) dX11_water_18 ?_
    refine W.eq (g2 := F0 m 19 ls [.int 1, .int zia, .ref zy]) rfl ?_
    refine cj_i (wc := [(zy, .inr (11, [.ref zy0, .ref zy1, .int 0, .int 0, .int 0, .ref zy5, .int 0, .int 0, .ref zy8, .ref zy9, .ref zy10, .ref zy11, .ref zy12, .ref zy13, .ref zy14, .long 0, .ref zy16, .ref zy17, .ref zy18, .int 0, .long 0, .ref zy21, .ref zy22, .int 0, .ref zy24, .ref zy25, .ref zy26, .ref zy27])), (zy0, .inl (cy 0, 392, .inl zz))]) (wr := []) (w1 := fun (_ : Unit) => [(zy, .inr (11, [.ref zy0, .ref zy1, .int 0, .int 0, .int 0, .ref zy5, .int 0, .int 0, .ref zy8, .ref zy9, .ref zy10, .ref zy11, .ref zy12, .ref zy13, .ref zy14, .long 0, .ref zy16, .ref zy17, .ref zy18, .int 0, .long 0, .ref zy21, .ref zy22, .int 0, .ref zy24, .ref zy25, .ref zy26, .ref zy27])), (zy0, .inl (cy 0, 392, .inl zz))]) (va_runV (As := [.int zia, .int 1]) (rest := []) ⟨hx, hb, hml, hown, hts⟩ (c_X11_wetBy l dC dI cy H.size zy zia zy0 zy1 zy5 zy8 zy9 zy10 zy11 zy12 zy13 zy14 zy16 zy17 zy18 zy21 zy22 zy24 zy25 zy26 zy27 (by first | rfl | decide | omega | exact Int32.toInt_toInt64 _)) (cwV 2 hts gX11_water_X11_wetBy rfl rfl rfl (by decide +kernel) ⟨(Nat.le_of_ble_eq_true rfl), (Nat.le_of_ble_eq_true rfl)⟩) (PRE.v (hP.sub [0, 1] rfl) hK (hD.sub [0, 1] (by decide) rfl) hN (va_recv hK hP (ci := 11) (q0 := 0) rfl rfl)) rfl rfl hl.1 rfl (lv_room (Nat.le_of_ble_eq_true rfl)) dX11_water_19 ⟨(Nat.le_of_ble_eq_true rfl), (Nat.le_of_ble_eq_true rfl)⟩) hP hD hS hA [0, 1] [] rfl rfl rfl (by decide) (fun r_7 u_6 H locs hw_8 hP hD hS => ?_)
    have hP : va_P (dC, dI) vwCl [(zy, .inr (11, [.ref zy0, .ref zy1, .int 0, .int 0, .int 0, .ref zy5, .int 0, .int 0, .ref zy8, .ref zy9, .ref zy10, .ref zy11, .ref zy12, .ref zy13, .ref zy14, .long 0, .ref zy16, .ref zy17, .ref zy18, .int 0, .long 0, .ref zy21, .ref zy22, .int 0, .ref zy24, .ref zy25, .ref zy26, .ref zy27])), (zy0, .inl (cy 0, 392, .inl zz))] H := hP
    have hD : va_D A [(zy, .inr (11, [.ref zy0, .ref zy1, .int 0, .int 0, .int 0, .ref zy5, .int 0, .int 0, .ref zy8, .ref zy9, .ref zy10, .ref zy11, .ref zy12, .ref zy13, .ref zy14, .long 0, .ref zy16, .ref zy17, .ref zy18, .int 0, .long 0, .ref zy21, .ref zy22, .int 0, .ref zy24, .ref zy25, .ref zy26, .ref zy27])), (zy0, .inl (cy 0, 392, .inl zz))] := hD
    obtain rfl : r_7 = 0 := hw_8
    refine lv_if_ne (tgt := 31) hx hb dX11_water_22 (by decide) (fun c_9 => absurd (by decide) c_9) (fun c_9 => ?_)
    refine lv_sipush (v := (-1004)) hx hb dX11_water_25 (by decide) ?_
    refine lv_goto (tgt := 42) hx hb dX11_water_28 (by decide) ?_
    have hP9 := hP.sub (ws' := []) [] rfl
    have hD9 := hD.sub (ws' := []) [] (by decide) rfl
    exact W.iret (v := (-1004)) hx hb hr (fun t ht hW => ⟨⟨(-1004), (), rfl, (by unfold an_water; (repeat' split) <;> first | rfl | (exfalso; omega)), ⟨by rw [ht]; exact hP9, va_K.moved hW.alike hK, hD9⟩⟩, hS.F ht⟩) hS.2.2 dX11_water_42
  · have f_5 : ¬ (0 ≤ zia.toInt ∧ zia.toInt ≤ 23) := bz_0 hw_3 c_4
    refine lv_sipush (v := (-1001)) hx hb dX11_water_7 (by decide) ?_
    have hP9 := hP.sub (ws' := []) [] rfl
    have hD9 := hD.sub (ws' := []) [] (by decide) rfl
    exact W.iret (v := (-1001)) hx hb hr (fun t ht hW => ⟨⟨(-1001), (), rfl, (by unfold an_water; (repeat' split) <;> first | rfl | (exfalso; omega)), ⟨by rw [ht]; exact hP9, va_K.moved hW.alike hK, hD9⟩⟩, hS.F ht⟩) hS.2.2 dX11_water_10
set_option maxHeartbeats 4000000 in
set_option maxRecDepth 100000 in
theorem c_X11_grows (l : Launch) (dC : Nat → ClassId) (dI : Nat → Nat → Nat) (cy : Nat → ClassId) (sz : Nat) (zy : Nat) (zia : Int32) (zy0 : Nat) (zy1 : Nat) (zy5 : Nat) (zy8 : Nat) (zy9 : Nat) (zy10 : Nat) (zy11 : Nat) (zy12 : Nat) (zy13 : Nat) (zy14 : Nat) (zy16 : Nat) (zy17 : Nat) (zy18 : Nat) (zy21 : Nat) (zy22 : Nat) (zy24 : Nat) (zy25 : Nat) (zy26 : Nat) (zy27 : Nat)  : Met l yX11_grows wsX11_grows ({ frames := 2, cells := 0, slots := 0, locals := 46 }) (va_Pc [.ref zy, .int zia] (PRE dC dI cy [(zy, .inr (11, [.ref zy0, .ref zy1, .int 0, .int 0, .int 0, .ref zy5, .int 0, .int 0, .ref zy8, .ref zy9, .ref zy10, .ref zy11, .ref zy12, .ref zy13, .ref zy14, .long 0, .ref zy16, .ref zy17, .ref zy18, .int 0, .long 0, .ref zy21, .ref zy22, .int 0, .ref zy24, .ref zy25, .ref zy26, .ref zy27])), (zy0, .inl (cy 0, 392, .inl zz))] sz)) (va_Qi (fun (r : Int32) (_ : Unit) => r = an_grows zia) (fun u t => POST dC dI cy (va_A [(zy, .inr (11, [.ref zy0, .ref zy1, .int 0, .int 0, .int 0, .ref zy5, .int 0, .int 0, .ref zy8, .ref zy9, .ref zy10, .ref zy11, .ref zy12, .ref zy13, .ref zy14, .long 0, .ref zy16, .ref zy17, .ref zy18, .int 0, .long 0, .ref zy21, .ref zy22, .int 0, .ref zy24, .ref zy25, .ref zy26, .ref zy27])), (zy0, .inl (cy 0, 392, .inl zz))] sz) [] t) (va_A [(zy, .inr (11, [.ref zy0, .ref zy1, .int 0, .int 0, .int 0, .ref zy5, .int 0, .int 0, .ref zy8, .ref zy9, .ref zy10, .ref zy11, .ref zy12, .ref zy13, .ref zy14, .long 0, .ref zy16, .ref zy17, .ref zy18, .int 0, .long 0, .ref zy21, .ref zy22, .int 0, .ref zy24, .ref zy25, .ref zy26, .ref zy27])), (zy0, .inl (cy 0, 392, .inl zz))] sz)) 0 0 (va_A [(zy, .inr (11, [.ref zy0, .ref zy1, .int 0, .int 0, .int 0, .ref zy5, .int 0, .int 0, .ref zy8, .ref zy9, .ref zy10, .ref zy11, .ref zy12, .ref zy13, .ref zy14, .long 0, .ref zy16, .ref zy17, .ref zy18, .int 0, .long 0, .ref zy21, .ref zy22, .int 0, .ref zy24, .ref zy25, .ref zy26, .ref zy27])), (zy0, .inl (cy 0, 392, .inl zz))] sz) := by
  refine Met.ofW (cc := cX11_grows) (maxL := 2) (ret := (some .int)) (by decide) rfl ?_
  intro p e s m args below meth c s₁ B hml hv
  obtain ⟨rfl, hsz, hP, hK, hD0, hN⟩ := hv
  have hx := B.exec
  have hb := B.bytes
  have hr := B.returns
  have hts := atoms_spec (ws := wsX11_grows) B.pre
  have hown : s.vm.findClass RX11 = some m.cls := findClass_of_methodNamed B.named
  have hlocks := B.notSynchronized
  subst hsz
  have hD := hD0.self (sz := s.heap.size)
  generalize hAe : va_A [(zy, .inr (11, [.ref zy0, .ref zy1, .int 0, .int 0, .int 0, .ref zy5, .int 0, .int 0, .ref zy8, .ref zy9, .ref zy10, .ref zy11, .ref zy12, .ref zy13, .ref zy14, .long 0, .ref zy16, .ref zy17, .ref zy18, .int 0, .long 0, .ref zy21, .ref zy22, .int 0, .ref zy24, .ref zy25, .ref zy26, .ref zy27])), (zy0, .inl (cy 0, 392, .inl zz))] s.heap.size = A at hD ⊢
  have hA : ∀ q : Nat, s.heap.size ≤ q → A q := fun q h => by rw [← hAe]; exact Or.inr h
  have hS : va_S A s.heap s.heap [] := va_S.rf
  have hP : va_P (dC, dI) vwCl [(zy, .inr (11, [.ref zy0, .ref zy1, .int 0, .int 0, .int 0, .ref zy5, .int 0, .int 0, .ref zy8, .ref zy9, .ref zy10, .ref zy11, .ref zy12, .ref zy13, .ref zy14, .long 0, .ref zy16, .ref zy17, .ref zy18, .int 0, .long 0, .ref zy21, .ref zy22, .int 0, .ref zy24, .ref zy25, .ref zy26, .ref zy27])), (zy0, .inl (cy 0, 392, .inl zz))] s.heap := hP
  have hl := lv_entry ([.ref zy, .int zia] : List Value) (n := 2) (Nat.le_of_ble_eq_true rfl)
  rw [lg_entry_eq]
  generalize (lg_sl ([.ref zy, .int zia] : List Value) ++ List.replicate (2 - (lg_sl ([.ref zy, .int zia] : List Value)).length) Slot.unset).toArray = ls at hl ⊢
  have hl : lv_has ls 2 [(0, .ref zy), (1, .int zia)] := hl
  refine lv_iload_n hx hb dX11_grows_0 rfl (lv_at hl 1 rfl) ?_
  refine cj_i (wc := []) (wr := [(zy, .inr (11, [.ref zy0, .ref zy1, .int 0, .int 0, .int 0, .ref zy5, .int 0, .int 0, .ref zy8, .ref zy9, .ref zy10, .ref zy11, .ref zy12, .ref zy13, .ref zy14, .long 0, .ref zy16, .ref zy17, .ref zy18, .int 0, .long 0, .ref zy21, .ref zy22, .int 0, .ref zy24, .ref zy25, .ref zy26, .ref zy27])), (zy0, .inl (cy 0, 392, .inl zz))]) (w1 := fun (_ : Unit) => []) (va_runS (As := [.int zia]) (rest := []) ⟨hx, hb, hml, hown, hts⟩ (c_X11_isYear l dC dI cy s.heap.size zia) (va_cwS 1 hts gX11_grows_X11_isYear rfl rfl rfl (by decide +kernel) ⟨(Nat.le_of_ble_eq_true rfl), (Nat.le_of_ble_eq_true rfl)⟩) (PRE.s (hP.sub [] rfl) hK (hD.sub [] (by decide) rfl) hN) rfl rfl hl.1 rfl (lv_room (Nat.le_of_ble_eq_true rfl)) dX11_grows_1 ⟨(Nat.le_of_ble_eq_true rfl), (Nat.le_of_ble_eq_true rfl)⟩) hP hD hS hA [] [0, 1] rfl rfl rfl (by decide) (fun r_2 u_1 H locs hw_3 hP hD hS => ?_)
  have hP : va_P (dC, dI) vwCl [(zy, .inr (11, [.ref zy0, .ref zy1, .int 0, .int 0, .int 0, .ref zy5, .int 0, .int 0, .ref zy8, .ref zy9, .ref zy10, .ref zy11, .ref zy12, .ref zy13, .ref zy14, .long 0, .ref zy16, .ref zy17, .ref zy18, .int 0, .long 0, .ref zy21, .ref zy22, .int 0, .ref zy24, .ref zy25, .ref zy26, .ref zy27])), (zy0, .inl (cy 0, 392, .inl zz))] H := hP
  have hD : va_D A [(zy, .inr (11, [.ref zy0, .ref zy1, .int 0, .int 0, .int 0, .ref zy5, .int 0, .int 0, .ref zy8, .ref zy9, .ref zy10, .ref zy11, .ref zy12, .ref zy13, .ref zy14, .long 0, .ref zy16, .ref zy17, .ref zy18, .int 0, .long 0, .ref zy21, .ref zy22, .int 0, .ref zy24, .ref zy25, .ref zy26, .ref zy27])), (zy0, .inl (cy 0, 392, .inl zz))] := hD
  have hw_3 : r_2 = if 0 ≤ zia.toInt ∧ zia.toInt ≤ 23 then 1 else 0 := hw_3
  refine lv_if_eq (tgt := 15) hx hb dX11_grows_4 (by decide) (fun c_4 => ?_) (fun c_4 => ?_)
  · have f_5 : ¬ (0 ≤ zia.toInt ∧ zia.toInt ≤ 23) := bz_0 hw_3 c_4
    refine lv_iconst (v := (-1)) hx hb dX11_grows_15 (by decide) ?_
    have hP9 := hP.sub (ws' := []) [] rfl
    have hD9 := hD.sub (ws' := []) [] (by decide) rfl
    exact W.iret (v := (-1)) hx hb hr (fun t ht hW => ⟨⟨(-1), (), rfl, (by unfold an_grows; (repeat' split) <;> first | rfl | (exfalso; omega)), ⟨by rw [ht]; exact hP9, va_K.moved hW.alike hK, hD9⟩⟩, hS.F ht⟩) hS.2.2 dX11_grows_16
  · have f_5 : 0 ≤ zia.toInt ∧ zia.toInt ≤ 23 := bz_1 hw_3 c_4
    refine lv_aload_n hx hb dX11_grows_7 rfl (lv_at hl 0 rfl) ?_
    refine lv_iload_n hx hb dX11_grows_8 rfl (lv_at hl 1 rfl) ?_
    refine cj_i (wc := [(zy, .inr (11, [.ref zy0, .ref zy1, .int 0, .int 0, .int 0, .ref zy5, .int 0, .int 0, .ref zy8, .ref zy9, .ref zy10, .ref zy11, .ref zy12, .ref zy13, .ref zy14, .long 0, .ref zy16, .ref zy17, .ref zy18, .int 0, .long 0, .ref zy21, .ref zy22, .int 0, .ref zy24, .ref zy25, .ref zy26, .ref zy27])), (zy0, .inl (cy 0, 392, .inl zz))]) (wr := []) (w1 := fun (_ : Unit) => []) (va_runV (As := [.int zia]) (rest := []) ⟨hx, hb, hml, hown, hts⟩ (c_X11_growthOf l dC dI cy H.size zy zia zy0 zy1 zy5 zy8 zy9 zy10 zy11 zy12 zy13 zy14 zy16 zy17 zy18 zy21 zy22 zy24 zy25 zy26 zy27 (by first | rfl | decide | omega | exact Int32.toInt_toInt64 _)) (cwV 1 hts gX11_grows_X11_growthOf rfl rfl rfl (by decide +kernel) ⟨(Nat.le_of_ble_eq_true rfl), (Nat.le_of_ble_eq_true rfl)⟩) (PRE.v (hP.sub [0, 1] rfl) hK (hD.sub [0, 1] (by decide) rfl) hN (va_recv hK hP (ci := 11) (q0 := 0) rfl rfl)) rfl rfl hl.1 rfl (lv_room (Nat.le_of_ble_eq_true rfl)) dX11_grows_9 ⟨(Nat.le_of_ble_eq_true rfl), (Nat.le_of_ble_eq_true rfl)⟩) hP hD hS hA [0, 1] [] rfl rfl rfl (by decide) (fun r_7 u_6 H locs hw_8 hP hD hS => ?_)
    have hP : va_P (dC, dI) vwCl [] H := hP
    have hD : va_D A [] := hD
    obtain rfl : r_7 = 0 := hw_8
    refine lv_goto (tgt := 16) hx hb dX11_grows_12 (by decide) ?_
    have hP9 := hP.sub (ws' := []) [] rfl
    have hD9 := hD.sub (ws' := []) [] (by decide) rfl
    exact W.iret (v := 0) hx hb hr (fun t ht hW => ⟨⟨0, (), rfl, (by unfold an_grows; (repeat' split) <;> first | rfl | (exfalso; omega)), ⟨by rw [ht]; exact hP9, va_K.moved hW.alike hK, hD9⟩⟩, hS.F ht⟩) hS.2.2 dX11_grows_16
set_option maxHeartbeats 4000000 in
set_option maxRecDepth 100000 in
theorem c_X11_learn (l : Launch) (dC : Nat → ClassId) (dI : Nat → Nat → Nat) (cy : Nat → ClassId) (sz : Nat) (zy : Nat) (zia : Int32) (zib : Int32) (zic : Int32) (zid : Int32) (zie : Int32) (zy0 : Nat) (zy1 : Nat) (zy5 : Nat) (zy8 : Nat) (zy9 : Nat) (zy10 : Nat) (zy11 : Nat) (zy12 : Nat) (zy13 : Nat) (zy14 : Nat) (zy16 : Nat) (zy17 : Nat) (zy18 : Nat) (zy21 : Nat) (zy22 : Nat) (zy24 : Nat) (zy25 : Nat) (zy26 : Nat) (zy27 : Nat)  : Met l yX11_learn wsX11_learn ({ frames := 2, cells := 0, slots := 0, locals := 46 }) (va_Pc [.ref zy, .int zia, .int zib, .int zic, .int zid, .int zie] (PRE dC dI cy [(zy, .inr (11, [.ref zy0, .ref zy1, .int 0, .int 0, .int 0, .ref zy5, .int 0, .int 0, .ref zy8, .ref zy9, .ref zy10, .ref zy11, .ref zy12, .ref zy13, .ref zy14, .long 0, .ref zy16, .ref zy17, .ref zy18, .int 0, .long 0, .ref zy21, .ref zy22, .int 0, .ref zy24, .ref zy25, .ref zy26, .ref zy27])), (zy25, .inl (cy 0, 4, .inl ll))] sz)) (va_Qi (fun (r : Int32) (_ : Unit) => r = an_learn zia zib zic zid zie) (fun u t => POST dC dI cy (va_A [(zy, .inr (11, [.ref zy0, .ref zy1, .int 0, .int 0, .int 0, .ref zy5, .int 0, .int 0, .ref zy8, .ref zy9, .ref zy10, .ref zy11, .ref zy12, .ref zy13, .ref zy14, .long 0, .ref zy16, .ref zy17, .ref zy18, .int 0, .long 0, .ref zy21, .ref zy22, .int 0, .ref zy24, .ref zy25, .ref zy26, .ref zy27])), (zy25, .inl (cy 0, 4, .inl ll))] sz) [] t) (va_A [(zy, .inr (11, [.ref zy0, .ref zy1, .int 0, .int 0, .int 0, .ref zy5, .int 0, .int 0, .ref zy8, .ref zy9, .ref zy10, .ref zy11, .ref zy12, .ref zy13, .ref zy14, .long 0, .ref zy16, .ref zy17, .ref zy18, .int 0, .long 0, .ref zy21, .ref zy22, .int 0, .ref zy24, .ref zy25, .ref zy26, .ref zy27])), (zy25, .inl (cy 0, 4, .inl ll))] sz)) 0 0 (va_A [(zy, .inr (11, [.ref zy0, .ref zy1, .int 0, .int 0, .int 0, .ref zy5, .int 0, .int 0, .ref zy8, .ref zy9, .ref zy10, .ref zy11, .ref zy12, .ref zy13, .ref zy14, .long 0, .ref zy16, .ref zy17, .ref zy18, .int 0, .long 0, .ref zy21, .ref zy22, .int 0, .ref zy24, .ref zy25, .ref zy26, .ref zy27])), (zy25, .inl (cy 0, 4, .inl ll))] sz) := by
  refine Met.ofW (cc := cX11_learn) (maxL := 10) (ret := (some .int)) (by decide) rfl ?_
  intro p e s m args below meth c s₁ B hml hv
  obtain ⟨rfl, hsz, hP, hK, hD0, hN⟩ := hv
  have hx := B.exec
  have hb := B.bytes
  have hr := B.returns
  have hts := atoms_spec (ws := wsX11_learn) B.pre
  have hown : s.vm.findClass RX11 = some m.cls := findClass_of_methodNamed B.named
  have hlocks := B.notSynchronized
  subst hsz
  have hD := hD0.self (sz := s.heap.size)
  generalize hAe : va_A [(zy, .inr (11, [.ref zy0, .ref zy1, .int 0, .int 0, .int 0, .ref zy5, .int 0, .int 0, .ref zy8, .ref zy9, .ref zy10, .ref zy11, .ref zy12, .ref zy13, .ref zy14, .long 0, .ref zy16, .ref zy17, .ref zy18, .int 0, .long 0, .ref zy21, .ref zy22, .int 0, .ref zy24, .ref zy25, .ref zy26, .ref zy27])), (zy25, .inl (cy 0, 4, .inl ll))] s.heap.size = A at hD ⊢
  have hA : ∀ q : Nat, s.heap.size ≤ q → A q := fun q h => by rw [← hAe]; exact Or.inr h
  have hS : va_S A s.heap s.heap [] := va_S.rf
  have hP : va_P (dC, dI) vwCl [(zy, .inr (11, [.ref zy0, .ref zy1, .int 0, .int 0, .int 0, .ref zy5, .int 0, .int 0, .ref zy8, .ref zy9, .ref zy10, .ref zy11, .ref zy12, .ref zy13, .ref zy14, .long 0, .ref zy16, .ref zy17, .ref zy18, .int 0, .long 0, .ref zy21, .ref zy22, .int 0, .ref zy24, .ref zy25, .ref zy26, .ref zy27])), (zy25, .inl (cy 0, 4, .inl ll))] s.heap := hP
  have hl := lv_entry ([.ref zy, .int zia, .int zib, .int zic, .int zid, .int zie] : List Value) (n := 10) (Nat.le_of_ble_eq_true rfl)
  rw [lg_entry_eq]
  generalize (lg_sl ([.ref zy, .int zia, .int zib, .int zic, .int zid, .int zie] : List Value) ++ List.replicate (10 - (lg_sl ([.ref zy, .int zia, .int zib, .int zic, .int zid, .int zie] : List Value)).length) Slot.unset).toArray = ls at hl ⊢
  have hl : lv_has ls 10 [(0, .ref zy), (1, .int zia), (2, .int zib), (3, .int zic), (4, .int zid), (5, .int zie)] := hl
  refine lv_iload_n hx hb dX11_learn_0 rfl (lv_at hl 1 rfl) ?_
  refine lv_iload_n hx hb dX11_learn_1 rfl (lv_at hl 2 rfl) ?_
  refine cj_i (wc := []) (wr := [(zy, .inr (11, [.ref zy0, .ref zy1, .int 0, .int 0, .int 0, .ref zy5, .int 0, .int 0, .ref zy8, .ref zy9, .ref zy10, .ref zy11, .ref zy12, .ref zy13, .ref zy14, .long 0, .ref zy16, .ref zy17, .ref zy18, .int 0, .long 0, .ref zy21, .ref zy22, .int 0, .ref zy24, .ref zy25, .ref zy26, .ref zy27])), (zy25, .inl (cy 0, 4, .inl ll))]) (w1 := fun (_ : Unit) => []) (va_runS (As := [.int zia, .int zib]) (rest := []) ⟨hx, hb, hml, hown, hts⟩ (c_X11_isSheet l dC dI cy s.heap.size zia zib) (va_cwS 2 hts gX11_learn_X11_isSheet rfl rfl rfl (by decide +kernel) ⟨(Nat.le_of_ble_eq_true rfl), (Nat.le_of_ble_eq_true rfl)⟩) (PRE.s (hP.sub [] rfl) hK (hD.sub [] (by decide) rfl) hN) rfl rfl hl.1 rfl (lv_room (Nat.le_of_ble_eq_true rfl)) dX11_learn_2 ⟨(Nat.le_of_ble_eq_true rfl), (Nat.le_of_ble_eq_true rfl)⟩) hP hD hS hA [] [0, 1] rfl rfl rfl (by decide) (fun r_2 u_1 H locs hw_3 hP hD hS => ?_)
  have hP : va_P (dC, dI) vwCl [(zy, .inr (11, [.ref zy0, .ref zy1, .int 0, .int 0, .int 0, .ref zy5, .int 0, .int 0, .ref zy8, .ref zy9, .ref zy10, .ref zy11, .ref zy12, .ref zy13, .ref zy14, .long 0, .ref zy16, .ref zy17, .ref zy18, .int 0, .long 0, .ref zy21, .ref zy22, .int 0, .ref zy24, .ref zy25, .ref zy26, .ref zy27])), (zy25, .inl (cy 0, 4, .inl ll))] H := hP
  have hD : va_D A [(zy, .inr (11, [.ref zy0, .ref zy1, .int 0, .int 0, .int 0, .ref zy5, .int 0, .int 0, .ref zy8, .ref zy9, .ref zy10, .ref zy11, .ref zy12, .ref zy13, .ref zy14, .long 0, .ref zy16, .ref zy17, .ref zy18, .int 0, .long 0, .ref zy21, .ref zy22, .int 0, .ref zy24, .ref zy25, .ref zy26, .ref zy27])), (zy25, .inl (cy 0, 4, .inl ll))] := hD
  have hw_3 : r_2 = if (0 ≤ zia.toInt ∧ zia.toInt ≤ 3) ∧ 0 ≤ zib.toInt ∧ zib.toInt ≤ 2 then 1 else 0 := hw_3
  refine lv_if_eq (tgt := 34) hx hb dX11_learn_5 (by decide) (fun c_4 => ?_) (fun c_4 => ?_)
  · have f_5 : ¬ ((0 ≤ zia.toInt ∧ zia.toInt ≤ 3) ∧ 0 ≤ zib.toInt ∧ zib.toInt ≤ 2) := bz_0 hw_3 c_4
    refine lv_iconst (v := (-1)) hx hb dX11_learn_34 (by decide) ?_
    have hP9 := hP.sub (ws' := []) [] rfl
    have hD9 := hD.sub (ws' := []) [] (by decide) rfl
    exact W.iret (v := (-1)) hx hb hr (fun t ht hW => ⟨⟨(-1), (), rfl, (by unfold an_learn; (repeat' split) <;> first | rfl | (exfalso; omega)), ⟨by rw [ht]; exact hP9, va_K.moved hW.alike hK, hD9⟩⟩, hS.F ht⟩) hS.2.2 dX11_learn_35
  · have f_5 : (0 ≤ zia.toInt ∧ zia.toInt ≤ 3) ∧ 0 ≤ zib.toInt ∧ zib.toInt ≤ 2 := bz_1 hw_3 c_4
    refine lv_iload hx hb dX11_learn_8 (lv_at hl 4 rfl) ?_
    refine lv_i2l (v := zid.toInt64) hx hb dX11_learn_10 rfl ?_
    refine lv_lconst (v := 1) hx hb dX11_learn_11 (by decide) ?_
    refine lv_ldc2 (v := 8) hx hb hown (hts (.constantLong RX11 104 8) (by decide +kernel)) dX11_learn_12 ?_
    refine cj_i (wc := []) (wr := [(zy, .inr (11, [.ref zy0, .ref zy1, .int 0, .int 0, .int 0, .ref zy5, .int 0, .int 0, .ref zy8, .ref zy9, .ref zy10, .ref zy11, .ref zy12, .ref zy13, .ref zy14, .long 0, .ref zy16, .ref zy17, .ref zy18, .int 0, .long 0, .ref zy21, .ref zy22, .int 0, .ref zy24, .ref zy25, .ref zy26, .ref zy27])), (zy25, .inl (cy 0, 4, .inl ll))]) (w1 := fun (_ : Unit) => []) (va_runS (As := [.long zid.toInt64, .long 1, .long 8]) (rest := []) ⟨hx, hb, hml, hown, hts⟩ (c_X11_in l dC dI cy H.size zid.toInt64 1 8 1 8 zid.toInt (by first | rfl | decide | omega | exact Int32.toInt_toInt64 _) (by first | rfl | decide | omega | exact Int32.toInt_toInt64 _) (by first | rfl | decide | omega | exact Int32.toInt_toInt64 _)) (va_cwS 3 hts gX11_learn_X11_in rfl rfl rfl (by decide +kernel) ⟨(Nat.le_of_ble_eq_true rfl), (Nat.le_of_ble_eq_true rfl)⟩) (PRE.s (hP.sub [] rfl) hK (hD.sub [] (by decide) rfl) hN) rfl rfl hl.1 rfl (lv_room (Nat.le_of_ble_eq_true rfl)) dX11_learn_15 ⟨(Nat.le_of_ble_eq_true rfl), (Nat.le_of_ble_eq_true rfl)⟩) hP hD hS hA [] [0, 1] rfl rfl rfl (by decide) (fun r_7 u_6 H locs hw_8 hP hD hS => ?_)
    have hP : va_P (dC, dI) vwCl [(zy, .inr (11, [.ref zy0, .ref zy1, .int 0, .int 0, .int 0, .ref zy5, .int 0, .int 0, .ref zy8, .ref zy9, .ref zy10, .ref zy11, .ref zy12, .ref zy13, .ref zy14, .long 0, .ref zy16, .ref zy17, .ref zy18, .int 0, .long 0, .ref zy21, .ref zy22, .int 0, .ref zy24, .ref zy25, .ref zy26, .ref zy27])), (zy25, .inl (cy 0, 4, .inl ll))] H := hP
    have hD : va_D A [(zy, .inr (11, [.ref zy0, .ref zy1, .int 0, .int 0, .int 0, .ref zy5, .int 0, .int 0, .ref zy8, .ref zy9, .ref zy10, .ref zy11, .ref zy12, .ref zy13, .ref zy14, .long 0, .ref zy16, .ref zy17, .ref zy18, .int 0, .long 0, .ref zy21, .ref zy22, .int 0, .ref zy24, .ref zy25, .ref zy26, .ref zy27])), (zy25, .inl (cy 0, 4, .inl ll))] := hD
    have hw_8 : r_7 = if 1 ≤ zid.toInt ∧ zid.toInt ≤ 8 then 1 else 0 := hw_8
    refine lv_if_eq (tgt := 34) hx hb dX11_learn_18 (by decide) (fun c_9 => ?_) (fun c_9 => ?_)
    · have f_10 : ¬ (1 ≤ zid.toInt ∧ zid.toInt ≤ 8) := bz_0 hw_8 c_9
      refine lv_iconst (v := (-1)) hx hb dX11_learn_34 (by decide) ?_
      have hP9 := hP.sub (ws' := []) [] rfl
      have hD9 := hD.sub (ws' := []) [] (by decide) rfl
      exact W.iret (v := (-1)) hx hb hr (fun t ht hW => ⟨⟨(-1), (), rfl, (by unfold an_learn; (repeat' split) <;> first | rfl | (exfalso; omega)), ⟨by rw [ht]; exact hP9, va_K.moved hW.alike hK, hD9⟩⟩, hS.F ht⟩) hS.2.2 dX11_learn_35
    · have f_10 : 1 ≤ zid.toInt ∧ zid.toInt ≤ 8 := bz_1 hw_8 c_9
      refine lv_iload hx hb dX11_learn_21 (lv_at hl 5 rfl) ?_
      refine lv_i2l (v := zie.toInt64) hx hb dX11_learn_23 rfl ?_
      refine lv_lconst (v := 0) hx hb dX11_learn_24 (by decide) ?_
      refine lv_ldc2 (v := 9) hx hb hown (hts (.constantLong RX11 74 9) (by decide +kernel)) dX11_learn_25 ?_
      refine cj_i (wc := []) (wr := [(zy, .inr (11, [.ref zy0, .ref zy1, .int 0, .int 0, .int 0, .ref zy5, .int 0, .int 0, .ref zy8, .ref zy9, .ref zy10, .ref zy11, .ref zy12, .ref zy13, .ref zy14, .long 0, .ref zy16, .ref zy17, .ref zy18, .int 0, .long 0, .ref zy21, .ref zy22, .int 0, .ref zy24, .ref zy25, .ref zy26, .ref zy27])), (zy25, .inl (cy 0, 4, .inl ll))]) (w1 := fun (_ : Unit) => []) (va_runS (As := [.long zie.toInt64, .long 0, .long 9]) (rest := []) ⟨hx, hb, hml, hown, hts⟩ (c_X11_in l dC dI cy H.size zie.toInt64 0 9 0 9 zie.toInt (by first | rfl | decide | omega | exact Int32.toInt_toInt64 _) (by first | rfl | decide | omega | exact Int32.toInt_toInt64 _) (by first | rfl | decide | omega | exact Int32.toInt_toInt64 _)) (va_cwS 3 hts gX11_learn_X11_in rfl rfl rfl (by decide +kernel) ⟨(Nat.le_of_ble_eq_true rfl), (Nat.le_of_ble_eq_true rfl)⟩) (PRE.s (hP.sub [] rfl) hK (hD.sub [] (by decide) rfl) hN) rfl rfl hl.1 rfl (lv_room (Nat.le_of_ble_eq_true rfl)) dX11_learn_28 ⟨(Nat.le_of_ble_eq_true rfl), (Nat.le_of_ble_eq_true rfl)⟩) hP hD hS hA [] [0, 1] rfl rfl rfl (by decide) (fun r_12 u_11 H locs hw_13 hP hD hS => ?_)
      have hP : va_P (dC, dI) vwCl [(zy, .inr (11, [.ref zy0, .ref zy1, .int 0, .int 0, .int 0, .ref zy5, .int 0, .int 0, .ref zy8, .ref zy9, .ref zy10, .ref zy11, .ref zy12, .ref zy13, .ref zy14, .long 0, .ref zy16, .ref zy17, .ref zy18, .int 0, .long 0, .ref zy21, .ref zy22, .int 0, .ref zy24, .ref zy25, .ref zy26, .ref zy27])), (zy25, .inl (cy 0, 4, .inl ll))] H := hP
      have hD : va_D A [(zy, .inr (11, [.ref zy0, .ref zy1, .int 0, .int 0, .int 0, .ref zy5, .int 0, .int 0, .ref zy8, .ref zy9, .ref zy10, .ref zy11, .ref zy12, .ref zy13, .ref zy14, .long 0, .ref zy16, .ref zy17, .ref zy18, .int 0, .long 0, .ref zy21, .ref zy22, .int 0, .ref zy24, .ref zy25, .ref zy26, .ref zy27])), (zy25, .inl (cy 0, 4, .inl ll))] := hD
      have hw_13 : r_12 = if 0 ≤ zie.toInt ∧ zie.toInt ≤ 9 then 1 else 0 := hw_13
      refine lv_if_ne (tgt := 36) hx hb dX11_learn_31 (by decide) (fun c_14 => ?_) (fun c_14 => ?_)
      · have f_15 : 0 ≤ zie.toInt ∧ zie.toInt ≤ 9 := bz_1 hw_13 c_14
        refine lv_aload_n hx hb dX11_learn_36 rfl (lv_at hl 0 rfl) ?_
        refine lv_iload_n hx hb dX11_learn_37 rfl (lv_at hl 1 rfl) ?_
        refine lv_iload_n hx hb dX11_learn_38 rfl (lv_at hl 2 rfl) ?_
        refine lv_iload_n hx hb dX11_learn_39 rfl (lv_at hl 3 rfl) ?_
        refine lv_iconst (v := 2) hx hb dX11_learn_40 (by decide) ?_
        refine lv_iload hx hb dX11_learn_41 (lv_at hl 4 rfl) ?_
        refine lv_imul hx hb dX11_learn_43 ?_
        refine lv_topi (fun v_16 ev_16 => ?_)
        have tv_16 : v_16.toInt = (2 : Int) * zid.toInt := by rw [ev_16]; exact tmul (show (2 : Int32).toInt = 2 by decide) (rfl) (by omega) (by omega)
        refine cj_i (wc := [(zy, .inr (11, [.ref zy0, .ref zy1, .int 0, .int 0, .int 0, .ref zy5, .int 0, .int 0, .ref zy8, .ref zy9, .ref zy10, .ref zy11, .ref zy12, .ref zy13, .ref zy14, .long 0, .ref zy16, .ref zy17, .ref zy18, .int 0, .long 0, .ref zy21, .ref zy22, .int 0, .ref zy24, .ref zy25, .ref zy26, .ref zy27])), (zy25, .inl (cy 0, 4, .inl ll))]) (wr := []) (w1 := fun (_ : Unit) => []) (va_runV (As := [.int zia, .int zib, .int zic, .int v_16]) (rest := []) ⟨hx, hb, hml, hown, hts⟩ (c_X11_lacksRow l dC dI cy H.size zy zia zib zic v_16 zy0 zy1 zy5 zy8 zy9 zy10 zy11 zy12 zy13 zy14 zy16 zy17 zy18 zy21 zy22 zy24 zy25 zy26 zy27 (by first | rfl | decide | omega | exact Int32.toInt_toInt64 _)) (cwV 4 hts gX11_learn_X11_lacksRow rfl rfl rfl (by decide +kernel) ⟨(Nat.le_of_ble_eq_true rfl), (Nat.le_of_ble_eq_true rfl)⟩) (PRE.v (hP.sub [0, 1] rfl) hK (hD.sub [0, 1] (by decide) rfl) hN (va_recv hK hP (ci := 11) (q0 := 0) rfl rfl)) rfl rfl hl.1 rfl (lv_room (Nat.le_of_ble_eq_true rfl)) dX11_learn_44 ⟨(Nat.le_of_ble_eq_true rfl), (Nat.le_of_ble_eq_true rfl)⟩) hP hD hS hA [0, 1] [] rfl rfl rfl (by decide) (fun r_18 u_17 H locs hw_19 hP hD hS => ?_)
        have hP : va_P (dC, dI) vwCl [] H := hP
        have hD : va_D A [] := hD
        obtain rfl : r_18 = (-11) := hw_19
        refine lv_istore (lv' := [(6, .int (-11)), (0, .ref zy), (1, .int zia), (2, .int zib), (3, .int zic), (4, .int zid), (5, .int zie)]) hx hb dX11_learn_47 hl (by decide) rfl (fun ls hl => ?_)
        refine lv_iload hx hb dX11_learn_49 (lv_at hl 0 rfl) ?_
        refine lv_if_ge (tgt := 57) hx hb dX11_learn_51 (by decide) (fun c_20 => absurd c_20 (by decide)) (fun c_20 => ?_)
        refine lv_iload hx hb dX11_learn_54 (lv_at hl 0 rfl) ?_
        have hP9 := hP.sub (ws' := []) [] rfl
        have hD9 := hD.sub (ws' := []) [] (by decide) rfl
        exact W.iret (v := (-11)) hx hb hr (fun t ht hW => ⟨⟨(-11), (), rfl, (by unfold an_learn; (repeat' split) <;> first | rfl | (exfalso; omega)), ⟨by rw [ht]; exact hP9, va_K.moved hW.alike hK, hD9⟩⟩, hS.F ht⟩) hS.2.2 dX11_learn_56
      · have f_15 : ¬ (0 ≤ zie.toInt ∧ zie.toInt ≤ 9) := bz_0 hw_13 c_14
        refine lv_iconst (v := (-1)) hx hb dX11_learn_34 (by decide) ?_
        have hP9 := hP.sub (ws' := []) [] rfl
        have hD9 := hD.sub (ws' := []) [] (by decide) rfl
        exact W.iret (v := (-1)) hx hb hr (fun t ht hW => ⟨⟨(-1), (), rfl, (by unfold an_learn; (repeat' split) <;> first | rfl | (exfalso; omega)), ⟨by rw [ht]; exact hP9, va_K.moved hW.alike hK, hD9⟩⟩, hS.F ht⟩) hS.2.2 dX11_learn_35
set_option maxHeartbeats 4000000 in
set_option maxRecDepth 100000 in
theorem c_X11_make (l : Launch) (dC : Nat → ClassId) (dI : Nat → Nat → Nat) (cy : Nat → ClassId) (sz : Nat) (zy : Nat) (zia : Int32) (zy0 : Nat) (zy1 : Nat) (zy5 : Nat) (zy8 : Nat) (zy9 : Nat) (zy10 : Nat) (zy11 : Nat) (zy12 : Nat) (zy13 : Nat) (zy14 : Nat) (zy16 : Nat) (zy17 : Nat) (zy18 : Nat) (zy21 : Nat) (zy22 : Nat) (zy24 : Nat) (zy25 : Nat) (zy26 : Nat) (zy27 : Nat)  : Met l yX11_make wsX11_make ({ frames := 2, cells := 0, slots := 0, locals := 45 }) (va_Pc [.ref zy, .int zia] (PRE dC dI cy [(zy, .inr (11, [.ref zy0, .ref zy1, .int 0, .int 0, .int 0, .ref zy5, .int 0, .int 0, .ref zy8, .ref zy9, .ref zy10, .ref zy11, .ref zy12, .ref zy13, .ref zy14, .long 0, .ref zy16, .ref zy17, .ref zy18, .int 0, .long 0, .ref zy21, .ref zy22, .int 0, .ref zy24, .ref zy25, .ref zy26, .ref zy27])), (zy0, .inl (cy 0, 392, .inl zz))] sz)) (va_Qi (fun (r : Int32) (_ : Unit) => r = an_make zia) (fun u t => POST dC dI cy (va_A [(zy, .inr (11, [.ref zy0, .ref zy1, .int 0, .int 0, .int 0, .ref zy5, .int 0, .int 0, .ref zy8, .ref zy9, .ref zy10, .ref zy11, .ref zy12, .ref zy13, .ref zy14, .long 0, .ref zy16, .ref zy17, .ref zy18, .int 0, .long 0, .ref zy21, .ref zy22, .int 0, .ref zy24, .ref zy25, .ref zy26, .ref zy27])), (zy0, .inl (cy 0, 392, .inl zz))] sz) [] t) (va_A [(zy, .inr (11, [.ref zy0, .ref zy1, .int 0, .int 0, .int 0, .ref zy5, .int 0, .int 0, .ref zy8, .ref zy9, .ref zy10, .ref zy11, .ref zy12, .ref zy13, .ref zy14, .long 0, .ref zy16, .ref zy17, .ref zy18, .int 0, .long 0, .ref zy21, .ref zy22, .int 0, .ref zy24, .ref zy25, .ref zy26, .ref zy27])), (zy0, .inl (cy 0, 392, .inl zz))] sz)) 0 0 (va_A [(zy, .inr (11, [.ref zy0, .ref zy1, .int 0, .int 0, .int 0, .ref zy5, .int 0, .int 0, .ref zy8, .ref zy9, .ref zy10, .ref zy11, .ref zy12, .ref zy13, .ref zy14, .long 0, .ref zy16, .ref zy17, .ref zy18, .int 0, .long 0, .ref zy21, .ref zy22, .int 0, .ref zy24, .ref zy25, .ref zy26, .ref zy27])), (zy0, .inl (cy 0, 392, .inl zz))] sz) := by
  refine Met.ofW (cc := cX11_make) (maxL := 6) (ret := (some .int)) (by decide) rfl ?_
  intro p e s m args below meth c s₁ B hml hv
  obtain ⟨rfl, hsz, hP, hK, hD0, hN⟩ := hv
  have hx := B.exec
  have hb := B.bytes
  have hr := B.returns
  have hts := atoms_spec (ws := wsX11_make) B.pre
  have hown : s.vm.findClass RX11 = some m.cls := findClass_of_methodNamed B.named
  have hlocks := B.notSynchronized
  subst hsz
  have hD := hD0.self (sz := s.heap.size)
  generalize hAe : va_A [(zy, .inr (11, [.ref zy0, .ref zy1, .int 0, .int 0, .int 0, .ref zy5, .int 0, .int 0, .ref zy8, .ref zy9, .ref zy10, .ref zy11, .ref zy12, .ref zy13, .ref zy14, .long 0, .ref zy16, .ref zy17, .ref zy18, .int 0, .long 0, .ref zy21, .ref zy22, .int 0, .ref zy24, .ref zy25, .ref zy26, .ref zy27])), (zy0, .inl (cy 0, 392, .inl zz))] s.heap.size = A at hD ⊢
  have hA : ∀ q : Nat, s.heap.size ≤ q → A q := fun q h => by rw [← hAe]; exact Or.inr h
  have hS : va_S A s.heap s.heap [] := va_S.rf
  have hP : va_P (dC, dI) vwCl [(zy, .inr (11, [.ref zy0, .ref zy1, .int 0, .int 0, .int 0, .ref zy5, .int 0, .int 0, .ref zy8, .ref zy9, .ref zy10, .ref zy11, .ref zy12, .ref zy13, .ref zy14, .long 0, .ref zy16, .ref zy17, .ref zy18, .int 0, .long 0, .ref zy21, .ref zy22, .int 0, .ref zy24, .ref zy25, .ref zy26, .ref zy27])), (zy0, .inl (cy 0, 392, .inl zz))] s.heap := hP
  have hl := lv_entry ([.ref zy, .int zia] : List Value) (n := 6) (Nat.le_of_ble_eq_true rfl)
  rw [lg_entry_eq]
  generalize (lg_sl ([.ref zy, .int zia] : List Value) ++ List.replicate (6 - (lg_sl ([.ref zy, .int zia] : List Value)).length) Slot.unset).toArray = ls at hl ⊢
  have hl : lv_has ls 6 [(0, .ref zy), (1, .int zia)] := hl
  refine lv_iload_n hx hb dX11_make_0 rfl (lv_at hl 1 rfl) ?_
  refine cj_i (wc := []) (wr := [(zy, .inr (11, [.ref zy0, .ref zy1, .int 0, .int 0, .int 0, .ref zy5, .int 0, .int 0, .ref zy8, .ref zy9, .ref zy10, .ref zy11, .ref zy12, .ref zy13, .ref zy14, .long 0, .ref zy16, .ref zy17, .ref zy18, .int 0, .long 0, .ref zy21, .ref zy22, .int 0, .ref zy24, .ref zy25, .ref zy26, .ref zy27])), (zy0, .inl (cy 0, 392, .inl zz))]) (w1 := fun (_ : Unit) => []) (va_runS (As := [.int zia]) (rest := []) ⟨hx, hb, hml, hown, hts⟩ (c_X11_isCandle l dC dI cy s.heap.size zia) (va_cwS 1 hts gX11_make_X11_isCandle rfl rfl rfl (by decide +kernel) ⟨(Nat.le_of_ble_eq_true rfl), (Nat.le_of_ble_eq_true rfl)⟩) (PRE.s (hP.sub [] rfl) hK (hD.sub [] (by decide) rfl) hN) rfl rfl hl.1 rfl (lv_room (Nat.le_of_ble_eq_true rfl)) dX11_make_1 ⟨(Nat.le_of_ble_eq_true rfl), (Nat.le_of_ble_eq_true rfl)⟩) hP hD hS hA [] [0, 1] rfl rfl rfl (by decide) (fun r_2 u_1 H locs hw_3 hP hD hS => ?_)
  have hP : va_P (dC, dI) vwCl [(zy, .inr (11, [.ref zy0, .ref zy1, .int 0, .int 0, .int 0, .ref zy5, .int 0, .int 0, .ref zy8, .ref zy9, .ref zy10, .ref zy11, .ref zy12, .ref zy13, .ref zy14, .long 0, .ref zy16, .ref zy17, .ref zy18, .int 0, .long 0, .ref zy21, .ref zy22, .int 0, .ref zy24, .ref zy25, .ref zy26, .ref zy27])), (zy0, .inl (cy 0, 392, .inl zz))] H := hP
  have hD : va_D A [(zy, .inr (11, [.ref zy0, .ref zy1, .int 0, .int 0, .int 0, .ref zy5, .int 0, .int 0, .ref zy8, .ref zy9, .ref zy10, .ref zy11, .ref zy12, .ref zy13, .ref zy14, .long 0, .ref zy16, .ref zy17, .ref zy18, .int 0, .long 0, .ref zy21, .ref zy22, .int 0, .ref zy24, .ref zy25, .ref zy26, .ref zy27])), (zy0, .inl (cy 0, 392, .inl zz))] := hD
  have hw_3 : r_2 = if 0 ≤ zia.toInt ∧ zia.toInt ≤ 1 then 1 else 0 := hw_3
  refine lv_if_ne (tgt := 9) hx hb dX11_make_4 (by decide) (fun c_4 => ?_) (fun c_4 => ?_)
  · have f_5 : 0 ≤ zia.toInt ∧ zia.toInt ≤ 1 := bz_1 hw_3 c_4
    refine lv_aload_n hx hb dX11_make_9 rfl (lv_at hl 0 rfl) ?_
    refine va_get (D := (dC, dI)) (ci := 11) (v := .ref zy0) (C := RX11) (T := TX11) (N := 28) hx hb hts (by decide +kernel) hown hK hP 0 rfl rfl 0 (by decide) (hts (.fieldLink RX11 7 "DripStoneModel" "z" "[I") (by decide +kernel)) (fun _ h9 => h9) rfl dX11_make_10 ?_
    refine lv_iconst (v := 2) hx hb dX11_make_13 (by decide) ?_
    refine va_iald hx hb hK hP 1 0 rfl rfl (vp_in_iff.mpr ⟨by decide, by decide⟩) dX11_make_14 ?_
    refine W.eq (g2 := F0 m 15 ls [.int 0]) rfl ?_
    refine lv_if_ne (tgt := 21) hx hb dX11_make_15 (by decide) (fun c_6 => absurd (by decide) c_6) (fun c_6 => ?_)
    refine lv_bipush (v := (-2)) hx hb dX11_make_18 (by decide) ?_
    have hP9 := hP.sub (ws' := []) [] rfl
    have hD9 := hD.sub (ws' := []) [] (by decide) rfl
    exact W.iret (v := (-2)) hx hb hr (fun t ht hW => ⟨⟨(-2), (), rfl, (by unfold an_make; (repeat' split) <;> first | rfl | (exfalso; omega)), ⟨by rw [ht]; exact hP9, va_K.moved hW.alike hK, hD9⟩⟩, hS.F ht⟩) hS.2.2 dX11_make_20
  · have f_5 : ¬ (0 ≤ zia.toInt ∧ zia.toInt ≤ 1) := bz_0 hw_3 c_4
    refine lv_iconst (v := (-1)) hx hb dX11_make_7 (by decide) ?_
    have hP9 := hP.sub (ws' := []) [] rfl
    have hD9 := hD.sub (ws' := []) [] (by decide) rfl
    exact W.iret (v := (-1)) hx hb hr (fun t ht hW => ⟨⟨(-1), (), rfl, (by unfold an_make; (repeat' split) <;> first | rfl | (exfalso; omega)), ⟨by rw [ht]; exact hP9, va_K.moved hW.alike hK, hD9⟩⟩, hS.F ht⟩) hS.2.2 dX11_make_8
set_option maxHeartbeats 4000000 in
set_option maxRecDepth 100000 in
theorem c_X11_most (l : Launch) (dC : Nat → ClassId) (dI : Nat → Nat → Nat) (cy : Nat → ClassId) (sz : Nat) (zy : Nat) (zia : Int32) (zib : Int32) (zy0 : Nat) (zy1 : Nat) (zy5 : Nat) (zy8 : Nat) (zy9 : Nat) (zy10 : Nat) (zy11 : Nat) (zy12 : Nat) (zy13 : Nat) (zy14 : Nat) (zy16 : Nat) (zy17 : Nat) (zy18 : Nat) (zy21 : Nat) (zy22 : Nat) (zy24 : Nat) (zy25 : Nat) (zy26 : Nat) (zy27 : Nat)  : Met l yX11_most wsX11_most ({ frames := 2, cells := 0, slots := 0, locals := 45 }) (va_Pc [.ref zy, .int zia, .int zib] (PRE dC dI cy [(zy, .inr (11, [.ref zy0, .ref zy1, .int 0, .int 0, .int 0, .ref zy5, .int 0, .int 0, .ref zy8, .ref zy9, .ref zy10, .ref zy11, .ref zy12, .ref zy13, .ref zy14, .long 0, .ref zy16, .ref zy17, .ref zy18, .int 0, .long 0, .ref zy21, .ref zy22, .int 0, .ref zy24, .ref zy25, .ref zy26, .ref zy27])), (zy0, .inl (cy 0, 392, .inl zz))] sz)) (va_Qi (fun (r : Int32) (_ : Unit) => r = an_most zia zib) (fun u t => POST dC dI cy (va_A [(zy, .inr (11, [.ref zy0, .ref zy1, .int 0, .int 0, .int 0, .ref zy5, .int 0, .int 0, .ref zy8, .ref zy9, .ref zy10, .ref zy11, .ref zy12, .ref zy13, .ref zy14, .long 0, .ref zy16, .ref zy17, .ref zy18, .int 0, .long 0, .ref zy21, .ref zy22, .int 0, .ref zy24, .ref zy25, .ref zy26, .ref zy27])), (zy0, .inl (cy 0, 392, .inl zz))] sz) [] t) (va_A [(zy, .inr (11, [.ref zy0, .ref zy1, .int 0, .int 0, .int 0, .ref zy5, .int 0, .int 0, .ref zy8, .ref zy9, .ref zy10, .ref zy11, .ref zy12, .ref zy13, .ref zy14, .long 0, .ref zy16, .ref zy17, .ref zy18, .int 0, .long 0, .ref zy21, .ref zy22, .int 0, .ref zy24, .ref zy25, .ref zy26, .ref zy27])), (zy0, .inl (cy 0, 392, .inl zz))] sz)) 0 0 (va_A [(zy, .inr (11, [.ref zy0, .ref zy1, .int 0, .int 0, .int 0, .ref zy5, .int 0, .int 0, .ref zy8, .ref zy9, .ref zy10, .ref zy11, .ref zy12, .ref zy13, .ref zy14, .long 0, .ref zy16, .ref zy17, .ref zy18, .int 0, .long 0, .ref zy21, .ref zy22, .int 0, .ref zy24, .ref zy25, .ref zy26, .ref zy27])), (zy0, .inl (cy 0, 392, .inl zz))] sz) := by
  refine Met.ofW (cc := cX11_most) (maxL := 4) (ret := (some .int)) (by decide) rfl ?_
  intro p e s m args below meth c s₁ B hml hv
  obtain ⟨rfl, hsz, hP, hK, hD0, hN⟩ := hv
  have hx := B.exec
  have hb := B.bytes
  have hr := B.returns
  have hts := atoms_spec (ws := wsX11_most) B.pre
  have hown : s.vm.findClass RX11 = some m.cls := findClass_of_methodNamed B.named
  have hlocks := B.notSynchronized
  subst hsz
  have hD := hD0.self (sz := s.heap.size)
  generalize hAe : va_A [(zy, .inr (11, [.ref zy0, .ref zy1, .int 0, .int 0, .int 0, .ref zy5, .int 0, .int 0, .ref zy8, .ref zy9, .ref zy10, .ref zy11, .ref zy12, .ref zy13, .ref zy14, .long 0, .ref zy16, .ref zy17, .ref zy18, .int 0, .long 0, .ref zy21, .ref zy22, .int 0, .ref zy24, .ref zy25, .ref zy26, .ref zy27])), (zy0, .inl (cy 0, 392, .inl zz))] s.heap.size = A at hD ⊢
  have hA : ∀ q : Nat, s.heap.size ≤ q → A q := fun q h => by rw [← hAe]; exact Or.inr h
  have hS : va_S A s.heap s.heap [] := va_S.rf
  have hP : va_P (dC, dI) vwCl [(zy, .inr (11, [.ref zy0, .ref zy1, .int 0, .int 0, .int 0, .ref zy5, .int 0, .int 0, .ref zy8, .ref zy9, .ref zy10, .ref zy11, .ref zy12, .ref zy13, .ref zy14, .long 0, .ref zy16, .ref zy17, .ref zy18, .int 0, .long 0, .ref zy21, .ref zy22, .int 0, .ref zy24, .ref zy25, .ref zy26, .ref zy27])), (zy0, .inl (cy 0, 392, .inl zz))] s.heap := hP
  have hl := lv_entry ([.ref zy, .int zia, .int zib] : List Value) (n := 4) (Nat.le_of_ble_eq_true rfl)
  rw [lg_entry_eq]
  generalize (lg_sl ([.ref zy, .int zia, .int zib] : List Value) ++ List.replicate (4 - (lg_sl ([.ref zy, .int zia, .int zib] : List Value)).length) Slot.unset).toArray = ls at hl ⊢
  have hl : lv_has ls 4 [(0, .ref zy), (1, .int zia), (2, .int zib)] := hl
  refine lv_iload_n hx hb dX11_most_0 rfl (lv_at hl 1 rfl) ?_
  refine cj_i (wc := []) (wr := [(zy, .inr (11, [.ref zy0, .ref zy1, .int 0, .int 0, .int 0, .ref zy5, .int 0, .int 0, .ref zy8, .ref zy9, .ref zy10, .ref zy11, .ref zy12, .ref zy13, .ref zy14, .long 0, .ref zy16, .ref zy17, .ref zy18, .int 0, .long 0, .ref zy21, .ref zy22, .int 0, .ref zy24, .ref zy25, .ref zy26, .ref zy27])), (zy0, .inl (cy 0, 392, .inl zz))]) (w1 := fun (_ : Unit) => []) (va_runS (As := [.int zia]) (rest := []) ⟨hx, hb, hml, hown, hts⟩ (c_X11_isCandle l dC dI cy s.heap.size zia) (va_cwS 1 hts gX11_most_X11_isCandle rfl rfl rfl (by decide +kernel) ⟨(Nat.le_of_ble_eq_true rfl), (Nat.le_of_ble_eq_true rfl)⟩) (PRE.s (hP.sub [] rfl) hK (hD.sub [] (by decide) rfl) hN) rfl rfl hl.1 rfl (lv_room (Nat.le_of_ble_eq_true rfl)) dX11_most_1 ⟨(Nat.le_of_ble_eq_true rfl), (Nat.le_of_ble_eq_true rfl)⟩) hP hD hS hA [] [0, 1] rfl rfl rfl (by decide) (fun r_2 u_1 H locs hw_3 hP hD hS => ?_)
  have hP : va_P (dC, dI) vwCl [(zy, .inr (11, [.ref zy0, .ref zy1, .int 0, .int 0, .int 0, .ref zy5, .int 0, .int 0, .ref zy8, .ref zy9, .ref zy10, .ref zy11, .ref zy12, .ref zy13, .ref zy14, .long 0, .ref zy16, .ref zy17, .ref zy18, .int 0, .long 0, .ref zy21, .ref zy22, .int 0, .ref zy24, .ref zy25, .ref zy26, .ref zy27])), (zy0, .inl (cy 0, 392, .inl zz))] H := hP
  have hD : va_D A [(zy, .inr (11, [.ref zy0, .ref zy1, .int 0, .int 0, .int 0, .ref zy5, .int 0, .int 0, .ref zy8, .ref zy9, .ref zy10, .ref zy11, .ref zy12, .ref zy13, .ref zy14, .long 0, .ref zy16, .ref zy17, .ref zy18, .int 0, .long 0, .ref zy21, .ref zy22, .int 0, .ref zy24, .ref zy25, .ref zy26, .ref zy27])), (zy0, .inl (cy 0, 392, .inl zz))] := hD
  have hw_3 : r_2 = if 0 ≤ zia.toInt ∧ zia.toInt ≤ 1 then 1 else 0 := hw_3
  refine lv_if_eq (tgt := 19) hx hb dX11_most_4 (by decide) (fun c_4 => ?_) (fun c_4 => ?_)
  · have f_5 : ¬ (0 ≤ zia.toInt ∧ zia.toInt ≤ 1) := bz_0 hw_3 c_4
    refine lv_iconst (v := (-1)) hx hb dX11_most_19 (by decide) ?_
    have hP9 := hP.sub (ws' := []) [] rfl
    have hD9 := hD.sub (ws' := []) [] (by decide) rfl
    exact W.iret (v := (-1)) hx hb hr (fun t ht hW => ⟨⟨(-1), (), rfl, (by unfold an_most; (repeat' split) <;> first | rfl | (exfalso; omega)), ⟨by rw [ht]; exact hP9, va_K.moved hW.alike hK, hD9⟩⟩, hS.F ht⟩) hS.2.2 dX11_most_20
  · have f_5 : 0 ≤ zia.toInt ∧ zia.toInt ≤ 1 := bz_1 hw_3 c_4
    refine lv_iload_n hx hb dX11_most_7 rfl (lv_at hl 2 rfl) ?_
    refine lv_i2l (v := zib.toInt64) hx hb dX11_most_8 rfl ?_
    refine lv_lconst (v := 1) hx hb dX11_most_9 (by decide) ?_
    refine lv_ldc2 (v := 4) hx hb hown (hts (.constantLong RX11 136 4) (by decide +kernel)) dX11_most_10 ?_
    refine cj_i (wc := []) (wr := [(zy, .inr (11, [.ref zy0, .ref zy1, .int 0, .int 0, .int 0, .ref zy5, .int 0, .int 0, .ref zy8, .ref zy9, .ref zy10, .ref zy11, .ref zy12, .ref zy13, .ref zy14, .long 0, .ref zy16, .ref zy17, .ref zy18, .int 0, .long 0, .ref zy21, .ref zy22, .int 0, .ref zy24, .ref zy25, .ref zy26, .ref zy27])), (zy0, .inl (cy 0, 392, .inl zz))]) (w1 := fun (_ : Unit) => []) (va_runS (As := [.long zib.toInt64, .long 1, .long 4]) (rest := []) ⟨hx, hb, hml, hown, hts⟩ (c_X11_in l dC dI cy H.size zib.toInt64 1 4 1 4 zib.toInt (by first | rfl | decide | omega | exact Int32.toInt_toInt64 _) (by first | rfl | decide | omega | exact Int32.toInt_toInt64 _) (by first | rfl | decide | omega | exact Int32.toInt_toInt64 _)) (va_cwS 3 hts gX11_most_X11_in rfl rfl rfl (by decide +kernel) ⟨(Nat.le_of_ble_eq_true rfl), (Nat.le_of_ble_eq_true rfl)⟩) (PRE.s (hP.sub [] rfl) hK (hD.sub [] (by decide) rfl) hN) rfl rfl hl.1 rfl (lv_room (Nat.le_of_ble_eq_true rfl)) dX11_most_13 ⟨(Nat.le_of_ble_eq_true rfl), (Nat.le_of_ble_eq_true rfl)⟩) hP hD hS hA [] [0, 1] rfl rfl rfl (by decide) (fun r_7 u_6 H locs hw_8 hP hD hS => ?_)
    have hP : va_P (dC, dI) vwCl [(zy, .inr (11, [.ref zy0, .ref zy1, .int 0, .int 0, .int 0, .ref zy5, .int 0, .int 0, .ref zy8, .ref zy9, .ref zy10, .ref zy11, .ref zy12, .ref zy13, .ref zy14, .long 0, .ref zy16, .ref zy17, .ref zy18, .int 0, .long 0, .ref zy21, .ref zy22, .int 0, .ref zy24, .ref zy25, .ref zy26, .ref zy27])), (zy0, .inl (cy 0, 392, .inl zz))] H := hP
    have hD : va_D A [(zy, .inr (11, [.ref zy0, .ref zy1, .int 0, .int 0, .int 0, .ref zy5, .int 0, .int 0, .ref zy8, .ref zy9, .ref zy10, .ref zy11, .ref zy12, .ref zy13, .ref zy14, .long 0, .ref zy16, .ref zy17, .ref zy18, .int 0, .long 0, .ref zy21, .ref zy22, .int 0, .ref zy24, .ref zy25, .ref zy26, .ref zy27])), (zy0, .inl (cy 0, 392, .inl zz))] := hD
    have hw_8 : r_7 = if 1 ≤ zib.toInt ∧ zib.toInt ≤ 4 then 1 else 0 := hw_8
    refine lv_if_ne (tgt := 21) hx hb dX11_most_16 (by decide) (fun c_9 => ?_) (fun c_9 => ?_)
    · have f_10 : 1 ≤ zib.toInt ∧ zib.toInt ≤ 4 := bz_1 hw_8 c_9
      refine lv_aload_n hx hb dX11_most_21 rfl (lv_at hl 0 rfl) ?_
      refine va_get (D := (dC, dI)) (ci := 11) (v := .ref zy0) (C := RX11) (T := TX11) (N := 28) hx hb hts (by decide +kernel) hown hK hP 0 rfl rfl 0 (by decide) (hts (.fieldLink RX11 7 "DripStoneModel" "z" "[I") (by decide +kernel)) (fun _ h9 => h9) rfl dX11_most_22 ?_
      refine lv_iconst (v := 3) hx hb dX11_most_25 (by decide) ?_
      refine lv_iload_n hx hb dX11_most_26 rfl (lv_at hl 1 rfl) ?_
      refine lv_iadd hx hb dX11_most_27 ?_
      refine lv_topi (fun v_11 ev_11 => ?_)
      have tv_11 : v_11.toInt = (3 : Int) + zia.toInt := by rw [ev_11]; exact tadd (show (3 : Int32).toInt = 3 by decide) (rfl) (by omega) (by omega)
      refine va_iald hx hb hK hP 1 0 rfl rfl (vp_in_iff.mpr ⟨by omega, by omega⟩) dX11_most_28 ?_
      refine lv_topi (fun v_12 ev_12 => ?_)
      obtain rfl : v_12 = (2 : Int32) := ev_12.trans (zz_m (by omega) (by omega))
      refine lv_istore_n (lv' := [(3, .int 2), (0, .ref zy), (1, .int zia), (2, .int zib)]) hx hb dX11_most_29 rfl hl (by decide) rfl (fun ls hl => ?_)
      refine lv_aload_n hx hb dX11_most_30 rfl (lv_at hl 1 rfl) ?_
      refine va_get (D := (dC, dI)) (ci := 11) (v := .ref zy0) (C := RX11) (T := TX11) (N := 28) hx hb hts (by decide +kernel) hown hK hP 0 rfl rfl 0 (by decide) (hts (.fieldLink RX11 7 "DripStoneModel" "z" "[I") (by decide +kernel)) (fun _ h9 => h9) rfl dX11_most_31 ?_
      refine lv_iconst (v := 3) hx hb dX11_most_34 (by decide) ?_
      refine lv_iload_n hx hb dX11_most_35 rfl (lv_at hl 2 rfl) ?_
      refine lv_iadd hx hb dX11_most_36 ?_
      refine lv_topi (fun v_13 ev_13 => ?_)
      have tv_13 : v_13.toInt = (3 : Int) + zia.toInt := by rw [ev_13]; exact tadd (show (3 : Int32).toInt = 3 by decide) (rfl) (by omega) (by omega)
      refine lv_iload_n hx hb dX11_most_37 rfl (lv_at hl 3 rfl) ?_
      refine va_iast hx hb hK hP hD hS 1 0 rfl rfl (vp_in_iff.mpr ⟨by omega, by omega⟩) dX11_most_38 (fun H locs hP hD hS => ?_)
      have hP : va_P (dC, dI) vwCl [(zy, .inr (11, [.ref zy0, .ref zy1, .int 0, .int 0, .int 0, .ref zy5, .int 0, .int 0, .ref zy8, .ref zy9, .ref zy10, .ref zy11, .ref zy12, .ref zy13, .ref zy14, .long 0, .ref zy16, .ref zy17, .ref zy18, .int 0, .long 0, .ref zy21, .ref zy22, .int 0, .ref zy24, .ref zy25, .ref zy26, .ref zy27])), (zy0, .inl (cy 0, 392, .inl (upd zz v_13.toNatClampNeg zib)))] H := hP
      have hD : va_D A [(zy, .inr (11, [.ref zy0, .ref zy1, .int 0, .int 0, .int 0, .ref zy5, .int 0, .int 0, .ref zy8, .ref zy9, .ref zy10, .ref zy11, .ref zy12, .ref zy13, .ref zy14, .long 0, .ref zy16, .ref zy17, .ref zy18, .int 0, .long 0, .ref zy21, .ref zy22, .int 0, .ref zy24, .ref zy25, .ref zy26, .ref zy27])), (zy0, .inl (cy 0, 392, .inl (upd zz v_13.toNatClampNeg zib)))] := hD
      refine lv_iload_n hx hb dX11_most_39 rfl (lv_at hl 0 rfl) ?_
      have hP9 := hP.sub (ws' := []) [] rfl
      have hD9 := hD.sub (ws' := []) [] (by decide) rfl
      exact W.iret (v := 2) hx hb hr (fun t ht hW => ⟨⟨2, (), rfl, (by unfold an_most; (repeat' split) <;> first | rfl | (exfalso; omega)), ⟨by rw [ht]; exact hP9, va_K.moved hW.alike hK, hD9⟩⟩, hS.F ht⟩) hS.2.2 dX11_most_40
    · have f_10 : ¬ (1 ≤ zib.toInt ∧ zib.toInt ≤ 4) := bz_0 hw_8 c_9
      refine lv_iconst (v := (-1)) hx hb dX11_most_19 (by decide) ?_
      have hP9 := hP.sub (ws' := []) [] rfl
      have hD9 := hD.sub (ws' := []) [] (by decide) rfl
      exact W.iret (v := (-1)) hx hb hr (fun t ht hW => ⟨⟨(-1), (), rfl, (by unfold an_most; (repeat' split) <;> first | rfl | (exfalso; omega)), ⟨by rw [ht]; exact hP9, va_K.moved hW.alike hK, hD9⟩⟩, hS.F ht⟩) hS.2.2 dX11_most_20
set_option maxHeartbeats 4000000 in
set_option maxRecDepth 100000 in
theorem c_X11_count (l : Launch) (dC : Nat → ClassId) (dI : Nat → Nat → Nat) (cy : Nat → ClassId) (sz : Nat) (zy : Nat) (zia : Int32) (zy0 : Nat) (zy1 : Nat) (zy5 : Nat) (zy8 : Nat) (zy9 : Nat) (zy10 : Nat) (zy11 : Nat) (zy12 : Nat) (zy13 : Nat) (zy14 : Nat) (zy16 : Nat) (zy17 : Nat) (zy18 : Nat) (zy21 : Nat) (zy22 : Nat) (zy24 : Nat) (zy25 : Nat) (zy26 : Nat) (zy27 : Nat)  : Met l yX11_count wsX11_count ({ frames := 1, cells := 0, slots := 0, locals := 23 }) (va_Pc [.ref zy, .int zia] (PRE dC dI cy [(zy, .inr (11, [.ref zy0, .ref zy1, .int 0, .int 0, .int 0, .ref zy5, .int 0, .int 0, .ref zy8, .ref zy9, .ref zy10, .ref zy11, .ref zy12, .ref zy13, .ref zy14, .long 0, .ref zy16, .ref zy17, .ref zy18, .int 0, .long 0, .ref zy21, .ref zy22, .int 0, .ref zy24, .ref zy25, .ref zy26, .ref zy27])), (zy0, .inl (cy 0, 392, .inl zz))] sz)) (va_Qi (fun (r : Int32) (_ : Unit) => r = an_count zia) (fun u t => POST dC dI cy (va_A [(zy, .inr (11, [.ref zy0, .ref zy1, .int 0, .int 0, .int 0, .ref zy5, .int 0, .int 0, .ref zy8, .ref zy9, .ref zy10, .ref zy11, .ref zy12, .ref zy13, .ref zy14, .long 0, .ref zy16, .ref zy17, .ref zy18, .int 0, .long 0, .ref zy21, .ref zy22, .int 0, .ref zy24, .ref zy25, .ref zy26, .ref zy27])), (zy0, .inl (cy 0, 392, .inl zz))] sz) [] t) (va_A [(zy, .inr (11, [.ref zy0, .ref zy1, .int 0, .int 0, .int 0, .ref zy5, .int 0, .int 0, .ref zy8, .ref zy9, .ref zy10, .ref zy11, .ref zy12, .ref zy13, .ref zy14, .long 0, .ref zy16, .ref zy17, .ref zy18, .int 0, .long 0, .ref zy21, .ref zy22, .int 0, .ref zy24, .ref zy25, .ref zy26, .ref zy27])), (zy0, .inl (cy 0, 392, .inl zz))] sz)) 0 0 (va_A [(zy, .inr (11, [.ref zy0, .ref zy1, .int 0, .int 0, .int 0, .ref zy5, .int 0, .int 0, .ref zy8, .ref zy9, .ref zy10, .ref zy11, .ref zy12, .ref zy13, .ref zy14, .long 0, .ref zy16, .ref zy17, .ref zy18, .int 0, .long 0, .ref zy21, .ref zy22, .int 0, .ref zy24, .ref zy25, .ref zy26, .ref zy27])), (zy0, .inl (cy 0, 392, .inl zz))] sz) := by
  refine Met.ofW (cc := cX11_count) (maxL := 4) (ret := (some .int)) (by decide) rfl ?_
  intro p e s m args below meth c s₁ B hml hv
  obtain ⟨rfl, hsz, hP, hK, hD0, hN⟩ := hv
  have hx := B.exec
  have hb := B.bytes
  have hr := B.returns
  have hts := atoms_spec (ws := wsX11_count) B.pre
  have hown : s.vm.findClass RX11 = some m.cls := findClass_of_methodNamed B.named
  have hlocks := B.notSynchronized
  subst hsz
  have hD := hD0.self (sz := s.heap.size)
  generalize hAe : va_A [(zy, .inr (11, [.ref zy0, .ref zy1, .int 0, .int 0, .int 0, .ref zy5, .int 0, .int 0, .ref zy8, .ref zy9, .ref zy10, .ref zy11, .ref zy12, .ref zy13, .ref zy14, .long 0, .ref zy16, .ref zy17, .ref zy18, .int 0, .long 0, .ref zy21, .ref zy22, .int 0, .ref zy24, .ref zy25, .ref zy26, .ref zy27])), (zy0, .inl (cy 0, 392, .inl zz))] s.heap.size = A at hD ⊢
  have hA : ∀ q : Nat, s.heap.size ≤ q → A q := fun q h => by rw [← hAe]; exact Or.inr h
  have hS : va_S A s.heap s.heap [] := va_S.rf
  have hP : va_P (dC, dI) vwCl [(zy, .inr (11, [.ref zy0, .ref zy1, .int 0, .int 0, .int 0, .ref zy5, .int 0, .int 0, .ref zy8, .ref zy9, .ref zy10, .ref zy11, .ref zy12, .ref zy13, .ref zy14, .long 0, .ref zy16, .ref zy17, .ref zy18, .int 0, .long 0, .ref zy21, .ref zy22, .int 0, .ref zy24, .ref zy25, .ref zy26, .ref zy27])), (zy0, .inl (cy 0, 392, .inl zz))] s.heap := hP
  have hl := lv_entry ([.ref zy, .int zia] : List Value) (n := 4) (Nat.le_of_ble_eq_true rfl)
  rw [lg_entry_eq]
  generalize (lg_sl ([.ref zy, .int zia] : List Value) ++ List.replicate (4 - (lg_sl ([.ref zy, .int zia] : List Value)).length) Slot.unset).toArray = ls at hl ⊢
  have hl : lv_has ls 4 [(0, .ref zy), (1, .int zia)] := hl
  refine lv_iload_n hx hb dX11_count_0 rfl (lv_at hl 1 rfl) ?_
  rcases sw_7 zia with k_1 | rfl | rfl | rfl | rfl | rfl | rfl | rfl | rfl
  · refine lv_tableOut (tgt := 138) hx hb dX11_count_1 (by omega) (by decide) ?_
    refine lv_iconst (v := (-1)) hx hb dX11_count_138 (by decide) ?_
    have hP9 := hP.sub (ws' := []) [] rfl
    have hD9 := hD.sub (ws' := []) [] (by decide) rfl
    exact W.iret (v := (-1)) hx hb hr (fun t ht hW => ⟨⟨(-1), (), rfl, (by unfold an_count; (repeat' split) <;> first | rfl | (exfalso; omega)), ⟨by rw [ht]; exact hP9, va_K.moved hW.alike hK, hD9⟩⟩, hS.F ht⟩) hS.2.2 dX11_count_139
  · have zk_1_0 : (0 : Int32).toInt = 0 := by decide
    refine lv_tableIn (off := 47) (tgt := 48) hx hb dX11_count_1 (by decide) (by decide) (by decide) (by decide) ?_
    refine lv_aload_n hx hb dX11_count_48 rfl (lv_at hl 0 rfl) ?_
    refine va_get (D := (dC, dI)) (ci := 11) (v := .ref zy0) (C := RX11) (T := TX11) (N := 28) hx hb hts (by decide +kernel) hown hK hP 0 rfl rfl 0 (by decide) (hts (.fieldLink RX11 7 "DripStoneModel" "z" "[I") (by decide +kernel)) (fun _ h9 => h9) rfl dX11_count_49 ?_
    refine lv_bipush (v := 11) hx hb dX11_count_52 (by decide) ?_
    refine va_iald hx hb hK hP 1 0 rfl rfl (vp_in_iff.mpr ⟨by decide, by decide⟩) dX11_count_54 ?_
    refine W.eq (g2 := F0 m 55 ls [.int 0]) rfl ?_
    have hP9 := hP.sub (ws' := []) [] rfl
    have hD9 := hD.sub (ws' := []) [] (by decide) rfl
    exact W.iret (v := 0) hx hb hr (fun t ht hW => ⟨⟨0, (), rfl, (by unfold an_count; (repeat' split) <;> first | rfl | (exfalso; omega)), ⟨by rw [ht]; exact hP9, va_K.moved hW.alike hK, hD9⟩⟩, hS.F ht⟩) hS.2.2 dX11_count_55
  · have zk_1_1 : (1 : Int32).toInt = 1 := by decide
    refine lv_tableIn (off := 55) (tgt := 56) hx hb dX11_count_1 (by decide) (by decide) (by decide) (by decide) ?_
    refine lv_iconst (v := 0) hx hb dX11_count_56 (by decide) ?_
    refine lv_istore_n (lv' := [(2, .int 0), (0, .ref zy), (1, .int 1)]) hx hb dX11_count_57 rfl hl (by decide) rfl (fun ls hl => ?_)
    refine lv_iconst (v := 0) hx hb dX11_count_58 (by decide) ?_
    refine lv_istore_n (lv' := [(3, .int 0), (2, .int 0), (0, .ref zy), (1, .int 1)]) hx hb dX11_count_59 rfl hl (by decide) rfl (fun ls hl => ?_)
    refine lv_iload_n hx hb dX11_count_60 rfl (lv_at hl 0 rfl) ?_
    refine lv_aload_n hx hb dX11_count_61 rfl (lv_at hl 2 rfl) ?_
    refine va_get (D := (dC, dI)) (ci := 11) (v := .ref zy0) (C := RX11) (T := TX11) (N := 28) hx hb hts (by decide +kernel) hown hK hP 0 rfl rfl 0 (by decide) (hts (.fieldLink RX11 7 "DripStoneModel" "z" "[I") (by decide +kernel)) (fun _ h9 => h9) rfl dX11_count_62 ?_
    refine lv_bipush (v := 11) hx hb dX11_count_65 (by decide) ?_
    refine va_iald hx hb hK hP 1 0 rfl rfl (vp_in_iff.mpr ⟨by decide, by decide⟩) dX11_count_67 ?_
    refine W.eq (g2 := F0 m 68 ls [.int 0, .int 0]) rfl ?_
    refine lv_icmp_ge (tgt := 100) hx hb dX11_count_68 (by decide) (fun c_2 => ?_) (fun c_2 => absurd (by decide) c_2)
    refine lv_iload_n hx hb dX11_count_100 rfl (lv_at hl 1 rfl) ?_
    have hP9 := hP.sub (ws' := []) [] rfl
    have hD9 := hD.sub (ws' := []) [] (by decide) rfl
    exact W.iret (v := 0) hx hb hr (fun t ht hW => ⟨⟨0, (), rfl, (by unfold an_count; (repeat' split) <;> first | rfl | (exfalso; omega)), ⟨by rw [ht]; exact hP9, va_K.moved hW.alike hK, hD9⟩⟩, hS.F ht⟩) hS.2.2 dX11_count_101
  · have zk_1_2 : (2 : Int32).toInt = 2 := by decide
    refine lv_tableIn (off := 101) (tgt := 102) hx hb dX11_count_1 (by decide) (by decide) (by decide) (by decide) ?_
    refine lv_aload_n hx hb dX11_count_102 rfl (lv_at hl 0 rfl) ?_
    refine va_get (D := (dC, dI)) (ci := 11) (v := .ref zy0) (C := RX11) (T := TX11) (N := 28) hx hb hts (by decide +kernel) hown hK hP 0 rfl rfl 0 (by decide) (hts (.fieldLink RX11 7 "DripStoneModel" "z" "[I") (by decide +kernel)) (fun _ h9 => h9) rfl dX11_count_103 ?_
    refine lv_bipush (v := 12) hx hb dX11_count_106 (by decide) ?_
    refine va_iald hx hb hK hP 1 0 rfl rfl (vp_in_iff.mpr ⟨by decide, by decide⟩) dX11_count_108 ?_
    refine W.eq (g2 := F0 m 109 ls [.int 0]) rfl ?_
    have hP9 := hP.sub (ws' := []) [] rfl
    have hD9 := hD.sub (ws' := []) [] (by decide) rfl
    exact W.iret (v := 0) hx hb hr (fun t ht hW => ⟨⟨0, (), rfl, (by unfold an_count; (repeat' split) <;> first | rfl | (exfalso; omega)), ⟨by rw [ht]; exact hP9, va_K.moved hW.alike hK, hD9⟩⟩, hS.F ht⟩) hS.2.2 dX11_count_109
  · have zk_1_3 : (3 : Int32).toInt = 3 := by decide
    refine lv_tableIn (off := 109) (tgt := 110) hx hb dX11_count_1 (by decide) (by decide) (by decide) (by decide) ?_
    refine lv_aload_n hx hb dX11_count_110 rfl (lv_at hl 0 rfl) ?_
    refine va_get (D := (dC, dI)) (ci := 11) (v := .ref zy0) (C := RX11) (T := TX11) (N := 28) hx hb hts (by decide +kernel) hown hK hP 0 rfl rfl 0 (by decide) (hts (.fieldLink RX11 7 "DripStoneModel" "z" "[I") (by decide +kernel)) (fun _ h9 => h9) rfl dX11_count_111 ?_
    refine lv_bipush (v := 13) hx hb dX11_count_114 (by decide) ?_
    refine va_iald hx hb hK hP 1 0 rfl rfl (vp_in_iff.mpr ⟨by decide, by decide⟩) dX11_count_116 ?_
    refine W.eq (g2 := F0 m 117 ls [.int 0]) rfl ?_
    have hP9 := hP.sub (ws' := []) [] rfl
    have hD9 := hD.sub (ws' := []) [] (by decide) rfl
    exact W.iret (v := 0) hx hb hr (fun t ht hW => ⟨⟨0, (), rfl, (by unfold an_count; (repeat' split) <;> first | rfl | (exfalso; omega)), ⟨by rw [ht]; exact hP9, va_K.moved hW.alike hK, hD9⟩⟩, hS.F ht⟩) hS.2.2 dX11_count_117
  · have zk_1_4 : (4 : Int32).toInt = 4 := by decide
    refine lv_tableIn (off := 117) (tgt := 118) hx hb dX11_count_1 (by decide) (by decide) (by decide) (by decide) ?_
    refine lv_aload_n hx hb dX11_count_118 rfl (lv_at hl 0 rfl) ?_
    refine va_get (D := (dC, dI)) (ci := 11) (v := .ref zy0) (C := RX11) (T := TX11) (N := 28) hx hb hts (by decide +kernel) hown hK hP 0 rfl rfl 0 (by decide) (hts (.fieldLink RX11 7 "DripStoneModel" "z" "[I") (by decide +kernel)) (fun _ h9 => h9) rfl dX11_count_119 ?_
    refine lv_iconst (v := 5) hx hb dX11_count_122 (by decide) ?_
    refine lv_iload_n hx hb dX11_count_123 rfl (lv_at hl 1 rfl) ?_
    refine lv_iadd hx hb dX11_count_124 ?_
    refine lv_topi (fun v_3 ev_3 => ?_)
    obtain rfl : v_3 = (9 : Int32) := ev_3.trans (by decide)
    refine lv_iconst (v := 4) hx hb dX11_count_125 (by decide) ?_
    refine lv_isub hx hb dX11_count_126 ?_
    refine lv_topi (fun v_4 ev_4 => ?_)
    obtain rfl : v_4 = (5 : Int32) := ev_4.trans (by decide)
    refine va_iald hx hb hK hP 1 0 rfl rfl (vp_in_iff.mpr ⟨by decide, by decide⟩) dX11_count_127 ?_
    refine W.eq (g2 := F0 m 128 ls [.int 0]) rfl ?_
    have hP9 := hP.sub (ws' := []) [] rfl
    have hD9 := hD.sub (ws' := []) [] (by decide) rfl
    exact W.iret (v := 0) hx hb hr (fun t ht hW => ⟨⟨0, (), rfl, (by unfold an_count; (repeat' split) <;> first | rfl | (exfalso; omega)), ⟨by rw [ht]; exact hP9, va_K.moved hW.alike hK, hD9⟩⟩, hS.F ht⟩) hS.2.2 dX11_count_128
  · have zk_1_5 : (5 : Int32).toInt = 5 := by decide
    refine lv_tableIn (off := 117) (tgt := 118) hx hb dX11_count_1 (by decide) (by decide) (by decide) (by decide) ?_
    refine lv_aload_n hx hb dX11_count_118 rfl (lv_at hl 0 rfl) ?_
    refine va_get (D := (dC, dI)) (ci := 11) (v := .ref zy0) (C := RX11) (T := TX11) (N := 28) hx hb hts (by decide +kernel) hown hK hP 0 rfl rfl 0 (by decide) (hts (.fieldLink RX11 7 "DripStoneModel" "z" "[I") (by decide +kernel)) (fun _ h9 => h9) rfl dX11_count_119 ?_
    refine lv_iconst (v := 5) hx hb dX11_count_122 (by decide) ?_
    refine lv_iload_n hx hb dX11_count_123 rfl (lv_at hl 1 rfl) ?_
    refine lv_iadd hx hb dX11_count_124 ?_
    refine lv_topi (fun v_5 ev_5 => ?_)
    obtain rfl : v_5 = (10 : Int32) := ev_5.trans (by decide)
    refine lv_iconst (v := 4) hx hb dX11_count_125 (by decide) ?_
    refine lv_isub hx hb dX11_count_126 ?_
    refine lv_topi (fun v_6 ev_6 => ?_)
    obtain rfl : v_6 = (6 : Int32) := ev_6.trans (by decide)
    refine va_iald hx hb hK hP 1 0 rfl rfl (vp_in_iff.mpr ⟨by decide, by decide⟩) dX11_count_127 ?_
    refine W.eq (g2 := F0 m 128 ls [.int 0]) rfl ?_
    have hP9 := hP.sub (ws' := []) [] rfl
    have hD9 := hD.sub (ws' := []) [] (by decide) rfl
    exact W.iret (v := 0) hx hb hr (fun t ht hW => ⟨⟨0, (), rfl, (by unfold an_count; (repeat' split) <;> first | rfl | (exfalso; omega)), ⟨by rw [ht]; exact hP9, va_K.moved hW.alike hK, hD9⟩⟩, hS.F ht⟩) hS.2.2 dX11_count_128
  · have zk_1_6 : (6 : Int32).toInt = 6 := by decide
    refine lv_tableIn (off := 128) (tgt := 129) hx hb dX11_count_1 (by decide) (by decide) (by decide) (by decide) ?_
    refine lv_aload_n hx hb dX11_count_129 rfl (lv_at hl 0 rfl) ?_
    refine lv_iload_n hx hb dX11_count_130 rfl (lv_at hl 1 rfl) ?_
    refine lv_bipush (v := 6) hx hb dX11_count_131 (by decide) ?_
    refine lv_isub hx hb dX11_count_133 ?_
    refine lv_topi (fun v_7 ev_7 => ?_)
    obtain rfl : v_7 = (0 : Int32) := ev_7.trans (by decide)
    refine cj_i (wc := [(zy, .inr (11, [.ref zy0, .ref zy1, .int 0, .int 0, .int 0, .ref zy5, .int 0, .int 0, .ref zy8, .ref zy9, .ref zy10, .ref zy11, .ref zy12, .ref zy13, .ref zy14, .long 0, .ref zy16, .ref zy17, .ref zy18, .int 0, .long 0, .ref zy21, .ref zy22, .int 0, .ref zy24, .ref zy25, .ref zy26, .ref zy27])), (zy0, .inl (cy 0, 392, .inl zz))]) (wr := []) (w1 := fun (_ : Unit) => [(zy, .inr (11, [.ref zy0, .ref zy1, .int 0, .int 0, .int 0, .ref zy5, .int 0, .int 0, .ref zy8, .ref zy9, .ref zy10, .ref zy11, .ref zy12, .ref zy13, .ref zy14, .long 0, .ref zy16, .ref zy17, .ref zy18, .int 0, .long 0, .ref zy21, .ref zy22, .int 0, .ref zy24, .ref zy25, .ref zy26, .ref zy27])), (zy0, .inl (cy 0, 392, .inl zz))]) (va_runV (As := [.int 0]) (rest := []) ⟨hx, hb, hml, hown, hts⟩ (c_X11_placesOf l dC dI cy s.heap.size zy 0 zy0 zy1 zy5 zy8 zy9 zy10 zy11 zy12 zy13 zy14 zy16 zy17 zy18 zy21 zy22 zy24 zy25 zy26 zy27 (by first | rfl | decide | omega | exact Int32.toInt_toInt64 _)) (cwV 1 hts gX11_count_X11_placesOf rfl rfl rfl (by decide +kernel) ⟨(Nat.le_of_ble_eq_true rfl), (Nat.le_of_ble_eq_true rfl)⟩) (PRE.v (hP.sub [0, 1] rfl) hK (hD.sub [0, 1] (by decide) rfl) hN (va_recv hK hP (ci := 11) (q0 := 0) rfl rfl)) rfl rfl hl.1 rfl (lv_room (Nat.le_of_ble_eq_true rfl)) dX11_count_134 ⟨(Nat.le_of_ble_eq_true rfl), (Nat.le_of_ble_eq_true rfl)⟩) hP hD hS hA [0, 1] [] rfl rfl rfl (by decide) (fun r_9 u_8 H locs hw_10 hP hD hS => ?_)
    have hP : va_P (dC, dI) vwCl [(zy, .inr (11, [.ref zy0, .ref zy1, .int 0, .int 0, .int 0, .ref zy5, .int 0, .int 0, .ref zy8, .ref zy9, .ref zy10, .ref zy11, .ref zy12, .ref zy13, .ref zy14, .long 0, .ref zy16, .ref zy17, .ref zy18, .int 0, .long 0, .ref zy21, .ref zy22, .int 0, .ref zy24, .ref zy25, .ref zy26, .ref zy27])), (zy0, .inl (cy 0, 392, .inl zz))] H := hP
    have hD : va_D A [(zy, .inr (11, [.ref zy0, .ref zy1, .int 0, .int 0, .int 0, .ref zy5, .int 0, .int 0, .ref zy8, .ref zy9, .ref zy10, .ref zy11, .ref zy12, .ref zy13, .ref zy14, .long 0, .ref zy16, .ref zy17, .ref zy18, .int 0, .long 0, .ref zy21, .ref zy22, .int 0, .ref zy24, .ref zy25, .ref zy26, .ref zy27])), (zy0, .inl (cy 0, 392, .inl zz))] := hD
    obtain rfl : r_9 = 0 := hw_10
    have hP9 := hP.sub (ws' := []) [] rfl
    have hD9 := hD.sub (ws' := []) [] (by decide) rfl
    exact W.iret (v := 0) hx hb hr (fun t ht hW => ⟨⟨0, (), rfl, (by unfold an_count; (repeat' split) <;> first | rfl | (exfalso; omega)), ⟨by rw [ht]; exact hP9, va_K.moved hW.alike hK, hD9⟩⟩, hS.F ht⟩) hS.2.2 dX11_count_137
  · have zk_1_7 : (7 : Int32).toInt = 7 := by decide
    refine lv_tableIn (off := 128) (tgt := 129) hx hb dX11_count_1 (by decide) (by decide) (by decide) (by decide) ?_
    refine lv_aload_n hx hb dX11_count_129 rfl (lv_at hl 0 rfl) ?_
    refine lv_iload_n hx hb dX11_count_130 rfl (lv_at hl 1 rfl) ?_
    refine lv_bipush (v := 6) hx hb dX11_count_131 (by decide) ?_
    refine lv_isub hx hb dX11_count_133 ?_
    refine lv_topi (fun v_11 ev_11 => ?_)
    obtain rfl : v_11 = (1 : Int32) := ev_11.trans (by decide)
    refine cj_i (wc := [(zy, .inr (11, [.ref zy0, .ref zy1, .int 0, .int 0, .int 0, .ref zy5, .int 0, .int 0, .ref zy8, .ref zy9, .ref zy10, .ref zy11, .ref zy12, .ref zy13, .ref zy14, .long 0, .ref zy16, .ref zy17, .ref zy18, .int 0, .long 0, .ref zy21, .ref zy22, .int 0, .ref zy24, .ref zy25, .ref zy26, .ref zy27])), (zy0, .inl (cy 0, 392, .inl zz))]) (wr := []) (w1 := fun (_ : Unit) => [(zy, .inr (11, [.ref zy0, .ref zy1, .int 0, .int 0, .int 0, .ref zy5, .int 0, .int 0, .ref zy8, .ref zy9, .ref zy10, .ref zy11, .ref zy12, .ref zy13, .ref zy14, .long 0, .ref zy16, .ref zy17, .ref zy18, .int 0, .long 0, .ref zy21, .ref zy22, .int 0, .ref zy24, .ref zy25, .ref zy26, .ref zy27])), (zy0, .inl (cy 0, 392, .inl zz))]) (va_runV (As := [.int 1]) (rest := []) ⟨hx, hb, hml, hown, hts⟩ (c_X11_placesOf l dC dI cy s.heap.size zy 1 zy0 zy1 zy5 zy8 zy9 zy10 zy11 zy12 zy13 zy14 zy16 zy17 zy18 zy21 zy22 zy24 zy25 zy26 zy27 (by first | rfl | decide | omega | exact Int32.toInt_toInt64 _)) (cwV 1 hts gX11_count_X11_placesOf rfl rfl rfl (by decide +kernel) ⟨(Nat.le_of_ble_eq_true rfl), (Nat.le_of_ble_eq_true rfl)⟩) (PRE.v (hP.sub [0, 1] rfl) hK (hD.sub [0, 1] (by decide) rfl) hN (va_recv hK hP (ci := 11) (q0 := 0) rfl rfl)) rfl rfl hl.1 rfl (lv_room (Nat.le_of_ble_eq_true rfl)) dX11_count_134 ⟨(Nat.le_of_ble_eq_true rfl), (Nat.le_of_ble_eq_true rfl)⟩) hP hD hS hA [0, 1] [] rfl rfl rfl (by decide) (fun r_13 u_12 H locs hw_14 hP hD hS => ?_)
    have hP : va_P (dC, dI) vwCl [(zy, .inr (11, [.ref zy0, .ref zy1, .int 0, .int 0, .int 0, .ref zy5, .int 0, .int 0, .ref zy8, .ref zy9, .ref zy10, .ref zy11, .ref zy12, .ref zy13, .ref zy14, .long 0, .ref zy16, .ref zy17, .ref zy18, .int 0, .long 0, .ref zy21, .ref zy22, .int 0, .ref zy24, .ref zy25, .ref zy26, .ref zy27])), (zy0, .inl (cy 0, 392, .inl zz))] H := hP
    have hD : va_D A [(zy, .inr (11, [.ref zy0, .ref zy1, .int 0, .int 0, .int 0, .ref zy5, .int 0, .int 0, .ref zy8, .ref zy9, .ref zy10, .ref zy11, .ref zy12, .ref zy13, .ref zy14, .long 0, .ref zy16, .ref zy17, .ref zy18, .int 0, .long 0, .ref zy21, .ref zy22, .int 0, .ref zy24, .ref zy25, .ref zy26, .ref zy27])), (zy0, .inl (cy 0, 392, .inl zz))] := hD
    obtain rfl : r_13 = 0 := hw_14
    have hP9 := hP.sub (ws' := []) [] rfl
    have hD9 := hD.sub (ws' := []) [] (by decide) rfl
    exact W.iret (v := 0) hx hb hr (fun t ht hW => ⟨⟨0, (), rfl, (by unfold an_count; (repeat' split) <;> first | rfl | (exfalso; omega)), ⟨by rw [ht]; exact hP9, va_K.moved hW.alike hK, hD9⟩⟩, hS.F ht⟩) hS.2.2 dX11_count_137
set_option maxHeartbeats 4000000 in
set_option maxRecDepth 100000 in
theorem c_X11_ways (l : Launch) (dC : Nat → ClassId) (dI : Nat → Nat → Nat) (cy : Nat → ClassId) (sz : Nat) (zy : Nat) (zia : Int32) (zy0 : Nat) (zy1 : Nat) (zy5 : Nat) (zy8 : Nat) (zy9 : Nat) (zy10 : Nat) (zy11 : Nat) (zy12 : Nat) (zy13 : Nat) (zy14 : Nat) (zy16 : Nat) (zy17 : Nat) (zy18 : Nat) (zy21 : Nat) (zy22 : Nat) (zy24 : Nat) (zy25 : Nat) (zy26 : Nat) (zy27 : Nat)  : Met l yX11_ways wsX11_ways ({ frames := 2, cells := 0, slots := 0, locals := 45 }) (va_Pc [.ref zy, .int zia] (PRE dC dI cy [(zy, .inr (11, [.ref zy0, .ref zy1, .int 0, .int 0, .int 0, .ref zy5, .int 0, .int 0, .ref zy8, .ref zy9, .ref zy10, .ref zy11, .ref zy12, .ref zy13, .ref zy14, .long 0, .ref zy16, .ref zy17, .ref zy18, .int 0, .long 0, .ref zy21, .ref zy22, .int 0, .ref zy24, .ref zy25, .ref zy26, .ref zy27])), (zy0, .inl (cy 0, 392, .inl zz))] sz)) (va_Ql (fun (r : Int64) (_ : Unit) => r = an_ways zia) (fun u t => POST dC dI cy (va_A [(zy, .inr (11, [.ref zy0, .ref zy1, .int 0, .int 0, .int 0, .ref zy5, .int 0, .int 0, .ref zy8, .ref zy9, .ref zy10, .ref zy11, .ref zy12, .ref zy13, .ref zy14, .long 0, .ref zy16, .ref zy17, .ref zy18, .int 0, .long 0, .ref zy21, .ref zy22, .int 0, .ref zy24, .ref zy25, .ref zy26, .ref zy27])), (zy0, .inl (cy 0, 392, .inl zz))] sz) [] t) (va_A [(zy, .inr (11, [.ref zy0, .ref zy1, .int 0, .int 0, .int 0, .ref zy5, .int 0, .int 0, .ref zy8, .ref zy9, .ref zy10, .ref zy11, .ref zy12, .ref zy13, .ref zy14, .long 0, .ref zy16, .ref zy17, .ref zy18, .int 0, .long 0, .ref zy21, .ref zy22, .int 0, .ref zy24, .ref zy25, .ref zy26, .ref zy27])), (zy0, .inl (cy 0, 392, .inl zz))] sz)) 0 0 (va_A [(zy, .inr (11, [.ref zy0, .ref zy1, .int 0, .int 0, .int 0, .ref zy5, .int 0, .int 0, .ref zy8, .ref zy9, .ref zy10, .ref zy11, .ref zy12, .ref zy13, .ref zy14, .long 0, .ref zy16, .ref zy17, .ref zy18, .int 0, .long 0, .ref zy21, .ref zy22, .int 0, .ref zy24, .ref zy25, .ref zy26, .ref zy27])), (zy0, .inl (cy 0, 392, .inl zz))] sz) := by
  refine Met.ofW (cc := cX11_ways) (maxL := 2) (ret := (some .long)) (by decide) rfl ?_
  intro p e s m args below meth c s₁ B hml hv
  obtain ⟨rfl, hsz, hP, hK, hD0, hN⟩ := hv
  have hx := B.exec
  have hb := B.bytes
  have hr := B.returns
  have hts := atoms_spec (ws := wsX11_ways) B.pre
  have hown : s.vm.findClass RX11 = some m.cls := findClass_of_methodNamed B.named
  have hlocks := B.notSynchronized
  subst hsz
  have hD := hD0.self (sz := s.heap.size)
  generalize hAe : va_A [(zy, .inr (11, [.ref zy0, .ref zy1, .int 0, .int 0, .int 0, .ref zy5, .int 0, .int 0, .ref zy8, .ref zy9, .ref zy10, .ref zy11, .ref zy12, .ref zy13, .ref zy14, .long 0, .ref zy16, .ref zy17, .ref zy18, .int 0, .long 0, .ref zy21, .ref zy22, .int 0, .ref zy24, .ref zy25, .ref zy26, .ref zy27])), (zy0, .inl (cy 0, 392, .inl zz))] s.heap.size = A at hD ⊢
  have hA : ∀ q : Nat, s.heap.size ≤ q → A q := fun q h => by rw [← hAe]; exact Or.inr h
  have hS : va_S A s.heap s.heap [] := va_S.rf
  have hP : va_P (dC, dI) vwCl [(zy, .inr (11, [.ref zy0, .ref zy1, .int 0, .int 0, .int 0, .ref zy5, .int 0, .int 0, .ref zy8, .ref zy9, .ref zy10, .ref zy11, .ref zy12, .ref zy13, .ref zy14, .long 0, .ref zy16, .ref zy17, .ref zy18, .int 0, .long 0, .ref zy21, .ref zy22, .int 0, .ref zy24, .ref zy25, .ref zy26, .ref zy27])), (zy0, .inl (cy 0, 392, .inl zz))] s.heap := hP
  have hl := lv_entry ([.ref zy, .int zia] : List Value) (n := 2) (Nat.le_of_ble_eq_true rfl)
  rw [lg_entry_eq]
  generalize (lg_sl ([.ref zy, .int zia] : List Value) ++ List.replicate (2 - (lg_sl ([.ref zy, .int zia] : List Value)).length) Slot.unset).toArray = ls at hl ⊢
  have hl : lv_has ls 2 [(0, .ref zy), (1, .int zia)] := hl
  refine lv_iload_n hx hb dX11_ways_0 rfl (lv_at hl 1 rfl) ?_
  refine cj_i (wc := []) (wr := [(zy, .inr (11, [.ref zy0, .ref zy1, .int 0, .int 0, .int 0, .ref zy5, .int 0, .int 0, .ref zy8, .ref zy9, .ref zy10, .ref zy11, .ref zy12, .ref zy13, .ref zy14, .long 0, .ref zy16, .ref zy17, .ref zy18, .int 0, .long 0, .ref zy21, .ref zy22, .int 0, .ref zy24, .ref zy25, .ref zy26, .ref zy27])), (zy0, .inl (cy 0, 392, .inl zz))]) (w1 := fun (_ : Unit) => []) (va_runS (As := [.int zia]) (rest := []) ⟨hx, hb, hml, hown, hts⟩ (c_X11_isCandle l dC dI cy s.heap.size zia) (va_cwS 1 hts gX11_ways_X11_isCandle rfl rfl rfl (by decide +kernel) ⟨(Nat.le_of_ble_eq_true rfl), (Nat.le_of_ble_eq_true rfl)⟩) (PRE.s (hP.sub [] rfl) hK (hD.sub [] (by decide) rfl) hN) rfl rfl hl.1 rfl (lv_room (Nat.le_of_ble_eq_true rfl)) dX11_ways_1 ⟨(Nat.le_of_ble_eq_true rfl), (Nat.le_of_ble_eq_true rfl)⟩) hP hD hS hA [] [0, 1] rfl rfl rfl (by decide) (fun r_2 u_1 H locs hw_3 hP hD hS => ?_)
  have hP : va_P (dC, dI) vwCl [(zy, .inr (11, [.ref zy0, .ref zy1, .int 0, .int 0, .int 0, .ref zy5, .int 0, .int 0, .ref zy8, .ref zy9, .ref zy10, .ref zy11, .ref zy12, .ref zy13, .ref zy14, .long 0, .ref zy16, .ref zy17, .ref zy18, .int 0, .long 0, .ref zy21, .ref zy22, .int 0, .ref zy24, .ref zy25, .ref zy26, .ref zy27])), (zy0, .inl (cy 0, 392, .inl zz))] H := hP
  have hD : va_D A [(zy, .inr (11, [.ref zy0, .ref zy1, .int 0, .int 0, .int 0, .ref zy5, .int 0, .int 0, .ref zy8, .ref zy9, .ref zy10, .ref zy11, .ref zy12, .ref zy13, .ref zy14, .long 0, .ref zy16, .ref zy17, .ref zy18, .int 0, .long 0, .ref zy21, .ref zy22, .int 0, .ref zy24, .ref zy25, .ref zy26, .ref zy27])), (zy0, .inl (cy 0, 392, .inl zz))] := hD
  have hw_3 : r_2 = if 0 ≤ zia.toInt ∧ zia.toInt ≤ 1 then 1 else 0 := hw_3
  refine lv_if_ne (tgt := 11) hx hb dX11_ways_4 (by decide) (fun c_4 => ?_) (fun c_4 => ?_)
  · have f_5 : 0 ≤ zia.toInt ∧ zia.toInt ≤ 1 := bz_1 hw_3 c_4
    refine lv_aload_n hx hb dX11_ways_11 rfl (lv_at hl 0 rfl) ?_
    refine lv_iload_n hx hb dX11_ways_12 rfl (lv_at hl 1 rfl) ?_
    refine cj_i (wc := [(zy, .inr (11, [.ref zy0, .ref zy1, .int 0, .int 0, .int 0, .ref zy5, .int 0, .int 0, .ref zy8, .ref zy9, .ref zy10, .ref zy11, .ref zy12, .ref zy13, .ref zy14, .long 0, .ref zy16, .ref zy17, .ref zy18, .int 0, .long 0, .ref zy21, .ref zy22, .int 0, .ref zy24, .ref zy25, .ref zy26, .ref zy27])), (zy0, .inl (cy 0, 392, .inl zz))]) (wr := []) (w1 := fun (_ : Unit) => [(zy, .inr (11, [.ref zy0, .ref zy1, .int 0, .int 0, .int 0, .ref zy5, .int 0, .int 0, .ref zy8, .ref zy9, .ref zy10, .ref zy11, .ref zy12, .ref zy13, .ref zy14, .long 0, .ref zy16, .ref zy17, .ref zy18, .int 0, .long 0, .ref zy21, .ref zy22, .int 0, .ref zy24, .ref zy25, .ref zy26, .ref zy27])), (zy0, .inl (cy 0, 392, .inl zz))]) (va_runV (As := [.int zia]) (rest := []) ⟨hx, hb, hml, hown, hts⟩ (c_X11_placesOf l dC dI cy H.size zy zia zy0 zy1 zy5 zy8 zy9 zy10 zy11 zy12 zy13 zy14 zy16 zy17 zy18 zy21 zy22 zy24 zy25 zy26 zy27 (by first | rfl | decide | omega | exact Int32.toInt_toInt64 _)) (cwV 1 hts gX11_ways_X11_placesOf rfl rfl rfl (by decide +kernel) ⟨(Nat.le_of_ble_eq_true rfl), (Nat.le_of_ble_eq_true rfl)⟩) (PRE.v (hP.sub [0, 1] rfl) hK (hD.sub [0, 1] (by decide) rfl) hN (va_recv hK hP (ci := 11) (q0 := 0) rfl rfl)) rfl rfl hl.1 rfl (lv_room (Nat.le_of_ble_eq_true rfl)) dX11_ways_13 ⟨(Nat.le_of_ble_eq_true rfl), (Nat.le_of_ble_eq_true rfl)⟩) hP hD hS hA [0, 1] [] rfl rfl rfl (by decide) (fun r_7 u_6 H locs hw_8 hP hD hS => ?_)
    have hP : va_P (dC, dI) vwCl [(zy, .inr (11, [.ref zy0, .ref zy1, .int 0, .int 0, .int 0, .ref zy5, .int 0, .int 0, .ref zy8, .ref zy9, .ref zy10, .ref zy11, .ref zy12, .ref zy13, .ref zy14, .long 0, .ref zy16, .ref zy17, .ref zy18, .int 0, .long 0, .ref zy21, .ref zy22, .int 0, .ref zy24, .ref zy25, .ref zy26, .ref zy27])), (zy0, .inl (cy 0, 392, .inl zz))] H := hP
    have hD : va_D A [(zy, .inr (11, [.ref zy0, .ref zy1, .int 0, .int 0, .int 0, .ref zy5, .int 0, .int 0, .ref zy8, .ref zy9, .ref zy10, .ref zy11, .ref zy12, .ref zy13, .ref zy14, .long 0, .ref zy16, .ref zy17, .ref zy18, .int 0, .long 0, .ref zy21, .ref zy22, .int 0, .ref zy24, .ref zy25, .ref zy26, .ref zy27])), (zy0, .inl (cy 0, 392, .inl zz))] := hD
    obtain rfl : r_7 = 0 := hw_8
    refine lv_if_ne (tgt := 23) hx hb dX11_ways_16 (by decide) (fun c_9 => absurd (by decide) c_9) (fun c_9 => ?_)
    refine lv_ldc2 (v := (-2)) hx hb hown (hts (.constantLong RX11 238 (-2)) (by decide +kernel)) dX11_ways_19 ?_
    have hP9 := hP.sub (ws' := []) [] rfl
    have hD9 := hD.sub (ws' := []) [] (by decide) rfl
    exact W.lret (v := (-2)) hx hb hr (fun t ht hW => ⟨⟨(-2), (), rfl, (by unfold an_ways; (repeat' split) <;> first | rfl | (exfalso; omega)), ⟨by rw [ht]; exact hP9, va_K.moved hW.alike hK, hD9⟩⟩, hS.F ht⟩) hS.2.2 dX11_ways_22
  · have f_5 : ¬ (0 ≤ zia.toInt ∧ zia.toInt ≤ 1) := bz_0 hw_3 c_4
    refine lv_ldc2 (v := (-1)) hx hb hown (hts (.constantLong RX11 236 (-1)) (by decide +kernel)) dX11_ways_7 ?_
    have hP9 := hP.sub (ws' := []) [] rfl
    have hD9 := hD.sub (ws' := []) [] (by decide) rfl
    exact W.lret (v := (-1)) hx hb hr (fun t ht hW => ⟨⟨(-1), (), rfl, (by unfold an_ways; (repeat' split) <;> first | rfl | (exfalso; omega)), ⟨by rw [ht]; exact hP9, va_K.moved hW.alike hK, hD9⟩⟩, hS.F ht⟩) hS.2.2 dX11_ways_10
set_option maxHeartbeats 4000000 in
set_option maxRecDepth 100000 in
theorem c_X11_next (l : Launch) (dC : Nat → ClassId) (dI : Nat → Nat → Nat) (cy : Nat → ClassId) (sz : Nat) (zy : Nat) (zia : Int32) (zib : Int32) (zy0 : Nat) (zy1 : Nat) (zy5 : Nat) (zy8 : Nat) (zy9 : Nat) (zy10 : Nat) (zy11 : Nat) (zy12 : Nat) (zy13 : Nat) (zy14 : Nat) (zy16 : Nat) (zy17 : Nat) (zy18 : Nat) (zy21 : Nat) (zy22 : Nat) (zy24 : Nat) (zy25 : Nat) (zy26 : Nat) (zy27 : Nat)  : Met l yX11_next wsX11_next ({ frames := 2, cells := 0, slots := 0, locals := 45 }) (va_Pc [.ref zy, .int zia, .int zib] (PRE dC dI cy [(zy, .inr (11, [.ref zy0, .ref zy1, .int 0, .int 0, .int 0, .ref zy5, .int 0, .int 0, .ref zy8, .ref zy9, .ref zy10, .ref zy11, .ref zy12, .ref zy13, .ref zy14, .long 0, .ref zy16, .ref zy17, .ref zy18, .int 0, .long 0, .ref zy21, .ref zy22, .int 0, .ref zy24, .ref zy25, .ref zy26, .ref zy27])), (zy0, .inl (cy 0, 392, .inl zz))] sz)) (va_Ql (fun (r : Int64) (_ : Unit) => r = an_next zia zib) (fun u t => POST dC dI cy (va_A [(zy, .inr (11, [.ref zy0, .ref zy1, .int 0, .int 0, .int 0, .ref zy5, .int 0, .int 0, .ref zy8, .ref zy9, .ref zy10, .ref zy11, .ref zy12, .ref zy13, .ref zy14, .long 0, .ref zy16, .ref zy17, .ref zy18, .int 0, .long 0, .ref zy21, .ref zy22, .int 0, .ref zy24, .ref zy25, .ref zy26, .ref zy27])), (zy0, .inl (cy 0, 392, .inl zz))] sz) [] t) (va_A [(zy, .inr (11, [.ref zy0, .ref zy1, .int 0, .int 0, .int 0, .ref zy5, .int 0, .int 0, .ref zy8, .ref zy9, .ref zy10, .ref zy11, .ref zy12, .ref zy13, .ref zy14, .long 0, .ref zy16, .ref zy17, .ref zy18, .int 0, .long 0, .ref zy21, .ref zy22, .int 0, .ref zy24, .ref zy25, .ref zy26, .ref zy27])), (zy0, .inl (cy 0, 392, .inl zz))] sz)) 0 0 (va_A [(zy, .inr (11, [.ref zy0, .ref zy1, .int 0, .int 0, .int 0, .ref zy5, .int 0, .int 0, .ref zy8, .ref zy9, .ref zy10, .ref zy11, .ref zy12, .ref zy13, .ref zy14, .long 0, .ref zy16, .ref zy17, .ref zy18, .int 0, .long 0, .ref zy21, .ref zy22, .int 0, .ref zy24, .ref zy25, .ref zy26, .ref zy27])), (zy0, .inl (cy 0, 392, .inl zz))] sz) := by
  refine Met.ofW (cc := cX11_next) (maxL := 11) (ret := (some .long)) (by decide) rfl ?_
  intro p e s m args below meth c s₁ B hml hv
  obtain ⟨rfl, hsz, hP, hK, hD0, hN⟩ := hv
  have hx := B.exec
  have hb := B.bytes
  have hr := B.returns
  have hts := atoms_spec (ws := wsX11_next) B.pre
  have hown : s.vm.findClass RX11 = some m.cls := findClass_of_methodNamed B.named
  have hlocks := B.notSynchronized
  subst hsz
  have hD := hD0.self (sz := s.heap.size)
  generalize hAe : va_A [(zy, .inr (11, [.ref zy0, .ref zy1, .int 0, .int 0, .int 0, .ref zy5, .int 0, .int 0, .ref zy8, .ref zy9, .ref zy10, .ref zy11, .ref zy12, .ref zy13, .ref zy14, .long 0, .ref zy16, .ref zy17, .ref zy18, .int 0, .long 0, .ref zy21, .ref zy22, .int 0, .ref zy24, .ref zy25, .ref zy26, .ref zy27])), (zy0, .inl (cy 0, 392, .inl zz))] s.heap.size = A at hD ⊢
  have hA : ∀ q : Nat, s.heap.size ≤ q → A q := fun q h => by rw [← hAe]; exact Or.inr h
  have hS : va_S A s.heap s.heap [] := va_S.rf
  have hP : va_P (dC, dI) vwCl [(zy, .inr (11, [.ref zy0, .ref zy1, .int 0, .int 0, .int 0, .ref zy5, .int 0, .int 0, .ref zy8, .ref zy9, .ref zy10, .ref zy11, .ref zy12, .ref zy13, .ref zy14, .long 0, .ref zy16, .ref zy17, .ref zy18, .int 0, .long 0, .ref zy21, .ref zy22, .int 0, .ref zy24, .ref zy25, .ref zy26, .ref zy27])), (zy0, .inl (cy 0, 392, .inl zz))] s.heap := hP
  have hl := lv_entry ([.ref zy, .int zia, .int zib] : List Value) (n := 11) (Nat.le_of_ble_eq_true rfl)
  rw [lg_entry_eq]
  generalize (lg_sl ([.ref zy, .int zia, .int zib] : List Value) ++ List.replicate (11 - (lg_sl ([.ref zy, .int zia, .int zib] : List Value)).length) Slot.unset).toArray = ls at hl ⊢
  have hl : lv_has ls 11 [(0, .ref zy), (1, .int zia), (2, .int zib)] := hl
  refine lv_iload_n hx hb dX11_next_0 rfl (lv_at hl 1 rfl) ?_
  refine cj_i (wc := []) (wr := [(zy, .inr (11, [.ref zy0, .ref zy1, .int 0, .int 0, .int 0, .ref zy5, .int 0, .int 0, .ref zy8, .ref zy9, .ref zy10, .ref zy11, .ref zy12, .ref zy13, .ref zy14, .long 0, .ref zy16, .ref zy17, .ref zy18, .int 0, .long 0, .ref zy21, .ref zy22, .int 0, .ref zy24, .ref zy25, .ref zy26, .ref zy27])), (zy0, .inl (cy 0, 392, .inl zz))]) (w1 := fun (_ : Unit) => []) (va_runS (As := [.int zia]) (rest := []) ⟨hx, hb, hml, hown, hts⟩ (c_X11_isCandle l dC dI cy s.heap.size zia) (va_cwS 1 hts gX11_next_X11_isCandle rfl rfl rfl (by decide +kernel) ⟨(Nat.le_of_ble_eq_true rfl), (Nat.le_of_ble_eq_true rfl)⟩) (PRE.s (hP.sub [] rfl) hK (hD.sub [] (by decide) rfl) hN) rfl rfl hl.1 rfl (lv_room (Nat.le_of_ble_eq_true rfl)) dX11_next_1 ⟨(Nat.le_of_ble_eq_true rfl), (Nat.le_of_ble_eq_true rfl)⟩) hP hD hS hA [] [0, 1] rfl rfl rfl (by decide) (fun r_2 u_1 H locs hw_3 hP hD hS => ?_)
  have hP : va_P (dC, dI) vwCl [(zy, .inr (11, [.ref zy0, .ref zy1, .int 0, .int 0, .int 0, .ref zy5, .int 0, .int 0, .ref zy8, .ref zy9, .ref zy10, .ref zy11, .ref zy12, .ref zy13, .ref zy14, .long 0, .ref zy16, .ref zy17, .ref zy18, .int 0, .long 0, .ref zy21, .ref zy22, .int 0, .ref zy24, .ref zy25, .ref zy26, .ref zy27])), (zy0, .inl (cy 0, 392, .inl zz))] H := hP
  have hD : va_D A [(zy, .inr (11, [.ref zy0, .ref zy1, .int 0, .int 0, .int 0, .ref zy5, .int 0, .int 0, .ref zy8, .ref zy9, .ref zy10, .ref zy11, .ref zy12, .ref zy13, .ref zy14, .long 0, .ref zy16, .ref zy17, .ref zy18, .int 0, .long 0, .ref zy21, .ref zy22, .int 0, .ref zy24, .ref zy25, .ref zy26, .ref zy27])), (zy0, .inl (cy 0, 392, .inl zz))] := hD
  have hw_3 : r_2 = if 0 ≤ zia.toInt ∧ zia.toInt ≤ 1 then 1 else 0 := hw_3
  refine lv_if_eq (tgt := 17) hx hb dX11_next_4 (by decide) (fun c_4 => ?_) (fun c_4 => ?_)
  · have f_5 : ¬ (0 ≤ zia.toInt ∧ zia.toInt ≤ 1) := bz_0 hw_3 c_4
    refine lv_ldc2 (v := (-1)) hx hb hown (hts (.constantLong RX11 236 (-1)) (by decide +kernel)) dX11_next_17 ?_
    have hP9 := hP.sub (ws' := []) [] rfl
    have hD9 := hD.sub (ws' := []) [] (by decide) rfl
    exact W.lret (v := (-1)) hx hb hr (fun t ht hW => ⟨⟨(-1), (), rfl, (by unfold an_next; (repeat' split) <;> first | rfl | (exfalso; omega)), ⟨by rw [ht]; exact hP9, va_K.moved hW.alike hK, hD9⟩⟩, hS.F ht⟩) hS.2.2 dX11_next_20
  · have f_5 : 0 ≤ zia.toInt ∧ zia.toInt ≤ 1 := bz_1 hw_3 c_4
    refine lv_iload_n hx hb dX11_next_7 rfl (lv_at hl 2 rfl) ?_
    refine lv_i2l (v := zib.toInt64) hx hb dX11_next_8 rfl ?_
    refine lv_lconst (v := 0) hx hb dX11_next_9 (by decide) ?_
    refine lv_lconst (v := 1) hx hb dX11_next_10 (by decide) ?_
    refine cj_i (wc := []) (wr := [(zy, .inr (11, [.ref zy0, .ref zy1, .int 0, .int 0, .int 0, .ref zy5, .int 0, .int 0, .ref zy8, .ref zy9, .ref zy10, .ref zy11, .ref zy12, .ref zy13, .ref zy14, .long 0, .ref zy16, .ref zy17, .ref zy18, .int 0, .long 0, .ref zy21, .ref zy22, .int 0, .ref zy24, .ref zy25, .ref zy26, .ref zy27])), (zy0, .inl (cy 0, 392, .inl zz))]) (w1 := fun (_ : Unit) => []) (va_runS (As := [.long zib.toInt64, .long 0, .long 1]) (rest := []) ⟨hx, hb, hml, hown, hts⟩ (c_X11_in l dC dI cy H.size zib.toInt64 0 1 0 1 zib.toInt (by first | rfl | decide | omega | exact Int32.toInt_toInt64 _) (by first | rfl | decide | omega | exact Int32.toInt_toInt64 _) (by first | rfl | decide | omega | exact Int32.toInt_toInt64 _)) (va_cwS 3 hts gX11_next_X11_in rfl rfl rfl (by decide +kernel) ⟨(Nat.le_of_ble_eq_true rfl), (Nat.le_of_ble_eq_true rfl)⟩) (PRE.s (hP.sub [] rfl) hK (hD.sub [] (by decide) rfl) hN) rfl rfl hl.1 rfl (lv_room (Nat.le_of_ble_eq_true rfl)) dX11_next_11 ⟨(Nat.le_of_ble_eq_true rfl), (Nat.le_of_ble_eq_true rfl)⟩) hP hD hS hA [] [0, 1] rfl rfl rfl (by decide) (fun r_7 u_6 H locs hw_8 hP hD hS => ?_)
    have hP : va_P (dC, dI) vwCl [(zy, .inr (11, [.ref zy0, .ref zy1, .int 0, .int 0, .int 0, .ref zy5, .int 0, .int 0, .ref zy8, .ref zy9, .ref zy10, .ref zy11, .ref zy12, .ref zy13, .ref zy14, .long 0, .ref zy16, .ref zy17, .ref zy18, .int 0, .long 0, .ref zy21, .ref zy22, .int 0, .ref zy24, .ref zy25, .ref zy26, .ref zy27])), (zy0, .inl (cy 0, 392, .inl zz))] H := hP
    have hD : va_D A [(zy, .inr (11, [.ref zy0, .ref zy1, .int 0, .int 0, .int 0, .ref zy5, .int 0, .int 0, .ref zy8, .ref zy9, .ref zy10, .ref zy11, .ref zy12, .ref zy13, .ref zy14, .long 0, .ref zy16, .ref zy17, .ref zy18, .int 0, .long 0, .ref zy21, .ref zy22, .int 0, .ref zy24, .ref zy25, .ref zy26, .ref zy27])), (zy0, .inl (cy 0, 392, .inl zz))] := hD
    have hw_8 : r_7 = if 0 ≤ zib.toInt ∧ zib.toInt ≤ 1 then 1 else 0 := hw_8
    refine lv_if_ne (tgt := 21) hx hb dX11_next_14 (by decide) (fun c_9 => ?_) (fun c_9 => ?_)
    · have f_10 : 0 ≤ zib.toInt ∧ zib.toInt ≤ 1 := bz_1 hw_8 c_9
      refine lv_aload_n hx hb dX11_next_21 rfl (lv_at hl 0 rfl) ?_
      refine lv_iload_n hx hb dX11_next_22 rfl (lv_at hl 1 rfl) ?_
      refine cj_i (wc := [(zy, .inr (11, [.ref zy0, .ref zy1, .int 0, .int 0, .int 0, .ref zy5, .int 0, .int 0, .ref zy8, .ref zy9, .ref zy10, .ref zy11, .ref zy12, .ref zy13, .ref zy14, .long 0, .ref zy16, .ref zy17, .ref zy18, .int 0, .long 0, .ref zy21, .ref zy22, .int 0, .ref zy24, .ref zy25, .ref zy26, .ref zy27])), (zy0, .inl (cy 0, 392, .inl zz))]) (wr := []) (w1 := fun (_ : Unit) => []) (va_runV (As := [.int zia]) (rest := []) ⟨hx, hb, hml, hown, hts⟩ (c_X11_lacksAny l dC dI cy H.size zy zia zy0 zy1 zy5 zy8 zy9 zy10 zy11 zy12 zy13 zy14 zy16 zy17 zy18 zy21 zy22 zy24 zy25 zy26 zy27 (by first | rfl | decide | omega | exact Int32.toInt_toInt64 _)) (cwV 1 hts gX11_next_X11_lacksAny rfl rfl rfl (by decide +kernel) ⟨(Nat.le_of_ble_eq_true rfl), (Nat.le_of_ble_eq_true rfl)⟩) (PRE.v (hP.sub [0, 1] rfl) hK (hD.sub [0, 1] (by decide) rfl) hN (va_recv hK hP (ci := 11) (q0 := 0) rfl rfl)) rfl rfl hl.1 rfl (lv_room (Nat.le_of_ble_eq_true rfl)) dX11_next_23 ⟨(Nat.le_of_ble_eq_true rfl), (Nat.le_of_ble_eq_true rfl)⟩) hP hD hS hA [0, 1] [] rfl rfl rfl (by decide) (fun r_12 u_11 H locs hw_13 hP hD hS => ?_)
      have hP : va_P (dC, dI) vwCl [] H := hP
      have hD : va_D A [] := hD
      obtain rfl : r_12 = (-2) := hw_13
      refine lv_istore_n (lv' := [(3, .int (-2)), (0, .ref zy), (1, .int zia), (2, .int zib)]) hx hb dX11_next_26 rfl hl (by decide) rfl (fun ls hl => ?_)
      refine lv_iload_n hx hb dX11_next_27 rfl (lv_at hl 0 rfl) ?_
      refine lv_if_ge (tgt := 34) hx hb dX11_next_28 (by decide) (fun c_14 => absurd c_14 (by decide)) (fun c_14 => ?_)
      refine lv_iload_n hx hb dX11_next_31 rfl (lv_at hl 0 rfl) ?_
      refine lv_i2l (v := (-2)) hx hb dX11_next_32 (by decide) ?_
      have hP9 := hP.sub (ws' := []) [] rfl
      have hD9 := hD.sub (ws' := []) [] (by decide) rfl
      exact W.lret (v := (-2)) hx hb hr (fun t ht hW => ⟨⟨(-2), (), rfl, (by unfold an_next; (repeat' split) <;> first | rfl | (exfalso; omega)), ⟨by rw [ht]; exact hP9, va_K.moved hW.alike hK, hD9⟩⟩, hS.F ht⟩) hS.2.2 dX11_next_33
    · have f_10 : ¬ (0 ≤ zib.toInt ∧ zib.toInt ≤ 1) := bz_0 hw_8 c_9
      refine lv_ldc2 (v := (-1)) hx hb hown (hts (.constantLong RX11 236 (-1)) (by decide +kernel)) dX11_next_17 ?_
      have hP9 := hP.sub (ws' := []) [] rfl
      have hD9 := hD.sub (ws' := []) [] (by decide) rfl
      exact W.lret (v := (-1)) hx hb hr (fun t ht hW => ⟨⟨(-1), (), rfl, (by unfold an_next; (repeat' split) <;> first | rfl | (exfalso; omega)), ⟨by rw [ht]; exact hP9, va_K.moved hW.alike hK, hD9⟩⟩, hS.F ht⟩) hS.2.2 dX11_next_20
set_option maxHeartbeats 4000000 in
set_option maxRecDepth 100000 in
theorem c_X11_mustGo (l : Launch) (dC : Nat → ClassId) (dI : Nat → Nat → Nat) (cy : Nat → ClassId) (sz : Nat) (zy : Nat) (zia : Int32) (zy0 : Nat) (zy1 : Nat) (zy5 : Nat) (zy8 : Nat) (zy9 : Nat) (zy10 : Nat) (zy11 : Nat) (zy12 : Nat) (zy13 : Nat) (zy14 : Nat) (zy16 : Nat) (zy17 : Nat) (zy18 : Nat) (zy21 : Nat) (zy22 : Nat) (zy24 : Nat) (zy25 : Nat) (zy26 : Nat) (zy27 : Nat)  : Met l yX11_mustGo wsX11_mustGo ({ frames := 2, cells := 0, slots := 0, locals := 45 }) (va_Pc [.ref zy, .int zia] (PRE dC dI cy [(zy, .inr (11, [.ref zy0, .ref zy1, .int 0, .int 0, .int 0, .ref zy5, .int 0, .int 0, .ref zy8, .ref zy9, .ref zy10, .ref zy11, .ref zy12, .ref zy13, .ref zy14, .long 0, .ref zy16, .ref zy17, .ref zy18, .int 0, .long 0, .ref zy21, .ref zy22, .int 0, .ref zy24, .ref zy25, .ref zy26, .ref zy27])), (zy0, .inl (cy 0, 392, .inl zz))] sz)) (va_Qi (fun (r : Int32) (_ : Unit) => r = an_mustGo zia) (fun u t => POST dC dI cy (va_A [(zy, .inr (11, [.ref zy0, .ref zy1, .int 0, .int 0, .int 0, .ref zy5, .int 0, .int 0, .ref zy8, .ref zy9, .ref zy10, .ref zy11, .ref zy12, .ref zy13, .ref zy14, .long 0, .ref zy16, .ref zy17, .ref zy18, .int 0, .long 0, .ref zy21, .ref zy22, .int 0, .ref zy24, .ref zy25, .ref zy26, .ref zy27])), (zy0, .inl (cy 0, 392, .inl zz))] sz) [] t) (va_A [(zy, .inr (11, [.ref zy0, .ref zy1, .int 0, .int 0, .int 0, .ref zy5, .int 0, .int 0, .ref zy8, .ref zy9, .ref zy10, .ref zy11, .ref zy12, .ref zy13, .ref zy14, .long 0, .ref zy16, .ref zy17, .ref zy18, .int 0, .long 0, .ref zy21, .ref zy22, .int 0, .ref zy24, .ref zy25, .ref zy26, .ref zy27])), (zy0, .inl (cy 0, 392, .inl zz))] sz)) 0 0 (va_A [(zy, .inr (11, [.ref zy0, .ref zy1, .int 0, .int 0, .int 0, .ref zy5, .int 0, .int 0, .ref zy8, .ref zy9, .ref zy10, .ref zy11, .ref zy12, .ref zy13, .ref zy14, .long 0, .ref zy16, .ref zy17, .ref zy18, .int 0, .long 0, .ref zy21, .ref zy22, .int 0, .ref zy24, .ref zy25, .ref zy26, .ref zy27])), (zy0, .inl (cy 0, 392, .inl zz))] sz) := by
  refine Met.ofW (cc := cX11_mustGo) (maxL := 6) (ret := (some .int)) (by decide) rfl ?_
  intro p e s m args below meth c s₁ B hml hv
  obtain ⟨rfl, hsz, hP, hK, hD0, hN⟩ := hv
  have hx := B.exec
  have hb := B.bytes
  have hr := B.returns
  have hts := atoms_spec (ws := wsX11_mustGo) B.pre
  have hown : s.vm.findClass RX11 = some m.cls := findClass_of_methodNamed B.named
  have hlocks := B.notSynchronized
  subst hsz
  have hD := hD0.self (sz := s.heap.size)
  generalize hAe : va_A [(zy, .inr (11, [.ref zy0, .ref zy1, .int 0, .int 0, .int 0, .ref zy5, .int 0, .int 0, .ref zy8, .ref zy9, .ref zy10, .ref zy11, .ref zy12, .ref zy13, .ref zy14, .long 0, .ref zy16, .ref zy17, .ref zy18, .int 0, .long 0, .ref zy21, .ref zy22, .int 0, .ref zy24, .ref zy25, .ref zy26, .ref zy27])), (zy0, .inl (cy 0, 392, .inl zz))] s.heap.size = A at hD ⊢
  have hA : ∀ q : Nat, s.heap.size ≤ q → A q := fun q h => by rw [← hAe]; exact Or.inr h
  have hS : va_S A s.heap s.heap [] := va_S.rf
  have hP : va_P (dC, dI) vwCl [(zy, .inr (11, [.ref zy0, .ref zy1, .int 0, .int 0, .int 0, .ref zy5, .int 0, .int 0, .ref zy8, .ref zy9, .ref zy10, .ref zy11, .ref zy12, .ref zy13, .ref zy14, .long 0, .ref zy16, .ref zy17, .ref zy18, .int 0, .long 0, .ref zy21, .ref zy22, .int 0, .ref zy24, .ref zy25, .ref zy26, .ref zy27])), (zy0, .inl (cy 0, 392, .inl zz))] s.heap := hP
  have hl := lv_entry ([.ref zy, .int zia] : List Value) (n := 6) (Nat.le_of_ble_eq_true rfl)
  rw [lg_entry_eq]
  generalize (lg_sl ([.ref zy, .int zia] : List Value) ++ List.replicate (6 - (lg_sl ([.ref zy, .int zia] : List Value)).length) Slot.unset).toArray = ls at hl ⊢
  have hl : lv_has ls 6 [(0, .ref zy), (1, .int zia)] := hl
  refine lv_iload_n hx hb dX11_mustGo_0 rfl (lv_at hl 1 rfl) ?_
  refine cj_i (wc := []) (wr := [(zy, .inr (11, [.ref zy0, .ref zy1, .int 0, .int 0, .int 0, .ref zy5, .int 0, .int 0, .ref zy8, .ref zy9, .ref zy10, .ref zy11, .ref zy12, .ref zy13, .ref zy14, .long 0, .ref zy16, .ref zy17, .ref zy18, .int 0, .long 0, .ref zy21, .ref zy22, .int 0, .ref zy24, .ref zy25, .ref zy26, .ref zy27])), (zy0, .inl (cy 0, 392, .inl zz))]) (w1 := fun (_ : Unit) => []) (va_runS (As := [.int zia]) (rest := []) ⟨hx, hb, hml, hown, hts⟩ (c_X11_isCandle l dC dI cy s.heap.size zia) (va_cwS 1 hts gX11_mustGo_X11_isCandle rfl rfl rfl (by decide +kernel) ⟨(Nat.le_of_ble_eq_true rfl), (Nat.le_of_ble_eq_true rfl)⟩) (PRE.s (hP.sub [] rfl) hK (hD.sub [] (by decide) rfl) hN) rfl rfl hl.1 rfl (lv_room (Nat.le_of_ble_eq_true rfl)) dX11_mustGo_1 ⟨(Nat.le_of_ble_eq_true rfl), (Nat.le_of_ble_eq_true rfl)⟩) hP hD hS hA [] [0, 1] rfl rfl rfl (by decide) (fun r_2 u_1 H locs hw_3 hP hD hS => ?_)
  have hP : va_P (dC, dI) vwCl [(zy, .inr (11, [.ref zy0, .ref zy1, .int 0, .int 0, .int 0, .ref zy5, .int 0, .int 0, .ref zy8, .ref zy9, .ref zy10, .ref zy11, .ref zy12, .ref zy13, .ref zy14, .long 0, .ref zy16, .ref zy17, .ref zy18, .int 0, .long 0, .ref zy21, .ref zy22, .int 0, .ref zy24, .ref zy25, .ref zy26, .ref zy27])), (zy0, .inl (cy 0, 392, .inl zz))] H := hP
  have hD : va_D A [(zy, .inr (11, [.ref zy0, .ref zy1, .int 0, .int 0, .int 0, .ref zy5, .int 0, .int 0, .ref zy8, .ref zy9, .ref zy10, .ref zy11, .ref zy12, .ref zy13, .ref zy14, .long 0, .ref zy16, .ref zy17, .ref zy18, .int 0, .long 0, .ref zy21, .ref zy22, .int 0, .ref zy24, .ref zy25, .ref zy26, .ref zy27])), (zy0, .inl (cy 0, 392, .inl zz))] := hD
  have hw_3 : r_2 = if 0 ≤ zia.toInt ∧ zia.toInt ≤ 1 then 1 else 0 := hw_3
  refine lv_if_ne (tgt := 9) hx hb dX11_mustGo_4 (by decide) (fun c_4 => ?_) (fun c_4 => ?_)
  · have f_5 : 0 ≤ zia.toInt ∧ zia.toInt ≤ 1 := bz_1 hw_3 c_4
    refine lv_aload_n hx hb dX11_mustGo_9 rfl (lv_at hl 0 rfl) ?_
    refine lv_iload_n hx hb dX11_mustGo_10 rfl (lv_at hl 1 rfl) ?_
    refine cj_i (wc := [(zy, .inr (11, [.ref zy0, .ref zy1, .int 0, .int 0, .int 0, .ref zy5, .int 0, .int 0, .ref zy8, .ref zy9, .ref zy10, .ref zy11, .ref zy12, .ref zy13, .ref zy14, .long 0, .ref zy16, .ref zy17, .ref zy18, .int 0, .long 0, .ref zy21, .ref zy22, .int 0, .ref zy24, .ref zy25, .ref zy26, .ref zy27])), (zy0, .inl (cy 0, 392, .inl zz))]) (wr := []) (w1 := fun (_ : Unit) => [(zy, .inr (11, [.ref zy0, .ref zy1, .int 0, .int 0, .int 0, .ref zy5, .int 0, .int 0, .ref zy8, .ref zy9, .ref zy10, .ref zy11, .ref zy12, .ref zy13, .ref zy14, .long 0, .ref zy16, .ref zy17, .ref zy18, .int 0, .long 0, .ref zy21, .ref zy22, .int 0, .ref zy24, .ref zy25, .ref zy26, .ref zy27])), (zy0, .inl (cy 0, 392, .inl zz))]) (va_runV (As := [.int zia]) (rest := []) ⟨hx, hb, hml, hown, hts⟩ (c_X11_placesOf l dC dI cy H.size zy zia zy0 zy1 zy5 zy8 zy9 zy10 zy11 zy12 zy13 zy14 zy16 zy17 zy18 zy21 zy22 zy24 zy25 zy26 zy27 (by first | rfl | decide | omega | exact Int32.toInt_toInt64 _)) (cwV 1 hts gX11_mustGo_X11_placesOf rfl rfl rfl (by decide +kernel) ⟨(Nat.le_of_ble_eq_true rfl), (Nat.le_of_ble_eq_true rfl)⟩) (PRE.v (hP.sub [0, 1] rfl) hK (hD.sub [0, 1] (by decide) rfl) hN (va_recv hK hP (ci := 11) (q0 := 0) rfl rfl)) rfl rfl hl.1 rfl (lv_room (Nat.le_of_ble_eq_true rfl)) dX11_mustGo_11 ⟨(Nat.le_of_ble_eq_true rfl), (Nat.le_of_ble_eq_true rfl)⟩) hP hD hS hA [0, 1] [] rfl rfl rfl (by decide) (fun r_7 u_6 H locs hw_8 hP hD hS => ?_)
    have hP : va_P (dC, dI) vwCl [(zy, .inr (11, [.ref zy0, .ref zy1, .int 0, .int 0, .int 0, .ref zy5, .int 0, .int 0, .ref zy8, .ref zy9, .ref zy10, .ref zy11, .ref zy12, .ref zy13, .ref zy14, .long 0, .ref zy16, .ref zy17, .ref zy18, .int 0, .long 0, .ref zy21, .ref zy22, .int 0, .ref zy24, .ref zy25, .ref zy26, .ref zy27])), (zy0, .inl (cy 0, 392, .inl zz))] H := hP
    have hD : va_D A [(zy, .inr (11, [.ref zy0, .ref zy1, .int 0, .int 0, .int 0, .ref zy5, .int 0, .int 0, .ref zy8, .ref zy9, .ref zy10, .ref zy11, .ref zy12, .ref zy13, .ref zy14, .long 0, .ref zy16, .ref zy17, .ref zy18, .int 0, .long 0, .ref zy21, .ref zy22, .int 0, .ref zy24, .ref zy25, .ref zy26, .ref zy27])), (zy0, .inl (cy 0, 392, .inl zz))] := hD
    obtain rfl : r_7 = 0 := hw_8
    refine lv_if_ne (tgt := 20) hx hb dX11_mustGo_14 (by decide) (fun c_9 => absurd (by decide) c_9) (fun c_9 => ?_)
    refine lv_bipush (v := (-2)) hx hb dX11_mustGo_17 (by decide) ?_
    have hP9 := hP.sub (ws' := []) [] rfl
    have hD9 := hD.sub (ws' := []) [] (by decide) rfl
    exact W.iret (v := (-2)) hx hb hr (fun t ht hW => ⟨⟨(-2), (), rfl, (by unfold an_mustGo; (repeat' split) <;> first | rfl | (exfalso; omega)), ⟨by rw [ht]; exact hP9, va_K.moved hW.alike hK, hD9⟩⟩, hS.F ht⟩) hS.2.2 dX11_mustGo_19
  · have f_5 : ¬ (0 ≤ zia.toInt ∧ zia.toInt ≤ 1) := bz_0 hw_3 c_4
    refine lv_iconst (v := (-1)) hx hb dX11_mustGo_7 (by decide) ?_
    have hP9 := hP.sub (ws' := []) [] rfl
    have hD9 := hD.sub (ws' := []) [] (by decide) rfl
    exact W.iret (v := (-1)) hx hb hr (fun t ht hW => ⟨⟨(-1), (), rfl, (by unfold an_mustGo; (repeat' split) <;> first | rfl | (exfalso; omega)), ⟨by rw [ht]; exact hP9, va_K.moved hW.alike hK, hD9⟩⟩, hS.F ht⟩) hS.2.2 dX11_mustGo_8
set_option maxHeartbeats 4000000 in
set_option maxRecDepth 100000 in
theorem c_X11_judge (l : Launch) (dC : Nat → ClassId) (dI : Nat → Nat → Nat) (cy : Nat → ClassId) (sz : Nat) (zy : Nat) (zia : Int32) (zib : Int32) (zic : Int32) (zid : Int32) (zy0 : Nat) (zy1 : Nat) (zy5 : Nat) (zy8 : Nat) (zy9 : Nat) (zy10 : Nat) (zy11 : Nat) (zy12 : Nat) (zy13 : Nat) (zy14 : Nat) (zy16 : Nat) (zy17 : Nat) (zy18 : Nat) (zy21 : Nat) (zy22 : Nat) (zy24 : Nat) (zy25 : Nat) (zy26 : Nat) (zy27 : Nat)  : Met l yX11_judge wsX11_judge ({ frames := 2, cells := 0, slots := 0, locals := 46 }) (va_Pc [.ref zy, .int zia, .int zib, .int zic, .int zid] (PRE dC dI cy [(zy, .inr (11, [.ref zy0, .ref zy1, .int 0, .int 0, .int 0, .ref zy5, .int 0, .int 0, .ref zy8, .ref zy9, .ref zy10, .ref zy11, .ref zy12, .ref zy13, .ref zy14, .long 0, .ref zy16, .ref zy17, .ref zy18, .int 0, .long 0, .ref zy21, .ref zy22, .int 0, .ref zy24, .ref zy25, .ref zy26, .ref zy27])), (zy0, .inl (cy 0, 392, .inl zz))] sz)) (va_Qi (fun (r : Int32) (_ : Unit) => r = an_judge zia zib zic zid) (fun u t => POST dC dI cy (va_A [(zy, .inr (11, [.ref zy0, .ref zy1, .int 0, .int 0, .int 0, .ref zy5, .int 0, .int 0, .ref zy8, .ref zy9, .ref zy10, .ref zy11, .ref zy12, .ref zy13, .ref zy14, .long 0, .ref zy16, .ref zy17, .ref zy18, .int 0, .long 0, .ref zy21, .ref zy22, .int 0, .ref zy24, .ref zy25, .ref zy26, .ref zy27])), (zy0, .inl (cy 0, 392, .inl zz))] sz) [] t) (va_A [(zy, .inr (11, [.ref zy0, .ref zy1, .int 0, .int 0, .int 0, .ref zy5, .int 0, .int 0, .ref zy8, .ref zy9, .ref zy10, .ref zy11, .ref zy12, .ref zy13, .ref zy14, .long 0, .ref zy16, .ref zy17, .ref zy18, .int 0, .long 0, .ref zy21, .ref zy22, .int 0, .ref zy24, .ref zy25, .ref zy26, .ref zy27])), (zy0, .inl (cy 0, 392, .inl zz))] sz)) 0 0 (va_A [(zy, .inr (11, [.ref zy0, .ref zy1, .int 0, .int 0, .int 0, .ref zy5, .int 0, .int 0, .ref zy8, .ref zy9, .ref zy10, .ref zy11, .ref zy12, .ref zy13, .ref zy14, .long 0, .ref zy16, .ref zy17, .ref zy18, .int 0, .long 0, .ref zy21, .ref zy22, .int 0, .ref zy24, .ref zy25, .ref zy26, .ref zy27])), (zy0, .inl (cy 0, 392, .inl zz))] sz) := by
  refine Met.ofW (cc := cX11_judge) (maxL := 10) (ret := (some .int)) (by decide) rfl ?_
  intro p e s m args below meth c s₁ B hml hv
  obtain ⟨rfl, hsz, hP, hK, hD0, hN⟩ := hv
  have hx := B.exec
  have hb := B.bytes
  have hr := B.returns
  have hts := atoms_spec (ws := wsX11_judge) B.pre
  have hown : s.vm.findClass RX11 = some m.cls := findClass_of_methodNamed B.named
  have hlocks := B.notSynchronized
  subst hsz
  have hD := hD0.self (sz := s.heap.size)
  generalize hAe : va_A [(zy, .inr (11, [.ref zy0, .ref zy1, .int 0, .int 0, .int 0, .ref zy5, .int 0, .int 0, .ref zy8, .ref zy9, .ref zy10, .ref zy11, .ref zy12, .ref zy13, .ref zy14, .long 0, .ref zy16, .ref zy17, .ref zy18, .int 0, .long 0, .ref zy21, .ref zy22, .int 0, .ref zy24, .ref zy25, .ref zy26, .ref zy27])), (zy0, .inl (cy 0, 392, .inl zz))] s.heap.size = A at hD ⊢
  have hA : ∀ q : Nat, s.heap.size ≤ q → A q := fun q h => by rw [← hAe]; exact Or.inr h
  have hS : va_S A s.heap s.heap [] := va_S.rf
  have hP : va_P (dC, dI) vwCl [(zy, .inr (11, [.ref zy0, .ref zy1, .int 0, .int 0, .int 0, .ref zy5, .int 0, .int 0, .ref zy8, .ref zy9, .ref zy10, .ref zy11, .ref zy12, .ref zy13, .ref zy14, .long 0, .ref zy16, .ref zy17, .ref zy18, .int 0, .long 0, .ref zy21, .ref zy22, .int 0, .ref zy24, .ref zy25, .ref zy26, .ref zy27])), (zy0, .inl (cy 0, 392, .inl zz))] s.heap := hP
  have hl := lv_entry ([.ref zy, .int zia, .int zib, .int zic, .int zid] : List Value) (n := 10) (Nat.le_of_ble_eq_true rfl)
  rw [lg_entry_eq]
  generalize (lg_sl ([.ref zy, .int zia, .int zib, .int zic, .int zid] : List Value) ++ List.replicate (10 - (lg_sl ([.ref zy, .int zia, .int zib, .int zic, .int zid] : List Value)).length) Slot.unset).toArray = ls at hl ⊢
  have hl : lv_has ls 10 [(0, .ref zy), (1, .int zia), (2, .int zib), (3, .int zic), (4, .int zid)] := hl
  refine lv_iload_n hx hb dX11_judge_0 rfl (lv_at hl 1 rfl) ?_
  refine cj_i (wc := []) (wr := [(zy, .inr (11, [.ref zy0, .ref zy1, .int 0, .int 0, .int 0, .ref zy5, .int 0, .int 0, .ref zy8, .ref zy9, .ref zy10, .ref zy11, .ref zy12, .ref zy13, .ref zy14, .long 0, .ref zy16, .ref zy17, .ref zy18, .int 0, .long 0, .ref zy21, .ref zy22, .int 0, .ref zy24, .ref zy25, .ref zy26, .ref zy27])), (zy0, .inl (cy 0, 392, .inl zz))]) (w1 := fun (_ : Unit) => []) (va_runS (As := [.int zia]) (rest := []) ⟨hx, hb, hml, hown, hts⟩ (c_X11_isCandle l dC dI cy s.heap.size zia) (va_cwS 1 hts gX11_judge_X11_isCandle rfl rfl rfl (by decide +kernel) ⟨(Nat.le_of_ble_eq_true rfl), (Nat.le_of_ble_eq_true rfl)⟩) (PRE.s (hP.sub [] rfl) hK (hD.sub [] (by decide) rfl) hN) rfl rfl hl.1 rfl (lv_room (Nat.le_of_ble_eq_true rfl)) dX11_judge_1 ⟨(Nat.le_of_ble_eq_true rfl), (Nat.le_of_ble_eq_true rfl)⟩) hP hD hS hA [] [0, 1] rfl rfl rfl (by decide) (fun r_2 u_1 H locs hw_3 hP hD hS => ?_)
  have hP : va_P (dC, dI) vwCl [(zy, .inr (11, [.ref zy0, .ref zy1, .int 0, .int 0, .int 0, .ref zy5, .int 0, .int 0, .ref zy8, .ref zy9, .ref zy10, .ref zy11, .ref zy12, .ref zy13, .ref zy14, .long 0, .ref zy16, .ref zy17, .ref zy18, .int 0, .long 0, .ref zy21, .ref zy22, .int 0, .ref zy24, .ref zy25, .ref zy26, .ref zy27])), (zy0, .inl (cy 0, 392, .inl zz))] H := hP
  have hD : va_D A [(zy, .inr (11, [.ref zy0, .ref zy1, .int 0, .int 0, .int 0, .ref zy5, .int 0, .int 0, .ref zy8, .ref zy9, .ref zy10, .ref zy11, .ref zy12, .ref zy13, .ref zy14, .long 0, .ref zy16, .ref zy17, .ref zy18, .int 0, .long 0, .ref zy21, .ref zy22, .int 0, .ref zy24, .ref zy25, .ref zy26, .ref zy27])), (zy0, .inl (cy 0, 392, .inl zz))] := hD
  have hw_3 : r_2 = if 0 ≤ zia.toInt ∧ zia.toInt ≤ 1 then 1 else 0 := hw_3
  refine lv_if_eq (tgt := 15) hx hb dX11_judge_4 (by decide) (fun c_4 => ?_) (fun c_4 => ?_)
  · have f_5 : ¬ (0 ≤ zia.toInt ∧ zia.toInt ≤ 1) := bz_0 hw_3 c_4
    refine lv_iconst (v := (-1)) hx hb dX11_judge_15 (by decide) ?_
    have hP9 := hP.sub (ws' := []) [] rfl
    have hD9 := hD.sub (ws' := []) [] (by decide) rfl
    exact W.iret (v := (-1)) hx hb hr (fun t ht hW => ⟨⟨(-1), (), rfl, (by unfold an_judge; (repeat' split) <;> first | rfl | (exfalso; omega)), ⟨by rw [ht]; exact hP9, va_K.moved hW.alike hK, hD9⟩⟩, hS.F ht⟩) hS.2.2 dX11_judge_16
  · have f_5 : 0 ≤ zia.toInt ∧ zia.toInt ≤ 1 := bz_1 hw_3 c_4
    refine lv_iload_n hx hb dX11_judge_7 rfl (lv_at hl 2 rfl) ?_
    refine lv_iload_n hx hb dX11_judge_8 rfl (lv_at hl 3 rfl) ?_
    refine cj_i (wc := []) (wr := [(zy, .inr (11, [.ref zy0, .ref zy1, .int 0, .int 0, .int 0, .ref zy5, .int 0, .int 0, .ref zy8, .ref zy9, .ref zy10, .ref zy11, .ref zy12, .ref zy13, .ref zy14, .long 0, .ref zy16, .ref zy17, .ref zy18, .int 0, .long 0, .ref zy21, .ref zy22, .int 0, .ref zy24, .ref zy25, .ref zy26, .ref zy27])), (zy0, .inl (cy 0, 392, .inl zz))]) (w1 := fun (_ : Unit) => []) (va_runS (As := [.int zib, .int zic]) (rest := []) ⟨hx, hb, hml, hown, hts⟩ (c_X11_isSheet l dC dI cy H.size zib zic) (va_cwS 2 hts gX11_judge_X11_isSheet rfl rfl rfl (by decide +kernel) ⟨(Nat.le_of_ble_eq_true rfl), (Nat.le_of_ble_eq_true rfl)⟩) (PRE.s (hP.sub [] rfl) hK (hD.sub [] (by decide) rfl) hN) rfl rfl hl.1 rfl (lv_room (Nat.le_of_ble_eq_true rfl)) dX11_judge_9 ⟨(Nat.le_of_ble_eq_true rfl), (Nat.le_of_ble_eq_true rfl)⟩) hP hD hS hA [] [0, 1] rfl rfl rfl (by decide) (fun r_7 u_6 H locs hw_8 hP hD hS => ?_)
    have hP : va_P (dC, dI) vwCl [(zy, .inr (11, [.ref zy0, .ref zy1, .int 0, .int 0, .int 0, .ref zy5, .int 0, .int 0, .ref zy8, .ref zy9, .ref zy10, .ref zy11, .ref zy12, .ref zy13, .ref zy14, .long 0, .ref zy16, .ref zy17, .ref zy18, .int 0, .long 0, .ref zy21, .ref zy22, .int 0, .ref zy24, .ref zy25, .ref zy26, .ref zy27])), (zy0, .inl (cy 0, 392, .inl zz))] H := hP
    have hD : va_D A [(zy, .inr (11, [.ref zy0, .ref zy1, .int 0, .int 0, .int 0, .ref zy5, .int 0, .int 0, .ref zy8, .ref zy9, .ref zy10, .ref zy11, .ref zy12, .ref zy13, .ref zy14, .long 0, .ref zy16, .ref zy17, .ref zy18, .int 0, .long 0, .ref zy21, .ref zy22, .int 0, .ref zy24, .ref zy25, .ref zy26, .ref zy27])), (zy0, .inl (cy 0, 392, .inl zz))] := hD
    have hw_8 : r_7 = if (0 ≤ zib.toInt ∧ zib.toInt ≤ 3) ∧ 0 ≤ zic.toInt ∧ zic.toInt ≤ 2 then 1 else 0 := hw_8
    refine lv_if_ne (tgt := 17) hx hb dX11_judge_12 (by decide) (fun c_9 => ?_) (fun c_9 => ?_)
    · have f_10 : (0 ≤ zib.toInt ∧ zib.toInt ≤ 3) ∧ 0 ≤ zic.toInt ∧ zic.toInt ≤ 2 := bz_1 hw_8 c_9
      refine lv_aload_n hx hb dX11_judge_17 rfl (lv_at hl 0 rfl) ?_
      refine lv_iload_n hx hb dX11_judge_18 rfl (lv_at hl 1 rfl) ?_
      refine cj_i (wc := [(zy, .inr (11, [.ref zy0, .ref zy1, .int 0, .int 0, .int 0, .ref zy5, .int 0, .int 0, .ref zy8, .ref zy9, .ref zy10, .ref zy11, .ref zy12, .ref zy13, .ref zy14, .long 0, .ref zy16, .ref zy17, .ref zy18, .int 0, .long 0, .ref zy21, .ref zy22, .int 0, .ref zy24, .ref zy25, .ref zy26, .ref zy27])), (zy0, .inl (cy 0, 392, .inl zz))]) (wr := []) (w1 := fun (_ : Unit) => [(zy, .inr (11, [.ref zy0, .ref zy1, .int 0, .int 0, .int 0, .ref zy5, .int 0, .int 0, .ref zy8, .ref zy9, .ref zy10, .ref zy11, .ref zy12, .ref zy13, .ref zy14, .long 0, .ref zy16, .ref zy17, .ref zy18, .int 0, .long 0, .ref zy21, .ref zy22, .int 0, .ref zy24, .ref zy25, .ref zy26, .ref zy27])), (zy0, .inl (cy 0, 392, .inl zz))]) (va_runV (As := [.int zia]) (rest := []) ⟨hx, hb, hml, hown, hts⟩ (c_X11_placesOf l dC dI cy H.size zy zia zy0 zy1 zy5 zy8 zy9 zy10 zy11 zy12 zy13 zy14 zy16 zy17 zy18 zy21 zy22 zy24 zy25 zy26 zy27 (by first | rfl | decide | omega | exact Int32.toInt_toInt64 _)) (cwV 1 hts gX11_judge_X11_placesOf rfl rfl rfl (by decide +kernel) ⟨(Nat.le_of_ble_eq_true rfl), (Nat.le_of_ble_eq_true rfl)⟩) (PRE.v (hP.sub [0, 1] rfl) hK (hD.sub [0, 1] (by decide) rfl) hN (va_recv hK hP (ci := 11) (q0 := 0) rfl rfl)) rfl rfl hl.1 rfl (lv_room (Nat.le_of_ble_eq_true rfl)) dX11_judge_19 ⟨(Nat.le_of_ble_eq_true rfl), (Nat.le_of_ble_eq_true rfl)⟩) hP hD hS hA [0, 1] [] rfl rfl rfl (by decide) (fun r_12 u_11 H locs hw_13 hP hD hS => ?_)
      have hP : va_P (dC, dI) vwCl [(zy, .inr (11, [.ref zy0, .ref zy1, .int 0, .int 0, .int 0, .ref zy5, .int 0, .int 0, .ref zy8, .ref zy9, .ref zy10, .ref zy11, .ref zy12, .ref zy13, .ref zy14, .long 0, .ref zy16, .ref zy17, .ref zy18, .int 0, .long 0, .ref zy21, .ref zy22, .int 0, .ref zy24, .ref zy25, .ref zy26, .ref zy27])), (zy0, .inl (cy 0, 392, .inl zz))] H := hP
      have hD : va_D A [(zy, .inr (11, [.ref zy0, .ref zy1, .int 0, .int 0, .int 0, .ref zy5, .int 0, .int 0, .ref zy8, .ref zy9, .ref zy10, .ref zy11, .ref zy12, .ref zy13, .ref zy14, .long 0, .ref zy16, .ref zy17, .ref zy18, .int 0, .long 0, .ref zy21, .ref zy22, .int 0, .ref zy24, .ref zy25, .ref zy26, .ref zy27])), (zy0, .inl (cy 0, 392, .inl zz))] := hD
      obtain rfl : r_12 = 0 := hw_13
      refine lv_if_ne (tgt := 28) hx hb dX11_judge_22 (by decide) (fun c_14 => absurd (by decide) c_14) (fun c_14 => ?_)
      refine lv_bipush (v := (-2)) hx hb dX11_judge_25 (by decide) ?_
      have hP9 := hP.sub (ws' := []) [] rfl
      have hD9 := hD.sub (ws' := []) [] (by decide) rfl
      exact W.iret (v := (-2)) hx hb hr (fun t ht hW => ⟨⟨(-2), (), rfl, (by unfold an_judge; (repeat' split) <;> first | rfl | (exfalso; omega)), ⟨by rw [ht]; exact hP9, va_K.moved hW.alike hK, hD9⟩⟩, hS.F ht⟩) hS.2.2 dX11_judge_27
    · have f_10 : ¬ ((0 ≤ zib.toInt ∧ zib.toInt ≤ 3) ∧ 0 ≤ zic.toInt ∧ zic.toInt ≤ 2) := bz_0 hw_8 c_9
      refine lv_iconst (v := (-1)) hx hb dX11_judge_15 (by decide) ?_
      have hP9 := hP.sub (ws' := []) [] rfl
      have hD9 := hD.sub (ws' := []) [] (by decide) rfl
      exact W.iret (v := (-1)) hx hb hr (fun t ht hW => ⟨⟨(-1), (), rfl, (by unfold an_judge; (repeat' split) <;> first | rfl | (exfalso; omega)), ⟨by rw [ht]; exact hP9, va_K.moved hW.alike hK, hD9⟩⟩, hS.F ht⟩) hS.2.2 dX11_judge_16
set_option maxHeartbeats 4000000 in
set_option maxRecDepth 100000 in
theorem c_X11_tie (l : Launch) (dC : Nat → ClassId) (dI : Nat → Nat → Nat) (cy : Nat → ClassId) (sz : Nat) (zy : Nat) (zia : Int32) (zy0 : Nat) (zy1 : Nat) (zy5 : Nat) (zy8 : Nat) (zy9 : Nat) (zy10 : Nat) (zy11 : Nat) (zy12 : Nat) (zy13 : Nat) (zy14 : Nat) (zy16 : Nat) (zy17 : Nat) (zy18 : Nat) (zy21 : Nat) (zy22 : Nat) (zy24 : Nat) (zy25 : Nat) (zy26 : Nat) (zy27 : Nat)  : Met l yX11_tie wsX11_tie ({ frames := 1, cells := 0, slots := 0, locals := 25 }) (va_Pc [.ref zy, .int zia] (PRE dC dI cy [(zy, .inr (11, [.ref zy0, .ref zy1, .int 0, .int 0, .int 0, .ref zy5, .int 0, .int 0, .ref zy8, .ref zy9, .ref zy10, .ref zy11, .ref zy12, .ref zy13, .ref zy14, .long 0, .ref zy16, .ref zy17, .ref zy18, .int 0, .long 0, .ref zy21, .ref zy22, .int 0, .ref zy24, .ref zy25, .ref zy26, .ref zy27])), (zy0, .inl (cy 0, 392, .inl zz))] sz)) (va_Ql (fun (r : Int64) (_ : Unit) => r = an_tie zia) (fun u t => POST dC dI cy (va_A [(zy, .inr (11, [.ref zy0, .ref zy1, .int 0, .int 0, .int 0, .ref zy5, .int 0, .int 0, .ref zy8, .ref zy9, .ref zy10, .ref zy11, .ref zy12, .ref zy13, .ref zy14, .long 0, .ref zy16, .ref zy17, .ref zy18, .int 0, .long 0, .ref zy21, .ref zy22, .int 0, .ref zy24, .ref zy25, .ref zy26, .ref zy27])), (zy0, .inl (cy 0, 392, .inl zz))] sz) [] t) (va_A [(zy, .inr (11, [.ref zy0, .ref zy1, .int 0, .int 0, .int 0, .ref zy5, .int 0, .int 0, .ref zy8, .ref zy9, .ref zy10, .ref zy11, .ref zy12, .ref zy13, .ref zy14, .long 0, .ref zy16, .ref zy17, .ref zy18, .int 0, .long 0, .ref zy21, .ref zy22, .int 0, .ref zy24, .ref zy25, .ref zy26, .ref zy27])), (zy0, .inl (cy 0, 392, .inl zz))] sz)) 0 0 (va_A [(zy, .inr (11, [.ref zy0, .ref zy1, .int 0, .int 0, .int 0, .ref zy5, .int 0, .int 0, .ref zy8, .ref zy9, .ref zy10, .ref zy11, .ref zy12, .ref zy13, .ref zy14, .long 0, .ref zy16, .ref zy17, .ref zy18, .int 0, .long 0, .ref zy21, .ref zy22, .int 0, .ref zy24, .ref zy25, .ref zy26, .ref zy27])), (zy0, .inl (cy 0, 392, .inl zz))] sz) := by
  refine Met.ofW (cc := cX11_tie) (maxL := 8) (ret := (some .long)) (by decide) rfl ?_
  intro p e s m args below meth c s₁ B hml hv
  obtain ⟨rfl, hsz, hP, hK, hD0, hN⟩ := hv
  have hx := B.exec
  have hb := B.bytes
  have hr := B.returns
  have hts := atoms_spec (ws := wsX11_tie) B.pre
  have hown : s.vm.findClass RX11 = some m.cls := findClass_of_methodNamed B.named
  have hlocks := B.notSynchronized
  subst hsz
  have hD := hD0.self (sz := s.heap.size)
  generalize hAe : va_A [(zy, .inr (11, [.ref zy0, .ref zy1, .int 0, .int 0, .int 0, .ref zy5, .int 0, .int 0, .ref zy8, .ref zy9, .ref zy10, .ref zy11, .ref zy12, .ref zy13, .ref zy14, .long 0, .ref zy16, .ref zy17, .ref zy18, .int 0, .long 0, .ref zy21, .ref zy22, .int 0, .ref zy24, .ref zy25, .ref zy26, .ref zy27])), (zy0, .inl (cy 0, 392, .inl zz))] s.heap.size = A at hD ⊢
  have hA : ∀ q : Nat, s.heap.size ≤ q → A q := fun q h => by rw [← hAe]; exact Or.inr h
  have hS : va_S A s.heap s.heap [] := va_S.rf
  have hP : va_P (dC, dI) vwCl [(zy, .inr (11, [.ref zy0, .ref zy1, .int 0, .int 0, .int 0, .ref zy5, .int 0, .int 0, .ref zy8, .ref zy9, .ref zy10, .ref zy11, .ref zy12, .ref zy13, .ref zy14, .long 0, .ref zy16, .ref zy17, .ref zy18, .int 0, .long 0, .ref zy21, .ref zy22, .int 0, .ref zy24, .ref zy25, .ref zy26, .ref zy27])), (zy0, .inl (cy 0, 392, .inl zz))] s.heap := hP
  have hl := lv_entry ([.ref zy, .int zia] : List Value) (n := 8) (Nat.le_of_ble_eq_true rfl)
  rw [lg_entry_eq]
  generalize (lg_sl ([.ref zy, .int zia] : List Value) ++ List.replicate (8 - (lg_sl ([.ref zy, .int zia] : List Value)).length) Slot.unset).toArray = ls at hl ⊢
  have hl : lv_has ls 8 [(0, .ref zy), (1, .int zia)] := hl
  refine lv_iload_n hx hb dX11_tie_0 rfl (lv_at hl 1 rfl) ?_
  refine lv_i2l (v := zia.toInt64) hx hb dX11_tie_1 rfl ?_
  refine lv_lconst (v := 0) hx hb dX11_tie_2 (by decide) ?_
  refine lv_ldc2 (v := 2) hx hb hown (hts (.constantLong RX11 180 2) (by decide +kernel)) dX11_tie_3 ?_
  refine cj_i (wc := []) (wr := [(zy, .inr (11, [.ref zy0, .ref zy1, .int 0, .int 0, .int 0, .ref zy5, .int 0, .int 0, .ref zy8, .ref zy9, .ref zy10, .ref zy11, .ref zy12, .ref zy13, .ref zy14, .long 0, .ref zy16, .ref zy17, .ref zy18, .int 0, .long 0, .ref zy21, .ref zy22, .int 0, .ref zy24, .ref zy25, .ref zy26, .ref zy27])), (zy0, .inl (cy 0, 392, .inl zz))]) (w1 := fun (_ : Unit) => []) (va_runS (As := [.long zia.toInt64, .long 0, .long 2]) (rest := []) ⟨hx, hb, hml, hown, hts⟩ (c_X11_in l dC dI cy s.heap.size zia.toInt64 0 2 0 2 zia.toInt (by first | rfl | decide | omega | exact Int32.toInt_toInt64 _) (by first | rfl | decide | omega | exact Int32.toInt_toInt64 _) (by first | rfl | decide | omega | exact Int32.toInt_toInt64 _)) (va_cwS 3 hts gX11_tie_X11_in rfl rfl rfl (by decide +kernel) ⟨(Nat.le_of_ble_eq_true rfl), (Nat.le_of_ble_eq_true rfl)⟩) (PRE.s (hP.sub [] rfl) hK (hD.sub [] (by decide) rfl) hN) rfl rfl hl.1 rfl (lv_room (Nat.le_of_ble_eq_true rfl)) dX11_tie_6 ⟨(Nat.le_of_ble_eq_true rfl), (Nat.le_of_ble_eq_true rfl)⟩) hP hD hS hA [] [0, 1] rfl rfl rfl (by decide) (fun r_2 u_1 H locs hw_3 hP hD hS => ?_)
  have hP : va_P (dC, dI) vwCl [(zy, .inr (11, [.ref zy0, .ref zy1, .int 0, .int 0, .int 0, .ref zy5, .int 0, .int 0, .ref zy8, .ref zy9, .ref zy10, .ref zy11, .ref zy12, .ref zy13, .ref zy14, .long 0, .ref zy16, .ref zy17, .ref zy18, .int 0, .long 0, .ref zy21, .ref zy22, .int 0, .ref zy24, .ref zy25, .ref zy26, .ref zy27])), (zy0, .inl (cy 0, 392, .inl zz))] H := hP
  have hD : va_D A [(zy, .inr (11, [.ref zy0, .ref zy1, .int 0, .int 0, .int 0, .ref zy5, .int 0, .int 0, .ref zy8, .ref zy9, .ref zy10, .ref zy11, .ref zy12, .ref zy13, .ref zy14, .long 0, .ref zy16, .ref zy17, .ref zy18, .int 0, .long 0, .ref zy21, .ref zy22, .int 0, .ref zy24, .ref zy25, .ref zy26, .ref zy27])), (zy0, .inl (cy 0, 392, .inl zz))] := hD
  have hw_3 : r_2 = if 0 ≤ zia.toInt ∧ zia.toInt ≤ 2 then 1 else 0 := hw_3
  refine lv_if_ne (tgt := 16) hx hb dX11_tie_9 (by decide) (fun c_4 => ?_) (fun c_4 => ?_)
  · have f_5 : 0 ≤ zia.toInt ∧ zia.toInt ≤ 2 := bz_1 hw_3 c_4
    refine lv_aload_n hx hb dX11_tie_16 rfl (lv_at hl 0 rfl) ?_
    refine lv_iconst (v := 0) hx hb dX11_tie_17 (by decide) ?_
    refine cj_i (wc := [(zy, .inr (11, [.ref zy0, .ref zy1, .int 0, .int 0, .int 0, .ref zy5, .int 0, .int 0, .ref zy8, .ref zy9, .ref zy10, .ref zy11, .ref zy12, .ref zy13, .ref zy14, .long 0, .ref zy16, .ref zy17, .ref zy18, .int 0, .long 0, .ref zy21, .ref zy22, .int 0, .ref zy24, .ref zy25, .ref zy26, .ref zy27])), (zy0, .inl (cy 0, 392, .inl zz))]) (wr := []) (w1 := fun (_ : Unit) => [(zy, .inr (11, [.ref zy0, .ref zy1, .int 0, .int 0, .int 0, .ref zy5, .int 0, .int 0, .ref zy8, .ref zy9, .ref zy10, .ref zy11, .ref zy12, .ref zy13, .ref zy14, .long 0, .ref zy16, .ref zy17, .ref zy18, .int 0, .long 0, .ref zy21, .ref zy22, .int 0, .ref zy24, .ref zy25, .ref zy26, .ref zy27])), (zy0, .inl (cy 0, 392, .inl zz))]) (va_runV (As := [.int 0]) (rest := []) ⟨hx, hb, hml, hown, hts⟩ (c_X11_placesOf l dC dI cy H.size zy 0 zy0 zy1 zy5 zy8 zy9 zy10 zy11 zy12 zy13 zy14 zy16 zy17 zy18 zy21 zy22 zy24 zy25 zy26 zy27 (by first | rfl | decide | omega | exact Int32.toInt_toInt64 _)) (cwV 1 hts gX11_tie_X11_placesOf rfl rfl rfl (by decide +kernel) ⟨(Nat.le_of_ble_eq_true rfl), (Nat.le_of_ble_eq_true rfl)⟩) (PRE.v (hP.sub [0, 1] rfl) hK (hD.sub [0, 1] (by decide) rfl) hN (va_recv hK hP (ci := 11) (q0 := 0) rfl rfl)) rfl rfl hl.1 rfl (lv_room (Nat.le_of_ble_eq_true rfl)) dX11_tie_18 ⟨(Nat.le_of_ble_eq_true rfl), (Nat.le_of_ble_eq_true rfl)⟩) hP hD hS hA [0, 1] [] rfl rfl rfl (by decide) (fun r_7 u_6 H locs hw_8 hP hD hS => ?_)
    have hP : va_P (dC, dI) vwCl [(zy, .inr (11, [.ref zy0, .ref zy1, .int 0, .int 0, .int 0, .ref zy5, .int 0, .int 0, .ref zy8, .ref zy9, .ref zy10, .ref zy11, .ref zy12, .ref zy13, .ref zy14, .long 0, .ref zy16, .ref zy17, .ref zy18, .int 0, .long 0, .ref zy21, .ref zy22, .int 0, .ref zy24, .ref zy25, .ref zy26, .ref zy27])), (zy0, .inl (cy 0, 392, .inl zz))] H := hP
    have hD : va_D A [(zy, .inr (11, [.ref zy0, .ref zy1, .int 0, .int 0, .int 0, .ref zy5, .int 0, .int 0, .ref zy8, .ref zy9, .ref zy10, .ref zy11, .ref zy12, .ref zy13, .ref zy14, .long 0, .ref zy16, .ref zy17, .ref zy18, .int 0, .long 0, .ref zy21, .ref zy22, .int 0, .ref zy24, .ref zy25, .ref zy26, .ref zy27])), (zy0, .inl (cy 0, 392, .inl zz))] := hD
    obtain rfl : r_7 = 0 := hw_8
    refine lv_if_eq (tgt := 32) hx hb dX11_tie_21 (by decide) (fun c_9 => ?_) (fun c_9 => absurd (by decide) c_9)
    refine lv_ldc2 (v := (-2)) hx hb hown (hts (.constantLong RX11 238 (-2)) (by decide +kernel)) dX11_tie_32 ?_
    have hP9 := hP.sub (ws' := []) [] rfl
    have hD9 := hD.sub (ws' := []) [] (by decide) rfl
    exact W.lret (v := (-2)) hx hb hr (fun t ht hW => ⟨⟨(-2), (), rfl, (by unfold an_tie; (repeat' split) <;> first | rfl | (exfalso; omega)), ⟨by rw [ht]; exact hP9, va_K.moved hW.alike hK, hD9⟩⟩, hS.F ht⟩) hS.2.2 dX11_tie_35
  · have f_5 : ¬ (0 ≤ zia.toInt ∧ zia.toInt ≤ 2) := bz_0 hw_3 c_4
    refine lv_ldc2 (v := (-1)) hx hb hown (hts (.constantLong RX11 236 (-1)) (by decide +kernel)) dX11_tie_12 ?_
    have hP9 := hP.sub (ws' := []) [] rfl
    have hD9 := hD.sub (ws' := []) [] (by decide) rfl
    exact W.lret (v := (-1)) hx hb hr (fun t ht hW => ⟨⟨(-1), (), rfl, (by unfold an_tie; (repeat' split) <;> first | rfl | (exfalso; omega)), ⟨by rw [ht]; exact hP9, va_K.moved hW.alike hK, hD9⟩⟩, hS.F ht⟩) hS.2.2 dX11_tie_15
set_option maxHeartbeats 4000000 in
set_option maxRecDepth 100000 in
theorem c_X11_cause (l : Launch) (dC : Nat → ClassId) (dI : Nat → Nat → Nat) (cy : Nat → ClassId) (sz : Nat) (zy : Nat) (zia : Int32) (zib : Int32) (zy0 : Nat) (zy1 : Nat) (zy5 : Nat) (zy8 : Nat) (zy9 : Nat) (zy10 : Nat) (zy11 : Nat) (zy12 : Nat) (zy13 : Nat) (zy14 : Nat) (zy16 : Nat) (zy17 : Nat) (zy18 : Nat) (zy21 : Nat) (zy22 : Nat) (zy24 : Nat) (zy25 : Nat) (zy26 : Nat) (zy27 : Nat)  : Met l yX11_cause wsX11_cause ({ frames := 1, cells := 0, slots := 0, locals := 25 }) (va_Pc [.ref zy, .int zia, .int zib] (PRE dC dI cy [(zy, .inr (11, [.ref zy0, .ref zy1, .int 0, .int 0, .int 0, .ref zy5, .int 0, .int 0, .ref zy8, .ref zy9, .ref zy10, .ref zy11, .ref zy12, .ref zy13, .ref zy14, .long 0, .ref zy16, .ref zy17, .ref zy18, .int 0, .long 0, .ref zy21, .ref zy22, .int 0, .ref zy24, .ref zy25, .ref zy26, .ref zy27])), (zy0, .inl (cy 0, 392, .inl zz))] sz)) (va_Qi (fun (r : Int32) (_ : Unit) => r = an_cause zia zib) (fun u t => POST dC dI cy (va_A [(zy, .inr (11, [.ref zy0, .ref zy1, .int 0, .int 0, .int 0, .ref zy5, .int 0, .int 0, .ref zy8, .ref zy9, .ref zy10, .ref zy11, .ref zy12, .ref zy13, .ref zy14, .long 0, .ref zy16, .ref zy17, .ref zy18, .int 0, .long 0, .ref zy21, .ref zy22, .int 0, .ref zy24, .ref zy25, .ref zy26, .ref zy27])), (zy0, .inl (cy 0, 392, .inl zz))] sz) [] t) (va_A [(zy, .inr (11, [.ref zy0, .ref zy1, .int 0, .int 0, .int 0, .ref zy5, .int 0, .int 0, .ref zy8, .ref zy9, .ref zy10, .ref zy11, .ref zy12, .ref zy13, .ref zy14, .long 0, .ref zy16, .ref zy17, .ref zy18, .int 0, .long 0, .ref zy21, .ref zy22, .int 0, .ref zy24, .ref zy25, .ref zy26, .ref zy27])), (zy0, .inl (cy 0, 392, .inl zz))] sz)) 0 0 (va_A [(zy, .inr (11, [.ref zy0, .ref zy1, .int 0, .int 0, .int 0, .ref zy5, .int 0, .int 0, .ref zy8, .ref zy9, .ref zy10, .ref zy11, .ref zy12, .ref zy13, .ref zy14, .long 0, .ref zy16, .ref zy17, .ref zy18, .int 0, .long 0, .ref zy21, .ref zy22, .int 0, .ref zy24, .ref zy25, .ref zy26, .ref zy27])), (zy0, .inl (cy 0, 392, .inl zz))] sz) := by
  refine Met.ofW (cc := cX11_cause) (maxL := 3) (ret := (some .int)) (by decide) rfl ?_
  intro p e s m args below meth c s₁ B hml hv
  obtain ⟨rfl, hsz, hP, hK, hD0, hN⟩ := hv
  have hx := B.exec
  have hb := B.bytes
  have hr := B.returns
  have hts := atoms_spec (ws := wsX11_cause) B.pre
  have hown : s.vm.findClass RX11 = some m.cls := findClass_of_methodNamed B.named
  have hlocks := B.notSynchronized
  subst hsz
  have hD := hD0.self (sz := s.heap.size)
  generalize hAe : va_A [(zy, .inr (11, [.ref zy0, .ref zy1, .int 0, .int 0, .int 0, .ref zy5, .int 0, .int 0, .ref zy8, .ref zy9, .ref zy10, .ref zy11, .ref zy12, .ref zy13, .ref zy14, .long 0, .ref zy16, .ref zy17, .ref zy18, .int 0, .long 0, .ref zy21, .ref zy22, .int 0, .ref zy24, .ref zy25, .ref zy26, .ref zy27])), (zy0, .inl (cy 0, 392, .inl zz))] s.heap.size = A at hD ⊢
  have hA : ∀ q : Nat, s.heap.size ≤ q → A q := fun q h => by rw [← hAe]; exact Or.inr h
  have hS : va_S A s.heap s.heap [] := va_S.rf
  have hP : va_P (dC, dI) vwCl [(zy, .inr (11, [.ref zy0, .ref zy1, .int 0, .int 0, .int 0, .ref zy5, .int 0, .int 0, .ref zy8, .ref zy9, .ref zy10, .ref zy11, .ref zy12, .ref zy13, .ref zy14, .long 0, .ref zy16, .ref zy17, .ref zy18, .int 0, .long 0, .ref zy21, .ref zy22, .int 0, .ref zy24, .ref zy25, .ref zy26, .ref zy27])), (zy0, .inl (cy 0, 392, .inl zz))] s.heap := hP
  have hl := lv_entry ([.ref zy, .int zia, .int zib] : List Value) (n := 3) (Nat.le_of_ble_eq_true rfl)
  rw [lg_entry_eq]
  generalize (lg_sl ([.ref zy, .int zia, .int zib] : List Value) ++ List.replicate (3 - (lg_sl ([.ref zy, .int zia, .int zib] : List Value)).length) Slot.unset).toArray = ls at hl ⊢
  have hl : lv_has ls 3 [(0, .ref zy), (1, .int zia), (2, .int zib)] := hl
  refine lv_iload_n hx hb dX11_cause_0 rfl (lv_at hl 1 rfl) ?_
  refine lv_i2l (v := zia.toInt64) hx hb dX11_cause_1 rfl ?_
  refine lv_ldc2 (v := (-30)) hx hb hown (hts (.constantLong RX11 335 (-30)) (by decide +kernel)) dX11_cause_2 ?_
  refine lv_ldc2 (v := 30) hx hb hown (hts (.constantLong RX11 337 30) (by decide +kernel)) dX11_cause_5 ?_
  refine cj_i (wc := []) (wr := [(zy, .inr (11, [.ref zy0, .ref zy1, .int 0, .int 0, .int 0, .ref zy5, .int 0, .int 0, .ref zy8, .ref zy9, .ref zy10, .ref zy11, .ref zy12, .ref zy13, .ref zy14, .long 0, .ref zy16, .ref zy17, .ref zy18, .int 0, .long 0, .ref zy21, .ref zy22, .int 0, .ref zy24, .ref zy25, .ref zy26, .ref zy27])), (zy0, .inl (cy 0, 392, .inl zz))]) (w1 := fun (_ : Unit) => []) (va_runS (As := [.long zia.toInt64, .long (-30), .long 30]) (rest := []) ⟨hx, hb, hml, hown, hts⟩ (c_X11_in l dC dI cy s.heap.size zia.toInt64 (-30) 30 (-30) 30 zia.toInt (by first | rfl | decide | omega | exact Int32.toInt_toInt64 _) (by first | rfl | decide | omega | exact Int32.toInt_toInt64 _) (by first | rfl | decide | omega | exact Int32.toInt_toInt64 _)) (va_cwS 3 hts gX11_cause_X11_in rfl rfl rfl (by decide +kernel) ⟨(Nat.le_of_ble_eq_true rfl), (Nat.le_of_ble_eq_true rfl)⟩) (PRE.s (hP.sub [] rfl) hK (hD.sub [] (by decide) rfl) hN) rfl rfl hl.1 rfl (lv_room (Nat.le_of_ble_eq_true rfl)) dX11_cause_8 ⟨(Nat.le_of_ble_eq_true rfl), (Nat.le_of_ble_eq_true rfl)⟩) hP hD hS hA [] [0, 1] rfl rfl rfl (by decide) (fun r_2 u_1 H locs hw_3 hP hD hS => ?_)
  have hP : va_P (dC, dI) vwCl [(zy, .inr (11, [.ref zy0, .ref zy1, .int 0, .int 0, .int 0, .ref zy5, .int 0, .int 0, .ref zy8, .ref zy9, .ref zy10, .ref zy11, .ref zy12, .ref zy13, .ref zy14, .long 0, .ref zy16, .ref zy17, .ref zy18, .int 0, .long 0, .ref zy21, .ref zy22, .int 0, .ref zy24, .ref zy25, .ref zy26, .ref zy27])), (zy0, .inl (cy 0, 392, .inl zz))] H := hP
  have hD : va_D A [(zy, .inr (11, [.ref zy0, .ref zy1, .int 0, .int 0, .int 0, .ref zy5, .int 0, .int 0, .ref zy8, .ref zy9, .ref zy10, .ref zy11, .ref zy12, .ref zy13, .ref zy14, .long 0, .ref zy16, .ref zy17, .ref zy18, .int 0, .long 0, .ref zy21, .ref zy22, .int 0, .ref zy24, .ref zy25, .ref zy26, .ref zy27])), (zy0, .inl (cy 0, 392, .inl zz))] := hD
  have hw_3 : r_2 = if (-30) ≤ zia.toInt ∧ zia.toInt ≤ 30 then 1 else 0 := hw_3
  refine lv_if_eq (tgt := 27) hx hb dX11_cause_11 (by decide) (fun c_4 => ?_) (fun c_4 => ?_)
  · have f_5 : ¬ ((-30) ≤ zia.toInt ∧ zia.toInt ≤ 30) := bz_0 hw_3 c_4
    refine lv_iconst (v := (-1)) hx hb dX11_cause_27 (by decide) ?_
    have hP9 := hP.sub (ws' := []) [] rfl
    have hD9 := hD.sub (ws' := []) [] (by decide) rfl
    exact W.iret (v := (-1)) hx hb hr (fun t ht hW => ⟨⟨(-1), (), rfl, (by unfold an_cause; (repeat' split) <;> first | rfl | (exfalso; omega)), ⟨by rw [ht]; exact hP9, va_K.moved hW.alike hK, hD9⟩⟩, hS.F ht⟩) hS.2.2 dX11_cause_28
  · have f_5 : (-30) ≤ zia.toInt ∧ zia.toInt ≤ 30 := bz_1 hw_3 c_4
    refine lv_iload_n hx hb dX11_cause_14 rfl (lv_at hl 2 rfl) ?_
    refine lv_i2l (v := zib.toInt64) hx hb dX11_cause_15 rfl ?_
    refine lv_iload_n hx hb dX11_cause_16 rfl (lv_at hl 1 rfl) ?_
    refine lv_i2l (v := zia.toInt64) hx hb dX11_cause_17 rfl ?_
    refine lv_ldc2 (v := 30) hx hb hown (hts (.constantLong RX11 337 30) (by decide +kernel)) dX11_cause_18 ?_
    refine cj_i (wc := []) (wr := [(zy, .inr (11, [.ref zy0, .ref zy1, .int 0, .int 0, .int 0, .ref zy5, .int 0, .int 0, .ref zy8, .ref zy9, .ref zy10, .ref zy11, .ref zy12, .ref zy13, .ref zy14, .long 0, .ref zy16, .ref zy17, .ref zy18, .int 0, .long 0, .ref zy21, .ref zy22, .int 0, .ref zy24, .ref zy25, .ref zy26, .ref zy27])), (zy0, .inl (cy 0, 392, .inl zz))]) (w1 := fun (_ : Unit) => []) (va_runS (As := [.long zib.toInt64, .long zia.toInt64, .long 30]) (rest := []) ⟨hx, hb, hml, hown, hts⟩ (c_X11_in l dC dI cy H.size zib.toInt64 zia.toInt64 30 zia.toInt 30 zib.toInt (by first | rfl | decide | omega | exact Int32.toInt_toInt64 _) (by first | rfl | decide | omega | exact Int32.toInt_toInt64 _) (by first | rfl | decide | omega | exact Int32.toInt_toInt64 _)) (va_cwS 3 hts gX11_cause_X11_in rfl rfl rfl (by decide +kernel) ⟨(Nat.le_of_ble_eq_true rfl), (Nat.le_of_ble_eq_true rfl)⟩) (PRE.s (hP.sub [] rfl) hK (hD.sub [] (by decide) rfl) hN) rfl rfl hl.1 rfl (lv_room (Nat.le_of_ble_eq_true rfl)) dX11_cause_21 ⟨(Nat.le_of_ble_eq_true rfl), (Nat.le_of_ble_eq_true rfl)⟩) hP hD hS hA [] [0, 1] rfl rfl rfl (by decide) (fun r_7 u_6 H locs hw_8 hP hD hS => ?_)
    have hP : va_P (dC, dI) vwCl [(zy, .inr (11, [.ref zy0, .ref zy1, .int 0, .int 0, .int 0, .ref zy5, .int 0, .int 0, .ref zy8, .ref zy9, .ref zy10, .ref zy11, .ref zy12, .ref zy13, .ref zy14, .long 0, .ref zy16, .ref zy17, .ref zy18, .int 0, .long 0, .ref zy21, .ref zy22, .int 0, .ref zy24, .ref zy25, .ref zy26, .ref zy27])), (zy0, .inl (cy 0, 392, .inl zz))] H := hP
    have hD : va_D A [(zy, .inr (11, [.ref zy0, .ref zy1, .int 0, .int 0, .int 0, .ref zy5, .int 0, .int 0, .ref zy8, .ref zy9, .ref zy10, .ref zy11, .ref zy12, .ref zy13, .ref zy14, .long 0, .ref zy16, .ref zy17, .ref zy18, .int 0, .long 0, .ref zy21, .ref zy22, .int 0, .ref zy24, .ref zy25, .ref zy26, .ref zy27])), (zy0, .inl (cy 0, 392, .inl zz))] := hD
    have hw_8 : r_7 = if zia.toInt ≤ zib.toInt ∧ zib.toInt ≤ 30 then 1 else 0 := hw_8
    refine lv_if_ne (tgt := 29) hx hb dX11_cause_24 (by decide) (fun c_9 => ?_) (fun c_9 => ?_)
    · have f_10 : zia.toInt ≤ zib.toInt ∧ zib.toInt ≤ 30 := bz_1 hw_8 c_9
      refine lv_aload_n hx hb dX11_cause_29 rfl (lv_at hl 0 rfl) ?_
      refine va_get (D := (dC, dI)) (ci := 11) (v := .ref zy0) (C := RX11) (T := TX11) (N := 28) hx hb hts (by decide +kernel) hown hK hP 0 rfl rfl 0 (by decide) (hts (.fieldLink RX11 7 "DripStoneModel" "z" "[I") (by decide +kernel)) (fun _ h9 => h9) rfl dX11_cause_30 ?_
      refine lv_bipush (v := 13) hx hb dX11_cause_33 (by decide) ?_
      refine va_iald hx hb hK hP 1 0 rfl rfl (vp_in_iff.mpr ⟨by decide, by decide⟩) dX11_cause_35 ?_
      refine W.eq (g2 := F0 m 36 ls [.int 0]) rfl ?_
      refine lv_iconst (v := 5) hx hb dX11_cause_36 (by decide) ?_
      refine lv_icmp_ne (tgt := 43) hx hb dX11_cause_37 (by decide) (fun c_11 => ?_) (fun c_11 => absurd c_11 (by decide))
      refine lv_aload_n hx hb dX11_cause_43 rfl (lv_at hl 0 rfl) ?_
      refine va_get (D := (dC, dI)) (ci := 11) (v := .ref zy0) (C := RX11) (T := TX11) (N := 28) hx hb hts (by decide +kernel) hown hK hP 0 rfl rfl 0 (by decide) (hts (.fieldLink RX11 7 "DripStoneModel" "z" "[I") (by decide +kernel)) (fun _ h9 => h9) rfl dX11_cause_44 ?_
      refine lv_sipush (v := 382) hx hb dX11_cause_47 (by decide) ?_
      refine lv_iconst (v := 2) hx hb dX11_cause_50 (by decide) ?_
      refine lv_aload_n hx hb dX11_cause_51 rfl (lv_at hl 0 rfl) ?_
      refine va_get (D := (dC, dI)) (ci := 11) (v := .ref zy0) (C := RX11) (T := TX11) (N := 28) hx hb hts (by decide +kernel) hown hK hP 0 rfl rfl 0 (by decide) (hts (.fieldLink RX11 7 "DripStoneModel" "z" "[I") (by decide +kernel)) (fun _ h9 => h9) rfl dX11_cause_52 ?_
      refine lv_bipush (v := 13) hx hb dX11_cause_55 (by decide) ?_
      refine va_iald hx hb hK hP 1 0 rfl rfl (vp_in_iff.mpr ⟨by decide, by decide⟩) dX11_cause_57 ?_
      refine W.eq (g2 := F0 m 58 ls [.int 0, .int 2, .int 382, .ref zy0]) rfl ?_
      refine lv_imul hx hb dX11_cause_58 ?_
      refine lv_topi (fun v_12 ev_12 => ?_)
      obtain rfl : v_12 = (0 : Int32) := ev_12.trans (by decide)
      refine lv_iadd hx hb dX11_cause_59 ?_
      refine lv_topi (fun v_13 ev_13 => ?_)
      obtain rfl : v_13 = (382 : Int32) := ev_13.trans (by decide)
      refine lv_iload_n hx hb dX11_cause_60 rfl (lv_at hl 1 rfl) ?_
      refine va_iast hx hb hK hP hD hS 1 0 rfl rfl (vp_in_iff.mpr ⟨by decide, by decide⟩) dX11_cause_61 (fun H locs hP hD hS => ?_)
      have hP : va_P (dC, dI) vwCl [(zy, .inr (11, [.ref zy0, .ref zy1, .int 0, .int 0, .int 0, .ref zy5, .int 0, .int 0, .ref zy8, .ref zy9, .ref zy10, .ref zy11, .ref zy12, .ref zy13, .ref zy14, .long 0, .ref zy16, .ref zy17, .ref zy18, .int 0, .long 0, .ref zy21, .ref zy22, .int 0, .ref zy24, .ref zy25, .ref zy26, .ref zy27])), (zy0, .inl (cy 0, 392, .inl (upd zz (382 : Int32).toNatClampNeg zia)))] H := hP
      have hD : va_D A [(zy, .inr (11, [.ref zy0, .ref zy1, .int 0, .int 0, .int 0, .ref zy5, .int 0, .int 0, .ref zy8, .ref zy9, .ref zy10, .ref zy11, .ref zy12, .ref zy13, .ref zy14, .long 0, .ref zy16, .ref zy17, .ref zy18, .int 0, .long 0, .ref zy21, .ref zy22, .int 0, .ref zy24, .ref zy25, .ref zy26, .ref zy27])), (zy0, .inl (cy 0, 392, .inl (upd zz (382 : Int32).toNatClampNeg zia)))] := hD
      refine lv_aload_n hx hb dX11_cause_62 rfl (lv_at hl 0 rfl) ?_
      refine va_get (D := (dC, dI)) (ci := 11) (v := .ref zy0) (C := RX11) (T := TX11) (N := 28) hx hb hts (by decide +kernel) hown hK hP 0 rfl rfl 0 (by decide) (hts (.fieldLink RX11 7 "DripStoneModel" "z" "[I") (by decide +kernel)) (fun _ h9 => h9) rfl dX11_cause_63 ?_
      refine lv_sipush (v := 382) hx hb dX11_cause_66 (by decide) ?_
      refine lv_iconst (v := 2) hx hb dX11_cause_69 (by decide) ?_
      refine lv_aload_n hx hb dX11_cause_70 rfl (lv_at hl 0 rfl) ?_
      refine va_get (D := (dC, dI)) (ci := 11) (v := .ref zy0) (C := RX11) (T := TX11) (N := 28) hx hb hts (by decide +kernel) hown hK hP 0 rfl rfl 0 (by decide) (hts (.fieldLink RX11 7 "DripStoneModel" "z" "[I") (by decide +kernel)) (fun _ h9 => h9) rfl dX11_cause_71 ?_
      refine lv_bipush (v := 13) hx hb dX11_cause_74 (by decide) ?_
      refine va_iald hx hb hK hP 1 0 rfl rfl (vp_in_iff.mpr ⟨by decide, by decide⟩) dX11_cause_76 ?_
      refine W.eq (g2 := F0 m 77 ls [.int 0, .int 2, .int 382, .ref zy0]) rfl ?_
      refine lv_imul hx hb dX11_cause_77 ?_
      refine lv_topi (fun v_14 ev_14 => ?_)
      obtain rfl : v_14 = (0 : Int32) := ev_14.trans (by decide)
      refine lv_iadd hx hb dX11_cause_78 ?_
      refine lv_topi (fun v_15 ev_15 => ?_)
      obtain rfl : v_15 = (382 : Int32) := ev_15.trans (by decide)
      refine lv_iconst (v := 1) hx hb dX11_cause_79 (by decide) ?_
      refine lv_iadd hx hb dX11_cause_80 ?_
      refine lv_topi (fun v_16 ev_16 => ?_)
      obtain rfl : v_16 = (383 : Int32) := ev_16.trans (by decide)
      refine lv_iload_n hx hb dX11_cause_81 rfl (lv_at hl 2 rfl) ?_
      refine va_iast hx hb hK hP hD hS 1 0 rfl rfl (vp_in_iff.mpr ⟨by decide, by decide⟩) dX11_cause_82 (fun H locs hP hD hS => ?_)
      have hP : va_P (dC, dI) vwCl [(zy, .inr (11, [.ref zy0, .ref zy1, .int 0, .int 0, .int 0, .ref zy5, .int 0, .int 0, .ref zy8, .ref zy9, .ref zy10, .ref zy11, .ref zy12, .ref zy13, .ref zy14, .long 0, .ref zy16, .ref zy17, .ref zy18, .int 0, .long 0, .ref zy21, .ref zy22, .int 0, .ref zy24, .ref zy25, .ref zy26, .ref zy27])), (zy0, .inl (cy 0, 392, .inl (upd (upd zz (382 : Int32).toNatClampNeg zia) (383 : Int32).toNatClampNeg zib)))] H := hP
      have hD : va_D A [(zy, .inr (11, [.ref zy0, .ref zy1, .int 0, .int 0, .int 0, .ref zy5, .int 0, .int 0, .ref zy8, .ref zy9, .ref zy10, .ref zy11, .ref zy12, .ref zy13, .ref zy14, .long 0, .ref zy16, .ref zy17, .ref zy18, .int 0, .long 0, .ref zy21, .ref zy22, .int 0, .ref zy24, .ref zy25, .ref zy26, .ref zy27])), (zy0, .inl (cy 0, 392, .inl (upd (upd zz (382 : Int32).toNatClampNeg zia) (383 : Int32).toNatClampNeg zib)))] := hD
      refine lv_aload_n hx hb dX11_cause_83 rfl (lv_at hl 0 rfl) ?_
      refine va_get (D := (dC, dI)) (ci := 11) (v := .ref zy0) (C := RX11) (T := TX11) (N := 28) hx hb hts (by decide +kernel) hown hK hP 0 rfl rfl 0 (by decide) (hts (.fieldLink RX11 7 "DripStoneModel" "z" "[I") (by decide +kernel)) (fun _ h9 => h9) rfl dX11_cause_84 ?_
      refine lv_bipush (v := 13) hx hb dX11_cause_87 (by decide) ?_
      refine lv_dup2_11 hx hb dX11_cause_89 rfl rfl ?_
      refine va_iald hx hb hK hP 1 0 rfl rfl (vp_in_iff.mpr ⟨by decide, by decide⟩) dX11_cause_90 ?_
      refine W.eq (g2 := F0 m 91 ls [.int 0, .int 13, .ref zy0]) rfl ?_
      refine lv_iconst (v := 1) hx hb dX11_cause_91 (by decide) ?_
      refine lv_iadd hx hb dX11_cause_92 ?_
      refine lv_topi (fun v_17 ev_17 => ?_)
      obtain rfl : v_17 = (1 : Int32) := ev_17.trans (by decide)
      refine va_iast hx hb hK hP hD hS 1 0 rfl rfl (vp_in_iff.mpr ⟨by decide, by decide⟩) dX11_cause_93 (fun H locs hP hD hS => ?_)
      have hP : va_P (dC, dI) vwCl [(zy, .inr (11, [.ref zy0, .ref zy1, .int 0, .int 0, .int 0, .ref zy5, .int 0, .int 0, .ref zy8, .ref zy9, .ref zy10, .ref zy11, .ref zy12, .ref zy13, .ref zy14, .long 0, .ref zy16, .ref zy17, .ref zy18, .int 0, .long 0, .ref zy21, .ref zy22, .int 0, .ref zy24, .ref zy25, .ref zy26, .ref zy27])), (zy0, .inl (cy 0, 392, .inl (upd (upd (upd zz (382 : Int32).toNatClampNeg zia) (383 : Int32).toNatClampNeg zib) (13 : Int32).toNatClampNeg 1)))] H := hP
      have hD : va_D A [(zy, .inr (11, [.ref zy0, .ref zy1, .int 0, .int 0, .int 0, .ref zy5, .int 0, .int 0, .ref zy8, .ref zy9, .ref zy10, .ref zy11, .ref zy12, .ref zy13, .ref zy14, .long 0, .ref zy16, .ref zy17, .ref zy18, .int 0, .long 0, .ref zy21, .ref zy22, .int 0, .ref zy24, .ref zy25, .ref zy26, .ref zy27])), (zy0, .inl (cy 0, 392, .inl (upd (upd (upd zz (382 : Int32).toNatClampNeg zia) (383 : Int32).toNatClampNeg zib) (13 : Int32).toNatClampNeg 1)))] := hD
      refine lv_aload_n hx hb dX11_cause_94 rfl (lv_at hl 0 rfl) ?_
      refine va_get (D := (dC, dI)) (ci := 11) (v := .ref zy0) (C := RX11) (T := TX11) (N := 28) hx hb hts (by decide +kernel) hown hK hP 0 rfl rfl 0 (by decide) (hts (.fieldLink RX11 7 "DripStoneModel" "z" "[I") (by decide +kernel)) (fun _ h9 => h9) rfl dX11_cause_95 ?_
      refine lv_bipush (v := 13) hx hb dX11_cause_98 (by decide) ?_
      refine va_iald hx hb hK hP 1 0 rfl rfl (vp_in_iff.mpr ⟨by decide, by decide⟩) dX11_cause_100 ?_
      refine W.eq (g2 := F0 m 101 ls [.int 1]) rfl ?_
      refine lv_iconst (v := 1) hx hb dX11_cause_101 (by decide) ?_
      refine lv_isub hx hb dX11_cause_102 ?_
      refine lv_topi (fun v_18 ev_18 => ?_)
      obtain rfl : v_18 = (0 : Int32) := ev_18.trans (by decide)
      have hP9 := hP.sub (ws' := []) [] rfl
      have hD9 := hD.sub (ws' := []) [] (by decide) rfl
      exact W.iret (v := 0) hx hb hr (fun t ht hW => ⟨⟨0, (), rfl, (by unfold an_cause; (repeat' split) <;> first | rfl | (exfalso; omega)), ⟨by rw [ht]; exact hP9, va_K.moved hW.alike hK, hD9⟩⟩, hS.F ht⟩) hS.2.2 dX11_cause_103
    · have f_10 : ¬ (zia.toInt ≤ zib.toInt ∧ zib.toInt ≤ 30) := bz_0 hw_8 c_9
      refine lv_iconst (v := (-1)) hx hb dX11_cause_27 (by decide) ?_
      have hP9 := hP.sub (ws' := []) [] rfl
      have hD9 := hD.sub (ws' := []) [] (by decide) rfl
      exact W.iret (v := (-1)) hx hb hr (fun t ht hW => ⟨⟨(-1), (), rfl, (by unfold an_cause; (repeat' split) <;> first | rfl | (exfalso; omega)), ⟨by rw [ht]; exact hP9, va_K.moved hW.alike hK, hD9⟩⟩, hS.F ht⟩) hS.2.2 dX11_cause_28
set_option maxHeartbeats 4000000 in
set_option maxRecDepth 100000 in
theorem c_X11_drop (l : Launch) (dC : Nat → ClassId) (dI : Nat → Nat → Nat) (cy : Nat → ClassId) (sz : Nat) (zy : Nat) (zia : Int32) (zy0 : Nat) (zy1 : Nat) (zy5 : Nat) (zy8 : Nat) (zy9 : Nat) (zy10 : Nat) (zy11 : Nat) (zy12 : Nat) (zy13 : Nat) (zy14 : Nat) (zy16 : Nat) (zy17 : Nat) (zy18 : Nat) (zy21 : Nat) (zy22 : Nat) (zy24 : Nat) (zy25 : Nat) (zy26 : Nat) (zy27 : Nat)  : Met l yX11_drop wsX11_drop ({ frames := 1, cells := 0, slots := 0, locals := 25 }) (va_Pc [.ref zy, .int zia] (PRE dC dI cy [(zy, .inr (11, [.ref zy0, .ref zy1, .int 0, .int 0, .int 0, .ref zy5, .int 0, .int 0, .ref zy8, .ref zy9, .ref zy10, .ref zy11, .ref zy12, .ref zy13, .ref zy14, .long 0, .ref zy16, .ref zy17, .ref zy18, .int 0, .long 0, .ref zy21, .ref zy22, .int 0, .ref zy24, .ref zy25, .ref zy26, .ref zy27])), (zy25, .inl (cy 0, 4, .inl ll))] sz)) (va_Qi (fun (r : Int32) (_ : Unit) => r = an_drop zia) (fun u t => POST dC dI cy (va_A [(zy, .inr (11, [.ref zy0, .ref zy1, .int 0, .int 0, .int 0, .ref zy5, .int 0, .int 0, .ref zy8, .ref zy9, .ref zy10, .ref zy11, .ref zy12, .ref zy13, .ref zy14, .long 0, .ref zy16, .ref zy17, .ref zy18, .int 0, .long 0, .ref zy21, .ref zy22, .int 0, .ref zy24, .ref zy25, .ref zy26, .ref zy27])), (zy25, .inl (cy 0, 4, .inl ll))] sz) [] t) (va_A [(zy, .inr (11, [.ref zy0, .ref zy1, .int 0, .int 0, .int 0, .ref zy5, .int 0, .int 0, .ref zy8, .ref zy9, .ref zy10, .ref zy11, .ref zy12, .ref zy13, .ref zy14, .long 0, .ref zy16, .ref zy17, .ref zy18, .int 0, .long 0, .ref zy21, .ref zy22, .int 0, .ref zy24, .ref zy25, .ref zy26, .ref zy27])), (zy25, .inl (cy 0, 4, .inl ll))] sz)) 0 0 (va_A [(zy, .inr (11, [.ref zy0, .ref zy1, .int 0, .int 0, .int 0, .ref zy5, .int 0, .int 0, .ref zy8, .ref zy9, .ref zy10, .ref zy11, .ref zy12, .ref zy13, .ref zy14, .long 0, .ref zy16, .ref zy17, .ref zy18, .int 0, .long 0, .ref zy21, .ref zy22, .int 0, .ref zy24, .ref zy25, .ref zy26, .ref zy27])), (zy25, .inl (cy 0, 4, .inl ll))] sz) := by
  refine Met.ofW (cc := cX11_drop) (maxL := 2) (ret := (some .int)) (by decide) rfl ?_
  intro p e s m args below meth c s₁ B hml hv
  obtain ⟨rfl, hsz, hP, hK, hD0, hN⟩ := hv
  have hx := B.exec
  have hb := B.bytes
  have hr := B.returns
  have hts := atoms_spec (ws := wsX11_drop) B.pre
  have hown : s.vm.findClass RX11 = some m.cls := findClass_of_methodNamed B.named
  have hlocks := B.notSynchronized
  subst hsz
  have hD := hD0.self (sz := s.heap.size)
  generalize hAe : va_A [(zy, .inr (11, [.ref zy0, .ref zy1, .int 0, .int 0, .int 0, .ref zy5, .int 0, .int 0, .ref zy8, .ref zy9, .ref zy10, .ref zy11, .ref zy12, .ref zy13, .ref zy14, .long 0, .ref zy16, .ref zy17, .ref zy18, .int 0, .long 0, .ref zy21, .ref zy22, .int 0, .ref zy24, .ref zy25, .ref zy26, .ref zy27])), (zy25, .inl (cy 0, 4, .inl ll))] s.heap.size = A at hD ⊢
  have hA : ∀ q : Nat, s.heap.size ≤ q → A q := fun q h => by rw [← hAe]; exact Or.inr h
  have hS : va_S A s.heap s.heap [] := va_S.rf
  have hP : va_P (dC, dI) vwCl [(zy, .inr (11, [.ref zy0, .ref zy1, .int 0, .int 0, .int 0, .ref zy5, .int 0, .int 0, .ref zy8, .ref zy9, .ref zy10, .ref zy11, .ref zy12, .ref zy13, .ref zy14, .long 0, .ref zy16, .ref zy17, .ref zy18, .int 0, .long 0, .ref zy21, .ref zy22, .int 0, .ref zy24, .ref zy25, .ref zy26, .ref zy27])), (zy25, .inl (cy 0, 4, .inl ll))] s.heap := hP
  have hl := lv_entry ([.ref zy, .int zia] : List Value) (n := 2) (Nat.le_of_ble_eq_true rfl)
  rw [lg_entry_eq]
  generalize (lg_sl ([.ref zy, .int zia] : List Value) ++ List.replicate (2 - (lg_sl ([.ref zy, .int zia] : List Value)).length) Slot.unset).toArray = ls at hl ⊢
  have hl : lv_has ls 2 [(0, .ref zy), (1, .int zia)] := hl
  refine lv_iload_n hx hb dX11_drop_0 rfl (lv_at hl 1 rfl) ?_
  refine lv_i2l (v := zia.toInt64) hx hb dX11_drop_1 rfl ?_
  refine lv_lconst (v := 0) hx hb dX11_drop_2 (by decide) ?_
  refine lv_ldc2 (v := 3) hx hb hown (hts (.constantLong RX11 346 3) (by decide +kernel)) dX11_drop_3 ?_
  refine cj_i (wc := []) (wr := [(zy, .inr (11, [.ref zy0, .ref zy1, .int 0, .int 0, .int 0, .ref zy5, .int 0, .int 0, .ref zy8, .ref zy9, .ref zy10, .ref zy11, .ref zy12, .ref zy13, .ref zy14, .long 0, .ref zy16, .ref zy17, .ref zy18, .int 0, .long 0, .ref zy21, .ref zy22, .int 0, .ref zy24, .ref zy25, .ref zy26, .ref zy27])), (zy25, .inl (cy 0, 4, .inl ll))]) (w1 := fun (_ : Unit) => []) (va_runS (As := [.long zia.toInt64, .long 0, .long 3]) (rest := []) ⟨hx, hb, hml, hown, hts⟩ (c_X11_in l dC dI cy s.heap.size zia.toInt64 0 3 0 3 zia.toInt (by first | rfl | decide | omega | exact Int32.toInt_toInt64 _) (by first | rfl | decide | omega | exact Int32.toInt_toInt64 _) (by first | rfl | decide | omega | exact Int32.toInt_toInt64 _)) (va_cwS 3 hts gX11_drop_X11_in rfl rfl rfl (by decide +kernel) ⟨(Nat.le_of_ble_eq_true rfl), (Nat.le_of_ble_eq_true rfl)⟩) (PRE.s (hP.sub [] rfl) hK (hD.sub [] (by decide) rfl) hN) rfl rfl hl.1 rfl (lv_room (Nat.le_of_ble_eq_true rfl)) dX11_drop_6 ⟨(Nat.le_of_ble_eq_true rfl), (Nat.le_of_ble_eq_true rfl)⟩) hP hD hS hA [] [0, 1] rfl rfl rfl (by decide) (fun r_2 u_1 H locs hw_3 hP hD hS => ?_)
  have hP : va_P (dC, dI) vwCl [(zy, .inr (11, [.ref zy0, .ref zy1, .int 0, .int 0, .int 0, .ref zy5, .int 0, .int 0, .ref zy8, .ref zy9, .ref zy10, .ref zy11, .ref zy12, .ref zy13, .ref zy14, .long 0, .ref zy16, .ref zy17, .ref zy18, .int 0, .long 0, .ref zy21, .ref zy22, .int 0, .ref zy24, .ref zy25, .ref zy26, .ref zy27])), (zy25, .inl (cy 0, 4, .inl ll))] H := hP
  have hD : va_D A [(zy, .inr (11, [.ref zy0, .ref zy1, .int 0, .int 0, .int 0, .ref zy5, .int 0, .int 0, .ref zy8, .ref zy9, .ref zy10, .ref zy11, .ref zy12, .ref zy13, .ref zy14, .long 0, .ref zy16, .ref zy17, .ref zy18, .int 0, .long 0, .ref zy21, .ref zy22, .int 0, .ref zy24, .ref zy25, .ref zy26, .ref zy27])), (zy25, .inl (cy 0, 4, .inl ll))] := hD
  have hw_3 : r_2 = if 0 ≤ zia.toInt ∧ zia.toInt ≤ 3 then 1 else 0 := hw_3
  refine lv_if_ne (tgt := 14) hx hb dX11_drop_9 (by decide) (fun c_4 => ?_) (fun c_4 => ?_)
  · have f_5 : 0 ≤ zia.toInt ∧ zia.toInt ≤ 3 := bz_1 hw_3 c_4
    refine lv_aload_n hx hb dX11_drop_14 rfl (lv_at hl 0 rfl) ?_
    refine va_get (D := (dC, dI)) (ci := 11) (v := .ref zy25) (C := RX11) (T := TX11) (N := 28) hx hb hts (by decide +kernel) hown hK hP 0 rfl rfl 25 (by decide) (hts (.fieldLink RX11 59 "DripStoneModel" "lanes" "[I") (by decide +kernel)) (fun _ h9 => h9) rfl dX11_drop_15 ?_
    refine lv_iload_n hx hb dX11_drop_18 rfl (lv_at hl 1 rfl) ?_
    refine va_iald hx hb hK hP 1 0 rfl rfl (vp_in_iff.mpr ⟨by omega, by omega⟩) dX11_drop_19 ?_
    refine lv_topi (fun v_6 ev_6 => ?_)
    obtain rfl : v_6 = ((-1) : Int32) := ev_6.trans (ll_v (by omega) (by omega))
    refine lv_if_ge (tgt := 26) hx hb dX11_drop_20 (by decide) (fun c_7 => absurd c_7 (by decide)) (fun c_7 => ?_)
    refine lv_bipush (v := (-11)) hx hb dX11_drop_23 (by decide) ?_
    have hP9 := hP.sub (ws' := []) [] rfl
    have hD9 := hD.sub (ws' := []) [] (by decide) rfl
    exact W.iret (v := (-11)) hx hb hr (fun t ht hW => ⟨⟨(-11), (), rfl, (by unfold an_drop; (repeat' split) <;> first | rfl | (exfalso; omega)), ⟨by rw [ht]; exact hP9, va_K.moved hW.alike hK, hD9⟩⟩, hS.F ht⟩) hS.2.2 dX11_drop_25
  · have f_5 : ¬ (0 ≤ zia.toInt ∧ zia.toInt ≤ 3) := bz_0 hw_3 c_4
    refine lv_iconst (v := (-1)) hx hb dX11_drop_12 (by decide) ?_
    have hP9 := hP.sub (ws' := []) [] rfl
    have hD9 := hD.sub (ws' := []) [] (by decide) rfl
    exact W.iret (v := (-1)) hx hb hr (fun t ht hW => ⟨⟨(-1), (), rfl, (by unfold an_drop; (repeat' split) <;> first | rfl | (exfalso; omega)), ⟨by rw [ht]; exact hP9, va_K.moved hW.alike hK, hD9⟩⟩, hS.F ht⟩) hS.2.2 dX11_drop_13
set_option maxHeartbeats 4000000 in
set_option maxRecDepth 100000 in
theorem c_X11_item (l : Launch) (dC : Nat → ClassId) (dI : Nat → Nat → Nat) (cy : Nat → ClassId) (sz : Nat) (zy : Nat) (zia : Int32) (zib : Int32) (zic : Int32) (zid : Int32) (zy0 : Nat) (zy1 : Nat) (zy5 : Nat) (zy8 : Nat) (zy9 : Nat) (zy10 : Nat) (zy11 : Nat) (zy12 : Nat) (zy13 : Nat) (zy14 : Nat) (zy16 : Nat) (zy17 : Nat) (zy18 : Nat) (zy21 : Nat) (zy22 : Nat) (zy24 : Nat) (zy25 : Nat) (zy26 : Nat) (zy27 : Nat)  : Met l yX11_item wsX11_item ({ frames := 2, cells := 0, slots := 0, locals := 46 }) (va_Pc [.ref zy, .int zia, .int zib, .int zic, .int zid] (PRE dC dI cy [(zy, .inr (11, [.ref zy0, .ref zy1, .int 0, .int 0, .int 0, .ref zy5, .int 0, .int 0, .ref zy8, .ref zy9, .ref zy10, .ref zy11, .ref zy12, .ref zy13, .ref zy14, .long 0, .ref zy16, .ref zy17, .ref zy18, .int 0, .long 0, .ref zy21, .ref zy22, .int 0, .ref zy24, .ref zy25, .ref zy26, .ref zy27])), (zy25, .inl (cy 0, 4, .inl ll))] sz)) (va_Qi (fun (r : Int32) (_ : Unit) => r = an_item zia zib zic zid) (fun u t => POST dC dI cy (va_A [(zy, .inr (11, [.ref zy0, .ref zy1, .int 0, .int 0, .int 0, .ref zy5, .int 0, .int 0, .ref zy8, .ref zy9, .ref zy10, .ref zy11, .ref zy12, .ref zy13, .ref zy14, .long 0, .ref zy16, .ref zy17, .ref zy18, .int 0, .long 0, .ref zy21, .ref zy22, .int 0, .ref zy24, .ref zy25, .ref zy26, .ref zy27])), (zy25, .inl (cy 0, 4, .inl ll))] sz) [] t) (va_A [(zy, .inr (11, [.ref zy0, .ref zy1, .int 0, .int 0, .int 0, .ref zy5, .int 0, .int 0, .ref zy8, .ref zy9, .ref zy10, .ref zy11, .ref zy12, .ref zy13, .ref zy14, .long 0, .ref zy16, .ref zy17, .ref zy18, .int 0, .long 0, .ref zy21, .ref zy22, .int 0, .ref zy24, .ref zy25, .ref zy26, .ref zy27])), (zy25, .inl (cy 0, 4, .inl ll))] sz)) 0 0 (va_A [(zy, .inr (11, [.ref zy0, .ref zy1, .int 0, .int 0, .int 0, .ref zy5, .int 0, .int 0, .ref zy8, .ref zy9, .ref zy10, .ref zy11, .ref zy12, .ref zy13, .ref zy14, .long 0, .ref zy16, .ref zy17, .ref zy18, .int 0, .long 0, .ref zy21, .ref zy22, .int 0, .ref zy24, .ref zy25, .ref zy26, .ref zy27])), (zy25, .inl (cy 0, 4, .inl ll))] sz) := by
  refine Met.ofW (cc := cX11_item) (maxL := 6) (ret := (some .int)) (by decide) rfl ?_
  intro p e s m args below meth c s₁ B hml hv
  obtain ⟨rfl, hsz, hP, hK, hD0, hN⟩ := hv
  have hx := B.exec
  have hb := B.bytes
  have hr := B.returns
  have hts := atoms_spec (ws := wsX11_item) B.pre
  have hown : s.vm.findClass RX11 = some m.cls := findClass_of_methodNamed B.named
  have hlocks := B.notSynchronized
  subst hsz
  have hD := hD0.self (sz := s.heap.size)
  generalize hAe : va_A [(zy, .inr (11, [.ref zy0, .ref zy1, .int 0, .int 0, .int 0, .ref zy5, .int 0, .int 0, .ref zy8, .ref zy9, .ref zy10, .ref zy11, .ref zy12, .ref zy13, .ref zy14, .long 0, .ref zy16, .ref zy17, .ref zy18, .int 0, .long 0, .ref zy21, .ref zy22, .int 0, .ref zy24, .ref zy25, .ref zy26, .ref zy27])), (zy25, .inl (cy 0, 4, .inl ll))] s.heap.size = A at hD ⊢
  have hA : ∀ q : Nat, s.heap.size ≤ q → A q := fun q h => by rw [← hAe]; exact Or.inr h
  have hS : va_S A s.heap s.heap [] := va_S.rf
  have hP : va_P (dC, dI) vwCl [(zy, .inr (11, [.ref zy0, .ref zy1, .int 0, .int 0, .int 0, .ref zy5, .int 0, .int 0, .ref zy8, .ref zy9, .ref zy10, .ref zy11, .ref zy12, .ref zy13, .ref zy14, .long 0, .ref zy16, .ref zy17, .ref zy18, .int 0, .long 0, .ref zy21, .ref zy22, .int 0, .ref zy24, .ref zy25, .ref zy26, .ref zy27])), (zy25, .inl (cy 0, 4, .inl ll))] s.heap := hP
  have hl := lv_entry ([.ref zy, .int zia, .int zib, .int zic, .int zid] : List Value) (n := 6) (Nat.le_of_ble_eq_true rfl)
  rw [lg_entry_eq]
  generalize (lg_sl ([.ref zy, .int zia, .int zib, .int zic, .int zid] : List Value) ++ List.replicate (6 - (lg_sl ([.ref zy, .int zia, .int zib, .int zic, .int zid] : List Value)).length) Slot.unset).toArray = ls at hl ⊢
  have hl : lv_has ls 6 [(0, .ref zy), (1, .int zia), (2, .int zib), (3, .int zic), (4, .int zid)] := hl
  refine lv_iload_n hx hb dX11_item_0 rfl (lv_at hl 1 rfl) ?_
  refine lv_iload_n hx hb dX11_item_1 rfl (lv_at hl 2 rfl) ?_
  refine cj_i (wc := []) (wr := [(zy, .inr (11, [.ref zy0, .ref zy1, .int 0, .int 0, .int 0, .ref zy5, .int 0, .int 0, .ref zy8, .ref zy9, .ref zy10, .ref zy11, .ref zy12, .ref zy13, .ref zy14, .long 0, .ref zy16, .ref zy17, .ref zy18, .int 0, .long 0, .ref zy21, .ref zy22, .int 0, .ref zy24, .ref zy25, .ref zy26, .ref zy27])), (zy25, .inl (cy 0, 4, .inl ll))]) (w1 := fun (_ : Unit) => []) (va_runS (As := [.int zia, .int zib]) (rest := []) ⟨hx, hb, hml, hown, hts⟩ (c_X11_isSheet l dC dI cy s.heap.size zia zib) (va_cwS 2 hts gX11_item_X11_isSheet rfl rfl rfl (by decide +kernel) ⟨(Nat.le_of_ble_eq_true rfl), (Nat.le_of_ble_eq_true rfl)⟩) (PRE.s (hP.sub [] rfl) hK (hD.sub [] (by decide) rfl) hN) rfl rfl hl.1 rfl (lv_room (Nat.le_of_ble_eq_true rfl)) dX11_item_2 ⟨(Nat.le_of_ble_eq_true rfl), (Nat.le_of_ble_eq_true rfl)⟩) hP hD hS hA [] [0, 1] rfl rfl rfl (by decide) (fun r_2 u_1 H locs hw_3 hP hD hS => ?_)
  have hP : va_P (dC, dI) vwCl [(zy, .inr (11, [.ref zy0, .ref zy1, .int 0, .int 0, .int 0, .ref zy5, .int 0, .int 0, .ref zy8, .ref zy9, .ref zy10, .ref zy11, .ref zy12, .ref zy13, .ref zy14, .long 0, .ref zy16, .ref zy17, .ref zy18, .int 0, .long 0, .ref zy21, .ref zy22, .int 0, .ref zy24, .ref zy25, .ref zy26, .ref zy27])), (zy25, .inl (cy 0, 4, .inl ll))] H := hP
  have hD : va_D A [(zy, .inr (11, [.ref zy0, .ref zy1, .int 0, .int 0, .int 0, .ref zy5, .int 0, .int 0, .ref zy8, .ref zy9, .ref zy10, .ref zy11, .ref zy12, .ref zy13, .ref zy14, .long 0, .ref zy16, .ref zy17, .ref zy18, .int 0, .long 0, .ref zy21, .ref zy22, .int 0, .ref zy24, .ref zy25, .ref zy26, .ref zy27])), (zy25, .inl (cy 0, 4, .inl ll))] := hD
  have hw_3 : r_2 = if (0 ≤ zia.toInt ∧ zia.toInt ≤ 3) ∧ 0 ≤ zib.toInt ∧ zib.toInt ≤ 2 then 1 else 0 := hw_3
  refine lv_if_ne (tgt := 10) hx hb dX11_item_5 (by decide) (fun c_4 => ?_) (fun c_4 => ?_)
  · have f_5 : (0 ≤ zia.toInt ∧ zia.toInt ≤ 3) ∧ 0 ≤ zib.toInt ∧ zib.toInt ≤ 2 := bz_1 hw_3 c_4
    refine lv_aload_n hx hb dX11_item_10 rfl (lv_at hl 0 rfl) ?_
    refine lv_iload_n hx hb dX11_item_11 rfl (lv_at hl 1 rfl) ?_
    refine lv_iload_n hx hb dX11_item_12 rfl (lv_at hl 2 rfl) ?_
    refine lv_iload_n hx hb dX11_item_13 rfl (lv_at hl 3 rfl) ?_
    refine lv_iconst (v := 1) hx hb dX11_item_14 (by decide) ?_
    refine cj_i (wc := [(zy, .inr (11, [.ref zy0, .ref zy1, .int 0, .int 0, .int 0, .ref zy5, .int 0, .int 0, .ref zy8, .ref zy9, .ref zy10, .ref zy11, .ref zy12, .ref zy13, .ref zy14, .long 0, .ref zy16, .ref zy17, .ref zy18, .int 0, .long 0, .ref zy21, .ref zy22, .int 0, .ref zy24, .ref zy25, .ref zy26, .ref zy27])), (zy25, .inl (cy 0, 4, .inl ll))]) (wr := []) (w1 := fun (_ : Unit) => []) (va_runV (As := [.int zia, .int zib, .int zic, .int 1]) (rest := []) ⟨hx, hb, hml, hown, hts⟩ (c_X11_lacksRow l dC dI cy H.size zy zia zib zic 1 zy0 zy1 zy5 zy8 zy9 zy10 zy11 zy12 zy13 zy14 zy16 zy17 zy18 zy21 zy22 zy24 zy25 zy26 zy27 (by first | rfl | decide | omega | exact Int32.toInt_toInt64 _)) (cwV 4 hts gX11_item_X11_lacksRow rfl rfl rfl (by decide +kernel) ⟨(Nat.le_of_ble_eq_true rfl), (Nat.le_of_ble_eq_true rfl)⟩) (PRE.v (hP.sub [0, 1] rfl) hK (hD.sub [0, 1] (by decide) rfl) hN (va_recv hK hP (ci := 11) (q0 := 0) rfl rfl)) rfl rfl hl.1 rfl (lv_room (Nat.le_of_ble_eq_true rfl)) dX11_item_15 ⟨(Nat.le_of_ble_eq_true rfl), (Nat.le_of_ble_eq_true rfl)⟩) hP hD hS hA [0, 1] [] rfl rfl rfl (by decide) (fun r_7 u_6 H locs hw_8 hP hD hS => ?_)
    have hP : va_P (dC, dI) vwCl [] H := hP
    have hD : va_D A [] := hD
    obtain rfl : r_7 = (-11) := hw_8
    refine lv_istore (lv' := [(5, .int (-11)), (0, .ref zy), (1, .int zia), (2, .int zib), (3, .int zic), (4, .int zid)]) hx hb dX11_item_18 hl (by decide) rfl (fun ls hl => ?_)
    refine lv_iload hx hb dX11_item_20 (lv_at hl 0 rfl) ?_
    refine lv_if_ge (tgt := 28) hx hb dX11_item_22 (by decide) (fun c_9 => absurd c_9 (by decide)) (fun c_9 => ?_)
    refine lv_iload hx hb dX11_item_25 (lv_at hl 0 rfl) ?_
    have hP9 := hP.sub (ws' := []) [] rfl
    have hD9 := hD.sub (ws' := []) [] (by decide) rfl
    exact W.iret (v := (-11)) hx hb hr (fun t ht hW => ⟨⟨(-11), (), rfl, (by unfold an_item; (repeat' split) <;> first | rfl | (exfalso; omega)), ⟨by rw [ht]; exact hP9, va_K.moved hW.alike hK, hD9⟩⟩, hS.F ht⟩) hS.2.2 dX11_item_27
  · have f_5 : ¬ ((0 ≤ zia.toInt ∧ zia.toInt ≤ 3) ∧ 0 ≤ zib.toInt ∧ zib.toInt ≤ 2) := bz_0 hw_3 c_4
    refine lv_iconst (v := (-1)) hx hb dX11_item_8 (by decide) ?_
    have hP9 := hP.sub (ws' := []) [] rfl
    have hD9 := hD.sub (ws' := []) [] (by decide) rfl
    exact W.iret (v := (-1)) hx hb hr (fun t ht hW => ⟨⟨(-1), (), rfl, (by unfold an_item; (repeat' split) <;> first | rfl | (exfalso; omega)), ⟨by rw [ht]; exact hP9, va_K.moved hW.alike hK, hD9⟩⟩, hS.F ht⟩) hS.2.2 dX11_item_9
set_option maxHeartbeats 4000000 in
set_option maxRecDepth 100000 in
theorem c_X11_truth (l : Launch) (dC : Nat → ClassId) (dI : Nat → Nat → Nat) (cy : Nat → ClassId) (sz : Nat) (zy : Nat) (zia : Int32) (zib : Int32) (zy0 : Nat) (zy1 : Nat) (zy5 : Nat) (zy8 : Nat) (zy9 : Nat) (zy10 : Nat) (zy11 : Nat) (zy12 : Nat) (zy13 : Nat) (zy14 : Nat) (zy16 : Nat) (zy17 : Nat) (zy18 : Nat) (zy21 : Nat) (zy22 : Nat) (zy24 : Nat) (zy25 : Nat) (zy26 : Nat) (zy27 : Nat)  : Met l yX11_truth wsX11_truth ({ frames := 2, cells := 0, slots := 0, locals := 47 }) (va_Pc [.ref zy, .int zia, .int zib] (PRE dC dI cy [(zy, .inr (11, [.ref zy0, .ref zy1, .int 0, .int 0, .int 0, .ref zy5, .int 0, .int 0, .ref zy8, .ref zy9, .ref zy10, .ref zy11, .ref zy12, .ref zy13, .ref zy14, .long 0, .ref zy16, .ref zy17, .ref zy18, .int 0, .long 0, .ref zy21, .ref zy22, .int 0, .ref zy24, .ref zy25, .ref zy26, .ref zy27])), (zy0, .inl (cy 0, 392, .inl zz))] sz)) (va_Qi (fun (r : Int32) (_ : Unit) => r = (-1)) (fun u t => POST dC dI cy (va_A [(zy, .inr (11, [.ref zy0, .ref zy1, .int 0, .int 0, .int 0, .ref zy5, .int 0, .int 0, .ref zy8, .ref zy9, .ref zy10, .ref zy11, .ref zy12, .ref zy13, .ref zy14, .long 0, .ref zy16, .ref zy17, .ref zy18, .int 0, .long 0, .ref zy21, .ref zy22, .int 0, .ref zy24, .ref zy25, .ref zy26, .ref zy27])), (zy0, .inl (cy 0, 392, .inl zz))] sz) [] t) (va_A [(zy, .inr (11, [.ref zy0, .ref zy1, .int 0, .int 0, .int 0, .ref zy5, .int 0, .int 0, .ref zy8, .ref zy9, .ref zy10, .ref zy11, .ref zy12, .ref zy13, .ref zy14, .long 0, .ref zy16, .ref zy17, .ref zy18, .int 0, .long 0, .ref zy21, .ref zy22, .int 0, .ref zy24, .ref zy25, .ref zy26, .ref zy27])), (zy0, .inl (cy 0, 392, .inl zz))] sz)) 0 0 (va_A [(zy, .inr (11, [.ref zy0, .ref zy1, .int 0, .int 0, .int 0, .ref zy5, .int 0, .int 0, .ref zy8, .ref zy9, .ref zy10, .ref zy11, .ref zy12, .ref zy13, .ref zy14, .long 0, .ref zy16, .ref zy17, .ref zy18, .int 0, .long 0, .ref zy21, .ref zy22, .int 0, .ref zy24, .ref zy25, .ref zy26, .ref zy27])), (zy0, .inl (cy 0, 392, .inl zz))] sz) := by
  refine Met.ofW (cc := cX11_truth) (maxL := 3) (ret := (some .int)) (by decide) rfl ?_
  intro p e s m args below meth c s₁ B hml hv
  obtain ⟨rfl, hsz, hP, hK, hD0, hN⟩ := hv
  have hx := B.exec
  have hb := B.bytes
  have hr := B.returns
  have hts := atoms_spec (ws := wsX11_truth) B.pre
  have hown : s.vm.findClass RX11 = some m.cls := findClass_of_methodNamed B.named
  have hlocks := B.notSynchronized
  subst hsz
  have hD := hD0.self (sz := s.heap.size)
  generalize hAe : va_A [(zy, .inr (11, [.ref zy0, .ref zy1, .int 0, .int 0, .int 0, .ref zy5, .int 0, .int 0, .ref zy8, .ref zy9, .ref zy10, .ref zy11, .ref zy12, .ref zy13, .ref zy14, .long 0, .ref zy16, .ref zy17, .ref zy18, .int 0, .long 0, .ref zy21, .ref zy22, .int 0, .ref zy24, .ref zy25, .ref zy26, .ref zy27])), (zy0, .inl (cy 0, 392, .inl zz))] s.heap.size = A at hD ⊢
  have hA : ∀ q : Nat, s.heap.size ≤ q → A q := fun q h => by rw [← hAe]; exact Or.inr h
  have hS : va_S A s.heap s.heap [] := va_S.rf
  have hP : va_P (dC, dI) vwCl [(zy, .inr (11, [.ref zy0, .ref zy1, .int 0, .int 0, .int 0, .ref zy5, .int 0, .int 0, .ref zy8, .ref zy9, .ref zy10, .ref zy11, .ref zy12, .ref zy13, .ref zy14, .long 0, .ref zy16, .ref zy17, .ref zy18, .int 0, .long 0, .ref zy21, .ref zy22, .int 0, .ref zy24, .ref zy25, .ref zy26, .ref zy27])), (zy0, .inl (cy 0, 392, .inl zz))] s.heap := hP
  have hl := lv_entry ([.ref zy, .int zia, .int zib] : List Value) (n := 3) (Nat.le_of_ble_eq_true rfl)
  rw [lg_entry_eq]
  generalize (lg_sl ([.ref zy, .int zia, .int zib] : List Value) ++ List.replicate (3 - (lg_sl ([.ref zy, .int zia, .int zib] : List Value)).length) Slot.unset).toArray = ls at hl ⊢
  have hl : lv_has ls 3 [(0, .ref zy), (1, .int zia), (2, .int zib)] := hl
  refine lv_iload_n hx hb dX11_truth_0 rfl (lv_at hl 1 rfl) ?_
  refine cj_i (wc := []) (wr := [(zy, .inr (11, [.ref zy0, .ref zy1, .int 0, .int 0, .int 0, .ref zy5, .int 0, .int 0, .ref zy8, .ref zy9, .ref zy10, .ref zy11, .ref zy12, .ref zy13, .ref zy14, .long 0, .ref zy16, .ref zy17, .ref zy18, .int 0, .long 0, .ref zy21, .ref zy22, .int 0, .ref zy24, .ref zy25, .ref zy26, .ref zy27])), (zy0, .inl (cy 0, 392, .inl zz))]) (w1 := fun (_ : Unit) => []) (va_runS (As := [.int zia]) (rest := []) ⟨hx, hb, hml, hown, hts⟩ (c_X11_isCandle l dC dI cy s.heap.size zia) (va_cwS 1 hts gX11_truth_X11_isCandle rfl rfl rfl (by decide +kernel) ⟨(Nat.le_of_ble_eq_true rfl), (Nat.le_of_ble_eq_true rfl)⟩) (PRE.s (hP.sub [] rfl) hK (hD.sub [] (by decide) rfl) hN) rfl rfl hl.1 rfl (lv_room (Nat.le_of_ble_eq_true rfl)) dX11_truth_1 ⟨(Nat.le_of_ble_eq_true rfl), (Nat.le_of_ble_eq_true rfl)⟩) hP hD hS hA [] [0, 1] rfl rfl rfl (by decide) (fun r_2 u_1 H locs hw_3 hP hD hS => ?_)
  have hP : va_P (dC, dI) vwCl [(zy, .inr (11, [.ref zy0, .ref zy1, .int 0, .int 0, .int 0, .ref zy5, .int 0, .int 0, .ref zy8, .ref zy9, .ref zy10, .ref zy11, .ref zy12, .ref zy13, .ref zy14, .long 0, .ref zy16, .ref zy17, .ref zy18, .int 0, .long 0, .ref zy21, .ref zy22, .int 0, .ref zy24, .ref zy25, .ref zy26, .ref zy27])), (zy0, .inl (cy 0, 392, .inl zz))] H := hP
  have hD : va_D A [(zy, .inr (11, [.ref zy0, .ref zy1, .int 0, .int 0, .int 0, .ref zy5, .int 0, .int 0, .ref zy8, .ref zy9, .ref zy10, .ref zy11, .ref zy12, .ref zy13, .ref zy14, .long 0, .ref zy16, .ref zy17, .ref zy18, .int 0, .long 0, .ref zy21, .ref zy22, .int 0, .ref zy24, .ref zy25, .ref zy26, .ref zy27])), (zy0, .inl (cy 0, 392, .inl zz))] := hD
  have hw_3 : r_2 = if 0 ≤ zia.toInt ∧ zia.toInt ≤ 1 then 1 else 0 := hw_3
  refine lv_if_eq (tgt := 16) hx hb dX11_truth_4 (by decide) (fun c_4 => ?_) (fun c_4 => ?_)
  · have f_5 : ¬ (0 ≤ zia.toInt ∧ zia.toInt ≤ 1) := bz_0 hw_3 c_4
    refine lv_iconst (v := (-1)) hx hb dX11_truth_16 (by decide) ?_
    have hP9 := hP.sub (ws' := []) [] rfl
    have hD9 := hD.sub (ws' := []) [] (by decide) rfl
    exact W.iret (v := (-1)) hx hb hr (fun t ht hW => ⟨⟨(-1), (), rfl, rfl, ⟨by rw [ht]; exact hP9, va_K.moved hW.alike hK, hD9⟩⟩, hS.F ht⟩) hS.2.2 dX11_truth_17
  · have f_5 : 0 ≤ zia.toInt ∧ zia.toInt ≤ 1 := bz_1 hw_3 c_4
    refine lv_aload_n hx hb dX11_truth_7 rfl (lv_at hl 0 rfl) ?_
    refine lv_iload_n hx hb dX11_truth_8 rfl (lv_at hl 1 rfl) ?_
    refine lv_iload_n hx hb dX11_truth_9 rfl (lv_at hl 2 rfl) ?_
    refine cj_i (wc := [(zy, .inr (11, [.ref zy0, .ref zy1, .int 0, .int 0, .int 0, .ref zy5, .int 0, .int 0, .ref zy8, .ref zy9, .ref zy10, .ref zy11, .ref zy12, .ref zy13, .ref zy14, .long 0, .ref zy16, .ref zy17, .ref zy18, .int 0, .long 0, .ref zy21, .ref zy22, .int 0, .ref zy24, .ref zy25, .ref zy26, .ref zy27])), (zy0, .inl (cy 0, 392, .inl zz))]) (wr := []) (w1 := fun (_ : Unit) => [(zy, .inr (11, [.ref zy0, .ref zy1, .int 0, .int 0, .int 0, .ref zy5, .int 0, .int 0, .ref zy8, .ref zy9, .ref zy10, .ref zy11, .ref zy12, .ref zy13, .ref zy14, .long 0, .ref zy16, .ref zy17, .ref zy18, .int 0, .long 0, .ref zy21, .ref zy22, .int 0, .ref zy24, .ref zy25, .ref zy26, .ref zy27])), (zy0, .inl (cy 0, 392, .inl zz))]) (va_runV (As := [.int zia, .int zib]) (rest := []) ⟨hx, hb, hml, hown, hts⟩ (c_X11_isThing l dC dI cy H.size zy zia zib zy0 zy1 zy5 zy8 zy9 zy10 zy11 zy12 zy13 zy14 zy16 zy17 zy18 zy21 zy22 zy24 zy25 zy26 zy27 (by first | rfl | decide | omega | exact Int32.toInt_toInt64 _)) (cwV 2 hts gX11_truth_X11_isThing rfl rfl rfl (by decide +kernel) ⟨(Nat.le_of_ble_eq_true rfl), (Nat.le_of_ble_eq_true rfl)⟩) (PRE.v (hP.sub [0, 1] rfl) hK (hD.sub [0, 1] (by decide) rfl) hN (va_recv hK hP (ci := 11) (q0 := 0) rfl rfl)) rfl rfl hl.1 rfl (lv_room (Nat.le_of_ble_eq_true rfl)) dX11_truth_10 ⟨(Nat.le_of_ble_eq_true rfl), (Nat.le_of_ble_eq_true rfl)⟩) hP hD hS hA [0, 1] [] rfl rfl rfl (by decide) (fun r_7 u_6 H locs hw_8 hP hD hS => ?_)
    have hP : va_P (dC, dI) vwCl [(zy, .inr (11, [.ref zy0, .ref zy1, .int 0, .int 0, .int 0, .ref zy5, .int 0, .int 0, .ref zy8, .ref zy9, .ref zy10, .ref zy11, .ref zy12, .ref zy13, .ref zy14, .long 0, .ref zy16, .ref zy17, .ref zy18, .int 0, .long 0, .ref zy21, .ref zy22, .int 0, .ref zy24, .ref zy25, .ref zy26, .ref zy27])), (zy0, .inl (cy 0, 392, .inl zz))] H := hP
    have hD : va_D A [(zy, .inr (11, [.ref zy0, .ref zy1, .int 0, .int 0, .int 0, .ref zy5, .int 0, .int 0, .ref zy8, .ref zy9, .ref zy10, .ref zy11, .ref zy12, .ref zy13, .ref zy14, .long 0, .ref zy16, .ref zy17, .ref zy18, .int 0, .long 0, .ref zy21, .ref zy22, .int 0, .ref zy24, .ref zy25, .ref zy26, .ref zy27])), (zy0, .inl (cy 0, 392, .inl zz))] := hD
    obtain rfl : r_7 = 0 := hw_8
    refine lv_if_ne (tgt := 18) hx hb dX11_truth_13 (by decide) (fun c_9 => absurd (by decide) c_9) (fun c_9 => ?_)
    refine lv_iconst (v := (-1)) hx hb dX11_truth_16 (by decide) ?_
    have hP9 := hP.sub (ws' := []) [] rfl
    have hD9 := hD.sub (ws' := []) [] (by decide) rfl
    exact W.iret (v := (-1)) hx hb hr (fun t ht hW => ⟨⟨(-1), (), rfl, rfl, ⟨by rw [ht]; exact hP9, va_K.moved hW.alike hK, hD9⟩⟩, hS.F ht⟩) hS.2.2 dX11_truth_17
set_option maxHeartbeats 4000000 in
set_option maxRecDepth 100000 in
theorem c_X11_cut (l : Launch) (dC : Nat → ClassId) (dI : Nat → Nat → Nat) (cy : Nat → ClassId) (sz : Nat) (zy : Nat) (zia : Int32) (zib : Int32) (zy0 : Nat) (zy1 : Nat) (zy5 : Nat) (zy8 : Nat) (zy9 : Nat) (zy10 : Nat) (zy11 : Nat) (zy12 : Nat) (zy13 : Nat) (zy14 : Nat) (zy16 : Nat) (zy17 : Nat) (zy18 : Nat) (zy21 : Nat) (zy22 : Nat) (zy24 : Nat) (zy25 : Nat) (zy26 : Nat) (zy27 : Nat)  : Met l yX11_cut wsX11_cut ({ frames := 2, cells := 0, slots := 0, locals := 47 }) (va_Pc [.ref zy, .int zia, .int zib] (PRE dC dI cy [(zy, .inr (11, [.ref zy0, .ref zy1, .int 0, .int 0, .int 0, .ref zy5, .int 0, .int 0, .ref zy8, .ref zy9, .ref zy10, .ref zy11, .ref zy12, .ref zy13, .ref zy14, .long 0, .ref zy16, .ref zy17, .ref zy18, .int 0, .long 0, .ref zy21, .ref zy22, .int 0, .ref zy24, .ref zy25, .ref zy26, .ref zy27])), (zy0, .inl (cy 0, 392, .inl zz))] sz)) (va_Qi (fun (r : Int32) (_ : Unit) => r = (-1)) (fun u t => POST dC dI cy (va_A [(zy, .inr (11, [.ref zy0, .ref zy1, .int 0, .int 0, .int 0, .ref zy5, .int 0, .int 0, .ref zy8, .ref zy9, .ref zy10, .ref zy11, .ref zy12, .ref zy13, .ref zy14, .long 0, .ref zy16, .ref zy17, .ref zy18, .int 0, .long 0, .ref zy21, .ref zy22, .int 0, .ref zy24, .ref zy25, .ref zy26, .ref zy27])), (zy0, .inl (cy 0, 392, .inl zz))] sz) [] t) (va_A [(zy, .inr (11, [.ref zy0, .ref zy1, .int 0, .int 0, .int 0, .ref zy5, .int 0, .int 0, .ref zy8, .ref zy9, .ref zy10, .ref zy11, .ref zy12, .ref zy13, .ref zy14, .long 0, .ref zy16, .ref zy17, .ref zy18, .int 0, .long 0, .ref zy21, .ref zy22, .int 0, .ref zy24, .ref zy25, .ref zy26, .ref zy27])), (zy0, .inl (cy 0, 392, .inl zz))] sz)) 0 0 (va_A [(zy, .inr (11, [.ref zy0, .ref zy1, .int 0, .int 0, .int 0, .ref zy5, .int 0, .int 0, .ref zy8, .ref zy9, .ref zy10, .ref zy11, .ref zy12, .ref zy13, .ref zy14, .long 0, .ref zy16, .ref zy17, .ref zy18, .int 0, .long 0, .ref zy21, .ref zy22, .int 0, .ref zy24, .ref zy25, .ref zy26, .ref zy27])), (zy0, .inl (cy 0, 392, .inl zz))] sz) := by
  refine Met.ofW (cc := cX11_cut) (maxL := 3) (ret := (some .int)) (by decide) rfl ?_
  intro p e s m args below meth c s₁ B hml hv
  obtain ⟨rfl, hsz, hP, hK, hD0, hN⟩ := hv
  have hx := B.exec
  have hb := B.bytes
  have hr := B.returns
  have hts := atoms_spec (ws := wsX11_cut) B.pre
  have hown : s.vm.findClass RX11 = some m.cls := findClass_of_methodNamed B.named
  have hlocks := B.notSynchronized
  subst hsz
  have hD := hD0.self (sz := s.heap.size)
  generalize hAe : va_A [(zy, .inr (11, [.ref zy0, .ref zy1, .int 0, .int 0, .int 0, .ref zy5, .int 0, .int 0, .ref zy8, .ref zy9, .ref zy10, .ref zy11, .ref zy12, .ref zy13, .ref zy14, .long 0, .ref zy16, .ref zy17, .ref zy18, .int 0, .long 0, .ref zy21, .ref zy22, .int 0, .ref zy24, .ref zy25, .ref zy26, .ref zy27])), (zy0, .inl (cy 0, 392, .inl zz))] s.heap.size = A at hD ⊢
  have hA : ∀ q : Nat, s.heap.size ≤ q → A q := fun q h => by rw [← hAe]; exact Or.inr h
  have hS : va_S A s.heap s.heap [] := va_S.rf
  have hP : va_P (dC, dI) vwCl [(zy, .inr (11, [.ref zy0, .ref zy1, .int 0, .int 0, .int 0, .ref zy5, .int 0, .int 0, .ref zy8, .ref zy9, .ref zy10, .ref zy11, .ref zy12, .ref zy13, .ref zy14, .long 0, .ref zy16, .ref zy17, .ref zy18, .int 0, .long 0, .ref zy21, .ref zy22, .int 0, .ref zy24, .ref zy25, .ref zy26, .ref zy27])), (zy0, .inl (cy 0, 392, .inl zz))] s.heap := hP
  have hl := lv_entry ([.ref zy, .int zia, .int zib] : List Value) (n := 3) (Nat.le_of_ble_eq_true rfl)
  rw [lg_entry_eq]
  generalize (lg_sl ([.ref zy, .int zia, .int zib] : List Value) ++ List.replicate (3 - (lg_sl ([.ref zy, .int zia, .int zib] : List Value)).length) Slot.unset).toArray = ls at hl ⊢
  have hl : lv_has ls 3 [(0, .ref zy), (1, .int zia), (2, .int zib)] := hl
  refine lv_iload_n hx hb dX11_cut_0 rfl (lv_at hl 1 rfl) ?_
  refine cj_i (wc := []) (wr := [(zy, .inr (11, [.ref zy0, .ref zy1, .int 0, .int 0, .int 0, .ref zy5, .int 0, .int 0, .ref zy8, .ref zy9, .ref zy10, .ref zy11, .ref zy12, .ref zy13, .ref zy14, .long 0, .ref zy16, .ref zy17, .ref zy18, .int 0, .long 0, .ref zy21, .ref zy22, .int 0, .ref zy24, .ref zy25, .ref zy26, .ref zy27])), (zy0, .inl (cy 0, 392, .inl zz))]) (w1 := fun (_ : Unit) => []) (va_runS (As := [.int zia]) (rest := []) ⟨hx, hb, hml, hown, hts⟩ (c_X11_isCandle l dC dI cy s.heap.size zia) (va_cwS 1 hts gX11_cut_X11_isCandle rfl rfl rfl (by decide +kernel) ⟨(Nat.le_of_ble_eq_true rfl), (Nat.le_of_ble_eq_true rfl)⟩) (PRE.s (hP.sub [] rfl) hK (hD.sub [] (by decide) rfl) hN) rfl rfl hl.1 rfl (lv_room (Nat.le_of_ble_eq_true rfl)) dX11_cut_1 ⟨(Nat.le_of_ble_eq_true rfl), (Nat.le_of_ble_eq_true rfl)⟩) hP hD hS hA [] [0, 1] rfl rfl rfl (by decide) (fun r_2 u_1 H locs hw_3 hP hD hS => ?_)
  have hP : va_P (dC, dI) vwCl [(zy, .inr (11, [.ref zy0, .ref zy1, .int 0, .int 0, .int 0, .ref zy5, .int 0, .int 0, .ref zy8, .ref zy9, .ref zy10, .ref zy11, .ref zy12, .ref zy13, .ref zy14, .long 0, .ref zy16, .ref zy17, .ref zy18, .int 0, .long 0, .ref zy21, .ref zy22, .int 0, .ref zy24, .ref zy25, .ref zy26, .ref zy27])), (zy0, .inl (cy 0, 392, .inl zz))] H := hP
  have hD : va_D A [(zy, .inr (11, [.ref zy0, .ref zy1, .int 0, .int 0, .int 0, .ref zy5, .int 0, .int 0, .ref zy8, .ref zy9, .ref zy10, .ref zy11, .ref zy12, .ref zy13, .ref zy14, .long 0, .ref zy16, .ref zy17, .ref zy18, .int 0, .long 0, .ref zy21, .ref zy22, .int 0, .ref zy24, .ref zy25, .ref zy26, .ref zy27])), (zy0, .inl (cy 0, 392, .inl zz))] := hD
  have hw_3 : r_2 = if 0 ≤ zia.toInt ∧ zia.toInt ≤ 1 then 1 else 0 := hw_3
  refine lv_if_eq (tgt := 16) hx hb dX11_cut_4 (by decide) (fun c_4 => ?_) (fun c_4 => ?_)
  · have f_5 : ¬ (0 ≤ zia.toInt ∧ zia.toInt ≤ 1) := bz_0 hw_3 c_4
    refine lv_iconst (v := (-1)) hx hb dX11_cut_16 (by decide) ?_
    have hP9 := hP.sub (ws' := []) [] rfl
    have hD9 := hD.sub (ws' := []) [] (by decide) rfl
    exact W.iret (v := (-1)) hx hb hr (fun t ht hW => ⟨⟨(-1), (), rfl, rfl, ⟨by rw [ht]; exact hP9, va_K.moved hW.alike hK, hD9⟩⟩, hS.F ht⟩) hS.2.2 dX11_cut_17
  · have f_5 : 0 ≤ zia.toInt ∧ zia.toInt ≤ 1 := bz_1 hw_3 c_4
    refine lv_aload_n hx hb dX11_cut_7 rfl (lv_at hl 0 rfl) ?_
    refine lv_iload_n hx hb dX11_cut_8 rfl (lv_at hl 1 rfl) ?_
    refine lv_iload_n hx hb dX11_cut_9 rfl (lv_at hl 2 rfl) ?_
    refine cj_i (wc := [(zy, .inr (11, [.ref zy0, .ref zy1, .int 0, .int 0, .int 0, .ref zy5, .int 0, .int 0, .ref zy8, .ref zy9, .ref zy10, .ref zy11, .ref zy12, .ref zy13, .ref zy14, .long 0, .ref zy16, .ref zy17, .ref zy18, .int 0, .long 0, .ref zy21, .ref zy22, .int 0, .ref zy24, .ref zy25, .ref zy26, .ref zy27])), (zy0, .inl (cy 0, 392, .inl zz))]) (wr := []) (w1 := fun (_ : Unit) => [(zy, .inr (11, [.ref zy0, .ref zy1, .int 0, .int 0, .int 0, .ref zy5, .int 0, .int 0, .ref zy8, .ref zy9, .ref zy10, .ref zy11, .ref zy12, .ref zy13, .ref zy14, .long 0, .ref zy16, .ref zy17, .ref zy18, .int 0, .long 0, .ref zy21, .ref zy22, .int 0, .ref zy24, .ref zy25, .ref zy26, .ref zy27])), (zy0, .inl (cy 0, 392, .inl zz))]) (va_runV (As := [.int zia, .int zib]) (rest := []) ⟨hx, hb, hml, hown, hts⟩ (c_X11_isThing l dC dI cy H.size zy zia zib zy0 zy1 zy5 zy8 zy9 zy10 zy11 zy12 zy13 zy14 zy16 zy17 zy18 zy21 zy22 zy24 zy25 zy26 zy27 (by first | rfl | decide | omega | exact Int32.toInt_toInt64 _)) (cwV 2 hts gX11_cut_X11_isThing rfl rfl rfl (by decide +kernel) ⟨(Nat.le_of_ble_eq_true rfl), (Nat.le_of_ble_eq_true rfl)⟩) (PRE.v (hP.sub [0, 1] rfl) hK (hD.sub [0, 1] (by decide) rfl) hN (va_recv hK hP (ci := 11) (q0 := 0) rfl rfl)) rfl rfl hl.1 rfl (lv_room (Nat.le_of_ble_eq_true rfl)) dX11_cut_10 ⟨(Nat.le_of_ble_eq_true rfl), (Nat.le_of_ble_eq_true rfl)⟩) hP hD hS hA [0, 1] [] rfl rfl rfl (by decide) (fun r_7 u_6 H locs hw_8 hP hD hS => ?_)
    have hP : va_P (dC, dI) vwCl [(zy, .inr (11, [.ref zy0, .ref zy1, .int 0, .int 0, .int 0, .ref zy5, .int 0, .int 0, .ref zy8, .ref zy9, .ref zy10, .ref zy11, .ref zy12, .ref zy13, .ref zy14, .long 0, .ref zy16, .ref zy17, .ref zy18, .int 0, .long 0, .ref zy21, .ref zy22, .int 0, .ref zy24, .ref zy25, .ref zy26, .ref zy27])), (zy0, .inl (cy 0, 392, .inl zz))] H := hP
    have hD : va_D A [(zy, .inr (11, [.ref zy0, .ref zy1, .int 0, .int 0, .int 0, .ref zy5, .int 0, .int 0, .ref zy8, .ref zy9, .ref zy10, .ref zy11, .ref zy12, .ref zy13, .ref zy14, .long 0, .ref zy16, .ref zy17, .ref zy18, .int 0, .long 0, .ref zy21, .ref zy22, .int 0, .ref zy24, .ref zy25, .ref zy26, .ref zy27])), (zy0, .inl (cy 0, 392, .inl zz))] := hD
    obtain rfl : r_7 = 0 := hw_8
    refine lv_if_ne (tgt := 18) hx hb dX11_cut_13 (by decide) (fun c_9 => absurd (by decide) c_9) (fun c_9 => ?_)
    refine lv_iconst (v := (-1)) hx hb dX11_cut_16 (by decide) ?_
    have hP9 := hP.sub (ws' := []) [] rfl
    have hD9 := hD.sub (ws' := []) [] (by decide) rfl
    exact W.iret (v := (-1)) hx hb hr (fun t ht hW => ⟨⟨(-1), (), rfl, rfl, ⟨by rw [ht]; exact hP9, va_K.moved hW.alike hK, hD9⟩⟩, hS.F ht⟩) hS.2.2 dX11_cut_17
set_option maxHeartbeats 4000000 in
set_option maxRecDepth 100000 in
theorem c_X11_thing (l : Launch) (dC : Nat → ClassId) (dI : Nat → Nat → Nat) (cy : Nat → ClassId) (sz : Nat) (zy : Nat) (zia : Int32) (zib : Int32) (zic : Int32) (zy0 : Nat) (zy1 : Nat) (zy5 : Nat) (zy8 : Nat) (zy9 : Nat) (zy10 : Nat) (zy11 : Nat) (zy12 : Nat) (zy13 : Nat) (zy14 : Nat) (zy16 : Nat) (zy17 : Nat) (zy18 : Nat) (zy21 : Nat) (zy22 : Nat) (zy24 : Nat) (zy25 : Nat) (zy26 : Nat) (zy27 : Nat)  : Met l yX11_thing wsX11_thing ({ frames := 2, cells := 0, slots := 0, locals := 47 }) (va_Pc [.ref zy, .int zia, .int zib, .int zic] (PRE dC dI cy [(zy, .inr (11, [.ref zy0, .ref zy1, .int 0, .int 0, .int 0, .ref zy5, .int 0, .int 0, .ref zy8, .ref zy9, .ref zy10, .ref zy11, .ref zy12, .ref zy13, .ref zy14, .long 0, .ref zy16, .ref zy17, .ref zy18, .int 0, .long 0, .ref zy21, .ref zy22, .int 0, .ref zy24, .ref zy25, .ref zy26, .ref zy27])), (zy0, .inl (cy 0, 392, .inl zz))] sz)) (va_Qi (fun (r : Int32) (_ : Unit) => r = (-1001)) (fun u t => POST dC dI cy (va_A [(zy, .inr (11, [.ref zy0, .ref zy1, .int 0, .int 0, .int 0, .ref zy5, .int 0, .int 0, .ref zy8, .ref zy9, .ref zy10, .ref zy11, .ref zy12, .ref zy13, .ref zy14, .long 0, .ref zy16, .ref zy17, .ref zy18, .int 0, .long 0, .ref zy21, .ref zy22, .int 0, .ref zy24, .ref zy25, .ref zy26, .ref zy27])), (zy0, .inl (cy 0, 392, .inl zz))] sz) [] t) (va_A [(zy, .inr (11, [.ref zy0, .ref zy1, .int 0, .int 0, .int 0, .ref zy5, .int 0, .int 0, .ref zy8, .ref zy9, .ref zy10, .ref zy11, .ref zy12, .ref zy13, .ref zy14, .long 0, .ref zy16, .ref zy17, .ref zy18, .int 0, .long 0, .ref zy21, .ref zy22, .int 0, .ref zy24, .ref zy25, .ref zy26, .ref zy27])), (zy0, .inl (cy 0, 392, .inl zz))] sz)) 0 0 (va_A [(zy, .inr (11, [.ref zy0, .ref zy1, .int 0, .int 0, .int 0, .ref zy5, .int 0, .int 0, .ref zy8, .ref zy9, .ref zy10, .ref zy11, .ref zy12, .ref zy13, .ref zy14, .long 0, .ref zy16, .ref zy17, .ref zy18, .int 0, .long 0, .ref zy21, .ref zy22, .int 0, .ref zy24, .ref zy25, .ref zy26, .ref zy27])), (zy0, .inl (cy 0, 392, .inl zz))] sz) := by
  refine Met.ofW (cc := cX11_thing) (maxL := 4) (ret := (some .int)) (by decide) rfl ?_
  intro p e s m args below meth c s₁ B hml hv
  obtain ⟨rfl, hsz, hP, hK, hD0, hN⟩ := hv
  have hx := B.exec
  have hb := B.bytes
  have hr := B.returns
  have hts := atoms_spec (ws := wsX11_thing) B.pre
  have hown : s.vm.findClass RX11 = some m.cls := findClass_of_methodNamed B.named
  have hlocks := B.notSynchronized
  subst hsz
  have hD := hD0.self (sz := s.heap.size)
  generalize hAe : va_A [(zy, .inr (11, [.ref zy0, .ref zy1, .int 0, .int 0, .int 0, .ref zy5, .int 0, .int 0, .ref zy8, .ref zy9, .ref zy10, .ref zy11, .ref zy12, .ref zy13, .ref zy14, .long 0, .ref zy16, .ref zy17, .ref zy18, .int 0, .long 0, .ref zy21, .ref zy22, .int 0, .ref zy24, .ref zy25, .ref zy26, .ref zy27])), (zy0, .inl (cy 0, 392, .inl zz))] s.heap.size = A at hD ⊢
  have hA : ∀ q : Nat, s.heap.size ≤ q → A q := fun q h => by rw [← hAe]; exact Or.inr h
  have hS : va_S A s.heap s.heap [] := va_S.rf
  have hP : va_P (dC, dI) vwCl [(zy, .inr (11, [.ref zy0, .ref zy1, .int 0, .int 0, .int 0, .ref zy5, .int 0, .int 0, .ref zy8, .ref zy9, .ref zy10, .ref zy11, .ref zy12, .ref zy13, .ref zy14, .long 0, .ref zy16, .ref zy17, .ref zy18, .int 0, .long 0, .ref zy21, .ref zy22, .int 0, .ref zy24, .ref zy25, .ref zy26, .ref zy27])), (zy0, .inl (cy 0, 392, .inl zz))] s.heap := hP
  have hl := lv_entry ([.ref zy, .int zia, .int zib, .int zic] : List Value) (n := 4) (Nat.le_of_ble_eq_true rfl)
  rw [lg_entry_eq]
  generalize (lg_sl ([.ref zy, .int zia, .int zib, .int zic] : List Value) ++ List.replicate (4 - (lg_sl ([.ref zy, .int zia, .int zib, .int zic] : List Value)).length) Slot.unset).toArray = ls at hl ⊢
  have hl : lv_has ls 4 [(0, .ref zy), (1, .int zia), (2, .int zib), (3, .int zic)] := hl
  refine lv_iload_n hx hb dX11_thing_0 rfl (lv_at hl 1 rfl) ?_
  refine cj_i (wc := []) (wr := [(zy, .inr (11, [.ref zy0, .ref zy1, .int 0, .int 0, .int 0, .ref zy5, .int 0, .int 0, .ref zy8, .ref zy9, .ref zy10, .ref zy11, .ref zy12, .ref zy13, .ref zy14, .long 0, .ref zy16, .ref zy17, .ref zy18, .int 0, .long 0, .ref zy21, .ref zy22, .int 0, .ref zy24, .ref zy25, .ref zy26, .ref zy27])), (zy0, .inl (cy 0, 392, .inl zz))]) (w1 := fun (_ : Unit) => []) (va_runS (As := [.int zia]) (rest := []) ⟨hx, hb, hml, hown, hts⟩ (c_X11_isCandle l dC dI cy s.heap.size zia) (va_cwS 1 hts gX11_thing_X11_isCandle rfl rfl rfl (by decide +kernel) ⟨(Nat.le_of_ble_eq_true rfl), (Nat.le_of_ble_eq_true rfl)⟩) (PRE.s (hP.sub [] rfl) hK (hD.sub [] (by decide) rfl) hN) rfl rfl hl.1 rfl (lv_room (Nat.le_of_ble_eq_true rfl)) dX11_thing_1 ⟨(Nat.le_of_ble_eq_true rfl), (Nat.le_of_ble_eq_true rfl)⟩) hP hD hS hA [] [0, 1] rfl rfl rfl (by decide) (fun r_2 u_1 H locs hw_3 hP hD hS => ?_)
  have hP : va_P (dC, dI) vwCl [(zy, .inr (11, [.ref zy0, .ref zy1, .int 0, .int 0, .int 0, .ref zy5, .int 0, .int 0, .ref zy8, .ref zy9, .ref zy10, .ref zy11, .ref zy12, .ref zy13, .ref zy14, .long 0, .ref zy16, .ref zy17, .ref zy18, .int 0, .long 0, .ref zy21, .ref zy22, .int 0, .ref zy24, .ref zy25, .ref zy26, .ref zy27])), (zy0, .inl (cy 0, 392, .inl zz))] H := hP
  have hD : va_D A [(zy, .inr (11, [.ref zy0, .ref zy1, .int 0, .int 0, .int 0, .ref zy5, .int 0, .int 0, .ref zy8, .ref zy9, .ref zy10, .ref zy11, .ref zy12, .ref zy13, .ref zy14, .long 0, .ref zy16, .ref zy17, .ref zy18, .int 0, .long 0, .ref zy21, .ref zy22, .int 0, .ref zy24, .ref zy25, .ref zy26, .ref zy27])), (zy0, .inl (cy 0, 392, .inl zz))] := hD
  have hw_3 : r_2 = if 0 ≤ zia.toInt ∧ zia.toInt ≤ 1 then 1 else 0 := hw_3
  refine lv_if_eq (tgt := 26) hx hb dX11_thing_4 (by decide) (fun c_4 => ?_) (fun c_4 => ?_)
  · have f_5 : ¬ (0 ≤ zia.toInt ∧ zia.toInt ≤ 1) := bz_0 hw_3 c_4
    refine lv_sipush (v := (-1001)) hx hb dX11_thing_26 (by decide) ?_
    have hP9 := hP.sub (ws' := []) [] rfl
    have hD9 := hD.sub (ws' := []) [] (by decide) rfl
    exact W.iret (v := (-1001)) hx hb hr (fun t ht hW => ⟨⟨(-1001), (), rfl, rfl, ⟨by rw [ht]; exact hP9, va_K.moved hW.alike hK, hD9⟩⟩, hS.F ht⟩) hS.2.2 dX11_thing_29
  · have f_5 : 0 ≤ zia.toInt ∧ zia.toInt ≤ 1 := bz_1 hw_3 c_4
    refine lv_aload_n hx hb dX11_thing_7 rfl (lv_at hl 0 rfl) ?_
    refine lv_iload_n hx hb dX11_thing_8 rfl (lv_at hl 1 rfl) ?_
    refine lv_iload_n hx hb dX11_thing_9 rfl (lv_at hl 2 rfl) ?_
    refine cj_i (wc := [(zy, .inr (11, [.ref zy0, .ref zy1, .int 0, .int 0, .int 0, .ref zy5, .int 0, .int 0, .ref zy8, .ref zy9, .ref zy10, .ref zy11, .ref zy12, .ref zy13, .ref zy14, .long 0, .ref zy16, .ref zy17, .ref zy18, .int 0, .long 0, .ref zy21, .ref zy22, .int 0, .ref zy24, .ref zy25, .ref zy26, .ref zy27])), (zy0, .inl (cy 0, 392, .inl zz))]) (wr := []) (w1 := fun (_ : Unit) => [(zy, .inr (11, [.ref zy0, .ref zy1, .int 0, .int 0, .int 0, .ref zy5, .int 0, .int 0, .ref zy8, .ref zy9, .ref zy10, .ref zy11, .ref zy12, .ref zy13, .ref zy14, .long 0, .ref zy16, .ref zy17, .ref zy18, .int 0, .long 0, .ref zy21, .ref zy22, .int 0, .ref zy24, .ref zy25, .ref zy26, .ref zy27])), (zy0, .inl (cy 0, 392, .inl zz))]) (va_runV (As := [.int zia, .int zib]) (rest := []) ⟨hx, hb, hml, hown, hts⟩ (c_X11_isThing l dC dI cy H.size zy zia zib zy0 zy1 zy5 zy8 zy9 zy10 zy11 zy12 zy13 zy14 zy16 zy17 zy18 zy21 zy22 zy24 zy25 zy26 zy27 (by first | rfl | decide | omega | exact Int32.toInt_toInt64 _)) (cwV 2 hts gX11_thing_X11_isThing rfl rfl rfl (by decide +kernel) ⟨(Nat.le_of_ble_eq_true rfl), (Nat.le_of_ble_eq_true rfl)⟩) (PRE.v (hP.sub [0, 1] rfl) hK (hD.sub [0, 1] (by decide) rfl) hN (va_recv hK hP (ci := 11) (q0 := 0) rfl rfl)) rfl rfl hl.1 rfl (lv_room (Nat.le_of_ble_eq_true rfl)) dX11_thing_10 ⟨(Nat.le_of_ble_eq_true rfl), (Nat.le_of_ble_eq_true rfl)⟩) hP hD hS hA [0, 1] [] rfl rfl rfl (by decide) (fun r_7 u_6 H locs hw_8 hP hD hS => ?_)
    have hP : va_P (dC, dI) vwCl [(zy, .inr (11, [.ref zy0, .ref zy1, .int 0, .int 0, .int 0, .ref zy5, .int 0, .int 0, .ref zy8, .ref zy9, .ref zy10, .ref zy11, .ref zy12, .ref zy13, .ref zy14, .long 0, .ref zy16, .ref zy17, .ref zy18, .int 0, .long 0, .ref zy21, .ref zy22, .int 0, .ref zy24, .ref zy25, .ref zy26, .ref zy27])), (zy0, .inl (cy 0, 392, .inl zz))] H := hP
    have hD : va_D A [(zy, .inr (11, [.ref zy0, .ref zy1, .int 0, .int 0, .int 0, .ref zy5, .int 0, .int 0, .ref zy8, .ref zy9, .ref zy10, .ref zy11, .ref zy12, .ref zy13, .ref zy14, .long 0, .ref zy16, .ref zy17, .ref zy18, .int 0, .long 0, .ref zy21, .ref zy22, .int 0, .ref zy24, .ref zy25, .ref zy26, .ref zy27])), (zy0, .inl (cy 0, 392, .inl zz))] := hD
    obtain rfl : r_7 = 0 := hw_8
    refine lv_if_eq (tgt := 26) hx hb dX11_thing_13 (by decide) (fun c_9 => ?_) (fun c_9 => absurd (by decide) c_9)
    refine lv_sipush (v := (-1001)) hx hb dX11_thing_26 (by decide) ?_
    have hP9 := hP.sub (ws' := []) [] rfl
    have hD9 := hD.sub (ws' := []) [] (by decide) rfl
    exact W.iret (v := (-1001)) hx hb hr (fun t ht hW => ⟨⟨(-1001), (), rfl, rfl, ⟨by rw [ht]; exact hP9, va_K.moved hW.alike hK, hD9⟩⟩, hS.F ht⟩) hS.2.2 dX11_thing_29
set_option maxHeartbeats 4000000 in
set_option maxRecDepth 100000 in
theorem c_X11_stretch (l : Launch) (dC : Nat → ClassId) (dI : Nat → Nat → Nat) (cy : Nat → ClassId) (sz : Nat) (zy : Nat) (zia : Int32) (zib : Int32) (zic : Int32) (zid : Int32) (zie : Int32) (zy0 : Nat) (zy1 : Nat) (zy5 : Nat) (zy8 : Nat) (zy9 : Nat) (zy10 : Nat) (zy11 : Nat) (zy12 : Nat) (zy13 : Nat) (zy14 : Nat) (zy16 : Nat) (zy17 : Nat) (zy18 : Nat) (zy21 : Nat) (zy22 : Nat) (zy24 : Nat) (zy25 : Nat) (zy26 : Nat) (zy27 : Nat)  : Met l yX11_stretch wsX11_stretch ({ frames := 2, cells := 0, slots := 0, locals := 47 }) (va_Pc [.ref zy, .int zia, .int zib, .int zic, .int zid, .int zie] (PRE dC dI cy [(zy, .inr (11, [.ref zy0, .ref zy1, .int 0, .int 0, .int 0, .ref zy5, .int 0, .int 0, .ref zy8, .ref zy9, .ref zy10, .ref zy11, .ref zy12, .ref zy13, .ref zy14, .long 0, .ref zy16, .ref zy17, .ref zy18, .int 0, .long 0, .ref zy21, .ref zy22, .int 0, .ref zy24, .ref zy25, .ref zy26, .ref zy27])), (zy0, .inl (cy 0, 392, .inl zz))] sz)) (va_Qi (fun (r : Int32) (_ : Unit) => r = (-1)) (fun u t => POST dC dI cy (va_A [(zy, .inr (11, [.ref zy0, .ref zy1, .int 0, .int 0, .int 0, .ref zy5, .int 0, .int 0, .ref zy8, .ref zy9, .ref zy10, .ref zy11, .ref zy12, .ref zy13, .ref zy14, .long 0, .ref zy16, .ref zy17, .ref zy18, .int 0, .long 0, .ref zy21, .ref zy22, .int 0, .ref zy24, .ref zy25, .ref zy26, .ref zy27])), (zy0, .inl (cy 0, 392, .inl zz))] sz) [] t) (va_A [(zy, .inr (11, [.ref zy0, .ref zy1, .int 0, .int 0, .int 0, .ref zy5, .int 0, .int 0, .ref zy8, .ref zy9, .ref zy10, .ref zy11, .ref zy12, .ref zy13, .ref zy14, .long 0, .ref zy16, .ref zy17, .ref zy18, .int 0, .long 0, .ref zy21, .ref zy22, .int 0, .ref zy24, .ref zy25, .ref zy26, .ref zy27])), (zy0, .inl (cy 0, 392, .inl zz))] sz)) 0 0 (va_A [(zy, .inr (11, [.ref zy0, .ref zy1, .int 0, .int 0, .int 0, .ref zy5, .int 0, .int 0, .ref zy8, .ref zy9, .ref zy10, .ref zy11, .ref zy12, .ref zy13, .ref zy14, .long 0, .ref zy16, .ref zy17, .ref zy18, .int 0, .long 0, .ref zy21, .ref zy22, .int 0, .ref zy24, .ref zy25, .ref zy26, .ref zy27])), (zy0, .inl (cy 0, 392, .inl zz))] sz) := by
  refine Met.ofW (cc := cX11_stretch) (maxL := 7) (ret := (some .int)) (by decide) rfl ?_
  intro p e s m args below meth c s₁ B hml hv
  obtain ⟨rfl, hsz, hP, hK, hD0, hN⟩ := hv
  have hx := B.exec
  have hb := B.bytes
  have hr := B.returns
  have hts := atoms_spec (ws := wsX11_stretch) B.pre
  have hown : s.vm.findClass RX11 = some m.cls := findClass_of_methodNamed B.named
  have hlocks := B.notSynchronized
  subst hsz
  have hD := hD0.self (sz := s.heap.size)
  generalize hAe : va_A [(zy, .inr (11, [.ref zy0, .ref zy1, .int 0, .int 0, .int 0, .ref zy5, .int 0, .int 0, .ref zy8, .ref zy9, .ref zy10, .ref zy11, .ref zy12, .ref zy13, .ref zy14, .long 0, .ref zy16, .ref zy17, .ref zy18, .int 0, .long 0, .ref zy21, .ref zy22, .int 0, .ref zy24, .ref zy25, .ref zy26, .ref zy27])), (zy0, .inl (cy 0, 392, .inl zz))] s.heap.size = A at hD ⊢
  have hA : ∀ q : Nat, s.heap.size ≤ q → A q := fun q h => by rw [← hAe]; exact Or.inr h
  have hS : va_S A s.heap s.heap [] := va_S.rf
  have hP : va_P (dC, dI) vwCl [(zy, .inr (11, [.ref zy0, .ref zy1, .int 0, .int 0, .int 0, .ref zy5, .int 0, .int 0, .ref zy8, .ref zy9, .ref zy10, .ref zy11, .ref zy12, .ref zy13, .ref zy14, .long 0, .ref zy16, .ref zy17, .ref zy18, .int 0, .long 0, .ref zy21, .ref zy22, .int 0, .ref zy24, .ref zy25, .ref zy26, .ref zy27])), (zy0, .inl (cy 0, 392, .inl zz))] s.heap := hP
  have hl := lv_entry ([.ref zy, .int zia, .int zib, .int zic, .int zid, .int zie] : List Value) (n := 7) (Nat.le_of_ble_eq_true rfl)
  rw [lg_entry_eq]
  generalize (lg_sl ([.ref zy, .int zia, .int zib, .int zic, .int zid, .int zie] : List Value) ++ List.replicate (7 - (lg_sl ([.ref zy, .int zia, .int zib, .int zic, .int zid, .int zie] : List Value)).length) Slot.unset).toArray = ls at hl ⊢
  have hl : lv_has ls 7 [(0, .ref zy), (1, .int zia), (2, .int zib), (3, .int zic), (4, .int zid), (5, .int zie)] := hl
  refine lv_iload_n hx hb dX11_stretch_0 rfl (lv_at hl 1 rfl) ?_
  refine cj_i (wc := []) (wr := [(zy, .inr (11, [.ref zy0, .ref zy1, .int 0, .int 0, .int 0, .ref zy5, .int 0, .int 0, .ref zy8, .ref zy9, .ref zy10, .ref zy11, .ref zy12, .ref zy13, .ref zy14, .long 0, .ref zy16, .ref zy17, .ref zy18, .int 0, .long 0, .ref zy21, .ref zy22, .int 0, .ref zy24, .ref zy25, .ref zy26, .ref zy27])), (zy0, .inl (cy 0, 392, .inl zz))]) (w1 := fun (_ : Unit) => []) (va_runS (As := [.int zia]) (rest := []) ⟨hx, hb, hml, hown, hts⟩ (c_X11_isCandle l dC dI cy s.heap.size zia) (va_cwS 1 hts gX11_stretch_X11_isCandle rfl rfl rfl (by decide +kernel) ⟨(Nat.le_of_ble_eq_true rfl), (Nat.le_of_ble_eq_true rfl)⟩) (PRE.s (hP.sub [] rfl) hK (hD.sub [] (by decide) rfl) hN) rfl rfl hl.1 rfl (lv_room (Nat.le_of_ble_eq_true rfl)) dX11_stretch_1 ⟨(Nat.le_of_ble_eq_true rfl), (Nat.le_of_ble_eq_true rfl)⟩) hP hD hS hA [] [0, 1] rfl rfl rfl (by decide) (fun r_2 u_1 H locs hw_3 hP hD hS => ?_)
  have hP : va_P (dC, dI) vwCl [(zy, .inr (11, [.ref zy0, .ref zy1, .int 0, .int 0, .int 0, .ref zy5, .int 0, .int 0, .ref zy8, .ref zy9, .ref zy10, .ref zy11, .ref zy12, .ref zy13, .ref zy14, .long 0, .ref zy16, .ref zy17, .ref zy18, .int 0, .long 0, .ref zy21, .ref zy22, .int 0, .ref zy24, .ref zy25, .ref zy26, .ref zy27])), (zy0, .inl (cy 0, 392, .inl zz))] H := hP
  have hD : va_D A [(zy, .inr (11, [.ref zy0, .ref zy1, .int 0, .int 0, .int 0, .ref zy5, .int 0, .int 0, .ref zy8, .ref zy9, .ref zy10, .ref zy11, .ref zy12, .ref zy13, .ref zy14, .long 0, .ref zy16, .ref zy17, .ref zy18, .int 0, .long 0, .ref zy21, .ref zy22, .int 0, .ref zy24, .ref zy25, .ref zy26, .ref zy27])), (zy0, .inl (cy 0, 392, .inl zz))] := hD
  have hw_3 : r_2 = if 0 ≤ zia.toInt ∧ zia.toInt ≤ 1 then 1 else 0 := hw_3
  refine lv_if_eq (tgt := 84) hx hb dX11_stretch_4 (by decide) (fun c_4 => ?_) (fun c_4 => ?_)
  · have f_5 : ¬ (0 ≤ zia.toInt ∧ zia.toInt ≤ 1) := bz_0 hw_3 c_4
    refine lv_iconst (v := (-1)) hx hb dX11_stretch_84 (by decide) ?_
    have hP9 := hP.sub (ws' := []) [] rfl
    have hD9 := hD.sub (ws' := []) [] (by decide) rfl
    exact W.iret (v := (-1)) hx hb hr (fun t ht hW => ⟨⟨(-1), (), rfl, rfl, ⟨by rw [ht]; exact hP9, va_K.moved hW.alike hK, hD9⟩⟩, hS.F ht⟩) hS.2.2 dX11_stretch_85
  · have f_5 : 0 ≤ zia.toInt ∧ zia.toInt ≤ 1 := bz_1 hw_3 c_4
    refine lv_iload_n hx hb dX11_stretch_7 rfl (lv_at hl 2 rfl) ?_
    refine lv_i2l (v := zib.toInt64) hx hb dX11_stretch_8 rfl ?_
    refine lv_lconst (v := 0) hx hb dX11_stretch_9 (by decide) ?_
    refine lv_ldc2 (v := 2) hx hb hown (hts (.constantLong RX11 180 2) (by decide +kernel)) dX11_stretch_10 ?_
    refine cj_i (wc := []) (wr := [(zy, .inr (11, [.ref zy0, .ref zy1, .int 0, .int 0, .int 0, .ref zy5, .int 0, .int 0, .ref zy8, .ref zy9, .ref zy10, .ref zy11, .ref zy12, .ref zy13, .ref zy14, .long 0, .ref zy16, .ref zy17, .ref zy18, .int 0, .long 0, .ref zy21, .ref zy22, .int 0, .ref zy24, .ref zy25, .ref zy26, .ref zy27])), (zy0, .inl (cy 0, 392, .inl zz))]) (w1 := fun (_ : Unit) => []) (va_runS (As := [.long zib.toInt64, .long 0, .long 2]) (rest := []) ⟨hx, hb, hml, hown, hts⟩ (c_X11_in l dC dI cy H.size zib.toInt64 0 2 0 2 zib.toInt (by first | rfl | decide | omega | exact Int32.toInt_toInt64 _) (by first | rfl | decide | omega | exact Int32.toInt_toInt64 _) (by first | rfl | decide | omega | exact Int32.toInt_toInt64 _)) (va_cwS 3 hts gX11_stretch_X11_in rfl rfl rfl (by decide +kernel) ⟨(Nat.le_of_ble_eq_true rfl), (Nat.le_of_ble_eq_true rfl)⟩) (PRE.s (hP.sub [] rfl) hK (hD.sub [] (by decide) rfl) hN) rfl rfl hl.1 rfl (lv_room (Nat.le_of_ble_eq_true rfl)) dX11_stretch_13 ⟨(Nat.le_of_ble_eq_true rfl), (Nat.le_of_ble_eq_true rfl)⟩) hP hD hS hA [] [0, 1] rfl rfl rfl (by decide) (fun r_7 u_6 H locs hw_8 hP hD hS => ?_)
    have hP : va_P (dC, dI) vwCl [(zy, .inr (11, [.ref zy0, .ref zy1, .int 0, .int 0, .int 0, .ref zy5, .int 0, .int 0, .ref zy8, .ref zy9, .ref zy10, .ref zy11, .ref zy12, .ref zy13, .ref zy14, .long 0, .ref zy16, .ref zy17, .ref zy18, .int 0, .long 0, .ref zy21, .ref zy22, .int 0, .ref zy24, .ref zy25, .ref zy26, .ref zy27])), (zy0, .inl (cy 0, 392, .inl zz))] H := hP
    have hD : va_D A [(zy, .inr (11, [.ref zy0, .ref zy1, .int 0, .int 0, .int 0, .ref zy5, .int 0, .int 0, .ref zy8, .ref zy9, .ref zy10, .ref zy11, .ref zy12, .ref zy13, .ref zy14, .long 0, .ref zy16, .ref zy17, .ref zy18, .int 0, .long 0, .ref zy21, .ref zy22, .int 0, .ref zy24, .ref zy25, .ref zy26, .ref zy27])), (zy0, .inl (cy 0, 392, .inl zz))] := hD
    have hw_8 : r_7 = if 0 ≤ zib.toInt ∧ zib.toInt ≤ 2 then 1 else 0 := hw_8
    refine lv_if_eq (tgt := 84) hx hb dX11_stretch_16 (by decide) (fun c_9 => ?_) (fun c_9 => ?_)
    · have f_10 : ¬ (0 ≤ zib.toInt ∧ zib.toInt ≤ 2) := bz_0 hw_8 c_9
      refine lv_iconst (v := (-1)) hx hb dX11_stretch_84 (by decide) ?_
      have hP9 := hP.sub (ws' := []) [] rfl
      have hD9 := hD.sub (ws' := []) [] (by decide) rfl
      exact W.iret (v := (-1)) hx hb hr (fun t ht hW => ⟨⟨(-1), (), rfl, rfl, ⟨by rw [ht]; exact hP9, va_K.moved hW.alike hK, hD9⟩⟩, hS.F ht⟩) hS.2.2 dX11_stretch_85
    · have f_10 : 0 ≤ zib.toInt ∧ zib.toInt ≤ 2 := bz_1 hw_8 c_9
      refine lv_aload_n hx hb dX11_stretch_19 rfl (lv_at hl 0 rfl) ?_
      refine lv_iload_n hx hb dX11_stretch_20 rfl (lv_at hl 1 rfl) ?_
      refine lv_iload_n hx hb dX11_stretch_21 rfl (lv_at hl 3 rfl) ?_
      refine cj_i (wc := [(zy, .inr (11, [.ref zy0, .ref zy1, .int 0, .int 0, .int 0, .ref zy5, .int 0, .int 0, .ref zy8, .ref zy9, .ref zy10, .ref zy11, .ref zy12, .ref zy13, .ref zy14, .long 0, .ref zy16, .ref zy17, .ref zy18, .int 0, .long 0, .ref zy21, .ref zy22, .int 0, .ref zy24, .ref zy25, .ref zy26, .ref zy27])), (zy0, .inl (cy 0, 392, .inl zz))]) (wr := []) (w1 := fun (_ : Unit) => [(zy, .inr (11, [.ref zy0, .ref zy1, .int 0, .int 0, .int 0, .ref zy5, .int 0, .int 0, .ref zy8, .ref zy9, .ref zy10, .ref zy11, .ref zy12, .ref zy13, .ref zy14, .long 0, .ref zy16, .ref zy17, .ref zy18, .int 0, .long 0, .ref zy21, .ref zy22, .int 0, .ref zy24, .ref zy25, .ref zy26, .ref zy27])), (zy0, .inl (cy 0, 392, .inl zz))]) (va_runV (As := [.int zia, .int zic]) (rest := []) ⟨hx, hb, hml, hown, hts⟩ (c_X11_isThing l dC dI cy H.size zy zia zic zy0 zy1 zy5 zy8 zy9 zy10 zy11 zy12 zy13 zy14 zy16 zy17 zy18 zy21 zy22 zy24 zy25 zy26 zy27 (by first | rfl | decide | omega | exact Int32.toInt_toInt64 _)) (cwV 2 hts gX11_stretch_X11_isThing rfl rfl rfl (by decide +kernel) ⟨(Nat.le_of_ble_eq_true rfl), (Nat.le_of_ble_eq_true rfl)⟩) (PRE.v (hP.sub [0, 1] rfl) hK (hD.sub [0, 1] (by decide) rfl) hN (va_recv hK hP (ci := 11) (q0 := 0) rfl rfl)) rfl rfl hl.1 rfl (lv_room (Nat.le_of_ble_eq_true rfl)) dX11_stretch_22 ⟨(Nat.le_of_ble_eq_true rfl), (Nat.le_of_ble_eq_true rfl)⟩) hP hD hS hA [0, 1] [] rfl rfl rfl (by decide) (fun r_12 u_11 H locs hw_13 hP hD hS => ?_)
      have hP : va_P (dC, dI) vwCl [(zy, .inr (11, [.ref zy0, .ref zy1, .int 0, .int 0, .int 0, .ref zy5, .int 0, .int 0, .ref zy8, .ref zy9, .ref zy10, .ref zy11, .ref zy12, .ref zy13, .ref zy14, .long 0, .ref zy16, .ref zy17, .ref zy18, .int 0, .long 0, .ref zy21, .ref zy22, .int 0, .ref zy24, .ref zy25, .ref zy26, .ref zy27])), (zy0, .inl (cy 0, 392, .inl zz))] H := hP
      have hD : va_D A [(zy, .inr (11, [.ref zy0, .ref zy1, .int 0, .int 0, .int 0, .ref zy5, .int 0, .int 0, .ref zy8, .ref zy9, .ref zy10, .ref zy11, .ref zy12, .ref zy13, .ref zy14, .long 0, .ref zy16, .ref zy17, .ref zy18, .int 0, .long 0, .ref zy21, .ref zy22, .int 0, .ref zy24, .ref zy25, .ref zy26, .ref zy27])), (zy0, .inl (cy 0, 392, .inl zz))] := hD
      obtain rfl : r_12 = 0 := hw_13
      refine lv_if_eq (tgt := 84) hx hb dX11_stretch_25 (by decide) (fun c_14 => ?_) (fun c_14 => absurd (by decide) c_14)
      refine lv_iconst (v := (-1)) hx hb dX11_stretch_84 (by decide) ?_
      have hP9 := hP.sub (ws' := []) [] rfl
      have hD9 := hD.sub (ws' := []) [] (by decide) rfl
      exact W.iret (v := (-1)) hx hb hr (fun t ht hW => ⟨⟨(-1), (), rfl, rfl, ⟨by rw [ht]; exact hP9, va_K.moved hW.alike hK, hD9⟩⟩, hS.F ht⟩) hS.2.2 dX11_stretch_85
set_option maxHeartbeats 4000000 in
set_option maxRecDepth 100000 in
theorem c_X11_date (l : Launch) (dC : Nat → ClassId) (dI : Nat → Nat → Nat) (cy : Nat → ClassId) (sz : Nat) (zy : Nat) (zia : Int32) (zib : Int32) (zic : Int32) (zid : Int32) (zie : Int32) (zy0 : Nat) (zy1 : Nat) (zy5 : Nat) (zy8 : Nat) (zy9 : Nat) (zy10 : Nat) (zy11 : Nat) (zy12 : Nat) (zy13 : Nat) (zy14 : Nat) (zy16 : Nat) (zy17 : Nat) (zy18 : Nat) (zy21 : Nat) (zy22 : Nat) (zy24 : Nat) (zy25 : Nat) (zy26 : Nat) (zy27 : Nat)  : Met l yX11_date wsX11_date ({ frames := 2, cells := 0, slots := 0, locals := 47 }) (va_Pc [.ref zy, .int zia, .int zib, .int zic, .int zid, .int zie] (PRE dC dI cy [(zy, .inr (11, [.ref zy0, .ref zy1, .int 0, .int 0, .int 0, .ref zy5, .int 0, .int 0, .ref zy8, .ref zy9, .ref zy10, .ref zy11, .ref zy12, .ref zy13, .ref zy14, .long 0, .ref zy16, .ref zy17, .ref zy18, .int 0, .long 0, .ref zy21, .ref zy22, .int 0, .ref zy24, .ref zy25, .ref zy26, .ref zy27])), (zy0, .inl (cy 0, 392, .inl zz))] sz)) (va_Qi (fun (r : Int32) (_ : Unit) => r = (-1)) (fun u t => POST dC dI cy (va_A [(zy, .inr (11, [.ref zy0, .ref zy1, .int 0, .int 0, .int 0, .ref zy5, .int 0, .int 0, .ref zy8, .ref zy9, .ref zy10, .ref zy11, .ref zy12, .ref zy13, .ref zy14, .long 0, .ref zy16, .ref zy17, .ref zy18, .int 0, .long 0, .ref zy21, .ref zy22, .int 0, .ref zy24, .ref zy25, .ref zy26, .ref zy27])), (zy0, .inl (cy 0, 392, .inl zz))] sz) [] t) (va_A [(zy, .inr (11, [.ref zy0, .ref zy1, .int 0, .int 0, .int 0, .ref zy5, .int 0, .int 0, .ref zy8, .ref zy9, .ref zy10, .ref zy11, .ref zy12, .ref zy13, .ref zy14, .long 0, .ref zy16, .ref zy17, .ref zy18, .int 0, .long 0, .ref zy21, .ref zy22, .int 0, .ref zy24, .ref zy25, .ref zy26, .ref zy27])), (zy0, .inl (cy 0, 392, .inl zz))] sz)) 0 0 (va_A [(zy, .inr (11, [.ref zy0, .ref zy1, .int 0, .int 0, .int 0, .ref zy5, .int 0, .int 0, .ref zy8, .ref zy9, .ref zy10, .ref zy11, .ref zy12, .ref zy13, .ref zy14, .long 0, .ref zy16, .ref zy17, .ref zy18, .int 0, .long 0, .ref zy21, .ref zy22, .int 0, .ref zy24, .ref zy25, .ref zy26, .ref zy27])), (zy0, .inl (cy 0, 392, .inl zz))] sz) := by
  refine Met.ofW (cc := cX11_date) (maxL := 7) (ret := (some .int)) (by decide) rfl ?_
  intro p e s m args below meth c s₁ B hml hv
  obtain ⟨rfl, hsz, hP, hK, hD0, hN⟩ := hv
  have hx := B.exec
  have hb := B.bytes
  have hr := B.returns
  have hts := atoms_spec (ws := wsX11_date) B.pre
  have hown : s.vm.findClass RX11 = some m.cls := findClass_of_methodNamed B.named
  have hlocks := B.notSynchronized
  subst hsz
  have hD := hD0.self (sz := s.heap.size)
  generalize hAe : va_A [(zy, .inr (11, [.ref zy0, .ref zy1, .int 0, .int 0, .int 0, .ref zy5, .int 0, .int 0, .ref zy8, .ref zy9, .ref zy10, .ref zy11, .ref zy12, .ref zy13, .ref zy14, .long 0, .ref zy16, .ref zy17, .ref zy18, .int 0, .long 0, .ref zy21, .ref zy22, .int 0, .ref zy24, .ref zy25, .ref zy26, .ref zy27])), (zy0, .inl (cy 0, 392, .inl zz))] s.heap.size = A at hD ⊢
  have hA : ∀ q : Nat, s.heap.size ≤ q → A q := fun q h => by rw [← hAe]; exact Or.inr h
  have hS : va_S A s.heap s.heap [] := va_S.rf
  have hP : va_P (dC, dI) vwCl [(zy, .inr (11, [.ref zy0, .ref zy1, .int 0, .int 0, .int 0, .ref zy5, .int 0, .int 0, .ref zy8, .ref zy9, .ref zy10, .ref zy11, .ref zy12, .ref zy13, .ref zy14, .long 0, .ref zy16, .ref zy17, .ref zy18, .int 0, .long 0, .ref zy21, .ref zy22, .int 0, .ref zy24, .ref zy25, .ref zy26, .ref zy27])), (zy0, .inl (cy 0, 392, .inl zz))] s.heap := hP
  have hl := lv_entry ([.ref zy, .int zia, .int zib, .int zic, .int zid, .int zie] : List Value) (n := 7) (Nat.le_of_ble_eq_true rfl)
  rw [lg_entry_eq]
  generalize (lg_sl ([.ref zy, .int zia, .int zib, .int zic, .int zid, .int zie] : List Value) ++ List.replicate (7 - (lg_sl ([.ref zy, .int zia, .int zib, .int zic, .int zid, .int zie] : List Value)).length) Slot.unset).toArray = ls at hl ⊢
  have hl : lv_has ls 7 [(0, .ref zy), (1, .int zia), (2, .int zib), (3, .int zic), (4, .int zid), (5, .int zie)] := hl
  refine lv_iload_n hx hb dX11_date_0 rfl (lv_at hl 1 rfl) ?_
  refine cj_i (wc := []) (wr := [(zy, .inr (11, [.ref zy0, .ref zy1, .int 0, .int 0, .int 0, .ref zy5, .int 0, .int 0, .ref zy8, .ref zy9, .ref zy10, .ref zy11, .ref zy12, .ref zy13, .ref zy14, .long 0, .ref zy16, .ref zy17, .ref zy18, .int 0, .long 0, .ref zy21, .ref zy22, .int 0, .ref zy24, .ref zy25, .ref zy26, .ref zy27])), (zy0, .inl (cy 0, 392, .inl zz))]) (w1 := fun (_ : Unit) => []) (va_runS (As := [.int zia]) (rest := []) ⟨hx, hb, hml, hown, hts⟩ (c_X11_isCandle l dC dI cy s.heap.size zia) (va_cwS 1 hts gX11_date_X11_isCandle rfl rfl rfl (by decide +kernel) ⟨(Nat.le_of_ble_eq_true rfl), (Nat.le_of_ble_eq_true rfl)⟩) (PRE.s (hP.sub [] rfl) hK (hD.sub [] (by decide) rfl) hN) rfl rfl hl.1 rfl (lv_room (Nat.le_of_ble_eq_true rfl)) dX11_date_1 ⟨(Nat.le_of_ble_eq_true rfl), (Nat.le_of_ble_eq_true rfl)⟩) hP hD hS hA [] [0, 1] rfl rfl rfl (by decide) (fun r_2 u_1 H locs hw_3 hP hD hS => ?_)
  have hP : va_P (dC, dI) vwCl [(zy, .inr (11, [.ref zy0, .ref zy1, .int 0, .int 0, .int 0, .ref zy5, .int 0, .int 0, .ref zy8, .ref zy9, .ref zy10, .ref zy11, .ref zy12, .ref zy13, .ref zy14, .long 0, .ref zy16, .ref zy17, .ref zy18, .int 0, .long 0, .ref zy21, .ref zy22, .int 0, .ref zy24, .ref zy25, .ref zy26, .ref zy27])), (zy0, .inl (cy 0, 392, .inl zz))] H := hP
  have hD : va_D A [(zy, .inr (11, [.ref zy0, .ref zy1, .int 0, .int 0, .int 0, .ref zy5, .int 0, .int 0, .ref zy8, .ref zy9, .ref zy10, .ref zy11, .ref zy12, .ref zy13, .ref zy14, .long 0, .ref zy16, .ref zy17, .ref zy18, .int 0, .long 0, .ref zy21, .ref zy22, .int 0, .ref zy24, .ref zy25, .ref zy26, .ref zy27])), (zy0, .inl (cy 0, 392, .inl zz))] := hD
  have hw_3 : r_2 = if 0 ≤ zia.toInt ∧ zia.toInt ≤ 1 then 1 else 0 := hw_3
  refine lv_if_eq (tgt := 48) hx hb dX11_date_4 (by decide) (fun c_4 => ?_) (fun c_4 => ?_)
  · have f_5 : ¬ (0 ≤ zia.toInt ∧ zia.toInt ≤ 1) := bz_0 hw_3 c_4
    refine lv_iconst (v := (-1)) hx hb dX11_date_48 (by decide) ?_
    have hP9 := hP.sub (ws' := []) [] rfl
    have hD9 := hD.sub (ws' := []) [] (by decide) rfl
    exact W.iret (v := (-1)) hx hb hr (fun t ht hW => ⟨⟨(-1), (), rfl, rfl, ⟨by rw [ht]; exact hP9, va_K.moved hW.alike hK, hD9⟩⟩, hS.F ht⟩) hS.2.2 dX11_date_49
  · have f_5 : 0 ≤ zia.toInt ∧ zia.toInt ≤ 1 := bz_1 hw_3 c_4
    refine lv_aload_n hx hb dX11_date_7 rfl (lv_at hl 0 rfl) ?_
    refine lv_iload_n hx hb dX11_date_8 rfl (lv_at hl 1 rfl) ?_
    refine lv_iload_n hx hb dX11_date_9 rfl (lv_at hl 2 rfl) ?_
    refine cj_i (wc := [(zy, .inr (11, [.ref zy0, .ref zy1, .int 0, .int 0, .int 0, .ref zy5, .int 0, .int 0, .ref zy8, .ref zy9, .ref zy10, .ref zy11, .ref zy12, .ref zy13, .ref zy14, .long 0, .ref zy16, .ref zy17, .ref zy18, .int 0, .long 0, .ref zy21, .ref zy22, .int 0, .ref zy24, .ref zy25, .ref zy26, .ref zy27])), (zy0, .inl (cy 0, 392, .inl zz))]) (wr := []) (w1 := fun (_ : Unit) => [(zy, .inr (11, [.ref zy0, .ref zy1, .int 0, .int 0, .int 0, .ref zy5, .int 0, .int 0, .ref zy8, .ref zy9, .ref zy10, .ref zy11, .ref zy12, .ref zy13, .ref zy14, .long 0, .ref zy16, .ref zy17, .ref zy18, .int 0, .long 0, .ref zy21, .ref zy22, .int 0, .ref zy24, .ref zy25, .ref zy26, .ref zy27])), (zy0, .inl (cy 0, 392, .inl zz))]) (va_runV (As := [.int zia, .int zib]) (rest := []) ⟨hx, hb, hml, hown, hts⟩ (c_X11_isThing l dC dI cy H.size zy zia zib zy0 zy1 zy5 zy8 zy9 zy10 zy11 zy12 zy13 zy14 zy16 zy17 zy18 zy21 zy22 zy24 zy25 zy26 zy27 (by first | rfl | decide | omega | exact Int32.toInt_toInt64 _)) (cwV 2 hts gX11_date_X11_isThing rfl rfl rfl (by decide +kernel) ⟨(Nat.le_of_ble_eq_true rfl), (Nat.le_of_ble_eq_true rfl)⟩) (PRE.v (hP.sub [0, 1] rfl) hK (hD.sub [0, 1] (by decide) rfl) hN (va_recv hK hP (ci := 11) (q0 := 0) rfl rfl)) rfl rfl hl.1 rfl (lv_room (Nat.le_of_ble_eq_true rfl)) dX11_date_10 ⟨(Nat.le_of_ble_eq_true rfl), (Nat.le_of_ble_eq_true rfl)⟩) hP hD hS hA [0, 1] [] rfl rfl rfl (by decide) (fun r_7 u_6 H locs hw_8 hP hD hS => ?_)
    have hP : va_P (dC, dI) vwCl [(zy, .inr (11, [.ref zy0, .ref zy1, .int 0, .int 0, .int 0, .ref zy5, .int 0, .int 0, .ref zy8, .ref zy9, .ref zy10, .ref zy11, .ref zy12, .ref zy13, .ref zy14, .long 0, .ref zy16, .ref zy17, .ref zy18, .int 0, .long 0, .ref zy21, .ref zy22, .int 0, .ref zy24, .ref zy25, .ref zy26, .ref zy27])), (zy0, .inl (cy 0, 392, .inl zz))] H := hP
    have hD : va_D A [(zy, .inr (11, [.ref zy0, .ref zy1, .int 0, .int 0, .int 0, .ref zy5, .int 0, .int 0, .ref zy8, .ref zy9, .ref zy10, .ref zy11, .ref zy12, .ref zy13, .ref zy14, .long 0, .ref zy16, .ref zy17, .ref zy18, .int 0, .long 0, .ref zy21, .ref zy22, .int 0, .ref zy24, .ref zy25, .ref zy26, .ref zy27])), (zy0, .inl (cy 0, 392, .inl zz))] := hD
    obtain rfl : r_7 = 0 := hw_8
    refine lv_if_eq (tgt := 48) hx hb dX11_date_13 (by decide) (fun c_9 => ?_) (fun c_9 => absurd (by decide) c_9)
    refine lv_iconst (v := (-1)) hx hb dX11_date_48 (by decide) ?_
    have hP9 := hP.sub (ws' := []) [] rfl
    have hD9 := hD.sub (ws' := []) [] (by decide) rfl
    exact W.iret (v := (-1)) hx hb hr (fun t ht hW => ⟨⟨(-1), (), rfl, rfl, ⟨by rw [ht]; exact hP9, va_K.moved hW.alike hK, hD9⟩⟩, hS.F ht⟩) hS.2.2 dX11_date_49
set_option maxHeartbeats 4000000 in
set_option maxRecDepth 100000 in
theorem c_X11_throwOut (l : Launch) (dC : Nat → ClassId) (dI : Nat → Nat → Nat) (cy : Nat → ClassId) (sz : Nat) (zy : Nat) (zia : Int32) (zib : Int32) (zy0 : Nat) (zy1 : Nat) (zy5 : Nat) (zy8 : Nat) (zy9 : Nat) (zy10 : Nat) (zy11 : Nat) (zy12 : Nat) (zy13 : Nat) (zy14 : Nat) (zy16 : Nat) (zy17 : Nat) (zy18 : Nat) (zy21 : Nat) (zy22 : Nat) (zy24 : Nat) (zy25 : Nat) (zy26 : Nat) (zy27 : Nat)  : Met l yX11_throwOut wsX11_throwOut ({ frames := 1, cells := 0, slots := 0, locals := 25 }) (va_Pc [.ref zy, .int zia, .int zib] (PRE dC dI cy [(zy, .inr (11, [.ref zy0, .ref zy1, .int 0, .int 0, .int 0, .ref zy5, .int 0, .int 0, .ref zy8, .ref zy9, .ref zy10, .ref zy11, .ref zy12, .ref zy13, .ref zy14, .long 0, .ref zy16, .ref zy17, .ref zy18, .int 0, .long 0, .ref zy21, .ref zy22, .int 0, .ref zy24, .ref zy25, .ref zy26, .ref zy27])), (zy0, .inl (cy 0, 392, .inl zz))] sz)) (va_Qi (fun (r : Int32) (_ : Unit) => r = (-1)) (fun u t => POST dC dI cy (va_A [(zy, .inr (11, [.ref zy0, .ref zy1, .int 0, .int 0, .int 0, .ref zy5, .int 0, .int 0, .ref zy8, .ref zy9, .ref zy10, .ref zy11, .ref zy12, .ref zy13, .ref zy14, .long 0, .ref zy16, .ref zy17, .ref zy18, .int 0, .long 0, .ref zy21, .ref zy22, .int 0, .ref zy24, .ref zy25, .ref zy26, .ref zy27])), (zy0, .inl (cy 0, 392, .inl zz))] sz) [] t) (va_A [(zy, .inr (11, [.ref zy0, .ref zy1, .int 0, .int 0, .int 0, .ref zy5, .int 0, .int 0, .ref zy8, .ref zy9, .ref zy10, .ref zy11, .ref zy12, .ref zy13, .ref zy14, .long 0, .ref zy16, .ref zy17, .ref zy18, .int 0, .long 0, .ref zy21, .ref zy22, .int 0, .ref zy24, .ref zy25, .ref zy26, .ref zy27])), (zy0, .inl (cy 0, 392, .inl zz))] sz)) 0 0 (va_A [(zy, .inr (11, [.ref zy0, .ref zy1, .int 0, .int 0, .int 0, .ref zy5, .int 0, .int 0, .ref zy8, .ref zy9, .ref zy10, .ref zy11, .ref zy12, .ref zy13, .ref zy14, .long 0, .ref zy16, .ref zy17, .ref zy18, .int 0, .long 0, .ref zy21, .ref zy22, .int 0, .ref zy24, .ref zy25, .ref zy26, .ref zy27])), (zy0, .inl (cy 0, 392, .inl zz))] sz) := by
  refine Met.ofW (cc := cX11_throwOut) (maxL := 4) (ret := (some .int)) (by decide) rfl ?_
  intro p e s m args below meth c s₁ B hml hv
  obtain ⟨rfl, hsz, hP, hK, hD0, hN⟩ := hv
  have hx := B.exec
  have hb := B.bytes
  have hr := B.returns
  have hts := atoms_spec (ws := wsX11_throwOut) B.pre
  have hown : s.vm.findClass RX11 = some m.cls := findClass_of_methodNamed B.named
  have hlocks := B.notSynchronized
  subst hsz
  have hD := hD0.self (sz := s.heap.size)
  generalize hAe : va_A [(zy, .inr (11, [.ref zy0, .ref zy1, .int 0, .int 0, .int 0, .ref zy5, .int 0, .int 0, .ref zy8, .ref zy9, .ref zy10, .ref zy11, .ref zy12, .ref zy13, .ref zy14, .long 0, .ref zy16, .ref zy17, .ref zy18, .int 0, .long 0, .ref zy21, .ref zy22, .int 0, .ref zy24, .ref zy25, .ref zy26, .ref zy27])), (zy0, .inl (cy 0, 392, .inl zz))] s.heap.size = A at hD ⊢
  have hA : ∀ q : Nat, s.heap.size ≤ q → A q := fun q h => by rw [← hAe]; exact Or.inr h
  have hS : va_S A s.heap s.heap [] := va_S.rf
  have hP : va_P (dC, dI) vwCl [(zy, .inr (11, [.ref zy0, .ref zy1, .int 0, .int 0, .int 0, .ref zy5, .int 0, .int 0, .ref zy8, .ref zy9, .ref zy10, .ref zy11, .ref zy12, .ref zy13, .ref zy14, .long 0, .ref zy16, .ref zy17, .ref zy18, .int 0, .long 0, .ref zy21, .ref zy22, .int 0, .ref zy24, .ref zy25, .ref zy26, .ref zy27])), (zy0, .inl (cy 0, 392, .inl zz))] s.heap := hP
  have hl := lv_entry ([.ref zy, .int zia, .int zib] : List Value) (n := 4) (Nat.le_of_ble_eq_true rfl)
  rw [lg_entry_eq]
  generalize (lg_sl ([.ref zy, .int zia, .int zib] : List Value) ++ List.replicate (4 - (lg_sl ([.ref zy, .int zia, .int zib] : List Value)).length) Slot.unset).toArray = ls at hl ⊢
  have hl : lv_has ls 4 [(0, .ref zy), (1, .int zia), (2, .int zib)] := hl
  refine lv_iload_n hx hb dX11_throwOut_0 rfl (lv_at hl 1 rfl) ?_
  refine lv_i2l (v := zia.toInt64) hx hb dX11_throwOut_1 rfl ?_
  refine lv_lconst (v := 0) hx hb dX11_throwOut_2 (by decide) ?_
  refine lv_aload_n hx hb dX11_throwOut_3 rfl (lv_at hl 0 rfl) ?_
  refine va_get (D := (dC, dI)) (ci := 11) (v := .ref zy0) (C := RX11) (T := TX11) (N := 28) hx hb hts (by decide +kernel) hown hK hP 0 rfl rfl 0 (by decide) (hts (.fieldLink RX11 7 "DripStoneModel" "z" "[I") (by decide +kernel)) (fun _ h9 => h9) rfl dX11_throwOut_4 ?_
  refine lv_bipush (v := 11) hx hb dX11_throwOut_7 (by decide) ?_
  refine va_iald hx hb hK hP 1 0 rfl rfl (vp_in_iff.mpr ⟨by decide, by decide⟩) dX11_throwOut_9 ?_
  refine W.eq (g2 := F0 m 10 ls [.int 0, .long 0, .long zia.toInt64]) rfl ?_
  refine lv_iconst (v := 1) hx hb dX11_throwOut_10 (by decide) ?_
  refine lv_isub hx hb dX11_throwOut_11 ?_
  refine lv_topi (fun v_1 ev_1 => ?_)
  obtain rfl : v_1 = ((-1) : Int32) := ev_1.trans (by decide)
  refine lv_i2l (v := (-1)) hx hb dX11_throwOut_12 (by decide) ?_
  refine cj_i (wc := []) (wr := [(zy, .inr (11, [.ref zy0, .ref zy1, .int 0, .int 0, .int 0, .ref zy5, .int 0, .int 0, .ref zy8, .ref zy9, .ref zy10, .ref zy11, .ref zy12, .ref zy13, .ref zy14, .long 0, .ref zy16, .ref zy17, .ref zy18, .int 0, .long 0, .ref zy21, .ref zy22, .int 0, .ref zy24, .ref zy25, .ref zy26, .ref zy27])), (zy0, .inl (cy 0, 392, .inl zz))]) (w1 := fun (_ : Unit) => []) (va_runS (As := [.long zia.toInt64, .long 0, .long (-1)]) (rest := []) ⟨hx, hb, hml, hown, hts⟩ (c_X11_in l dC dI cy s.heap.size zia.toInt64 0 (-1) 0 (-1) zia.toInt (by first | rfl | decide | omega | exact Int32.toInt_toInt64 _) (by first | rfl | decide | omega | exact Int32.toInt_toInt64 _) (by first | rfl | decide | omega | exact Int32.toInt_toInt64 _)) (va_cwS 3 hts gX11_throwOut_X11_in rfl rfl rfl (by decide +kernel) ⟨(Nat.le_of_ble_eq_true rfl), (Nat.le_of_ble_eq_true rfl)⟩) (PRE.s (hP.sub [] rfl) hK (hD.sub [] (by decide) rfl) hN) rfl rfl hl.1 rfl (lv_room (Nat.le_of_ble_eq_true rfl)) dX11_throwOut_13 ⟨(Nat.le_of_ble_eq_true rfl), (Nat.le_of_ble_eq_true rfl)⟩) hP hD hS hA [] [0, 1] rfl rfl rfl (by decide) (fun r_3 u_2 H locs hw_4 hP hD hS => ?_)
  have hP : va_P (dC, dI) vwCl [(zy, .inr (11, [.ref zy0, .ref zy1, .int 0, .int 0, .int 0, .ref zy5, .int 0, .int 0, .ref zy8, .ref zy9, .ref zy10, .ref zy11, .ref zy12, .ref zy13, .ref zy14, .long 0, .ref zy16, .ref zy17, .ref zy18, .int 0, .long 0, .ref zy21, .ref zy22, .int 0, .ref zy24, .ref zy25, .ref zy26, .ref zy27])), (zy0, .inl (cy 0, 392, .inl zz))] H := hP
  have hD : va_D A [(zy, .inr (11, [.ref zy0, .ref zy1, .int 0, .int 0, .int 0, .ref zy5, .int 0, .int 0, .ref zy8, .ref zy9, .ref zy10, .ref zy11, .ref zy12, .ref zy13, .ref zy14, .long 0, .ref zy16, .ref zy17, .ref zy18, .int 0, .long 0, .ref zy21, .ref zy22, .int 0, .ref zy24, .ref zy25, .ref zy26, .ref zy27])), (zy0, .inl (cy 0, 392, .inl zz))] := hD
  have hw_4 : r_3 = if 0 ≤ zia.toInt ∧ zia.toInt ≤ (-1) then 1 else 0 := hw_4
  refine lv_if_eq (tgt := 31) hx hb dX11_throwOut_16 (by decide) (fun c_5 => ?_) (fun c_5 => ?_)
  · have f_6 : ¬ (0 ≤ zia.toInt ∧ zia.toInt ≤ (-1)) := bz_0 hw_4 c_5
    refine lv_iconst (v := (-1)) hx hb dX11_throwOut_31 (by decide) ?_
    have hP9 := hP.sub (ws' := []) [] rfl
    have hD9 := hD.sub (ws' := []) [] (by decide) rfl
    exact W.iret (v := (-1)) hx hb hr (fun t ht hW => ⟨⟨(-1), (), rfl, rfl, ⟨by rw [ht]; exact hP9, va_K.moved hW.alike hK, hD9⟩⟩, hS.F ht⟩) hS.2.2 dX11_throwOut_32
  · have f_6 : 0 ≤ zia.toInt ∧ zia.toInt ≤ (-1) := bz_1 hw_4 c_5
    exfalso; omega
set_option maxHeartbeats 4000000 in
set_option maxRecDepth 100000 in
theorem c_X11_ends (l : Launch) (dC : Nat → ClassId) (dI : Nat → Nat → Nat) (cy : Nat → ClassId) (sz : Nat) (zy : Nat) (zia : Int32) (zib : Int32) (zic : Int32) (zy0 : Nat) (zy1 : Nat) (zy5 : Nat) (zy8 : Nat) (zy9 : Nat) (zy10 : Nat) (zy11 : Nat) (zy12 : Nat) (zy13 : Nat) (zy14 : Nat) (zy16 : Nat) (zy17 : Nat) (zy18 : Nat) (zy21 : Nat) (zy22 : Nat) (zy24 : Nat) (zy25 : Nat) (zy26 : Nat) (zy27 : Nat)  : Met l yX11_ends wsX11_ends ({ frames := 3, cells := 0, slots := 0, locals := 69 }) (va_Pc [.ref zy, .int zia, .int zib, .int zic] (PRE dC dI cy [(zy, .inr (11, [.ref zy0, .ref zy1, .int 0, .int 0, .int 0, .ref zy5, .int 0, .int 0, .ref zy8, .ref zy9, .ref zy10, .ref zy11, .ref zy12, .ref zy13, .ref zy14, .long 0, .ref zy16, .ref zy17, .ref zy18, .int 0, .long 0, .ref zy21, .ref zy22, .int 0, .ref zy24, .ref zy25, .ref zy26, .ref zy27])), (zy0, .inl (cy 0, 392, .inl zz))] sz)) (va_Qi (fun (r : Int32) (_ : Unit) => r = (-1)) (fun u t => POST dC dI cy (va_A [(zy, .inr (11, [.ref zy0, .ref zy1, .int 0, .int 0, .int 0, .ref zy5, .int 0, .int 0, .ref zy8, .ref zy9, .ref zy10, .ref zy11, .ref zy12, .ref zy13, .ref zy14, .long 0, .ref zy16, .ref zy17, .ref zy18, .int 0, .long 0, .ref zy21, .ref zy22, .int 0, .ref zy24, .ref zy25, .ref zy26, .ref zy27])), (zy0, .inl (cy 0, 392, .inl zz))] sz) [] t) (va_A [(zy, .inr (11, [.ref zy0, .ref zy1, .int 0, .int 0, .int 0, .ref zy5, .int 0, .int 0, .ref zy8, .ref zy9, .ref zy10, .ref zy11, .ref zy12, .ref zy13, .ref zy14, .long 0, .ref zy16, .ref zy17, .ref zy18, .int 0, .long 0, .ref zy21, .ref zy22, .int 0, .ref zy24, .ref zy25, .ref zy26, .ref zy27])), (zy0, .inl (cy 0, 392, .inl zz))] sz)) 0 0 (va_A [(zy, .inr (11, [.ref zy0, .ref zy1, .int 0, .int 0, .int 0, .ref zy5, .int 0, .int 0, .ref zy8, .ref zy9, .ref zy10, .ref zy11, .ref zy12, .ref zy13, .ref zy14, .long 0, .ref zy16, .ref zy17, .ref zy18, .int 0, .long 0, .ref zy21, .ref zy22, .int 0, .ref zy24, .ref zy25, .ref zy26, .ref zy27])), (zy0, .inl (cy 0, 392, .inl zz))] sz) := by
  refine Met.ofW (cc := cX11_ends) (maxL := 5) (ret := (some .int)) (by decide) rfl ?_
  intro p e s m args below meth c s₁ B hml hv
  obtain ⟨rfl, hsz, hP, hK, hD0, hN⟩ := hv
  have hx := B.exec
  have hb := B.bytes
  have hr := B.returns
  have hts := atoms_spec (ws := wsX11_ends) B.pre
  have hown : s.vm.findClass RX11 = some m.cls := findClass_of_methodNamed B.named
  have hlocks := B.notSynchronized
  subst hsz
  have hD := hD0.self (sz := s.heap.size)
  generalize hAe : va_A [(zy, .inr (11, [.ref zy0, .ref zy1, .int 0, .int 0, .int 0, .ref zy5, .int 0, .int 0, .ref zy8, .ref zy9, .ref zy10, .ref zy11, .ref zy12, .ref zy13, .ref zy14, .long 0, .ref zy16, .ref zy17, .ref zy18, .int 0, .long 0, .ref zy21, .ref zy22, .int 0, .ref zy24, .ref zy25, .ref zy26, .ref zy27])), (zy0, .inl (cy 0, 392, .inl zz))] s.heap.size = A at hD ⊢
  have hA : ∀ q : Nat, s.heap.size ≤ q → A q := fun q h => by rw [← hAe]; exact Or.inr h
  have hS : va_S A s.heap s.heap [] := va_S.rf
  have hP : va_P (dC, dI) vwCl [(zy, .inr (11, [.ref zy0, .ref zy1, .int 0, .int 0, .int 0, .ref zy5, .int 0, .int 0, .ref zy8, .ref zy9, .ref zy10, .ref zy11, .ref zy12, .ref zy13, .ref zy14, .long 0, .ref zy16, .ref zy17, .ref zy18, .int 0, .long 0, .ref zy21, .ref zy22, .int 0, .ref zy24, .ref zy25, .ref zy26, .ref zy27])), (zy0, .inl (cy 0, 392, .inl zz))] s.heap := hP
  have hl := lv_entry ([.ref zy, .int zia, .int zib, .int zic] : List Value) (n := 5) (Nat.le_of_ble_eq_true rfl)
  rw [lg_entry_eq]
  generalize (lg_sl ([.ref zy, .int zia, .int zib, .int zic] : List Value) ++ List.replicate (5 - (lg_sl ([.ref zy, .int zia, .int zib, .int zic] : List Value)).length) Slot.unset).toArray = ls at hl ⊢
  have hl : lv_has ls 5 [(0, .ref zy), (1, .int zia), (2, .int zib), (3, .int zic)] := hl
  refine lv_iload_n hx hb dX11_ends_0 rfl (lv_at hl 3 rfl) ?_
  refine lv_i2l (v := zic.toInt64) hx hb dX11_ends_1 rfl ?_
  refine lv_lconst (v := 0) hx hb dX11_ends_2 (by decide) ?_
  refine lv_lconst (v := 1) hx hb dX11_ends_3 (by decide) ?_
  refine cj_i (wc := []) (wr := [(zy, .inr (11, [.ref zy0, .ref zy1, .int 0, .int 0, .int 0, .ref zy5, .int 0, .int 0, .ref zy8, .ref zy9, .ref zy10, .ref zy11, .ref zy12, .ref zy13, .ref zy14, .long 0, .ref zy16, .ref zy17, .ref zy18, .int 0, .long 0, .ref zy21, .ref zy22, .int 0, .ref zy24, .ref zy25, .ref zy26, .ref zy27])), (zy0, .inl (cy 0, 392, .inl zz))]) (w1 := fun (_ : Unit) => []) (va_runS (As := [.long zic.toInt64, .long 0, .long 1]) (rest := []) ⟨hx, hb, hml, hown, hts⟩ (c_X11_in l dC dI cy s.heap.size zic.toInt64 0 1 0 1 zic.toInt (by first | rfl | decide | omega | exact Int32.toInt_toInt64 _) (by first | rfl | decide | omega | exact Int32.toInt_toInt64 _) (by first | rfl | decide | omega | exact Int32.toInt_toInt64 _)) (va_cwS 3 hts gX11_ends_X11_in rfl rfl rfl (by decide +kernel) ⟨(Nat.le_of_ble_eq_true rfl), (Nat.le_of_ble_eq_true rfl)⟩) (PRE.s (hP.sub [] rfl) hK (hD.sub [] (by decide) rfl) hN) rfl rfl hl.1 rfl (lv_room (Nat.le_of_ble_eq_true rfl)) dX11_ends_4 ⟨(Nat.le_of_ble_eq_true rfl), (Nat.le_of_ble_eq_true rfl)⟩) hP hD hS hA [] [0, 1] rfl rfl rfl (by decide) (fun r_2 u_1 H locs hw_3 hP hD hS => ?_)
  have hP : va_P (dC, dI) vwCl [(zy, .inr (11, [.ref zy0, .ref zy1, .int 0, .int 0, .int 0, .ref zy5, .int 0, .int 0, .ref zy8, .ref zy9, .ref zy10, .ref zy11, .ref zy12, .ref zy13, .ref zy14, .long 0, .ref zy16, .ref zy17, .ref zy18, .int 0, .long 0, .ref zy21, .ref zy22, .int 0, .ref zy24, .ref zy25, .ref zy26, .ref zy27])), (zy0, .inl (cy 0, 392, .inl zz))] H := hP
  have hD : va_D A [(zy, .inr (11, [.ref zy0, .ref zy1, .int 0, .int 0, .int 0, .ref zy5, .int 0, .int 0, .ref zy8, .ref zy9, .ref zy10, .ref zy11, .ref zy12, .ref zy13, .ref zy14, .long 0, .ref zy16, .ref zy17, .ref zy18, .int 0, .long 0, .ref zy21, .ref zy22, .int 0, .ref zy24, .ref zy25, .ref zy26, .ref zy27])), (zy0, .inl (cy 0, 392, .inl zz))] := hD
  have hw_3 : r_2 = if 0 ≤ zic.toInt ∧ zic.toInt ≤ 1 then 1 else 0 := hw_3
  refine lv_if_ne (tgt := 12) hx hb dX11_ends_7 (by decide) (fun c_4 => ?_) (fun c_4 => ?_)
  · have f_5 : 0 ≤ zic.toInt ∧ zic.toInt ≤ 1 := bz_1 hw_3 c_4
    refine lv_aload_n hx hb dX11_ends_12 rfl (lv_at hl 0 rfl) ?_
    refine lv_iload_n hx hb dX11_ends_13 rfl (lv_at hl 1 rfl) ?_
    refine lv_iload_n hx hb dX11_ends_14 rfl (lv_at hl 2 rfl) ?_
    refine cj_i (wc := [(zy, .inr (11, [.ref zy0, .ref zy1, .int 0, .int 0, .int 0, .ref zy5, .int 0, .int 0, .ref zy8, .ref zy9, .ref zy10, .ref zy11, .ref zy12, .ref zy13, .ref zy14, .long 0, .ref zy16, .ref zy17, .ref zy18, .int 0, .long 0, .ref zy21, .ref zy22, .int 0, .ref zy24, .ref zy25, .ref zy26, .ref zy27])), (zy0, .inl (cy 0, 392, .inl zz))]) (wr := []) (w1 := fun (_ : Unit) => []) (va_runV (As := [.int zia, .int zib]) (rest := []) ⟨hx, hb, hml, hown, hts⟩ (c_X11_lacksWays l dC dI cy H.size zy zia zib zy0 zy1 zy5 zy8 zy9 zy10 zy11 zy12 zy13 zy14 zy16 zy17 zy18 zy21 zy22 zy24 zy25 zy26 zy27) (cwV 2 hts gX11_ends_X11_lacksWays rfl rfl rfl (by decide +kernel) ⟨(Nat.le_of_ble_eq_true rfl), (Nat.le_of_ble_eq_true rfl)⟩) (PRE.v (hP.sub [0, 1] rfl) hK (hD.sub [0, 1] (by decide) rfl) hN (va_recv hK hP (ci := 11) (q0 := 0) rfl rfl)) rfl rfl hl.1 rfl (lv_room (Nat.le_of_ble_eq_true rfl)) dX11_ends_15 ⟨(Nat.le_of_ble_eq_true rfl), (Nat.le_of_ble_eq_true rfl)⟩) hP hD hS hA [0, 1] [] rfl rfl rfl (by decide) (fun r_7 u_6 H locs hw_8 hP hD hS => ?_)
    have hP : va_P (dC, dI) vwCl [] H := hP
    have hD : va_D A [] := hD
    obtain rfl : r_7 = (-1) := hw_8
    refine lv_istore (lv' := [(4, .int (-1)), (0, .ref zy), (1, .int zia), (2, .int zib), (3, .int zic)]) hx hb dX11_ends_18 hl (by decide) rfl (fun ls hl => ?_)
    refine lv_iload hx hb dX11_ends_20 (lv_at hl 0 rfl) ?_
    refine lv_if_ge (tgt := 30) hx hb dX11_ends_22 (by decide) (fun c_9 => absurd c_9 (by decide)) (fun c_9 => ?_)
    refine lv_iload hx hb dX11_ends_25 (lv_at hl 0 rfl) ?_
    refine lv_goto (tgt := 40) hx hb dX11_ends_27 (by decide) ?_
    have hP9 := hP.sub (ws' := []) [] rfl
    have hD9 := hD.sub (ws' := []) [] (by decide) rfl
    exact W.iret (v := (-1)) hx hb hr (fun t ht hW => ⟨⟨(-1), (), rfl, rfl, ⟨by rw [ht]; exact hP9, va_K.moved hW.alike hK, hD9⟩⟩, hS.F ht⟩) hS.2.2 dX11_ends_40
  · have f_5 : ¬ (0 ≤ zic.toInt ∧ zic.toInt ≤ 1) := bz_0 hw_3 c_4
    refine lv_iconst (v := (-1)) hx hb dX11_ends_10 (by decide) ?_
    have hP9 := hP.sub (ws' := []) [] rfl
    have hD9 := hD.sub (ws' := []) [] (by decide) rfl
    exact W.iret (v := (-1)) hx hb hr (fun t ht hW => ⟨⟨(-1), (), rfl, rfl, ⟨by rw [ht]; exact hP9, va_K.moved hW.alike hK, hD9⟩⟩, hS.F ht⟩) hS.2.2 dX11_ends_11
set_option maxHeartbeats 4000000 in
set_option maxRecDepth 100000 in
theorem c_X11_odds (l : Launch) (dC : Nat → ClassId) (dI : Nat → Nat → Nat) (cy : Nat → ClassId) (sz : Nat) (zy : Nat) (zia : Int32) (zib : Int32) (zic : Int32) (zid : Int32) (zy0 : Nat) (zy1 : Nat) (zy5 : Nat) (zy8 : Nat) (zy9 : Nat) (zy10 : Nat) (zy11 : Nat) (zy12 : Nat) (zy13 : Nat) (zy14 : Nat) (zy16 : Nat) (zy17 : Nat) (zy18 : Nat) (zy21 : Nat) (zy22 : Nat) (zy24 : Nat) (zy25 : Nat) (zy26 : Nat) (zy27 : Nat)  : Met l yX11_odds wsX11_odds ({ frames := 3, cells := 0, slots := 0, locals := 69 }) (va_Pc [.ref zy, .int zia, .int zib, .int zic, .int zid] (PRE dC dI cy [(zy, .inr (11, [.ref zy0, .ref zy1, .int 0, .int 0, .int 0, .ref zy5, .int 0, .int 0, .ref zy8, .ref zy9, .ref zy10, .ref zy11, .ref zy12, .ref zy13, .ref zy14, .long 0, .ref zy16, .ref zy17, .ref zy18, .int 0, .long 0, .ref zy21, .ref zy22, .int 0, .ref zy24, .ref zy25, .ref zy26, .ref zy27])), (zy0, .inl (cy 0, 392, .inl zz))] sz)) (va_Ql (fun (r : Int64) (_ : Unit) => r = (-1)) (fun u t => POST dC dI cy (va_A [(zy, .inr (11, [.ref zy0, .ref zy1, .int 0, .int 0, .int 0, .ref zy5, .int 0, .int 0, .ref zy8, .ref zy9, .ref zy10, .ref zy11, .ref zy12, .ref zy13, .ref zy14, .long 0, .ref zy16, .ref zy17, .ref zy18, .int 0, .long 0, .ref zy21, .ref zy22, .int 0, .ref zy24, .ref zy25, .ref zy26, .ref zy27])), (zy0, .inl (cy 0, 392, .inl zz))] sz) [] t) (va_A [(zy, .inr (11, [.ref zy0, .ref zy1, .int 0, .int 0, .int 0, .ref zy5, .int 0, .int 0, .ref zy8, .ref zy9, .ref zy10, .ref zy11, .ref zy12, .ref zy13, .ref zy14, .long 0, .ref zy16, .ref zy17, .ref zy18, .int 0, .long 0, .ref zy21, .ref zy22, .int 0, .ref zy24, .ref zy25, .ref zy26, .ref zy27])), (zy0, .inl (cy 0, 392, .inl zz))] sz)) 0 0 (va_A [(zy, .inr (11, [.ref zy0, .ref zy1, .int 0, .int 0, .int 0, .ref zy5, .int 0, .int 0, .ref zy8, .ref zy9, .ref zy10, .ref zy11, .ref zy12, .ref zy13, .ref zy14, .long 0, .ref zy16, .ref zy17, .ref zy18, .int 0, .long 0, .ref zy21, .ref zy22, .int 0, .ref zy24, .ref zy25, .ref zy26, .ref zy27])), (zy0, .inl (cy 0, 392, .inl zz))] sz) := by
  refine Met.ofW (cc := cX11_odds) (maxL := 6) (ret := (some .long)) (by decide) rfl ?_
  intro p e s m args below meth c s₁ B hml hv
  obtain ⟨rfl, hsz, hP, hK, hD0, hN⟩ := hv
  have hx := B.exec
  have hb := B.bytes
  have hr := B.returns
  have hts := atoms_spec (ws := wsX11_odds) B.pre
  have hown : s.vm.findClass RX11 = some m.cls := findClass_of_methodNamed B.named
  have hlocks := B.notSynchronized
  subst hsz
  have hD := hD0.self (sz := s.heap.size)
  generalize hAe : va_A [(zy, .inr (11, [.ref zy0, .ref zy1, .int 0, .int 0, .int 0, .ref zy5, .int 0, .int 0, .ref zy8, .ref zy9, .ref zy10, .ref zy11, .ref zy12, .ref zy13, .ref zy14, .long 0, .ref zy16, .ref zy17, .ref zy18, .int 0, .long 0, .ref zy21, .ref zy22, .int 0, .ref zy24, .ref zy25, .ref zy26, .ref zy27])), (zy0, .inl (cy 0, 392, .inl zz))] s.heap.size = A at hD ⊢
  have hA : ∀ q : Nat, s.heap.size ≤ q → A q := fun q h => by rw [← hAe]; exact Or.inr h
  have hS : va_S A s.heap s.heap [] := va_S.rf
  have hP : va_P (dC, dI) vwCl [(zy, .inr (11, [.ref zy0, .ref zy1, .int 0, .int 0, .int 0, .ref zy5, .int 0, .int 0, .ref zy8, .ref zy9, .ref zy10, .ref zy11, .ref zy12, .ref zy13, .ref zy14, .long 0, .ref zy16, .ref zy17, .ref zy18, .int 0, .long 0, .ref zy21, .ref zy22, .int 0, .ref zy24, .ref zy25, .ref zy26, .ref zy27])), (zy0, .inl (cy 0, 392, .inl zz))] s.heap := hP
  have hl := lv_entry ([.ref zy, .int zia, .int zib, .int zic, .int zid] : List Value) (n := 6) (Nat.le_of_ble_eq_true rfl)
  rw [lg_entry_eq]
  generalize (lg_sl ([.ref zy, .int zia, .int zib, .int zic, .int zid] : List Value) ++ List.replicate (6 - (lg_sl ([.ref zy, .int zia, .int zib, .int zic, .int zid] : List Value)).length) Slot.unset).toArray = ls at hl ⊢
  have hl : lv_has ls 6 [(0, .ref zy), (1, .int zia), (2, .int zib), (3, .int zic), (4, .int zid)] := hl
  refine lv_iload_n hx hb dX11_odds_0 rfl (lv_at hl 3 rfl) ?_
  refine cj_i (wc := []) (wr := [(zy, .inr (11, [.ref zy0, .ref zy1, .int 0, .int 0, .int 0, .ref zy5, .int 0, .int 0, .ref zy8, .ref zy9, .ref zy10, .ref zy11, .ref zy12, .ref zy13, .ref zy14, .long 0, .ref zy16, .ref zy17, .ref zy18, .int 0, .long 0, .ref zy21, .ref zy22, .int 0, .ref zy24, .ref zy25, .ref zy26, .ref zy27])), (zy0, .inl (cy 0, 392, .inl zz))]) (w1 := fun (_ : Unit) => []) (va_runS (As := [.int zic]) (rest := []) ⟨hx, hb, hml, hown, hts⟩ (c_X11_isYear l dC dI cy s.heap.size zic) (va_cwS 1 hts gX11_odds_X11_isYear rfl rfl rfl (by decide +kernel) ⟨(Nat.le_of_ble_eq_true rfl), (Nat.le_of_ble_eq_true rfl)⟩) (PRE.s (hP.sub [] rfl) hK (hD.sub [] (by decide) rfl) hN) rfl rfl hl.1 rfl (lv_room (Nat.le_of_ble_eq_true rfl)) dX11_odds_1 ⟨(Nat.le_of_ble_eq_true rfl), (Nat.le_of_ble_eq_true rfl)⟩) hP hD hS hA [] [0, 1] rfl rfl rfl (by decide) (fun r_2 u_1 H locs hw_3 hP hD hS => ?_)
  have hP : va_P (dC, dI) vwCl [(zy, .inr (11, [.ref zy0, .ref zy1, .int 0, .int 0, .int 0, .ref zy5, .int 0, .int 0, .ref zy8, .ref zy9, .ref zy10, .ref zy11, .ref zy12, .ref zy13, .ref zy14, .long 0, .ref zy16, .ref zy17, .ref zy18, .int 0, .long 0, .ref zy21, .ref zy22, .int 0, .ref zy24, .ref zy25, .ref zy26, .ref zy27])), (zy0, .inl (cy 0, 392, .inl zz))] H := hP
  have hD : va_D A [(zy, .inr (11, [.ref zy0, .ref zy1, .int 0, .int 0, .int 0, .ref zy5, .int 0, .int 0, .ref zy8, .ref zy9, .ref zy10, .ref zy11, .ref zy12, .ref zy13, .ref zy14, .long 0, .ref zy16, .ref zy17, .ref zy18, .int 0, .long 0, .ref zy21, .ref zy22, .int 0, .ref zy24, .ref zy25, .ref zy26, .ref zy27])), (zy0, .inl (cy 0, 392, .inl zz))] := hD
  have hw_3 : r_2 = if 0 ≤ zic.toInt ∧ zic.toInt ≤ 23 then 1 else 0 := hw_3
  refine lv_if_eq (tgt := 18) hx hb dX11_odds_4 (by decide) (fun c_4 => ?_) (fun c_4 => ?_)
  · have f_5 : ¬ (0 ≤ zic.toInt ∧ zic.toInt ≤ 23) := bz_0 hw_3 c_4
    refine lv_ldc2 (v := (-1)) hx hb hown (hts (.constantLong RX11 236 (-1)) (by decide +kernel)) dX11_odds_18 ?_
    have hP9 := hP.sub (ws' := []) [] rfl
    have hD9 := hD.sub (ws' := []) [] (by decide) rfl
    exact W.lret (v := (-1)) hx hb hr (fun t ht hW => ⟨⟨(-1), (), rfl, rfl, ⟨by rw [ht]; exact hP9, va_K.moved hW.alike hK, hD9⟩⟩, hS.F ht⟩) hS.2.2 dX11_odds_21
  · have f_5 : 0 ≤ zic.toInt ∧ zic.toInt ≤ 23 := bz_1 hw_3 c_4
    refine lv_iload hx hb dX11_odds_7 (lv_at hl 4 rfl) ?_
    refine lv_i2l (v := zid.toInt64) hx hb dX11_odds_9 rfl ?_
    refine lv_lconst (v := 0) hx hb dX11_odds_10 (by decide) ?_
    refine lv_lconst (v := 1) hx hb dX11_odds_11 (by decide) ?_
    refine cj_i (wc := []) (wr := [(zy, .inr (11, [.ref zy0, .ref zy1, .int 0, .int 0, .int 0, .ref zy5, .int 0, .int 0, .ref zy8, .ref zy9, .ref zy10, .ref zy11, .ref zy12, .ref zy13, .ref zy14, .long 0, .ref zy16, .ref zy17, .ref zy18, .int 0, .long 0, .ref zy21, .ref zy22, .int 0, .ref zy24, .ref zy25, .ref zy26, .ref zy27])), (zy0, .inl (cy 0, 392, .inl zz))]) (w1 := fun (_ : Unit) => []) (va_runS (As := [.long zid.toInt64, .long 0, .long 1]) (rest := []) ⟨hx, hb, hml, hown, hts⟩ (c_X11_in l dC dI cy H.size zid.toInt64 0 1 0 1 zid.toInt (by first | rfl | decide | omega | exact Int32.toInt_toInt64 _) (by first | rfl | decide | omega | exact Int32.toInt_toInt64 _) (by first | rfl | decide | omega | exact Int32.toInt_toInt64 _)) (va_cwS 3 hts gX11_odds_X11_in rfl rfl rfl (by decide +kernel) ⟨(Nat.le_of_ble_eq_true rfl), (Nat.le_of_ble_eq_true rfl)⟩) (PRE.s (hP.sub [] rfl) hK (hD.sub [] (by decide) rfl) hN) rfl rfl hl.1 rfl (lv_room (Nat.le_of_ble_eq_true rfl)) dX11_odds_12 ⟨(Nat.le_of_ble_eq_true rfl), (Nat.le_of_ble_eq_true rfl)⟩) hP hD hS hA [] [0, 1] rfl rfl rfl (by decide) (fun r_7 u_6 H locs hw_8 hP hD hS => ?_)
    have hP : va_P (dC, dI) vwCl [(zy, .inr (11, [.ref zy0, .ref zy1, .int 0, .int 0, .int 0, .ref zy5, .int 0, .int 0, .ref zy8, .ref zy9, .ref zy10, .ref zy11, .ref zy12, .ref zy13, .ref zy14, .long 0, .ref zy16, .ref zy17, .ref zy18, .int 0, .long 0, .ref zy21, .ref zy22, .int 0, .ref zy24, .ref zy25, .ref zy26, .ref zy27])), (zy0, .inl (cy 0, 392, .inl zz))] H := hP
    have hD : va_D A [(zy, .inr (11, [.ref zy0, .ref zy1, .int 0, .int 0, .int 0, .ref zy5, .int 0, .int 0, .ref zy8, .ref zy9, .ref zy10, .ref zy11, .ref zy12, .ref zy13, .ref zy14, .long 0, .ref zy16, .ref zy17, .ref zy18, .int 0, .long 0, .ref zy21, .ref zy22, .int 0, .ref zy24, .ref zy25, .ref zy26, .ref zy27])), (zy0, .inl (cy 0, 392, .inl zz))] := hD
    have hw_8 : r_7 = if 0 ≤ zid.toInt ∧ zid.toInt ≤ 1 then 1 else 0 := hw_8
    refine lv_if_ne (tgt := 22) hx hb dX11_odds_15 (by decide) (fun c_9 => ?_) (fun c_9 => ?_)
    · have f_10 : 0 ≤ zid.toInt ∧ zid.toInt ≤ 1 := bz_1 hw_8 c_9
      refine lv_aload_n hx hb dX11_odds_22 rfl (lv_at hl 0 rfl) ?_
      refine lv_iload_n hx hb dX11_odds_23 rfl (lv_at hl 1 rfl) ?_
      refine lv_iload_n hx hb dX11_odds_24 rfl (lv_at hl 2 rfl) ?_
      refine cj_i (wc := [(zy, .inr (11, [.ref zy0, .ref zy1, .int 0, .int 0, .int 0, .ref zy5, .int 0, .int 0, .ref zy8, .ref zy9, .ref zy10, .ref zy11, .ref zy12, .ref zy13, .ref zy14, .long 0, .ref zy16, .ref zy17, .ref zy18, .int 0, .long 0, .ref zy21, .ref zy22, .int 0, .ref zy24, .ref zy25, .ref zy26, .ref zy27])), (zy0, .inl (cy 0, 392, .inl zz))]) (wr := []) (w1 := fun (_ : Unit) => []) (va_runV (As := [.int zia, .int zib]) (rest := []) ⟨hx, hb, hml, hown, hts⟩ (c_X11_lacksWays l dC dI cy H.size zy zia zib zy0 zy1 zy5 zy8 zy9 zy10 zy11 zy12 zy13 zy14 zy16 zy17 zy18 zy21 zy22 zy24 zy25 zy26 zy27) (cwV 2 hts gX11_odds_X11_lacksWays rfl rfl rfl (by decide +kernel) ⟨(Nat.le_of_ble_eq_true rfl), (Nat.le_of_ble_eq_true rfl)⟩) (PRE.v (hP.sub [0, 1] rfl) hK (hD.sub [0, 1] (by decide) rfl) hN (va_recv hK hP (ci := 11) (q0 := 0) rfl rfl)) rfl rfl hl.1 rfl (lv_room (Nat.le_of_ble_eq_true rfl)) dX11_odds_25 ⟨(Nat.le_of_ble_eq_true rfl), (Nat.le_of_ble_eq_true rfl)⟩) hP hD hS hA [0, 1] [] rfl rfl rfl (by decide) (fun r_12 u_11 H locs hw_13 hP hD hS => ?_)
      have hP : va_P (dC, dI) vwCl [] H := hP
      have hD : va_D A [] := hD
      obtain rfl : r_12 = (-1) := hw_13
      refine lv_istore (lv' := [(5, .int (-1)), (0, .ref zy), (1, .int zia), (2, .int zib), (3, .int zic), (4, .int zid)]) hx hb dX11_odds_28 hl (by decide) rfl (fun ls hl => ?_)
      refine lv_iload hx hb dX11_odds_30 (lv_at hl 0 rfl) ?_
      refine lv_if_ge (tgt := 41) hx hb dX11_odds_32 (by decide) (fun c_14 => absurd c_14 (by decide)) (fun c_14 => ?_)
      refine lv_iload hx hb dX11_odds_35 (lv_at hl 0 rfl) ?_
      refine lv_i2l (v := (-1)) hx hb dX11_odds_37 (by decide) ?_
      refine lv_goto (tgt := 60) hx hb dX11_odds_38 (by decide) ?_
      have hP9 := hP.sub (ws' := []) [] rfl
      have hD9 := hD.sub (ws' := []) [] (by decide) rfl
      exact W.lret (v := (-1)) hx hb hr (fun t ht hW => ⟨⟨(-1), (), rfl, rfl, ⟨by rw [ht]; exact hP9, va_K.moved hW.alike hK, hD9⟩⟩, hS.F ht⟩) hS.2.2 dX11_odds_60
    · have f_10 : ¬ (0 ≤ zid.toInt ∧ zid.toInt ≤ 1) := bz_0 hw_8 c_9
      refine lv_ldc2 (v := (-1)) hx hb hown (hts (.constantLong RX11 236 (-1)) (by decide +kernel)) dX11_odds_18 ?_
      have hP9 := hP.sub (ws' := []) [] rfl
      have hD9 := hD.sub (ws' := []) [] (by decide) rfl
      exact W.lret (v := (-1)) hx hb hr (fun t ht hW => ⟨⟨(-1), (), rfl, rfl, ⟨by rw [ht]; exact hP9, va_K.moved hW.alike hK, hD9⟩⟩, hS.F ht⟩) hS.2.2 dX11_odds_21
set_option maxHeartbeats 4000000 in
set_option maxRecDepth 100000 in
theorem c_X11_span (l : Launch) (dC : Nat → ClassId) (dI : Nat → Nat → Nat) (cy : Nat → ClassId) (sz : Nat) (zy : Nat) (zia : Int32) (zib : Int32) (zic : Int32) (zid : Int32) (zy0 : Nat) (zy1 : Nat) (zy5 : Nat) (zy8 : Nat) (zy9 : Nat) (zy10 : Nat) (zy11 : Nat) (zy12 : Nat) (zy13 : Nat) (zy14 : Nat) (zy16 : Nat) (zy17 : Nat) (zy18 : Nat) (zy21 : Nat) (zy22 : Nat) (zy24 : Nat) (zy25 : Nat) (zy26 : Nat) (zy27 : Nat)  : Met l yX11_span wsX11_span ({ frames := 3, cells := 0, slots := 0, locals := 70 }) (va_Pc [.ref zy, .int zia, .int zib, .int zic, .int zid] (PRE dC dI cy [(zy, .inr (11, [.ref zy0, .ref zy1, .int 0, .int 0, .int 0, .ref zy5, .int 0, .int 0, .ref zy8, .ref zy9, .ref zy10, .ref zy11, .ref zy12, .ref zy13, .ref zy14, .long 0, .ref zy16, .ref zy17, .ref zy18, .int 0, .long 0, .ref zy21, .ref zy22, .int 0, .ref zy24, .ref zy25, .ref zy26, .ref zy27])), (zy0, .inl (cy 0, 392, .inl zz))] sz)) (va_Qi (fun (r : Int32) (_ : Unit) => r = (-1)) (fun u t => POST dC dI cy (va_A [(zy, .inr (11, [.ref zy0, .ref zy1, .int 0, .int 0, .int 0, .ref zy5, .int 0, .int 0, .ref zy8, .ref zy9, .ref zy10, .ref zy11, .ref zy12, .ref zy13, .ref zy14, .long 0, .ref zy16, .ref zy17, .ref zy18, .int 0, .long 0, .ref zy21, .ref zy22, .int 0, .ref zy24, .ref zy25, .ref zy26, .ref zy27])), (zy0, .inl (cy 0, 392, .inl zz))] sz) [] t) (va_A [(zy, .inr (11, [.ref zy0, .ref zy1, .int 0, .int 0, .int 0, .ref zy5, .int 0, .int 0, .ref zy8, .ref zy9, .ref zy10, .ref zy11, .ref zy12, .ref zy13, .ref zy14, .long 0, .ref zy16, .ref zy17, .ref zy18, .int 0, .long 0, .ref zy21, .ref zy22, .int 0, .ref zy24, .ref zy25, .ref zy26, .ref zy27])), (zy0, .inl (cy 0, 392, .inl zz))] sz)) 0 0 (va_A [(zy, .inr (11, [.ref zy0, .ref zy1, .int 0, .int 0, .int 0, .ref zy5, .int 0, .int 0, .ref zy8, .ref zy9, .ref zy10, .ref zy11, .ref zy12, .ref zy13, .ref zy14, .long 0, .ref zy16, .ref zy17, .ref zy18, .int 0, .long 0, .ref zy21, .ref zy22, .int 0, .ref zy24, .ref zy25, .ref zy26, .ref zy27])), (zy0, .inl (cy 0, 392, .inl zz))] sz) := by
  refine Met.ofW (cc := cX11_span) (maxL := 9) (ret := (some .int)) (by decide) rfl ?_
  intro p e s m args below meth c s₁ B hml hv
  obtain ⟨rfl, hsz, hP, hK, hD0, hN⟩ := hv
  have hx := B.exec
  have hb := B.bytes
  have hr := B.returns
  have hts := atoms_spec (ws := wsX11_span) B.pre
  have hown : s.vm.findClass RX11 = some m.cls := findClass_of_methodNamed B.named
  have hlocks := B.notSynchronized
  subst hsz
  have hD := hD0.self (sz := s.heap.size)
  generalize hAe : va_A [(zy, .inr (11, [.ref zy0, .ref zy1, .int 0, .int 0, .int 0, .ref zy5, .int 0, .int 0, .ref zy8, .ref zy9, .ref zy10, .ref zy11, .ref zy12, .ref zy13, .ref zy14, .long 0, .ref zy16, .ref zy17, .ref zy18, .int 0, .long 0, .ref zy21, .ref zy22, .int 0, .ref zy24, .ref zy25, .ref zy26, .ref zy27])), (zy0, .inl (cy 0, 392, .inl zz))] s.heap.size = A at hD ⊢
  have hA : ∀ q : Nat, s.heap.size ≤ q → A q := fun q h => by rw [← hAe]; exact Or.inr h
  have hS : va_S A s.heap s.heap [] := va_S.rf
  have hP : va_P (dC, dI) vwCl [(zy, .inr (11, [.ref zy0, .ref zy1, .int 0, .int 0, .int 0, .ref zy5, .int 0, .int 0, .ref zy8, .ref zy9, .ref zy10, .ref zy11, .ref zy12, .ref zy13, .ref zy14, .long 0, .ref zy16, .ref zy17, .ref zy18, .int 0, .long 0, .ref zy21, .ref zy22, .int 0, .ref zy24, .ref zy25, .ref zy26, .ref zy27])), (zy0, .inl (cy 0, 392, .inl zz))] s.heap := hP
  have hl := lv_entry ([.ref zy, .int zia, .int zib, .int zic, .int zid] : List Value) (n := 9) (Nat.le_of_ble_eq_true rfl)
  rw [lg_entry_eq]
  generalize (lg_sl ([.ref zy, .int zia, .int zib, .int zic, .int zid] : List Value) ++ List.replicate (9 - (lg_sl ([.ref zy, .int zia, .int zib, .int zic, .int zid] : List Value)).length) Slot.unset).toArray = ls at hl ⊢
  have hl : lv_has ls 9 [(0, .ref zy), (1, .int zia), (2, .int zib), (3, .int zic), (4, .int zid)] := hl
  refine lv_iload hx hb dX11_span_0 (lv_at hl 4 rfl) ?_
  refine lv_i2l (v := zid.toInt64) hx hb dX11_span_2 rfl ?_
  refine lv_lconst (v := 0) hx hb dX11_span_3 (by decide) ?_
  refine lv_lconst (v := 1) hx hb dX11_span_4 (by decide) ?_
  refine cj_i (wc := []) (wr := [(zy, .inr (11, [.ref zy0, .ref zy1, .int 0, .int 0, .int 0, .ref zy5, .int 0, .int 0, .ref zy8, .ref zy9, .ref zy10, .ref zy11, .ref zy12, .ref zy13, .ref zy14, .long 0, .ref zy16, .ref zy17, .ref zy18, .int 0, .long 0, .ref zy21, .ref zy22, .int 0, .ref zy24, .ref zy25, .ref zy26, .ref zy27])), (zy0, .inl (cy 0, 392, .inl zz))]) (w1 := fun (_ : Unit) => []) (va_runS (As := [.long zid.toInt64, .long 0, .long 1]) (rest := []) ⟨hx, hb, hml, hown, hts⟩ (c_X11_in l dC dI cy s.heap.size zid.toInt64 0 1 0 1 zid.toInt (by first | rfl | decide | omega | exact Int32.toInt_toInt64 _) (by first | rfl | decide | omega | exact Int32.toInt_toInt64 _) (by first | rfl | decide | omega | exact Int32.toInt_toInt64 _)) (va_cwS 3 hts gX11_span_X11_in rfl rfl rfl (by decide +kernel) ⟨(Nat.le_of_ble_eq_true rfl), (Nat.le_of_ble_eq_true rfl)⟩) (PRE.s (hP.sub [] rfl) hK (hD.sub [] (by decide) rfl) hN) rfl rfl hl.1 rfl (lv_room (Nat.le_of_ble_eq_true rfl)) dX11_span_5 ⟨(Nat.le_of_ble_eq_true rfl), (Nat.le_of_ble_eq_true rfl)⟩) hP hD hS hA [] [0, 1] rfl rfl rfl (by decide) (fun r_2 u_1 H locs hw_3 hP hD hS => ?_)
  have hP : va_P (dC, dI) vwCl [(zy, .inr (11, [.ref zy0, .ref zy1, .int 0, .int 0, .int 0, .ref zy5, .int 0, .int 0, .ref zy8, .ref zy9, .ref zy10, .ref zy11, .ref zy12, .ref zy13, .ref zy14, .long 0, .ref zy16, .ref zy17, .ref zy18, .int 0, .long 0, .ref zy21, .ref zy22, .int 0, .ref zy24, .ref zy25, .ref zy26, .ref zy27])), (zy0, .inl (cy 0, 392, .inl zz))] H := hP
  have hD : va_D A [(zy, .inr (11, [.ref zy0, .ref zy1, .int 0, .int 0, .int 0, .ref zy5, .int 0, .int 0, .ref zy8, .ref zy9, .ref zy10, .ref zy11, .ref zy12, .ref zy13, .ref zy14, .long 0, .ref zy16, .ref zy17, .ref zy18, .int 0, .long 0, .ref zy21, .ref zy22, .int 0, .ref zy24, .ref zy25, .ref zy26, .ref zy27])), (zy0, .inl (cy 0, 392, .inl zz))] := hD
  have hw_3 : r_2 = if 0 ≤ zid.toInt ∧ zid.toInt ≤ 1 then 1 else 0 := hw_3
  refine lv_if_ne (tgt := 13) hx hb dX11_span_8 (by decide) (fun c_4 => ?_) (fun c_4 => ?_)
  · have f_5 : 0 ≤ zid.toInt ∧ zid.toInt ≤ 1 := bz_1 hw_3 c_4
    refine lv_aload_n hx hb dX11_span_13 rfl (lv_at hl 0 rfl) ?_
    refine lv_iload_n hx hb dX11_span_14 rfl (lv_at hl 1 rfl) ?_
    refine lv_iload_n hx hb dX11_span_15 rfl (lv_at hl 2 rfl) ?_
    refine lv_iload_n hx hb dX11_span_16 rfl (lv_at hl 3 rfl) ?_
    refine cj_i (wc := [(zy, .inr (11, [.ref zy0, .ref zy1, .int 0, .int 0, .int 0, .ref zy5, .int 0, .int 0, .ref zy8, .ref zy9, .ref zy10, .ref zy11, .ref zy12, .ref zy13, .ref zy14, .long 0, .ref zy16, .ref zy17, .ref zy18, .int 0, .long 0, .ref zy21, .ref zy22, .int 0, .ref zy24, .ref zy25, .ref zy26, .ref zy27])), (zy0, .inl (cy 0, 392, .inl zz))]) (wr := []) (w1 := fun (_ : Unit) => []) (va_runV (As := [.int zia, .int zib, .int zic]) (rest := []) ⟨hx, hb, hml, hown, hts⟩ (c_X11_lacksTwo l dC dI cy H.size zy zia zib zic zy0 zy1 zy5 zy8 zy9 zy10 zy11 zy12 zy13 zy14 zy16 zy17 zy18 zy21 zy22 zy24 zy25 zy26 zy27) (cwV 3 hts gX11_span_X11_lacksTwo rfl rfl rfl (by decide +kernel) ⟨(Nat.le_of_ble_eq_true rfl), (Nat.le_of_ble_eq_true rfl)⟩) (PRE.v (hP.sub [0, 1] rfl) hK (hD.sub [0, 1] (by decide) rfl) hN (va_recv hK hP (ci := 11) (q0 := 0) rfl rfl)) rfl rfl hl.1 rfl (lv_room (Nat.le_of_ble_eq_true rfl)) dX11_span_17 ⟨(Nat.le_of_ble_eq_true rfl), (Nat.le_of_ble_eq_true rfl)⟩) hP hD hS hA [0, 1] [] rfl rfl rfl (by decide) (fun r_7 u_6 H locs hw_8 hP hD hS => ?_)
    have hP : va_P (dC, dI) vwCl [] H := hP
    have hD : va_D A [] := hD
    obtain rfl : r_7 = (-1) := hw_8
    refine lv_istore (lv' := [(5, .int (-1)), (0, .ref zy), (1, .int zia), (2, .int zib), (3, .int zic), (4, .int zid)]) hx hb dX11_span_20 hl (by decide) rfl (fun ls hl => ?_)
    refine lv_iload hx hb dX11_span_22 (lv_at hl 0 rfl) ?_
    refine lv_if_ge (tgt := 30) hx hb dX11_span_24 (by decide) (fun c_9 => absurd c_9 (by decide)) (fun c_9 => ?_)
    refine lv_iload hx hb dX11_span_27 (lv_at hl 0 rfl) ?_
    have hP9 := hP.sub (ws' := []) [] rfl
    have hD9 := hD.sub (ws' := []) [] (by decide) rfl
    exact W.iret (v := (-1)) hx hb hr (fun t ht hW => ⟨⟨(-1), (), rfl, rfl, ⟨by rw [ht]; exact hP9, va_K.moved hW.alike hK, hD9⟩⟩, hS.F ht⟩) hS.2.2 dX11_span_29
  · have f_5 : ¬ (0 ≤ zid.toInt ∧ zid.toInt ≤ 1) := bz_0 hw_3 c_4
    refine lv_iconst (v := (-1)) hx hb dX11_span_11 (by decide) ?_
    have hP9 := hP.sub (ws' := []) [] rfl
    have hD9 := hD.sub (ws' := []) [] (by decide) rfl
    exact W.iret (v := (-1)) hx hb hr (fun t ht hW => ⟨⟨(-1), (), rfl, rfl, ⟨by rw [ht]; exact hP9, va_K.moved hW.alike hK, hD9⟩⟩, hS.F ht⟩) hS.2.2 dX11_span_12
set_option maxHeartbeats 4000000 in
set_option maxRecDepth 100000 in
theorem c_X11_apart (l : Launch) (dC : Nat → ClassId) (dI : Nat → Nat → Nat) (cy : Nat → ClassId) (sz : Nat) (zy : Nat) (zia : Int32) (zib : Int32) (zic : Int32) (zid : Int32) (zie : Int32) (zy0 : Nat) (zy1 : Nat) (zy5 : Nat) (zy8 : Nat) (zy9 : Nat) (zy10 : Nat) (zy11 : Nat) (zy12 : Nat) (zy13 : Nat) (zy14 : Nat) (zy16 : Nat) (zy17 : Nat) (zy18 : Nat) (zy21 : Nat) (zy22 : Nat) (zy24 : Nat) (zy25 : Nat) (zy26 : Nat) (zy27 : Nat)  : Met l yX11_apart wsX11_apart ({ frames := 3, cells := 0, slots := 0, locals := 70 }) (va_Pc [.ref zy, .int zia, .int zib, .int zic, .int zid, .int zie] (PRE dC dI cy [(zy, .inr (11, [.ref zy0, .ref zy1, .int 0, .int 0, .int 0, .ref zy5, .int 0, .int 0, .ref zy8, .ref zy9, .ref zy10, .ref zy11, .ref zy12, .ref zy13, .ref zy14, .long 0, .ref zy16, .ref zy17, .ref zy18, .int 0, .long 0, .ref zy21, .ref zy22, .int 0, .ref zy24, .ref zy25, .ref zy26, .ref zy27])), (zy0, .inl (cy 0, 392, .inl zz))] sz)) (va_Ql (fun (r : Int64) (_ : Unit) => r = (-1)) (fun u t => POST dC dI cy (va_A [(zy, .inr (11, [.ref zy0, .ref zy1, .int 0, .int 0, .int 0, .ref zy5, .int 0, .int 0, .ref zy8, .ref zy9, .ref zy10, .ref zy11, .ref zy12, .ref zy13, .ref zy14, .long 0, .ref zy16, .ref zy17, .ref zy18, .int 0, .long 0, .ref zy21, .ref zy22, .int 0, .ref zy24, .ref zy25, .ref zy26, .ref zy27])), (zy0, .inl (cy 0, 392, .inl zz))] sz) [] t) (va_A [(zy, .inr (11, [.ref zy0, .ref zy1, .int 0, .int 0, .int 0, .ref zy5, .int 0, .int 0, .ref zy8, .ref zy9, .ref zy10, .ref zy11, .ref zy12, .ref zy13, .ref zy14, .long 0, .ref zy16, .ref zy17, .ref zy18, .int 0, .long 0, .ref zy21, .ref zy22, .int 0, .ref zy24, .ref zy25, .ref zy26, .ref zy27])), (zy0, .inl (cy 0, 392, .inl zz))] sz)) 0 0 (va_A [(zy, .inr (11, [.ref zy0, .ref zy1, .int 0, .int 0, .int 0, .ref zy5, .int 0, .int 0, .ref zy8, .ref zy9, .ref zy10, .ref zy11, .ref zy12, .ref zy13, .ref zy14, .long 0, .ref zy16, .ref zy17, .ref zy18, .int 0, .long 0, .ref zy21, .ref zy22, .int 0, .ref zy24, .ref zy25, .ref zy26, .ref zy27])), (zy0, .inl (cy 0, 392, .inl zz))] sz) := by
  refine Met.ofW (cc := cX11_apart) (maxL := 10) (ret := (some .long)) (by decide) rfl ?_
  intro p e s m args below meth c s₁ B hml hv
  obtain ⟨rfl, hsz, hP, hK, hD0, hN⟩ := hv
  have hx := B.exec
  have hb := B.bytes
  have hr := B.returns
  have hts := atoms_spec (ws := wsX11_apart) B.pre
  have hown : s.vm.findClass RX11 = some m.cls := findClass_of_methodNamed B.named
  have hlocks := B.notSynchronized
  subst hsz
  have hD := hD0.self (sz := s.heap.size)
  generalize hAe : va_A [(zy, .inr (11, [.ref zy0, .ref zy1, .int 0, .int 0, .int 0, .ref zy5, .int 0, .int 0, .ref zy8, .ref zy9, .ref zy10, .ref zy11, .ref zy12, .ref zy13, .ref zy14, .long 0, .ref zy16, .ref zy17, .ref zy18, .int 0, .long 0, .ref zy21, .ref zy22, .int 0, .ref zy24, .ref zy25, .ref zy26, .ref zy27])), (zy0, .inl (cy 0, 392, .inl zz))] s.heap.size = A at hD ⊢
  have hA : ∀ q : Nat, s.heap.size ≤ q → A q := fun q h => by rw [← hAe]; exact Or.inr h
  have hS : va_S A s.heap s.heap [] := va_S.rf
  have hP : va_P (dC, dI) vwCl [(zy, .inr (11, [.ref zy0, .ref zy1, .int 0, .int 0, .int 0, .ref zy5, .int 0, .int 0, .ref zy8, .ref zy9, .ref zy10, .ref zy11, .ref zy12, .ref zy13, .ref zy14, .long 0, .ref zy16, .ref zy17, .ref zy18, .int 0, .long 0, .ref zy21, .ref zy22, .int 0, .ref zy24, .ref zy25, .ref zy26, .ref zy27])), (zy0, .inl (cy 0, 392, .inl zz))] s.heap := hP
  have hl := lv_entry ([.ref zy, .int zia, .int zib, .int zic, .int zid, .int zie] : List Value) (n := 10) (Nat.le_of_ble_eq_true rfl)
  rw [lg_entry_eq]
  generalize (lg_sl ([.ref zy, .int zia, .int zib, .int zic, .int zid, .int zie] : List Value) ++ List.replicate (10 - (lg_sl ([.ref zy, .int zia, .int zib, .int zic, .int zid, .int zie] : List Value)).length) Slot.unset).toArray = ls at hl ⊢
  have hl : lv_has ls 10 [(0, .ref zy), (1, .int zia), (2, .int zib), (3, .int zic), (4, .int zid), (5, .int zie)] := hl
  refine lv_iload hx hb dX11_apart_0 (lv_at hl 4 rfl) ?_
  refine cj_i (wc := []) (wr := [(zy, .inr (11, [.ref zy0, .ref zy1, .int 0, .int 0, .int 0, .ref zy5, .int 0, .int 0, .ref zy8, .ref zy9, .ref zy10, .ref zy11, .ref zy12, .ref zy13, .ref zy14, .long 0, .ref zy16, .ref zy17, .ref zy18, .int 0, .long 0, .ref zy21, .ref zy22, .int 0, .ref zy24, .ref zy25, .ref zy26, .ref zy27])), (zy0, .inl (cy 0, 392, .inl zz))]) (w1 := fun (_ : Unit) => []) (va_runS (As := [.int zid]) (rest := []) ⟨hx, hb, hml, hown, hts⟩ (c_X11_isYear l dC dI cy s.heap.size zid) (va_cwS 1 hts gX11_apart_X11_isYear rfl rfl rfl (by decide +kernel) ⟨(Nat.le_of_ble_eq_true rfl), (Nat.le_of_ble_eq_true rfl)⟩) (PRE.s (hP.sub [] rfl) hK (hD.sub [] (by decide) rfl) hN) rfl rfl hl.1 rfl (lv_room (Nat.le_of_ble_eq_true rfl)) dX11_apart_2 ⟨(Nat.le_of_ble_eq_true rfl), (Nat.le_of_ble_eq_true rfl)⟩) hP hD hS hA [] [0, 1] rfl rfl rfl (by decide) (fun r_2 u_1 H locs hw_3 hP hD hS => ?_)
  have hP : va_P (dC, dI) vwCl [(zy, .inr (11, [.ref zy0, .ref zy1, .int 0, .int 0, .int 0, .ref zy5, .int 0, .int 0, .ref zy8, .ref zy9, .ref zy10, .ref zy11, .ref zy12, .ref zy13, .ref zy14, .long 0, .ref zy16, .ref zy17, .ref zy18, .int 0, .long 0, .ref zy21, .ref zy22, .int 0, .ref zy24, .ref zy25, .ref zy26, .ref zy27])), (zy0, .inl (cy 0, 392, .inl zz))] H := hP
  have hD : va_D A [(zy, .inr (11, [.ref zy0, .ref zy1, .int 0, .int 0, .int 0, .ref zy5, .int 0, .int 0, .ref zy8, .ref zy9, .ref zy10, .ref zy11, .ref zy12, .ref zy13, .ref zy14, .long 0, .ref zy16, .ref zy17, .ref zy18, .int 0, .long 0, .ref zy21, .ref zy22, .int 0, .ref zy24, .ref zy25, .ref zy26, .ref zy27])), (zy0, .inl (cy 0, 392, .inl zz))] := hD
  have hw_3 : r_2 = if 0 ≤ zid.toInt ∧ zid.toInt ≤ 23 then 1 else 0 := hw_3
  refine lv_if_eq (tgt := 19) hx hb dX11_apart_5 (by decide) (fun c_4 => ?_) (fun c_4 => ?_)
  · have f_5 : ¬ (0 ≤ zid.toInt ∧ zid.toInt ≤ 23) := bz_0 hw_3 c_4
    refine lv_ldc2 (v := (-1)) hx hb hown (hts (.constantLong RX11 236 (-1)) (by decide +kernel)) dX11_apart_19 ?_
    have hP9 := hP.sub (ws' := []) [] rfl
    have hD9 := hD.sub (ws' := []) [] (by decide) rfl
    exact W.lret (v := (-1)) hx hb hr (fun t ht hW => ⟨⟨(-1), (), rfl, rfl, ⟨by rw [ht]; exact hP9, va_K.moved hW.alike hK, hD9⟩⟩, hS.F ht⟩) hS.2.2 dX11_apart_22
  · have f_5 : 0 ≤ zid.toInt ∧ zid.toInt ≤ 23 := bz_1 hw_3 c_4
    refine lv_iload hx hb dX11_apart_8 (lv_at hl 5 rfl) ?_
    refine lv_i2l (v := zie.toInt64) hx hb dX11_apart_10 rfl ?_
    refine lv_lconst (v := 0) hx hb dX11_apart_11 (by decide) ?_
    refine lv_lconst (v := 1) hx hb dX11_apart_12 (by decide) ?_
    refine cj_i (wc := []) (wr := [(zy, .inr (11, [.ref zy0, .ref zy1, .int 0, .int 0, .int 0, .ref zy5, .int 0, .int 0, .ref zy8, .ref zy9, .ref zy10, .ref zy11, .ref zy12, .ref zy13, .ref zy14, .long 0, .ref zy16, .ref zy17, .ref zy18, .int 0, .long 0, .ref zy21, .ref zy22, .int 0, .ref zy24, .ref zy25, .ref zy26, .ref zy27])), (zy0, .inl (cy 0, 392, .inl zz))]) (w1 := fun (_ : Unit) => []) (va_runS (As := [.long zie.toInt64, .long 0, .long 1]) (rest := []) ⟨hx, hb, hml, hown, hts⟩ (c_X11_in l dC dI cy H.size zie.toInt64 0 1 0 1 zie.toInt (by first | rfl | decide | omega | exact Int32.toInt_toInt64 _) (by first | rfl | decide | omega | exact Int32.toInt_toInt64 _) (by first | rfl | decide | omega | exact Int32.toInt_toInt64 _)) (va_cwS 3 hts gX11_apart_X11_in rfl rfl rfl (by decide +kernel) ⟨(Nat.le_of_ble_eq_true rfl), (Nat.le_of_ble_eq_true rfl)⟩) (PRE.s (hP.sub [] rfl) hK (hD.sub [] (by decide) rfl) hN) rfl rfl hl.1 rfl (lv_room (Nat.le_of_ble_eq_true rfl)) dX11_apart_13 ⟨(Nat.le_of_ble_eq_true rfl), (Nat.le_of_ble_eq_true rfl)⟩) hP hD hS hA [] [0, 1] rfl rfl rfl (by decide) (fun r_7 u_6 H locs hw_8 hP hD hS => ?_)
    have hP : va_P (dC, dI) vwCl [(zy, .inr (11, [.ref zy0, .ref zy1, .int 0, .int 0, .int 0, .ref zy5, .int 0, .int 0, .ref zy8, .ref zy9, .ref zy10, .ref zy11, .ref zy12, .ref zy13, .ref zy14, .long 0, .ref zy16, .ref zy17, .ref zy18, .int 0, .long 0, .ref zy21, .ref zy22, .int 0, .ref zy24, .ref zy25, .ref zy26, .ref zy27])), (zy0, .inl (cy 0, 392, .inl zz))] H := hP
    have hD : va_D A [(zy, .inr (11, [.ref zy0, .ref zy1, .int 0, .int 0, .int 0, .ref zy5, .int 0, .int 0, .ref zy8, .ref zy9, .ref zy10, .ref zy11, .ref zy12, .ref zy13, .ref zy14, .long 0, .ref zy16, .ref zy17, .ref zy18, .int 0, .long 0, .ref zy21, .ref zy22, .int 0, .ref zy24, .ref zy25, .ref zy26, .ref zy27])), (zy0, .inl (cy 0, 392, .inl zz))] := hD
    have hw_8 : r_7 = if 0 ≤ zie.toInt ∧ zie.toInt ≤ 1 then 1 else 0 := hw_8
    refine lv_if_ne (tgt := 23) hx hb dX11_apart_16 (by decide) (fun c_9 => ?_) (fun c_9 => ?_)
    · have f_10 : 0 ≤ zie.toInt ∧ zie.toInt ≤ 1 := bz_1 hw_8 c_9
      refine lv_aload_n hx hb dX11_apart_23 rfl (lv_at hl 0 rfl) ?_
      refine lv_iload_n hx hb dX11_apart_24 rfl (lv_at hl 1 rfl) ?_
      refine lv_iload_n hx hb dX11_apart_25 rfl (lv_at hl 2 rfl) ?_
      refine lv_iload_n hx hb dX11_apart_26 rfl (lv_at hl 3 rfl) ?_
      refine cj_i (wc := [(zy, .inr (11, [.ref zy0, .ref zy1, .int 0, .int 0, .int 0, .ref zy5, .int 0, .int 0, .ref zy8, .ref zy9, .ref zy10, .ref zy11, .ref zy12, .ref zy13, .ref zy14, .long 0, .ref zy16, .ref zy17, .ref zy18, .int 0, .long 0, .ref zy21, .ref zy22, .int 0, .ref zy24, .ref zy25, .ref zy26, .ref zy27])), (zy0, .inl (cy 0, 392, .inl zz))]) (wr := []) (w1 := fun (_ : Unit) => []) (va_runV (As := [.int zia, .int zib, .int zic]) (rest := []) ⟨hx, hb, hml, hown, hts⟩ (c_X11_lacksTwo l dC dI cy H.size zy zia zib zic zy0 zy1 zy5 zy8 zy9 zy10 zy11 zy12 zy13 zy14 zy16 zy17 zy18 zy21 zy22 zy24 zy25 zy26 zy27) (cwV 3 hts gX11_apart_X11_lacksTwo rfl rfl rfl (by decide +kernel) ⟨(Nat.le_of_ble_eq_true rfl), (Nat.le_of_ble_eq_true rfl)⟩) (PRE.v (hP.sub [0, 1] rfl) hK (hD.sub [0, 1] (by decide) rfl) hN (va_recv hK hP (ci := 11) (q0 := 0) rfl rfl)) rfl rfl hl.1 rfl (lv_room (Nat.le_of_ble_eq_true rfl)) dX11_apart_27 ⟨(Nat.le_of_ble_eq_true rfl), (Nat.le_of_ble_eq_true rfl)⟩) hP hD hS hA [0, 1] [] rfl rfl rfl (by decide) (fun r_12 u_11 H locs hw_13 hP hD hS => ?_)
      have hP : va_P (dC, dI) vwCl [] H := hP
      have hD : va_D A [] := hD
      obtain rfl : r_12 = (-1) := hw_13
      refine lv_istore (lv' := [(6, .int (-1)), (0, .ref zy), (1, .int zia), (2, .int zib), (3, .int zic), (4, .int zid), (5, .int zie)]) hx hb dX11_apart_30 hl (by decide) rfl (fun ls hl => ?_)
      refine lv_iload hx hb dX11_apart_32 (lv_at hl 0 rfl) ?_
      refine lv_if_ge (tgt := 41) hx hb dX11_apart_34 (by decide) (fun c_14 => absurd c_14 (by decide)) (fun c_14 => ?_)
      refine lv_iload hx hb dX11_apart_37 (lv_at hl 0 rfl) ?_
      refine lv_i2l (v := (-1)) hx hb dX11_apart_39 (by decide) ?_
      have hP9 := hP.sub (ws' := []) [] rfl
      have hD9 := hD.sub (ws' := []) [] (by decide) rfl
      exact W.lret (v := (-1)) hx hb hr (fun t ht hW => ⟨⟨(-1), (), rfl, rfl, ⟨by rw [ht]; exact hP9, va_K.moved hW.alike hK, hD9⟩⟩, hS.F ht⟩) hS.2.2 dX11_apart_40
    · have f_10 : ¬ (0 ≤ zie.toInt ∧ zie.toInt ≤ 1) := bz_0 hw_8 c_9
      refine lv_ldc2 (v := (-1)) hx hb hown (hts (.constantLong RX11 236 (-1)) (by decide +kernel)) dX11_apart_19 ?_
      have hP9 := hP.sub (ws' := []) [] rfl
      have hD9 := hD.sub (ws' := []) [] (by decide) rfl
      exact W.lret (v := (-1)) hx hb hr (fun t ht hW => ⟨⟨(-1), (), rfl, rfl, ⟨by rw [ht]; exact hP9, va_K.moved hW.alike hK, hD9⟩⟩, hS.F ht⟩) hS.2.2 dX11_apart_22
set_option maxHeartbeats 4000000 in
set_option maxRecDepth 100000 in
theorem c_X11_leans (l : Launch) (dC : Nat → ClassId) (dI : Nat → Nat → Nat) (cy : Nat → ClassId) (sz : Nat) (zy : Nat) (zia : Int32) (zib : Int32) (zic : Int32) (zy0 : Nat) (zy1 : Nat) (zy5 : Nat) (zy8 : Nat) (zy9 : Nat) (zy10 : Nat) (zy11 : Nat) (zy12 : Nat) (zy13 : Nat) (zy14 : Nat) (zy16 : Nat) (zy17 : Nat) (zy18 : Nat) (zy21 : Nat) (zy22 : Nat) (zy24 : Nat) (zy25 : Nat) (zy26 : Nat) (zy27 : Nat)  : Met l yX11_leans wsX11_leans ({ frames := 1, cells := 0, slots := 0, locals := 25 }) (va_Pc [.ref zy, .int zia, .int zib, .int zic] (PRE dC dI cy [(zy, .inr (11, [.ref zy0, .ref zy1, .int 0, .int 0, .int 0, .ref zy5, .int 0, .int 0, .ref zy8, .ref zy9, .ref zy10, .ref zy11, .ref zy12, .ref zy13, .ref zy14, .long 0, .ref zy16, .ref zy17, .ref zy18, .int 0, .long 0, .ref zy21, .ref zy22, .int 0, .ref zy24, .ref zy25, .ref zy26, .ref zy27])), (zy0, .inl (cy 0, 392, .inl zz))] sz)) (va_Qi (fun (r : Int32) (_ : Unit) => r = (-1001)) (fun u t => POST dC dI cy (va_A [(zy, .inr (11, [.ref zy0, .ref zy1, .int 0, .int 0, .int 0, .ref zy5, .int 0, .int 0, .ref zy8, .ref zy9, .ref zy10, .ref zy11, .ref zy12, .ref zy13, .ref zy14, .long 0, .ref zy16, .ref zy17, .ref zy18, .int 0, .long 0, .ref zy21, .ref zy22, .int 0, .ref zy24, .ref zy25, .ref zy26, .ref zy27])), (zy0, .inl (cy 0, 392, .inl zz))] sz) [] t) (va_A [(zy, .inr (11, [.ref zy0, .ref zy1, .int 0, .int 0, .int 0, .ref zy5, .int 0, .int 0, .ref zy8, .ref zy9, .ref zy10, .ref zy11, .ref zy12, .ref zy13, .ref zy14, .long 0, .ref zy16, .ref zy17, .ref zy18, .int 0, .long 0, .ref zy21, .ref zy22, .int 0, .ref zy24, .ref zy25, .ref zy26, .ref zy27])), (zy0, .inl (cy 0, 392, .inl zz))] sz)) 0 0 (va_A [(zy, .inr (11, [.ref zy0, .ref zy1, .int 0, .int 0, .int 0, .ref zy5, .int 0, .int 0, .ref zy8, .ref zy9, .ref zy10, .ref zy11, .ref zy12, .ref zy13, .ref zy14, .long 0, .ref zy16, .ref zy17, .ref zy18, .int 0, .long 0, .ref zy21, .ref zy22, .int 0, .ref zy24, .ref zy25, .ref zy26, .ref zy27])), (zy0, .inl (cy 0, 392, .inl zz))] sz) := by
  refine Met.ofW (cc := cX11_leans) (maxL := 8) (ret := (some .int)) (by decide) rfl ?_
  intro p e s m args below meth c s₁ B hml hv
  obtain ⟨rfl, hsz, hP, hK, hD0, hN⟩ := hv
  have hx := B.exec
  have hb := B.bytes
  have hr := B.returns
  have hts := atoms_spec (ws := wsX11_leans) B.pre
  have hown : s.vm.findClass RX11 = some m.cls := findClass_of_methodNamed B.named
  have hlocks := B.notSynchronized
  subst hsz
  have hD := hD0.self (sz := s.heap.size)
  generalize hAe : va_A [(zy, .inr (11, [.ref zy0, .ref zy1, .int 0, .int 0, .int 0, .ref zy5, .int 0, .int 0, .ref zy8, .ref zy9, .ref zy10, .ref zy11, .ref zy12, .ref zy13, .ref zy14, .long 0, .ref zy16, .ref zy17, .ref zy18, .int 0, .long 0, .ref zy21, .ref zy22, .int 0, .ref zy24, .ref zy25, .ref zy26, .ref zy27])), (zy0, .inl (cy 0, 392, .inl zz))] s.heap.size = A at hD ⊢
  have hA : ∀ q : Nat, s.heap.size ≤ q → A q := fun q h => by rw [← hAe]; exact Or.inr h
  have hS : va_S A s.heap s.heap [] := va_S.rf
  have hP : va_P (dC, dI) vwCl [(zy, .inr (11, [.ref zy0, .ref zy1, .int 0, .int 0, .int 0, .ref zy5, .int 0, .int 0, .ref zy8, .ref zy9, .ref zy10, .ref zy11, .ref zy12, .ref zy13, .ref zy14, .long 0, .ref zy16, .ref zy17, .ref zy18, .int 0, .long 0, .ref zy21, .ref zy22, .int 0, .ref zy24, .ref zy25, .ref zy26, .ref zy27])), (zy0, .inl (cy 0, 392, .inl zz))] s.heap := hP
  have hl := lv_entry ([.ref zy, .int zia, .int zib, .int zic] : List Value) (n := 8) (Nat.le_of_ble_eq_true rfl)
  rw [lg_entry_eq]
  generalize (lg_sl ([.ref zy, .int zia, .int zib, .int zic] : List Value) ++ List.replicate (8 - (lg_sl ([.ref zy, .int zia, .int zib, .int zic] : List Value)).length) Slot.unset).toArray = ls at hl ⊢
  have hl : lv_has ls 8 [(0, .ref zy), (1, .int zia), (2, .int zib), (3, .int zic)] := hl
  refine lv_iload_n hx hb dX11_leans_0 rfl (lv_at hl 1 rfl) ?_
  refine lv_i2l (v := zia.toInt64) hx hb dX11_leans_1 rfl ?_
  refine lv_lconst (v := 0) hx hb dX11_leans_2 (by decide) ?_
  refine lv_aload_n hx hb dX11_leans_3 rfl (lv_at hl 0 rfl) ?_
  refine va_get (D := (dC, dI)) (ci := 11) (v := .ref zy0) (C := RX11) (T := TX11) (N := 28) hx hb hts (by decide +kernel) hown hK hP 0 rfl rfl 0 (by decide) (hts (.fieldLink RX11 7 "DripStoneModel" "z" "[I") (by decide +kernel)) (fun _ h9 => h9) rfl dX11_leans_4 ?_
  refine lv_bipush (v := 11) hx hb dX11_leans_7 (by decide) ?_
  refine va_iald hx hb hK hP 1 0 rfl rfl (vp_in_iff.mpr ⟨by decide, by decide⟩) dX11_leans_9 ?_
  refine W.eq (g2 := F0 m 10 ls [.int 0, .long 0, .long zia.toInt64]) rfl ?_
  refine lv_iconst (v := 1) hx hb dX11_leans_10 (by decide) ?_
  refine lv_isub hx hb dX11_leans_11 ?_
  refine lv_topi (fun v_1 ev_1 => ?_)
  obtain rfl : v_1 = ((-1) : Int32) := ev_1.trans (by decide)
  refine lv_i2l (v := (-1)) hx hb dX11_leans_12 (by decide) ?_
  refine cj_i (wc := []) (wr := [(zy, .inr (11, [.ref zy0, .ref zy1, .int 0, .int 0, .int 0, .ref zy5, .int 0, .int 0, .ref zy8, .ref zy9, .ref zy10, .ref zy11, .ref zy12, .ref zy13, .ref zy14, .long 0, .ref zy16, .ref zy17, .ref zy18, .int 0, .long 0, .ref zy21, .ref zy22, .int 0, .ref zy24, .ref zy25, .ref zy26, .ref zy27])), (zy0, .inl (cy 0, 392, .inl zz))]) (w1 := fun (_ : Unit) => []) (va_runS (As := [.long zia.toInt64, .long 0, .long (-1)]) (rest := []) ⟨hx, hb, hml, hown, hts⟩ (c_X11_in l dC dI cy s.heap.size zia.toInt64 0 (-1) 0 (-1) zia.toInt (by first | rfl | decide | omega | exact Int32.toInt_toInt64 _) (by first | rfl | decide | omega | exact Int32.toInt_toInt64 _) (by first | rfl | decide | omega | exact Int32.toInt_toInt64 _)) (va_cwS 3 hts gX11_leans_X11_in rfl rfl rfl (by decide +kernel) ⟨(Nat.le_of_ble_eq_true rfl), (Nat.le_of_ble_eq_true rfl)⟩) (PRE.s (hP.sub [] rfl) hK (hD.sub [] (by decide) rfl) hN) rfl rfl hl.1 rfl (lv_room (Nat.le_of_ble_eq_true rfl)) dX11_leans_13 ⟨(Nat.le_of_ble_eq_true rfl), (Nat.le_of_ble_eq_true rfl)⟩) hP hD hS hA [] [0, 1] rfl rfl rfl (by decide) (fun r_3 u_2 H locs hw_4 hP hD hS => ?_)
  have hP : va_P (dC, dI) vwCl [(zy, .inr (11, [.ref zy0, .ref zy1, .int 0, .int 0, .int 0, .ref zy5, .int 0, .int 0, .ref zy8, .ref zy9, .ref zy10, .ref zy11, .ref zy12, .ref zy13, .ref zy14, .long 0, .ref zy16, .ref zy17, .ref zy18, .int 0, .long 0, .ref zy21, .ref zy22, .int 0, .ref zy24, .ref zy25, .ref zy26, .ref zy27])), (zy0, .inl (cy 0, 392, .inl zz))] H := hP
  have hD : va_D A [(zy, .inr (11, [.ref zy0, .ref zy1, .int 0, .int 0, .int 0, .ref zy5, .int 0, .int 0, .ref zy8, .ref zy9, .ref zy10, .ref zy11, .ref zy12, .ref zy13, .ref zy14, .long 0, .ref zy16, .ref zy17, .ref zy18, .int 0, .long 0, .ref zy21, .ref zy22, .int 0, .ref zy24, .ref zy25, .ref zy26, .ref zy27])), (zy0, .inl (cy 0, 392, .inl zz))] := hD
  have hw_4 : r_3 = if 0 ≤ zia.toInt ∧ zia.toInt ≤ (-1) then 1 else 0 := hw_4
  refine lv_if_eq (tgt := 47) hx hb dX11_leans_16 (by decide) (fun c_5 => ?_) (fun c_5 => ?_)
  · have f_6 : ¬ (0 ≤ zia.toInt ∧ zia.toInt ≤ (-1)) := bz_0 hw_4 c_5
    refine lv_sipush (v := (-1001)) hx hb dX11_leans_47 (by decide) ?_
    have hP9 := hP.sub (ws' := []) [] rfl
    have hD9 := hD.sub (ws' := []) [] (by decide) rfl
    exact W.iret (v := (-1001)) hx hb hr (fun t ht hW => ⟨⟨(-1001), (), rfl, rfl, ⟨by rw [ht]; exact hP9, va_K.moved hW.alike hK, hD9⟩⟩, hS.F ht⟩) hS.2.2 dX11_leans_50
  · have f_6 : 0 ≤ zia.toInt ∧ zia.toInt ≤ (-1) := bz_1 hw_4 c_5
    exfalso; omega
set_option maxHeartbeats 4000000 in
set_option maxRecDepth 100000 in
theorem c_X11_oneYear (l : Launch) (dC : Nat → ClassId) (dI : Nat → Nat → Nat) (cy : Nat → ClassId) (sz : Nat) (zy : Nat) (zia : Int32) (zib : Int32) (zic : Int32) (zy0 : Nat) (zy1 : Nat) (zy5 : Nat) (zy8 : Nat) (zy9 : Nat) (zy10 : Nat) (zy11 : Nat) (zy12 : Nat) (zy13 : Nat) (zy14 : Nat) (zy16 : Nat) (zy17 : Nat) (zy18 : Nat) (zy21 : Nat) (zy22 : Nat) (zy24 : Nat) (zy25 : Nat) (zy26 : Nat) (zy27 : Nat)  : Met l yX11_oneYear wsX11_oneYear ({ frames := 2, cells := 0, slots := 0, locals := 47 }) (va_Pc [.ref zy, .int zia, .int zib, .int zic] (PRE dC dI cy [(zy, .inr (11, [.ref zy0, .ref zy1, .int 0, .int 0, .int 0, .ref zy5, .int 0, .int 0, .ref zy8, .ref zy9, .ref zy10, .ref zy11, .ref zy12, .ref zy13, .ref zy14, .long 0, .ref zy16, .ref zy17, .ref zy18, .int 0, .long 0, .ref zy21, .ref zy22, .int 0, .ref zy24, .ref zy25, .ref zy26, .ref zy27])), (zy0, .inl (cy 0, 392, .inl zz))] sz)) (va_Ql (fun (r : Int64) (_ : Unit) => r = (-1)) (fun u t => POST dC dI cy (va_A [(zy, .inr (11, [.ref zy0, .ref zy1, .int 0, .int 0, .int 0, .ref zy5, .int 0, .int 0, .ref zy8, .ref zy9, .ref zy10, .ref zy11, .ref zy12, .ref zy13, .ref zy14, .long 0, .ref zy16, .ref zy17, .ref zy18, .int 0, .long 0, .ref zy21, .ref zy22, .int 0, .ref zy24, .ref zy25, .ref zy26, .ref zy27])), (zy0, .inl (cy 0, 392, .inl zz))] sz) [] t) (va_A [(zy, .inr (11, [.ref zy0, .ref zy1, .int 0, .int 0, .int 0, .ref zy5, .int 0, .int 0, .ref zy8, .ref zy9, .ref zy10, .ref zy11, .ref zy12, .ref zy13, .ref zy14, .long 0, .ref zy16, .ref zy17, .ref zy18, .int 0, .long 0, .ref zy21, .ref zy22, .int 0, .ref zy24, .ref zy25, .ref zy26, .ref zy27])), (zy0, .inl (cy 0, 392, .inl zz))] sz)) 0 0 (va_A [(zy, .inr (11, [.ref zy0, .ref zy1, .int 0, .int 0, .int 0, .ref zy5, .int 0, .int 0, .ref zy8, .ref zy9, .ref zy10, .ref zy11, .ref zy12, .ref zy13, .ref zy14, .long 0, .ref zy16, .ref zy17, .ref zy18, .int 0, .long 0, .ref zy21, .ref zy22, .int 0, .ref zy24, .ref zy25, .ref zy26, .ref zy27])), (zy0, .inl (cy 0, 392, .inl zz))] sz) := by
  refine Met.ofW (cc := cX11_oneYear) (maxL := 5) (ret := (some .long)) (by decide) rfl ?_
  intro p e s m args below meth c s₁ B hml hv
  obtain ⟨rfl, hsz, hP, hK, hD0, hN⟩ := hv
  have hx := B.exec
  have hb := B.bytes
  have hr := B.returns
  have hts := atoms_spec (ws := wsX11_oneYear) B.pre
  have hown : s.vm.findClass RX11 = some m.cls := findClass_of_methodNamed B.named
  have hlocks := B.notSynchronized
  subst hsz
  have hD := hD0.self (sz := s.heap.size)
  generalize hAe : va_A [(zy, .inr (11, [.ref zy0, .ref zy1, .int 0, .int 0, .int 0, .ref zy5, .int 0, .int 0, .ref zy8, .ref zy9, .ref zy10, .ref zy11, .ref zy12, .ref zy13, .ref zy14, .long 0, .ref zy16, .ref zy17, .ref zy18, .int 0, .long 0, .ref zy21, .ref zy22, .int 0, .ref zy24, .ref zy25, .ref zy26, .ref zy27])), (zy0, .inl (cy 0, 392, .inl zz))] s.heap.size = A at hD ⊢
  have hA : ∀ q : Nat, s.heap.size ≤ q → A q := fun q h => by rw [← hAe]; exact Or.inr h
  have hS : va_S A s.heap s.heap [] := va_S.rf
  have hP : va_P (dC, dI) vwCl [(zy, .inr (11, [.ref zy0, .ref zy1, .int 0, .int 0, .int 0, .ref zy5, .int 0, .int 0, .ref zy8, .ref zy9, .ref zy10, .ref zy11, .ref zy12, .ref zy13, .ref zy14, .long 0, .ref zy16, .ref zy17, .ref zy18, .int 0, .long 0, .ref zy21, .ref zy22, .int 0, .ref zy24, .ref zy25, .ref zy26, .ref zy27])), (zy0, .inl (cy 0, 392, .inl zz))] s.heap := hP
  have hl := lv_entry ([.ref zy, .int zia, .int zib, .int zic] : List Value) (n := 5) (Nat.le_of_ble_eq_true rfl)
  rw [lg_entry_eq]
  generalize (lg_sl ([.ref zy, .int zia, .int zib, .int zic] : List Value) ++ List.replicate (5 - (lg_sl ([.ref zy, .int zia, .int zib, .int zic] : List Value)).length) Slot.unset).toArray = ls at hl ⊢
  have hl : lv_has ls 5 [(0, .ref zy), (1, .int zia), (2, .int zib), (3, .int zic)] := hl
  refine lv_aload_n hx hb dX11_oneYear_0 rfl (lv_at hl 0 rfl) ?_
  refine lv_iconst (v := 0) hx hb dX11_oneYear_1 (by decide) ?_
  refine lv_iload_n hx hb dX11_oneYear_2 rfl (lv_at hl 1 rfl) ?_
  refine cj_i (wc := [(zy, .inr (11, [.ref zy0, .ref zy1, .int 0, .int 0, .int 0, .ref zy5, .int 0, .int 0, .ref zy8, .ref zy9, .ref zy10, .ref zy11, .ref zy12, .ref zy13, .ref zy14, .long 0, .ref zy16, .ref zy17, .ref zy18, .int 0, .long 0, .ref zy21, .ref zy22, .int 0, .ref zy24, .ref zy25, .ref zy26, .ref zy27])), (zy0, .inl (cy 0, 392, .inl zz))]) (wr := []) (w1 := fun (_ : Unit) => [(zy, .inr (11, [.ref zy0, .ref zy1, .int 0, .int 0, .int 0, .ref zy5, .int 0, .int 0, .ref zy8, .ref zy9, .ref zy10, .ref zy11, .ref zy12, .ref zy13, .ref zy14, .long 0, .ref zy16, .ref zy17, .ref zy18, .int 0, .long 0, .ref zy21, .ref zy22, .int 0, .ref zy24, .ref zy25, .ref zy26, .ref zy27])), (zy0, .inl (cy 0, 392, .inl zz))]) (va_runV (As := [.int 0, .int zia]) (rest := []) ⟨hx, hb, hml, hown, hts⟩ (c_X11_isThing l dC dI cy s.heap.size zy 0 zia zy0 zy1 zy5 zy8 zy9 zy10 zy11 zy12 zy13 zy14 zy16 zy17 zy18 zy21 zy22 zy24 zy25 zy26 zy27 (by first | rfl | decide | omega | exact Int32.toInt_toInt64 _)) (cwV 2 hts gX11_oneYear_X11_isThing rfl rfl rfl (by decide +kernel) ⟨(Nat.le_of_ble_eq_true rfl), (Nat.le_of_ble_eq_true rfl)⟩) (PRE.v (hP.sub [0, 1] rfl) hK (hD.sub [0, 1] (by decide) rfl) hN (va_recv hK hP (ci := 11) (q0 := 0) rfl rfl)) rfl rfl hl.1 rfl (lv_room (Nat.le_of_ble_eq_true rfl)) dX11_oneYear_3 ⟨(Nat.le_of_ble_eq_true rfl), (Nat.le_of_ble_eq_true rfl)⟩) hP hD hS hA [0, 1] [] rfl rfl rfl (by decide) (fun r_2 u_1 H locs hw_3 hP hD hS => ?_)
  have hP : va_P (dC, dI) vwCl [(zy, .inr (11, [.ref zy0, .ref zy1, .int 0, .int 0, .int 0, .ref zy5, .int 0, .int 0, .ref zy8, .ref zy9, .ref zy10, .ref zy11, .ref zy12, .ref zy13, .ref zy14, .long 0, .ref zy16, .ref zy17, .ref zy18, .int 0, .long 0, .ref zy21, .ref zy22, .int 0, .ref zy24, .ref zy25, .ref zy26, .ref zy27])), (zy0, .inl (cy 0, 392, .inl zz))] H := hP
  have hD : va_D A [(zy, .inr (11, [.ref zy0, .ref zy1, .int 0, .int 0, .int 0, .ref zy5, .int 0, .int 0, .ref zy8, .ref zy9, .ref zy10, .ref zy11, .ref zy12, .ref zy13, .ref zy14, .long 0, .ref zy16, .ref zy17, .ref zy18, .int 0, .long 0, .ref zy21, .ref zy22, .int 0, .ref zy24, .ref zy25, .ref zy26, .ref zy27])), (zy0, .inl (cy 0, 392, .inl zz))] := hD
  obtain rfl : r_2 = 0 := hw_3
  refine lv_if_eq (tgt := 28) hx hb dX11_oneYear_6 (by decide) (fun c_4 => ?_) (fun c_4 => absurd (by decide) c_4)
  refine lv_ldc2 (v := (-1)) hx hb hown (hts (.constantLong RX11 236 (-1)) (by decide +kernel)) dX11_oneYear_28 ?_
  have hP9 := hP.sub (ws' := []) [] rfl
  have hD9 := hD.sub (ws' := []) [] (by decide) rfl
  exact W.lret (v := (-1)) hx hb hr (fun t ht hW => ⟨⟨(-1), (), rfl, rfl, ⟨by rw [ht]; exact hP9, va_K.moved hW.alike hK, hD9⟩⟩, hS.F ht⟩) hS.2.2 dX11_oneYear_31
set_option maxHeartbeats 4000000 in
set_option maxRecDepth 100000 in
theorem c_X11_chance (l : Launch) (dC : Nat → ClassId) (dI : Nat → Nat → Nat) (cy : Nat → ClassId) (sz : Nat) (zy : Nat) (zia : Int32) (zib : Int32) (zic : Int32) (zy0 : Nat) (zy1 : Nat) (zy5 : Nat) (zy8 : Nat) (zy9 : Nat) (zy10 : Nat) (zy11 : Nat) (zy12 : Nat) (zy13 : Nat) (zy14 : Nat) (zy16 : Nat) (zy17 : Nat) (zy18 : Nat) (zy21 : Nat) (zy22 : Nat) (zy24 : Nat) (zy25 : Nat) (zy26 : Nat) (zy27 : Nat)  : Met l yX11_chance wsX11_chance ({ frames := 2, cells := 0, slots := 0, locals := 46 }) (va_Pc [.ref zy, .int zia, .int zib, .int zic] (PRE dC dI cy [(zy, .inr (11, [.ref zy0, .ref zy1, .int 0, .int 0, .int 0, .ref zy5, .int 0, .int 0, .ref zy8, .ref zy9, .ref zy10, .ref zy11, .ref zy12, .ref zy13, .ref zy14, .long 0, .ref zy16, .ref zy17, .ref zy18, .int 0, .long 0, .ref zy21, .ref zy22, .int 0, .ref zy24, .ref zy25, .ref zy26, .ref zy27])), (zy0, .inl (cy 0, 392, .inl zz))] sz)) (va_Ql (fun (r : Int64) (_ : Unit) => r = (-1)) (fun u t => POST dC dI cy (va_A [(zy, .inr (11, [.ref zy0, .ref zy1, .int 0, .int 0, .int 0, .ref zy5, .int 0, .int 0, .ref zy8, .ref zy9, .ref zy10, .ref zy11, .ref zy12, .ref zy13, .ref zy14, .long 0, .ref zy16, .ref zy17, .ref zy18, .int 0, .long 0, .ref zy21, .ref zy22, .int 0, .ref zy24, .ref zy25, .ref zy26, .ref zy27])), (zy0, .inl (cy 0, 392, .inl zz))] sz) [] t) (va_A [(zy, .inr (11, [.ref zy0, .ref zy1, .int 0, .int 0, .int 0, .ref zy5, .int 0, .int 0, .ref zy8, .ref zy9, .ref zy10, .ref zy11, .ref zy12, .ref zy13, .ref zy14, .long 0, .ref zy16, .ref zy17, .ref zy18, .int 0, .long 0, .ref zy21, .ref zy22, .int 0, .ref zy24, .ref zy25, .ref zy26, .ref zy27])), (zy0, .inl (cy 0, 392, .inl zz))] sz)) 0 0 (va_A [(zy, .inr (11, [.ref zy0, .ref zy1, .int 0, .int 0, .int 0, .ref zy5, .int 0, .int 0, .ref zy8, .ref zy9, .ref zy10, .ref zy11, .ref zy12, .ref zy13, .ref zy14, .long 0, .ref zy16, .ref zy17, .ref zy18, .int 0, .long 0, .ref zy21, .ref zy22, .int 0, .ref zy24, .ref zy25, .ref zy26, .ref zy27])), (zy0, .inl (cy 0, 392, .inl zz))] sz) := by
  refine Met.ofW (cc := cX11_chance) (maxL := 5) (ret := (some .long)) (by decide) rfl ?_
  intro p e s m args below meth c s₁ B hml hv
  obtain ⟨rfl, hsz, hP, hK, hD0, hN⟩ := hv
  have hx := B.exec
  have hb := B.bytes
  have hr := B.returns
  have hts := atoms_spec (ws := wsX11_chance) B.pre
  have hown : s.vm.findClass RX11 = some m.cls := findClass_of_methodNamed B.named
  have hlocks := B.notSynchronized
  subst hsz
  have hD := hD0.self (sz := s.heap.size)
  generalize hAe : va_A [(zy, .inr (11, [.ref zy0, .ref zy1, .int 0, .int 0, .int 0, .ref zy5, .int 0, .int 0, .ref zy8, .ref zy9, .ref zy10, .ref zy11, .ref zy12, .ref zy13, .ref zy14, .long 0, .ref zy16, .ref zy17, .ref zy18, .int 0, .long 0, .ref zy21, .ref zy22, .int 0, .ref zy24, .ref zy25, .ref zy26, .ref zy27])), (zy0, .inl (cy 0, 392, .inl zz))] s.heap.size = A at hD ⊢
  have hA : ∀ q : Nat, s.heap.size ≤ q → A q := fun q h => by rw [← hAe]; exact Or.inr h
  have hS : va_S A s.heap s.heap [] := va_S.rf
  have hP : va_P (dC, dI) vwCl [(zy, .inr (11, [.ref zy0, .ref zy1, .int 0, .int 0, .int 0, .ref zy5, .int 0, .int 0, .ref zy8, .ref zy9, .ref zy10, .ref zy11, .ref zy12, .ref zy13, .ref zy14, .long 0, .ref zy16, .ref zy17, .ref zy18, .int 0, .long 0, .ref zy21, .ref zy22, .int 0, .ref zy24, .ref zy25, .ref zy26, .ref zy27])), (zy0, .inl (cy 0, 392, .inl zz))] s.heap := hP
  have hl := lv_entry ([.ref zy, .int zia, .int zib, .int zic] : List Value) (n := 5) (Nat.le_of_ble_eq_true rfl)
  rw [lg_entry_eq]
  generalize (lg_sl ([.ref zy, .int zia, .int zib, .int zic] : List Value) ++ List.replicate (5 - (lg_sl ([.ref zy, .int zia, .int zib, .int zic] : List Value)).length) Slot.unset).toArray = ls at hl ⊢
  have hl : lv_has ls 5 [(0, .ref zy), (1, .int zia), (2, .int zib), (3, .int zic)] := hl
  refine lv_aload_n hx hb dX11_chance_0 rfl (lv_at hl 0 rfl) ?_
  refine lv_iload_n hx hb dX11_chance_1 rfl (lv_at hl 1 rfl) ?_
  refine cj_i (wc := [(zy, .inr (11, [.ref zy0, .ref zy1, .int 0, .int 0, .int 0, .ref zy5, .int 0, .int 0, .ref zy8, .ref zy9, .ref zy10, .ref zy11, .ref zy12, .ref zy13, .ref zy14, .long 0, .ref zy16, .ref zy17, .ref zy18, .int 0, .long 0, .ref zy21, .ref zy22, .int 0, .ref zy24, .ref zy25, .ref zy26, .ref zy27])), (zy0, .inl (cy 0, 392, .inl zz))]) (wr := []) (w1 := fun (_ : Unit) => []) (va_runV (As := [.int zia]) (rest := []) ⟨hx, hb, hml, hown, hts⟩ (c_X11_isClaim l dC dI cy s.heap.size zy zia zy0 zy1 zy5 zy8 zy9 zy10 zy11 zy12 zy13 zy14 zy16 zy17 zy18 zy21 zy22 zy24 zy25 zy26 zy27) (cwV 1 hts gX11_chance_X11_isClaim rfl rfl rfl (by decide +kernel) ⟨(Nat.le_of_ble_eq_true rfl), (Nat.le_of_ble_eq_true rfl)⟩) (PRE.v (hP.sub [0, 1] rfl) hK (hD.sub [0, 1] (by decide) rfl) hN (va_recv hK hP (ci := 11) (q0 := 0) rfl rfl)) rfl rfl hl.1 rfl (lv_room (Nat.le_of_ble_eq_true rfl)) dX11_chance_2 ⟨(Nat.le_of_ble_eq_true rfl), (Nat.le_of_ble_eq_true rfl)⟩) hP hD hS hA [0, 1] [] rfl rfl rfl (by decide) (fun r_2 u_1 H locs hw_3 hP hD hS => ?_)
  have hP : va_P (dC, dI) vwCl [] H := hP
  have hD : va_D A [] := hD
  obtain rfl : r_2 = 0 := hw_3
  refine lv_if_eq (tgt := 25) hx hb dX11_chance_5 (by decide) (fun c_4 => ?_) (fun c_4 => absurd (by decide) c_4)
  refine lv_ldc2 (v := (-1)) hx hb hown (hts (.constantLong RX11 236 (-1)) (by decide +kernel)) dX11_chance_25 ?_
  have hP9 := hP.sub (ws' := []) [] rfl
  have hD9 := hD.sub (ws' := []) [] (by decide) rfl
  exact W.lret (v := (-1)) hx hb hr (fun t ht hW => ⟨⟨(-1), (), rfl, rfl, ⟨by rw [ht]; exact hP9, va_K.moved hW.alike hK, hD9⟩⟩, hS.F ht⟩) hS.2.2 dX11_chance_28
set_option maxHeartbeats 4000000 in
set_option maxRecDepth 100000 in
theorem c_X11_holds (l : Launch) (dC : Nat → ClassId) (dI : Nat → Nat → Nat) (cy : Nat → ClassId) (sz : Nat) (zy : Nat) (zia : Int32) (zib : Int32) (zy0 : Nat) (zy1 : Nat) (zy5 : Nat) (zy8 : Nat) (zy9 : Nat) (zy10 : Nat) (zy11 : Nat) (zy12 : Nat) (zy13 : Nat) (zy14 : Nat) (zy16 : Nat) (zy17 : Nat) (zy18 : Nat) (zy21 : Nat) (zy22 : Nat) (zy24 : Nat) (zy25 : Nat) (zy26 : Nat) (zy27 : Nat)  : Met l yX11_holds wsX11_holds ({ frames := 2, cells := 0, slots := 0, locals := 46 }) (va_Pc [.ref zy, .int zia, .int zib] (PRE dC dI cy [(zy, .inr (11, [.ref zy0, .ref zy1, .int 0, .int 0, .int 0, .ref zy5, .int 0, .int 0, .ref zy8, .ref zy9, .ref zy10, .ref zy11, .ref zy12, .ref zy13, .ref zy14, .long 0, .ref zy16, .ref zy17, .ref zy18, .int 0, .long 0, .ref zy21, .ref zy22, .int 0, .ref zy24, .ref zy25, .ref zy26, .ref zy27])), (zy0, .inl (cy 0, 392, .inl zz))] sz)) (va_Qi (fun (r : Int32) (_ : Unit) => r = (-1)) (fun u t => POST dC dI cy (va_A [(zy, .inr (11, [.ref zy0, .ref zy1, .int 0, .int 0, .int 0, .ref zy5, .int 0, .int 0, .ref zy8, .ref zy9, .ref zy10, .ref zy11, .ref zy12, .ref zy13, .ref zy14, .long 0, .ref zy16, .ref zy17, .ref zy18, .int 0, .long 0, .ref zy21, .ref zy22, .int 0, .ref zy24, .ref zy25, .ref zy26, .ref zy27])), (zy0, .inl (cy 0, 392, .inl zz))] sz) [] t) (va_A [(zy, .inr (11, [.ref zy0, .ref zy1, .int 0, .int 0, .int 0, .ref zy5, .int 0, .int 0, .ref zy8, .ref zy9, .ref zy10, .ref zy11, .ref zy12, .ref zy13, .ref zy14, .long 0, .ref zy16, .ref zy17, .ref zy18, .int 0, .long 0, .ref zy21, .ref zy22, .int 0, .ref zy24, .ref zy25, .ref zy26, .ref zy27])), (zy0, .inl (cy 0, 392, .inl zz))] sz)) 0 0 (va_A [(zy, .inr (11, [.ref zy0, .ref zy1, .int 0, .int 0, .int 0, .ref zy5, .int 0, .int 0, .ref zy8, .ref zy9, .ref zy10, .ref zy11, .ref zy12, .ref zy13, .ref zy14, .long 0, .ref zy16, .ref zy17, .ref zy18, .int 0, .long 0, .ref zy21, .ref zy22, .int 0, .ref zy24, .ref zy25, .ref zy26, .ref zy27])), (zy0, .inl (cy 0, 392, .inl zz))] sz) := by
  refine Met.ofW (cc := cX11_holds) (maxL := 8) (ret := (some .int)) (by decide) rfl ?_
  intro p e s m args below meth c s₁ B hml hv
  obtain ⟨rfl, hsz, hP, hK, hD0, hN⟩ := hv
  have hx := B.exec
  have hb := B.bytes
  have hr := B.returns
  have hts := atoms_spec (ws := wsX11_holds) B.pre
  have hown : s.vm.findClass RX11 = some m.cls := findClass_of_methodNamed B.named
  have hlocks := B.notSynchronized
  subst hsz
  have hD := hD0.self (sz := s.heap.size)
  generalize hAe : va_A [(zy, .inr (11, [.ref zy0, .ref zy1, .int 0, .int 0, .int 0, .ref zy5, .int 0, .int 0, .ref zy8, .ref zy9, .ref zy10, .ref zy11, .ref zy12, .ref zy13, .ref zy14, .long 0, .ref zy16, .ref zy17, .ref zy18, .int 0, .long 0, .ref zy21, .ref zy22, .int 0, .ref zy24, .ref zy25, .ref zy26, .ref zy27])), (zy0, .inl (cy 0, 392, .inl zz))] s.heap.size = A at hD ⊢
  have hA : ∀ q : Nat, s.heap.size ≤ q → A q := fun q h => by rw [← hAe]; exact Or.inr h
  have hS : va_S A s.heap s.heap [] := va_S.rf
  have hP : va_P (dC, dI) vwCl [(zy, .inr (11, [.ref zy0, .ref zy1, .int 0, .int 0, .int 0, .ref zy5, .int 0, .int 0, .ref zy8, .ref zy9, .ref zy10, .ref zy11, .ref zy12, .ref zy13, .ref zy14, .long 0, .ref zy16, .ref zy17, .ref zy18, .int 0, .long 0, .ref zy21, .ref zy22, .int 0, .ref zy24, .ref zy25, .ref zy26, .ref zy27])), (zy0, .inl (cy 0, 392, .inl zz))] s.heap := hP
  have hl := lv_entry ([.ref zy, .int zia, .int zib] : List Value) (n := 8) (Nat.le_of_ble_eq_true rfl)
  rw [lg_entry_eq]
  generalize (lg_sl ([.ref zy, .int zia, .int zib] : List Value) ++ List.replicate (8 - (lg_sl ([.ref zy, .int zia, .int zib] : List Value)).length) Slot.unset).toArray = ls at hl ⊢
  have hl : lv_has ls 8 [(0, .ref zy), (1, .int zia), (2, .int zib)] := hl
  refine lv_aload_n hx hb dX11_holds_0 rfl (lv_at hl 0 rfl) ?_
  refine lv_iload_n hx hb dX11_holds_1 rfl (lv_at hl 1 rfl) ?_
  refine cj_i (wc := [(zy, .inr (11, [.ref zy0, .ref zy1, .int 0, .int 0, .int 0, .ref zy5, .int 0, .int 0, .ref zy8, .ref zy9, .ref zy10, .ref zy11, .ref zy12, .ref zy13, .ref zy14, .long 0, .ref zy16, .ref zy17, .ref zy18, .int 0, .long 0, .ref zy21, .ref zy22, .int 0, .ref zy24, .ref zy25, .ref zy26, .ref zy27])), (zy0, .inl (cy 0, 392, .inl zz))]) (wr := []) (w1 := fun (_ : Unit) => []) (va_runV (As := [.int zia]) (rest := []) ⟨hx, hb, hml, hown, hts⟩ (c_X11_isClaim l dC dI cy s.heap.size zy zia zy0 zy1 zy5 zy8 zy9 zy10 zy11 zy12 zy13 zy14 zy16 zy17 zy18 zy21 zy22 zy24 zy25 zy26 zy27) (cwV 1 hts gX11_holds_X11_isClaim rfl rfl rfl (by decide +kernel) ⟨(Nat.le_of_ble_eq_true rfl), (Nat.le_of_ble_eq_true rfl)⟩) (PRE.v (hP.sub [0, 1] rfl) hK (hD.sub [0, 1] (by decide) rfl) hN (va_recv hK hP (ci := 11) (q0 := 0) rfl rfl)) rfl rfl hl.1 rfl (lv_room (Nat.le_of_ble_eq_true rfl)) dX11_holds_2 ⟨(Nat.le_of_ble_eq_true rfl), (Nat.le_of_ble_eq_true rfl)⟩) hP hD hS hA [0, 1] [] rfl rfl rfl (by decide) (fun r_2 u_1 H locs hw_3 hP hD hS => ?_)
  have hP : va_P (dC, dI) vwCl [] H := hP
  have hD : va_D A [] := hD
  obtain rfl : r_2 = 0 := hw_3
  refine lv_if_eq (tgt := 15) hx hb dX11_holds_5 (by decide) (fun c_4 => ?_) (fun c_4 => absurd (by decide) c_4)
  refine lv_iconst (v := (-1)) hx hb dX11_holds_15 (by decide) ?_
  have hP9 := hP.sub (ws' := []) [] rfl
  have hD9 := hD.sub (ws' := []) [] (by decide) rfl
  exact W.iret (v := (-1)) hx hb hr (fun t ht hW => ⟨⟨(-1), (), rfl, rfl, ⟨by rw [ht]; exact hP9, va_K.moved hW.alike hK, hD9⟩⟩, hS.F ht⟩) hS.2.2 dX11_holds_16
set_option maxHeartbeats 4000000 in
set_option maxRecDepth 100000 in
theorem c_X11_looked (l : Launch) (dC : Nat → ClassId) (dI : Nat → Nat → Nat) (cy : Nat → ClassId) (sz : Nat) (zy : Nat) (zia : Int32) (zib : Int32) (zic : Int32) (zid : Int32) (zie : Int32) (zy0 : Nat) (zy1 : Nat) (zy5 : Nat) (zy8 : Nat) (zy9 : Nat) (zy10 : Nat) (zy11 : Nat) (zy12 : Nat) (zy13 : Nat) (zy14 : Nat) (zy16 : Nat) (zy17 : Nat) (zy18 : Nat) (zy21 : Nat) (zy22 : Nat) (zy24 : Nat) (zy25 : Nat) (zy26 : Nat) (zy27 : Nat)  : Met l yX11_looked wsX11_looked ({ frames := 2, cells := 0, slots := 0, locals := 46 }) (va_Pc [.ref zy, .int zia, .int zib, .int zic, .int zid, .int zie] (PRE dC dI cy [(zy, .inr (11, [.ref zy0, .ref zy1, .int 0, .int 0, .int 0, .ref zy5, .int 0, .int 0, .ref zy8, .ref zy9, .ref zy10, .ref zy11, .ref zy12, .ref zy13, .ref zy14, .long 0, .ref zy16, .ref zy17, .ref zy18, .int 0, .long 0, .ref zy21, .ref zy22, .int 0, .ref zy24, .ref zy25, .ref zy26, .ref zy27])), (zy0, .inl (cy 0, 392, .inl zz))] sz)) (va_Qi (fun (r : Int32) (_ : Unit) => r = (-1)) (fun u t => POST dC dI cy (va_A [(zy, .inr (11, [.ref zy0, .ref zy1, .int 0, .int 0, .int 0, .ref zy5, .int 0, .int 0, .ref zy8, .ref zy9, .ref zy10, .ref zy11, .ref zy12, .ref zy13, .ref zy14, .long 0, .ref zy16, .ref zy17, .ref zy18, .int 0, .long 0, .ref zy21, .ref zy22, .int 0, .ref zy24, .ref zy25, .ref zy26, .ref zy27])), (zy0, .inl (cy 0, 392, .inl zz))] sz) [] t) (va_A [(zy, .inr (11, [.ref zy0, .ref zy1, .int 0, .int 0, .int 0, .ref zy5, .int 0, .int 0, .ref zy8, .ref zy9, .ref zy10, .ref zy11, .ref zy12, .ref zy13, .ref zy14, .long 0, .ref zy16, .ref zy17, .ref zy18, .int 0, .long 0, .ref zy21, .ref zy22, .int 0, .ref zy24, .ref zy25, .ref zy26, .ref zy27])), (zy0, .inl (cy 0, 392, .inl zz))] sz)) 0 0 (va_A [(zy, .inr (11, [.ref zy0, .ref zy1, .int 0, .int 0, .int 0, .ref zy5, .int 0, .int 0, .ref zy8, .ref zy9, .ref zy10, .ref zy11, .ref zy12, .ref zy13, .ref zy14, .long 0, .ref zy16, .ref zy17, .ref zy18, .int 0, .long 0, .ref zy21, .ref zy22, .int 0, .ref zy24, .ref zy25, .ref zy26, .ref zy27])), (zy0, .inl (cy 0, 392, .inl zz))] sz) := by
  refine Met.ofW (cc := cX11_looked) (maxL := 11) (ret := (some .int)) (by decide) rfl ?_
  intro p e s m args below meth c s₁ B hml hv
  obtain ⟨rfl, hsz, hP, hK, hD0, hN⟩ := hv
  have hx := B.exec
  have hb := B.bytes
  have hr := B.returns
  have hts := atoms_spec (ws := wsX11_looked) B.pre
  have hown : s.vm.findClass RX11 = some m.cls := findClass_of_methodNamed B.named
  have hlocks := B.notSynchronized
  subst hsz
  have hD := hD0.self (sz := s.heap.size)
  generalize hAe : va_A [(zy, .inr (11, [.ref zy0, .ref zy1, .int 0, .int 0, .int 0, .ref zy5, .int 0, .int 0, .ref zy8, .ref zy9, .ref zy10, .ref zy11, .ref zy12, .ref zy13, .ref zy14, .long 0, .ref zy16, .ref zy17, .ref zy18, .int 0, .long 0, .ref zy21, .ref zy22, .int 0, .ref zy24, .ref zy25, .ref zy26, .ref zy27])), (zy0, .inl (cy 0, 392, .inl zz))] s.heap.size = A at hD ⊢
  have hA : ∀ q : Nat, s.heap.size ≤ q → A q := fun q h => by rw [← hAe]; exact Or.inr h
  have hS : va_S A s.heap s.heap [] := va_S.rf
  have hP : va_P (dC, dI) vwCl [(zy, .inr (11, [.ref zy0, .ref zy1, .int 0, .int 0, .int 0, .ref zy5, .int 0, .int 0, .ref zy8, .ref zy9, .ref zy10, .ref zy11, .ref zy12, .ref zy13, .ref zy14, .long 0, .ref zy16, .ref zy17, .ref zy18, .int 0, .long 0, .ref zy21, .ref zy22, .int 0, .ref zy24, .ref zy25, .ref zy26, .ref zy27])), (zy0, .inl (cy 0, 392, .inl zz))] s.heap := hP
  have hl := lv_entry ([.ref zy, .int zia, .int zib, .int zic, .int zid, .int zie] : List Value) (n := 11) (Nat.le_of_ble_eq_true rfl)
  rw [lg_entry_eq]
  generalize (lg_sl ([.ref zy, .int zia, .int zib, .int zic, .int zid, .int zie] : List Value) ++ List.replicate (11 - (lg_sl ([.ref zy, .int zia, .int zib, .int zic, .int zid, .int zie] : List Value)).length) Slot.unset).toArray = ls at hl ⊢
  have hl : lv_has ls 11 [(0, .ref zy), (1, .int zia), (2, .int zib), (3, .int zic), (4, .int zid), (5, .int zie)] := hl
  refine lv_aload_n hx hb dX11_looked_0 rfl (lv_at hl 0 rfl) ?_
  refine lv_iload_n hx hb dX11_looked_1 rfl (lv_at hl 1 rfl) ?_
  refine cj_i (wc := [(zy, .inr (11, [.ref zy0, .ref zy1, .int 0, .int 0, .int 0, .ref zy5, .int 0, .int 0, .ref zy8, .ref zy9, .ref zy10, .ref zy11, .ref zy12, .ref zy13, .ref zy14, .long 0, .ref zy16, .ref zy17, .ref zy18, .int 0, .long 0, .ref zy21, .ref zy22, .int 0, .ref zy24, .ref zy25, .ref zy26, .ref zy27])), (zy0, .inl (cy 0, 392, .inl zz))]) (wr := []) (w1 := fun (_ : Unit) => []) (va_runV (As := [.int zia]) (rest := []) ⟨hx, hb, hml, hown, hts⟩ (c_X11_isClaim l dC dI cy s.heap.size zy zia zy0 zy1 zy5 zy8 zy9 zy10 zy11 zy12 zy13 zy14 zy16 zy17 zy18 zy21 zy22 zy24 zy25 zy26 zy27) (cwV 1 hts gX11_looked_X11_isClaim rfl rfl rfl (by decide +kernel) ⟨(Nat.le_of_ble_eq_true rfl), (Nat.le_of_ble_eq_true rfl)⟩) (PRE.v (hP.sub [0, 1] rfl) hK (hD.sub [0, 1] (by decide) rfl) hN (va_recv hK hP (ci := 11) (q0 := 0) rfl rfl)) rfl rfl hl.1 rfl (lv_room (Nat.le_of_ble_eq_true rfl)) dX11_looked_2 ⟨(Nat.le_of_ble_eq_true rfl), (Nat.le_of_ble_eq_true rfl)⟩) hP hD hS hA [0, 1] [] rfl rfl rfl (by decide) (fun r_2 u_1 H locs hw_3 hP hD hS => ?_)
  have hP : va_P (dC, dI) vwCl [] H := hP
  have hD : va_D A [] := hD
  obtain rfl : r_2 = 0 := hw_3
  refine lv_if_eq (tgt := 51) hx hb dX11_looked_5 (by decide) (fun c_4 => ?_) (fun c_4 => absurd (by decide) c_4)
  refine lv_iconst (v := (-1)) hx hb dX11_looked_51 (by decide) ?_
  have hP9 := hP.sub (ws' := []) [] rfl
  have hD9 := hD.sub (ws' := []) [] (by decide) rfl
  exact W.iret (v := (-1)) hx hb hr (fun t ht hW => ⟨⟨(-1), (), rfl, rfl, ⟨by rw [ht]; exact hP9, va_K.moved hW.alike hK, hD9⟩⟩, hS.F ht⟩) hS.2.2 dX11_looked_52
set_option maxHeartbeats 4000000 in
set_option maxRecDepth 100000 in
theorem c_X11_says (l : Launch) (dC : Nat → ClassId) (dI : Nat → Nat → Nat) (cy : Nat → ClassId) (sz : Nat) (zy : Nat) (zia : Int32) (zib : Int32) (zic : Int32) (zid : Int32) (zy0 : Nat) (zy1 : Nat) (zy5 : Nat) (zy8 : Nat) (zy9 : Nat) (zy10 : Nat) (zy11 : Nat) (zy12 : Nat) (zy13 : Nat) (zy14 : Nat) (zy16 : Nat) (zy17 : Nat) (zy18 : Nat) (zy21 : Nat) (zy22 : Nat) (zy24 : Nat) (zy25 : Nat) (zy26 : Nat) (zy27 : Nat)  : Met l yX11_says wsX11_says ({ frames := 2, cells := 0, slots := 0, locals := 47 }) (va_Pc [.ref zy, .int zia, .int zib, .int zic, .int zid] (PRE dC dI cy [(zy, .inr (11, [.ref zy0, .ref zy1, .int 0, .int 0, .int 0, .ref zy5, .int 0, .int 0, .ref zy8, .ref zy9, .ref zy10, .ref zy11, .ref zy12, .ref zy13, .ref zy14, .long 0, .ref zy16, .ref zy17, .ref zy18, .int 0, .long 0, .ref zy21, .ref zy22, .int 0, .ref zy24, .ref zy25, .ref zy26, .ref zy27])), (zy0, .inl (cy 0, 392, .inl zz))] sz)) (va_Qi (fun (r : Int32) (_ : Unit) => r = (-1)) (fun u t => POST dC dI cy (va_A [(zy, .inr (11, [.ref zy0, .ref zy1, .int 0, .int 0, .int 0, .ref zy5, .int 0, .int 0, .ref zy8, .ref zy9, .ref zy10, .ref zy11, .ref zy12, .ref zy13, .ref zy14, .long 0, .ref zy16, .ref zy17, .ref zy18, .int 0, .long 0, .ref zy21, .ref zy22, .int 0, .ref zy24, .ref zy25, .ref zy26, .ref zy27])), (zy0, .inl (cy 0, 392, .inl zz))] sz) [] t) (va_A [(zy, .inr (11, [.ref zy0, .ref zy1, .int 0, .int 0, .int 0, .ref zy5, .int 0, .int 0, .ref zy8, .ref zy9, .ref zy10, .ref zy11, .ref zy12, .ref zy13, .ref zy14, .long 0, .ref zy16, .ref zy17, .ref zy18, .int 0, .long 0, .ref zy21, .ref zy22, .int 0, .ref zy24, .ref zy25, .ref zy26, .ref zy27])), (zy0, .inl (cy 0, 392, .inl zz))] sz)) 0 0 (va_A [(zy, .inr (11, [.ref zy0, .ref zy1, .int 0, .int 0, .int 0, .ref zy5, .int 0, .int 0, .ref zy8, .ref zy9, .ref zy10, .ref zy11, .ref zy12, .ref zy13, .ref zy14, .long 0, .ref zy16, .ref zy17, .ref zy18, .int 0, .long 0, .ref zy21, .ref zy22, .int 0, .ref zy24, .ref zy25, .ref zy26, .ref zy27])), (zy0, .inl (cy 0, 392, .inl zz))] sz) := by
  refine Met.ofW (cc := cX11_says) (maxL := 10) (ret := (some .int)) (by decide) rfl ?_
  intro p e s m args below meth c s₁ B hml hv
  obtain ⟨rfl, hsz, hP, hK, hD0, hN⟩ := hv
  have hx := B.exec
  have hb := B.bytes
  have hr := B.returns
  have hts := atoms_spec (ws := wsX11_says) B.pre
  have hown : s.vm.findClass RX11 = some m.cls := findClass_of_methodNamed B.named
  have hlocks := B.notSynchronized
  subst hsz
  have hD := hD0.self (sz := s.heap.size)
  generalize hAe : va_A [(zy, .inr (11, [.ref zy0, .ref zy1, .int 0, .int 0, .int 0, .ref zy5, .int 0, .int 0, .ref zy8, .ref zy9, .ref zy10, .ref zy11, .ref zy12, .ref zy13, .ref zy14, .long 0, .ref zy16, .ref zy17, .ref zy18, .int 0, .long 0, .ref zy21, .ref zy22, .int 0, .ref zy24, .ref zy25, .ref zy26, .ref zy27])), (zy0, .inl (cy 0, 392, .inl zz))] s.heap.size = A at hD ⊢
  have hA : ∀ q : Nat, s.heap.size ≤ q → A q := fun q h => by rw [← hAe]; exact Or.inr h
  have hS : va_S A s.heap s.heap [] := va_S.rf
  have hP : va_P (dC, dI) vwCl [(zy, .inr (11, [.ref zy0, .ref zy1, .int 0, .int 0, .int 0, .ref zy5, .int 0, .int 0, .ref zy8, .ref zy9, .ref zy10, .ref zy11, .ref zy12, .ref zy13, .ref zy14, .long 0, .ref zy16, .ref zy17, .ref zy18, .int 0, .long 0, .ref zy21, .ref zy22, .int 0, .ref zy24, .ref zy25, .ref zy26, .ref zy27])), (zy0, .inl (cy 0, 392, .inl zz))] s.heap := hP
  have hl := lv_entry ([.ref zy, .int zia, .int zib, .int zic, .int zid] : List Value) (n := 10) (Nat.le_of_ble_eq_true rfl)
  rw [lg_entry_eq]
  generalize (lg_sl ([.ref zy, .int zia, .int zib, .int zic, .int zid] : List Value) ++ List.replicate (10 - (lg_sl ([.ref zy, .int zia, .int zib, .int zic, .int zid] : List Value)).length) Slot.unset).toArray = ls at hl ⊢
  have hl : lv_has ls 10 [(0, .ref zy), (1, .int zia), (2, .int zib), (3, .int zic), (4, .int zid)] := hl
  refine lv_iload_n hx hb dX11_says_0 rfl (lv_at hl 1 rfl) ?_
  refine cj_i (wc := []) (wr := [(zy, .inr (11, [.ref zy0, .ref zy1, .int 0, .int 0, .int 0, .ref zy5, .int 0, .int 0, .ref zy8, .ref zy9, .ref zy10, .ref zy11, .ref zy12, .ref zy13, .ref zy14, .long 0, .ref zy16, .ref zy17, .ref zy18, .int 0, .long 0, .ref zy21, .ref zy22, .int 0, .ref zy24, .ref zy25, .ref zy26, .ref zy27])), (zy0, .inl (cy 0, 392, .inl zz))]) (w1 := fun (_ : Unit) => []) (va_runS (As := [.int zia]) (rest := []) ⟨hx, hb, hml, hown, hts⟩ (c_X11_isCandle l dC dI cy s.heap.size zia) (va_cwS 1 hts gX11_says_X11_isCandle rfl rfl rfl (by decide +kernel) ⟨(Nat.le_of_ble_eq_true rfl), (Nat.le_of_ble_eq_true rfl)⟩) (PRE.s (hP.sub [] rfl) hK (hD.sub [] (by decide) rfl) hN) rfl rfl hl.1 rfl (lv_room (Nat.le_of_ble_eq_true rfl)) dX11_says_1 ⟨(Nat.le_of_ble_eq_true rfl), (Nat.le_of_ble_eq_true rfl)⟩) hP hD hS hA [] [0, 1] rfl rfl rfl (by decide) (fun r_2 u_1 H locs hw_3 hP hD hS => ?_)
  have hP : va_P (dC, dI) vwCl [(zy, .inr (11, [.ref zy0, .ref zy1, .int 0, .int 0, .int 0, .ref zy5, .int 0, .int 0, .ref zy8, .ref zy9, .ref zy10, .ref zy11, .ref zy12, .ref zy13, .ref zy14, .long 0, .ref zy16, .ref zy17, .ref zy18, .int 0, .long 0, .ref zy21, .ref zy22, .int 0, .ref zy24, .ref zy25, .ref zy26, .ref zy27])), (zy0, .inl (cy 0, 392, .inl zz))] H := hP
  have hD : va_D A [(zy, .inr (11, [.ref zy0, .ref zy1, .int 0, .int 0, .int 0, .ref zy5, .int 0, .int 0, .ref zy8, .ref zy9, .ref zy10, .ref zy11, .ref zy12, .ref zy13, .ref zy14, .long 0, .ref zy16, .ref zy17, .ref zy18, .int 0, .long 0, .ref zy21, .ref zy22, .int 0, .ref zy24, .ref zy25, .ref zy26, .ref zy27])), (zy0, .inl (cy 0, 392, .inl zz))] := hD
  have hw_3 : r_2 = if 0 ≤ zia.toInt ∧ zia.toInt ≤ 1 then 1 else 0 := hw_3
  refine lv_if_eq (tgt := 43) hx hb dX11_says_4 (by decide) (fun c_4 => ?_) (fun c_4 => ?_)
  · have f_5 : ¬ (0 ≤ zia.toInt ∧ zia.toInt ≤ 1) := bz_0 hw_3 c_4
    refine lv_iconst (v := (-1)) hx hb dX11_says_43 (by decide) ?_
    have hP9 := hP.sub (ws' := []) [] rfl
    have hD9 := hD.sub (ws' := []) [] (by decide) rfl
    exact W.iret (v := (-1)) hx hb hr (fun t ht hW => ⟨⟨(-1), (), rfl, rfl, ⟨by rw [ht]; exact hP9, va_K.moved hW.alike hK, hD9⟩⟩, hS.F ht⟩) hS.2.2 dX11_says_44
  · have f_5 : 0 ≤ zia.toInt ∧ zia.toInt ≤ 1 := bz_1 hw_3 c_4
    refine lv_aload_n hx hb dX11_says_7 rfl (lv_at hl 0 rfl) ?_
    refine lv_iload_n hx hb dX11_says_8 rfl (lv_at hl 1 rfl) ?_
    refine lv_iload_n hx hb dX11_says_9 rfl (lv_at hl 2 rfl) ?_
    refine cj_i (wc := [(zy, .inr (11, [.ref zy0, .ref zy1, .int 0, .int 0, .int 0, .ref zy5, .int 0, .int 0, .ref zy8, .ref zy9, .ref zy10, .ref zy11, .ref zy12, .ref zy13, .ref zy14, .long 0, .ref zy16, .ref zy17, .ref zy18, .int 0, .long 0, .ref zy21, .ref zy22, .int 0, .ref zy24, .ref zy25, .ref zy26, .ref zy27])), (zy0, .inl (cy 0, 392, .inl zz))]) (wr := []) (w1 := fun (_ : Unit) => [(zy, .inr (11, [.ref zy0, .ref zy1, .int 0, .int 0, .int 0, .ref zy5, .int 0, .int 0, .ref zy8, .ref zy9, .ref zy10, .ref zy11, .ref zy12, .ref zy13, .ref zy14, .long 0, .ref zy16, .ref zy17, .ref zy18, .int 0, .long 0, .ref zy21, .ref zy22, .int 0, .ref zy24, .ref zy25, .ref zy26, .ref zy27])), (zy0, .inl (cy 0, 392, .inl zz))]) (va_runV (As := [.int zia, .int zib]) (rest := []) ⟨hx, hb, hml, hown, hts⟩ (c_X11_isThing l dC dI cy H.size zy zia zib zy0 zy1 zy5 zy8 zy9 zy10 zy11 zy12 zy13 zy14 zy16 zy17 zy18 zy21 zy22 zy24 zy25 zy26 zy27 (by first | rfl | decide | omega | exact Int32.toInt_toInt64 _)) (cwV 2 hts gX11_says_X11_isThing rfl rfl rfl (by decide +kernel) ⟨(Nat.le_of_ble_eq_true rfl), (Nat.le_of_ble_eq_true rfl)⟩) (PRE.v (hP.sub [0, 1] rfl) hK (hD.sub [0, 1] (by decide) rfl) hN (va_recv hK hP (ci := 11) (q0 := 0) rfl rfl)) rfl rfl hl.1 rfl (lv_room (Nat.le_of_ble_eq_true rfl)) dX11_says_10 ⟨(Nat.le_of_ble_eq_true rfl), (Nat.le_of_ble_eq_true rfl)⟩) hP hD hS hA [0, 1] [] rfl rfl rfl (by decide) (fun r_7 u_6 H locs hw_8 hP hD hS => ?_)
    have hP : va_P (dC, dI) vwCl [(zy, .inr (11, [.ref zy0, .ref zy1, .int 0, .int 0, .int 0, .ref zy5, .int 0, .int 0, .ref zy8, .ref zy9, .ref zy10, .ref zy11, .ref zy12, .ref zy13, .ref zy14, .long 0, .ref zy16, .ref zy17, .ref zy18, .int 0, .long 0, .ref zy21, .ref zy22, .int 0, .ref zy24, .ref zy25, .ref zy26, .ref zy27])), (zy0, .inl (cy 0, 392, .inl zz))] H := hP
    have hD : va_D A [(zy, .inr (11, [.ref zy0, .ref zy1, .int 0, .int 0, .int 0, .ref zy5, .int 0, .int 0, .ref zy8, .ref zy9, .ref zy10, .ref zy11, .ref zy12, .ref zy13, .ref zy14, .long 0, .ref zy16, .ref zy17, .ref zy18, .int 0, .long 0, .ref zy21, .ref zy22, .int 0, .ref zy24, .ref zy25, .ref zy26, .ref zy27])), (zy0, .inl (cy 0, 392, .inl zz))] := hD
    obtain rfl : r_7 = 0 := hw_8
    refine lv_if_eq (tgt := 43) hx hb dX11_says_13 (by decide) (fun c_9 => ?_) (fun c_9 => absurd (by decide) c_9)
    refine lv_iconst (v := (-1)) hx hb dX11_says_43 (by decide) ?_
    have hP9 := hP.sub (ws' := []) [] rfl
    have hD9 := hD.sub (ws' := []) [] (by decide) rfl
    exact W.iret (v := (-1)) hx hb hr (fun t ht hW => ⟨⟨(-1), (), rfl, rfl, ⟨by rw [ht]; exact hP9, va_K.moved hW.alike hK, hD9⟩⟩, hS.F ht⟩) hS.2.2 dX11_says_44
set_option maxHeartbeats 4000000 in
set_option maxRecDepth 100000 in
theorem c_X11_restore (l : Launch) (dC : Nat → ClassId) (dI : Nat → Nat → Nat) (cy : Nat → ClassId) (sz : Nat) (zy : Nat) (zy0 : Nat) (zy1 : Nat) (zy5 : Nat) (zy8 : Nat) (zy9 : Nat) (zy10 : Nat) (zy11 : Nat) (zy12 : Nat) (zy13 : Nat) (zy14 : Nat) (zy16 : Nat) (zy17 : Nat) (zy18 : Nat) (zy21 : Nat) (zy22 : Nat) (zy24 : Nat) (zy25 : Nat) (zy26 : Nat) (zy27 : Nat)  : Met l yX11_restore wsX11_restore ({ frames := 0, cells := 0, slots := 0, locals := 0 }) (va_Pc [.ref zy] (PRE dC dI cy [(zy, .inr (11, [.ref zy0, .ref zy1, .int 0, .int 0, .int 0, .ref zy5, .int 0, .int 0, .ref zy8, .ref zy9, .ref zy10, .ref zy11, .ref zy12, .ref zy13, .ref zy14, .long 0, .ref zy16, .ref zy17, .ref zy18, .int 0, .long 0, .ref zy21, .ref zy22, .int 0, .ref zy24, .ref zy25, .ref zy26, .ref zy27]))] sz)) (va_Qi (fun (r : Int32) (_ : Unit) => r = (-4)) (fun u t => POST dC dI cy (va_A [(zy, .inr (11, [.ref zy0, .ref zy1, .int 0, .int 0, .int 0, .ref zy5, .int 0, .int 0, .ref zy8, .ref zy9, .ref zy10, .ref zy11, .ref zy12, .ref zy13, .ref zy14, .long 0, .ref zy16, .ref zy17, .ref zy18, .int 0, .long 0, .ref zy21, .ref zy22, .int 0, .ref zy24, .ref zy25, .ref zy26, .ref zy27]))] sz) [] t) (va_A [(zy, .inr (11, [.ref zy0, .ref zy1, .int 0, .int 0, .int 0, .ref zy5, .int 0, .int 0, .ref zy8, .ref zy9, .ref zy10, .ref zy11, .ref zy12, .ref zy13, .ref zy14, .long 0, .ref zy16, .ref zy17, .ref zy18, .int 0, .long 0, .ref zy21, .ref zy22, .int 0, .ref zy24, .ref zy25, .ref zy26, .ref zy27]))] sz)) 0 0 (va_A [(zy, .inr (11, [.ref zy0, .ref zy1, .int 0, .int 0, .int 0, .ref zy5, .int 0, .int 0, .ref zy8, .ref zy9, .ref zy10, .ref zy11, .ref zy12, .ref zy13, .ref zy14, .long 0, .ref zy16, .ref zy17, .ref zy18, .int 0, .long 0, .ref zy21, .ref zy22, .int 0, .ref zy24, .ref zy25, .ref zy26, .ref zy27]))] sz) := by
  refine Met.ofW (cc := cX11_restore) (maxL := 2) (ret := (some .int)) (by decide) rfl ?_
  intro p e s m args below meth c s₁ B hml hv
  obtain ⟨rfl, hsz, hP, hK, hD0, hN⟩ := hv
  have hx := B.exec
  have hb := B.bytes
  have hr := B.returns
  have hts := atoms_spec (ws := wsX11_restore) B.pre
  have hown : s.vm.findClass RX11 = some m.cls := findClass_of_methodNamed B.named
  have hlocks := B.notSynchronized
  subst hsz
  have hD := hD0.self (sz := s.heap.size)
  generalize hAe : va_A [(zy, .inr (11, [.ref zy0, .ref zy1, .int 0, .int 0, .int 0, .ref zy5, .int 0, .int 0, .ref zy8, .ref zy9, .ref zy10, .ref zy11, .ref zy12, .ref zy13, .ref zy14, .long 0, .ref zy16, .ref zy17, .ref zy18, .int 0, .long 0, .ref zy21, .ref zy22, .int 0, .ref zy24, .ref zy25, .ref zy26, .ref zy27]))] s.heap.size = A at hD ⊢
  have hA : ∀ q : Nat, s.heap.size ≤ q → A q := fun q h => by rw [← hAe]; exact Or.inr h
  have hS : va_S A s.heap s.heap [] := va_S.rf
  have hP : va_P (dC, dI) vwCl [(zy, .inr (11, [.ref zy0, .ref zy1, .int 0, .int 0, .int 0, .ref zy5, .int 0, .int 0, .ref zy8, .ref zy9, .ref zy10, .ref zy11, .ref zy12, .ref zy13, .ref zy14, .long 0, .ref zy16, .ref zy17, .ref zy18, .int 0, .long 0, .ref zy21, .ref zy22, .int 0, .ref zy24, .ref zy25, .ref zy26, .ref zy27]))] s.heap := hP
  have hl := lv_entry ([.ref zy] : List Value) (n := 2) (Nat.le_of_ble_eq_true rfl)
  rw [lg_entry_eq]
  generalize (lg_sl ([.ref zy] : List Value) ++ List.replicate (2 - (lg_sl ([.ref zy] : List Value)).length) Slot.unset).toArray = ls at hl ⊢
  have hl : lv_has ls 2 [(0, .ref zy)] := hl
  refine lv_aload_n hx hb dX11_restore_0 rfl (lv_at hl 0 rfl) ?_
  refine va_get (D := (dC, dI)) (ci := 11) (v := .int 0) (C := RX11) (T := TX11) (N := 28) hx hb hts (by decide +kernel) hown hK hP 0 rfl rfl 23 (by decide) (hts (.fieldLink RX11 342 "DripStoneModel" "isKept" "Z") (by decide +kernel)) (fun _ h9 => h9) rfl dX11_restore_1 ?_
  refine lv_if_ne (tgt := 10) hx hb dX11_restore_4 (by decide) (fun c_1 => absurd (by decide) c_1) (fun c_1 => ?_)
  refine lv_bipush (v := (-4)) hx hb dX11_restore_7 (by decide) ?_
  have hP9 := hP.sub (ws' := []) [] rfl
  have hD9 := hD.sub (ws' := []) [] (by decide) rfl
  exact W.iret (v := (-4)) hx hb hr (fun t ht hW => ⟨⟨(-4), (), rfl, rfl, ⟨by rw [ht]; exact hP9, va_K.moved hW.alike hK, hD9⟩⟩, hS.F ht⟩) hS.2.2 dX11_restore_9
set_option maxHeartbeats 4000000 in
set_option maxRecDepth 100000 in
theorem c_X11_law (l : Launch) (dC : Nat → ClassId) (dI : Nat → Nat → Nat) (cy : Nat → ClassId) (sz : Nat) (zy : Nat) (zy0 : Nat) (zy1 : Nat) (zy5 : Nat) (zy8 : Nat) (zy9 : Nat) (zy10 : Nat) (zy11 : Nat) (zy12 : Nat) (zy13 : Nat) (zy14 : Nat) (zy16 : Nat) (zy17 : Nat) (zy18 : Nat) (zy21 : Nat) (zy22 : Nat) (zy24 : Nat) (zy25 : Nat) (zy26 : Nat) (zy27 : Nat)  : Met l yX11_law wsX11_law ({ frames := 4, cells := 0, slots := 0, locals := 89 }) (va_Pc [.ref zy] (PRE dC dI cy [(zy, .inr (11, [.ref zy0, .ref zy1, .int 0, .int 0, .int 0, .ref zy5, .int 0, .int 0, .ref zy8, .ref zy9, .ref zy10, .ref zy11, .ref zy12, .ref zy13, .ref zy14, .long 0, .ref zy16, .ref zy17, .ref zy18, .int 0, .long 0, .ref zy21, .ref zy22, .int 0, .ref zy24, .ref zy25, .ref zy26, .ref zy27])), (zy5, .inl (cy 0, 66, .inl (fun _ => 0)))] sz)) (va_Qi (fun (r : Int32) (_ : Unit) => r = (-20)) (fun u t => POST dC dI cy (va_A [(zy, .inr (11, [.ref zy0, .ref zy1, .int 0, .int 0, .int 0, .ref zy5, .int 0, .int 0, .ref zy8, .ref zy9, .ref zy10, .ref zy11, .ref zy12, .ref zy13, .ref zy14, .long 0, .ref zy16, .ref zy17, .ref zy18, .int 0, .long 0, .ref zy21, .ref zy22, .int 0, .ref zy24, .ref zy25, .ref zy26, .ref zy27])), (zy5, .inl (cy 0, 66, .inl (fun _ => 0)))] sz) [] t) (va_A [(zy, .inr (11, [.ref zy0, .ref zy1, .int 0, .int 0, .int 0, .ref zy5, .int 0, .int 0, .ref zy8, .ref zy9, .ref zy10, .ref zy11, .ref zy12, .ref zy13, .ref zy14, .long 0, .ref zy16, .ref zy17, .ref zy18, .int 0, .long 0, .ref zy21, .ref zy22, .int 0, .ref zy24, .ref zy25, .ref zy26, .ref zy27])), (zy5, .inl (cy 0, 66, .inl (fun _ => 0)))] sz)) 0 0 (va_A [(zy, .inr (11, [.ref zy0, .ref zy1, .int 0, .int 0, .int 0, .ref zy5, .int 0, .int 0, .ref zy8, .ref zy9, .ref zy10, .ref zy11, .ref zy12, .ref zy13, .ref zy14, .long 0, .ref zy16, .ref zy17, .ref zy18, .int 0, .long 0, .ref zy21, .ref zy22, .int 0, .ref zy24, .ref zy25, .ref zy26, .ref zy27])), (zy5, .inl (cy 0, 66, .inl (fun _ => 0)))] sz) := by
  refine Met.ofW (cc := cX11_law) (maxL := 3) (ret := (some .int)) (by decide) rfl ?_
  intro p e s m args below meth c s₁ B hml hv
  obtain ⟨rfl, hsz, hP, hK, hD0, hN⟩ := hv
  have hx := B.exec
  have hb := B.bytes
  have hr := B.returns
  have hts := atoms_spec (ws := wsX11_law) B.pre
  have hown : s.vm.findClass RX11 = some m.cls := findClass_of_methodNamed B.named
  have hlocks := B.notSynchronized
  subst hsz
  have hD := hD0.self (sz := s.heap.size)
  generalize hAe : va_A [(zy, .inr (11, [.ref zy0, .ref zy1, .int 0, .int 0, .int 0, .ref zy5, .int 0, .int 0, .ref zy8, .ref zy9, .ref zy10, .ref zy11, .ref zy12, .ref zy13, .ref zy14, .long 0, .ref zy16, .ref zy17, .ref zy18, .int 0, .long 0, .ref zy21, .ref zy22, .int 0, .ref zy24, .ref zy25, .ref zy26, .ref zy27])), (zy5, .inl (cy 0, 66, .inl (fun _ => 0)))] s.heap.size = A at hD ⊢
  have hA : ∀ q : Nat, s.heap.size ≤ q → A q := fun q h => by rw [← hAe]; exact Or.inr h
  have hS : va_S A s.heap s.heap [] := va_S.rf
  have hP : va_P (dC, dI) vwCl [(zy, .inr (11, [.ref zy0, .ref zy1, .int 0, .int 0, .int 0, .ref zy5, .int 0, .int 0, .ref zy8, .ref zy9, .ref zy10, .ref zy11, .ref zy12, .ref zy13, .ref zy14, .long 0, .ref zy16, .ref zy17, .ref zy18, .int 0, .long 0, .ref zy21, .ref zy22, .int 0, .ref zy24, .ref zy25, .ref zy26, .ref zy27])), (zy5, .inl (cy 0, 66, .inl (fun _ => 0)))] s.heap := hP
  have hl := lv_entry ([.ref zy] : List Value) (n := 3) (Nat.le_of_ble_eq_true rfl)
  rw [lg_entry_eq]
  generalize (lg_sl ([.ref zy] : List Value) ++ List.replicate (3 - (lg_sl ([.ref zy] : List Value)).length) Slot.unset).toArray = ls at hl ⊢
  have hl : lv_has ls 3 [(0, .ref zy)] := hl
  refine lv_aload_n hx hb dX11_law_0 rfl (lv_at hl 0 rfl) ?_
  refine cj_i (wc := [(zy, .inr (11, [.ref zy0, .ref zy1, .int 0, .int 0, .int 0, .ref zy5, .int 0, .int 0, .ref zy8, .ref zy9, .ref zy10, .ref zy11, .ref zy12, .ref zy13, .ref zy14, .long 0, .ref zy16, .ref zy17, .ref zy18, .int 0, .long 0, .ref zy21, .ref zy22, .int 0, .ref zy24, .ref zy25, .ref zy26, .ref zy27])), (zy5, .inl (cy 0, 66, .inl (fun _ => 0)))]) (wr := []) (w1 := fun (_ : Unit) => [(zy, .inr (11, [.ref zy0, .ref zy1, .int 0, .int 0, .int 0, .ref zy5, .int 0, .int 0, .ref zy8, .ref zy9, .ref zy10, .ref zy11, .ref zy12, .ref zy13, .ref zy14, .long 0, .ref zy16, .ref zy17, .ref zy18, .int 0, .long 0, .ref zy21, .ref zy22, .int 0, .ref zy24, .ref zy25, .ref zy26, .ref zy27]))]) (va_runV (As := []) (rest := []) ⟨hx, hb, hml, hown, hts⟩ (c_X11_readLaw l dC dI cy s.heap.size zy zy0 zy1 zy5 zy8 zy9 zy10 zy11 zy12 zy13 zy14 zy16 zy17 zy18 zy21 zy22 zy24 zy25 zy26 zy27) (cwV 0 hts gX11_law_X11_readLaw rfl rfl rfl (by decide +kernel) ⟨(Nat.le_of_ble_eq_true rfl), (Nat.le_of_ble_eq_true rfl)⟩) (PRE.v (hP.sub [0, 1] rfl) hK (hD.sub [0, 1] (by decide) rfl) hN (va_recv hK hP (ci := 11) (q0 := 0) rfl rfl)) rfl rfl hl.1 rfl (lv_room (Nat.le_of_ble_eq_true rfl)) dX11_law_1 ⟨(Nat.le_of_ble_eq_true rfl), (Nat.le_of_ble_eq_true rfl)⟩) hP hD hS hA [0, 1] [] rfl rfl rfl (by decide) (fun r_2 u_1 H locs hw_3 hP hD hS => ?_)
  have hP : va_P (dC, dI) vwCl [(zy, .inr (11, [.ref zy0, .ref zy1, .int 0, .int 0, .int 0, .ref zy5, .int 0, .int 0, .ref zy8, .ref zy9, .ref zy10, .ref zy11, .ref zy12, .ref zy13, .ref zy14, .long 0, .ref zy16, .ref zy17, .ref zy18, .int 0, .long 0, .ref zy21, .ref zy22, .int 0, .ref zy24, .ref zy25, .ref zy26, .ref zy27]))] H := hP
  have hD : va_D A [(zy, .inr (11, [.ref zy0, .ref zy1, .int 0, .int 0, .int 0, .ref zy5, .int 0, .int 0, .ref zy8, .ref zy9, .ref zy10, .ref zy11, .ref zy12, .ref zy13, .ref zy14, .long 0, .ref zy16, .ref zy17, .ref zy18, .int 0, .long 0, .ref zy21, .ref zy22, .int 0, .ref zy24, .ref zy25, .ref zy26, .ref zy27]))] := hD
  obtain rfl : r_2 = 0 := hw_3
  refine lv_istore_n (lv' := [(1, .int 0), (0, .ref zy)]) hx hb dX11_law_4 rfl hl (by decide) rfl (fun ls hl => ?_)
  refine lv_aload_n hx hb dX11_law_5 rfl (lv_at hl 1 rfl) ?_
  refine lv_iconst (v := 0) hx hb dX11_law_6 (by decide) ?_
  refine va_put (D := (dC, dI)) (ci := 11) (v := .int 0) (ty := .int) (C := RX11) (T := TX11) (N := 28) hx hb hts (by decide +kernel) tyX11 tyX11_ok nmX11 hown hK hP hD hS 0 rfl rfl 2 (by decide) (hts (.fieldLink RX11 112 "DripStoneModel" "taped" "I") (by decide +kernel)) (fun _ h9 => h9) rfl (by decide +kernel) rfl rfl (Nat.le_of_ble_eq_true rfl) dX11_law_7 (fun H locs hP hD hS => ?_)
  have hP : va_P (dC, dI) vwCl [(zy, .inr (11, [.ref zy0, .ref zy1, .int 0, .int 0, .int 0, .ref zy5, .int 0, .int 0, .ref zy8, .ref zy9, .ref zy10, .ref zy11, .ref zy12, .ref zy13, .ref zy14, .long 0, .ref zy16, .ref zy17, .ref zy18, .int 0, .long 0, .ref zy21, .ref zy22, .int 0, .ref zy24, .ref zy25, .ref zy26, .ref zy27]))] H := hP
  have hD : va_D A [(zy, .inr (11, [.ref zy0, .ref zy1, .int 0, .int 0, .int 0, .ref zy5, .int 0, .int 0, .ref zy8, .ref zy9, .ref zy10, .ref zy11, .ref zy12, .ref zy13, .ref zy14, .long 0, .ref zy16, .ref zy17, .ref zy18, .int 0, .long 0, .ref zy21, .ref zy22, .int 0, .ref zy24, .ref zy25, .ref zy26, .ref zy27]))] := hD
  refine lv_iload_n hx hb dX11_law_10 rfl (lv_at hl 0 rfl) ?_
  refine lv_if_ne (tgt := 22) hx hb dX11_law_11 (by decide) (fun c_4 => absurd (by decide) c_4) (fun c_4 => ?_)
  refine lv_bipush (v := (-20)) hx hb dX11_law_14 (by decide) ?_
  refine lv_aload_n hx hb dX11_law_16 rfl (lv_at hl 1 rfl) ?_
  refine va_get (D := (dC, dI)) (ci := 11) (v := .int 0) (C := RX11) (T := TX11) (N := 28) hx hb hts (by decide +kernel) hown hK hP 0 rfl rfl 3 (by decide) (hts (.fieldLink RX11 116 "DripStoneModel" "at" "I") (by decide +kernel)) (fun _ h9 => h9) rfl dX11_law_17 ?_
  refine lv_isub hx hb dX11_law_20 ?_
  refine lv_topi (fun v_5 ev_5 => ?_)
  obtain rfl : v_5 = ((-20) : Int32) := ev_5.trans (by decide)
  have hP9 := hP.sub (ws' := []) [] rfl
  have hD9 := hD.sub (ws' := []) [] (by decide) rfl
  exact W.iret (v := (-20)) hx hb hr (fun t ht hW => ⟨⟨(-20), (), rfl, rfl, ⟨by rw [ht]; exact hP9, va_K.moved hW.alike hK, hD9⟩⟩, hS.F ht⟩) hS.2.2 dX11_law_21
set_option maxHeartbeats 4000000 in
set_option maxRecDepth 100000 in
theorem c_X11_claim (l : Launch) (dC : Nat → ClassId) (dI : Nat → Nat → Nat) (cy : Nat → ClassId) (sz : Nat) (zy : Nat) (zy0 : Nat) (zy1 : Nat) (zy5 : Nat) (zy8 : Nat) (zy9 : Nat) (zy10 : Nat) (zy11 : Nat) (zy12 : Nat) (zy13 : Nat) (zy14 : Nat) (zy16 : Nat) (zy17 : Nat) (zy18 : Nat) (zy21 : Nat) (zy22 : Nat) (zy24 : Nat) (zy25 : Nat) (zy26 : Nat) (zy27 : Nat)  : Met l yX11_claim wsX11_claim ({ frames := 4, cells := 0, slots := 0, locals := 87 }) (va_Pc [.ref zy] (PRE dC dI cy [(zy, .inr (11, [.ref zy0, .ref zy1, .int 0, .int 0, .int 0, .ref zy5, .int 0, .int 0, .ref zy8, .ref zy9, .ref zy10, .ref zy11, .ref zy12, .ref zy13, .ref zy14, .long 0, .ref zy16, .ref zy17, .ref zy18, .int 0, .long 0, .ref zy21, .ref zy22, .int 0, .ref zy24, .ref zy25, .ref zy26, .ref zy27])), (zy5, .inl (cy 0, 66, .inl (fun _ => 0)))] sz)) (va_Qi (fun (r : Int32) (_ : Unit) => r = (-20)) (fun u t => POST dC dI cy (va_A [(zy, .inr (11, [.ref zy0, .ref zy1, .int 0, .int 0, .int 0, .ref zy5, .int 0, .int 0, .ref zy8, .ref zy9, .ref zy10, .ref zy11, .ref zy12, .ref zy13, .ref zy14, .long 0, .ref zy16, .ref zy17, .ref zy18, .int 0, .long 0, .ref zy21, .ref zy22, .int 0, .ref zy24, .ref zy25, .ref zy26, .ref zy27])), (zy5, .inl (cy 0, 66, .inl (fun _ => 0)))] sz) [] t) (va_A [(zy, .inr (11, [.ref zy0, .ref zy1, .int 0, .int 0, .int 0, .ref zy5, .int 0, .int 0, .ref zy8, .ref zy9, .ref zy10, .ref zy11, .ref zy12, .ref zy13, .ref zy14, .long 0, .ref zy16, .ref zy17, .ref zy18, .int 0, .long 0, .ref zy21, .ref zy22, .int 0, .ref zy24, .ref zy25, .ref zy26, .ref zy27])), (zy5, .inl (cy 0, 66, .inl (fun _ => 0)))] sz)) 0 0 (va_A [(zy, .inr (11, [.ref zy0, .ref zy1, .int 0, .int 0, .int 0, .ref zy5, .int 0, .int 0, .ref zy8, .ref zy9, .ref zy10, .ref zy11, .ref zy12, .ref zy13, .ref zy14, .long 0, .ref zy16, .ref zy17, .ref zy18, .int 0, .long 0, .ref zy21, .ref zy22, .int 0, .ref zy24, .ref zy25, .ref zy26, .ref zy27])), (zy5, .inl (cy 0, 66, .inl (fun _ => 0)))] sz) := by
  refine Met.ofW (cc := cX11_claim) (maxL := 3) (ret := (some .int)) (by decide) rfl ?_
  intro p e s m args below meth c s₁ B hml hv
  obtain ⟨rfl, hsz, hP, hK, hD0, hN⟩ := hv
  have hx := B.exec
  have hb := B.bytes
  have hr := B.returns
  have hts := atoms_spec (ws := wsX11_claim) B.pre
  have hown : s.vm.findClass RX11 = some m.cls := findClass_of_methodNamed B.named
  have hlocks := B.notSynchronized
  subst hsz
  have hD := hD0.self (sz := s.heap.size)
  generalize hAe : va_A [(zy, .inr (11, [.ref zy0, .ref zy1, .int 0, .int 0, .int 0, .ref zy5, .int 0, .int 0, .ref zy8, .ref zy9, .ref zy10, .ref zy11, .ref zy12, .ref zy13, .ref zy14, .long 0, .ref zy16, .ref zy17, .ref zy18, .int 0, .long 0, .ref zy21, .ref zy22, .int 0, .ref zy24, .ref zy25, .ref zy26, .ref zy27])), (zy5, .inl (cy 0, 66, .inl (fun _ => 0)))] s.heap.size = A at hD ⊢
  have hA : ∀ q : Nat, s.heap.size ≤ q → A q := fun q h => by rw [← hAe]; exact Or.inr h
  have hS : va_S A s.heap s.heap [] := va_S.rf
  have hP : va_P (dC, dI) vwCl [(zy, .inr (11, [.ref zy0, .ref zy1, .int 0, .int 0, .int 0, .ref zy5, .int 0, .int 0, .ref zy8, .ref zy9, .ref zy10, .ref zy11, .ref zy12, .ref zy13, .ref zy14, .long 0, .ref zy16, .ref zy17, .ref zy18, .int 0, .long 0, .ref zy21, .ref zy22, .int 0, .ref zy24, .ref zy25, .ref zy26, .ref zy27])), (zy5, .inl (cy 0, 66, .inl (fun _ => 0)))] s.heap := hP
  have hl := lv_entry ([.ref zy] : List Value) (n := 3) (Nat.le_of_ble_eq_true rfl)
  rw [lg_entry_eq]
  generalize (lg_sl ([.ref zy] : List Value) ++ List.replicate (3 - (lg_sl ([.ref zy] : List Value)).length) Slot.unset).toArray = ls at hl ⊢
  have hl : lv_has ls 3 [(0, .ref zy)] := hl
  refine lv_aload_n hx hb dX11_claim_0 rfl (lv_at hl 0 rfl) ?_
  refine cj_i (wc := [(zy, .inr (11, [.ref zy0, .ref zy1, .int 0, .int 0, .int 0, .ref zy5, .int 0, .int 0, .ref zy8, .ref zy9, .ref zy10, .ref zy11, .ref zy12, .ref zy13, .ref zy14, .long 0, .ref zy16, .ref zy17, .ref zy18, .int 0, .long 0, .ref zy21, .ref zy22, .int 0, .ref zy24, .ref zy25, .ref zy26, .ref zy27])), (zy5, .inl (cy 0, 66, .inl (fun _ => 0)))]) (wr := []) (w1 := fun (_ : Unit) => [(zy, .inr (11, [.ref zy0, .ref zy1, .int 0, .int 0, .int 0, .ref zy5, .int 0, .int 0, .ref zy8, .ref zy9, .ref zy10, .ref zy11, .ref zy12, .ref zy13, .ref zy14, .long 0, .ref zy16, .ref zy17, .ref zy18, .int 0, .long 0, .ref zy21, .ref zy22, .int 0, .ref zy24, .ref zy25, .ref zy26, .ref zy27]))]) (va_runV (As := []) (rest := []) ⟨hx, hb, hml, hown, hts⟩ (c_X11_readClaim l dC dI cy s.heap.size zy zy0 zy1 zy5 zy8 zy9 zy10 zy11 zy12 zy13 zy14 zy16 zy17 zy18 zy21 zy22 zy24 zy25 zy26 zy27) (cwV 0 hts gX11_claim_X11_readClaim rfl rfl rfl (by decide +kernel) ⟨(Nat.le_of_ble_eq_true rfl), (Nat.le_of_ble_eq_true rfl)⟩) (PRE.v (hP.sub [0, 1] rfl) hK (hD.sub [0, 1] (by decide) rfl) hN (va_recv hK hP (ci := 11) (q0 := 0) rfl rfl)) rfl rfl hl.1 rfl (lv_room (Nat.le_of_ble_eq_true rfl)) dX11_claim_1 ⟨(Nat.le_of_ble_eq_true rfl), (Nat.le_of_ble_eq_true rfl)⟩) hP hD hS hA [0, 1] [] rfl rfl rfl (by decide) (fun r_2 u_1 H locs hw_3 hP hD hS => ?_)
  have hP : va_P (dC, dI) vwCl [(zy, .inr (11, [.ref zy0, .ref zy1, .int 0, .int 0, .int 0, .ref zy5, .int 0, .int 0, .ref zy8, .ref zy9, .ref zy10, .ref zy11, .ref zy12, .ref zy13, .ref zy14, .long 0, .ref zy16, .ref zy17, .ref zy18, .int 0, .long 0, .ref zy21, .ref zy22, .int 0, .ref zy24, .ref zy25, .ref zy26, .ref zy27]))] H := hP
  have hD : va_D A [(zy, .inr (11, [.ref zy0, .ref zy1, .int 0, .int 0, .int 0, .ref zy5, .int 0, .int 0, .ref zy8, .ref zy9, .ref zy10, .ref zy11, .ref zy12, .ref zy13, .ref zy14, .long 0, .ref zy16, .ref zy17, .ref zy18, .int 0, .long 0, .ref zy21, .ref zy22, .int 0, .ref zy24, .ref zy25, .ref zy26, .ref zy27]))] := hD
  obtain rfl : r_2 = 0 := hw_3
  refine lv_istore_n (lv' := [(1, .int 0), (0, .ref zy)]) hx hb dX11_claim_4 rfl hl (by decide) rfl (fun ls hl => ?_)
  refine lv_aload_n hx hb dX11_claim_5 rfl (lv_at hl 1 rfl) ?_
  refine lv_iconst (v := 0) hx hb dX11_claim_6 (by decide) ?_
  refine va_put (D := (dC, dI)) (ci := 11) (v := .int 0) (ty := .int) (C := RX11) (T := TX11) (N := 28) hx hb hts (by decide +kernel) tyX11 tyX11_ok nmX11 hown hK hP hD hS 0 rfl rfl 2 (by decide) (hts (.fieldLink RX11 112 "DripStoneModel" "taped" "I") (by decide +kernel)) (fun _ h9 => h9) rfl (by decide +kernel) rfl rfl (Nat.le_of_ble_eq_true rfl) dX11_claim_7 (fun H locs hP hD hS => ?_)
  have hP : va_P (dC, dI) vwCl [(zy, .inr (11, [.ref zy0, .ref zy1, .int 0, .int 0, .int 0, .ref zy5, .int 0, .int 0, .ref zy8, .ref zy9, .ref zy10, .ref zy11, .ref zy12, .ref zy13, .ref zy14, .long 0, .ref zy16, .ref zy17, .ref zy18, .int 0, .long 0, .ref zy21, .ref zy22, .int 0, .ref zy24, .ref zy25, .ref zy26, .ref zy27]))] H := hP
  have hD : va_D A [(zy, .inr (11, [.ref zy0, .ref zy1, .int 0, .int 0, .int 0, .ref zy5, .int 0, .int 0, .ref zy8, .ref zy9, .ref zy10, .ref zy11, .ref zy12, .ref zy13, .ref zy14, .long 0, .ref zy16, .ref zy17, .ref zy18, .int 0, .long 0, .ref zy21, .ref zy22, .int 0, .ref zy24, .ref zy25, .ref zy26, .ref zy27]))] := hD
  refine lv_iload_n hx hb dX11_claim_10 rfl (lv_at hl 0 rfl) ?_
  refine lv_if_ne (tgt := 22) hx hb dX11_claim_11 (by decide) (fun c_4 => absurd (by decide) c_4) (fun c_4 => ?_)
  refine lv_bipush (v := (-20)) hx hb dX11_claim_14 (by decide) ?_
  refine lv_aload_n hx hb dX11_claim_16 rfl (lv_at hl 1 rfl) ?_
  refine va_get (D := (dC, dI)) (ci := 11) (v := .int 0) (C := RX11) (T := TX11) (N := 28) hx hb hts (by decide +kernel) hown hK hP 0 rfl rfl 3 (by decide) (hts (.fieldLink RX11 116 "DripStoneModel" "at" "I") (by decide +kernel)) (fun _ h9 => h9) rfl dX11_claim_17 ?_
  refine lv_isub hx hb dX11_claim_20 ?_
  refine lv_topi (fun v_5 ev_5 => ?_)
  obtain rfl : v_5 = ((-20) : Int32) := ev_5.trans (by decide)
  have hP9 := hP.sub (ws' := []) [] rfl
  have hD9 := hD.sub (ws' := []) [] (by decide) rfl
  exact W.iret (v := (-20)) hx hb hr (fun t ht hW => ⟨⟨(-20), (), rfl, rfl, ⟨by rw [ht]; exact hP9, va_K.moved hW.alike hK, hD9⟩⟩, hS.F ht⟩) hS.2.2 dX11_claim_21
