set_option maxHeartbeats 4000000 in
set_option maxRecDepth 100000 in
theorem c_X10_isThing (l : Launch) (dC : Nat → ClassId) (dI : Nat → Nat → Nat) (cy : Nat → ClassId) (sz : Nat) (zx : Nat) (ziv : Int32) (ziw : Int32) (zn : Nat) (zk : Nat) (zr : Nat) (zl : Nat) (zc : Nat) (zs : Nat) (zw : Nat) (zt : Nat) (zm : Nat) (znh : Nat) (znl : Nat) (znc : Nat) (znd : Nat) (znm : Nat) (zno : Nat) (zni : Nat) (znc0 : Nat) (znc1 : Nat) (znc0k : Nat) (znc0w : Nat) (znc0y : Nat) (znc0s : Nat) (znc0f : Nat) (znc0l : Nat) (znc0z : Nat) (znc1k : Nat) (znc1w : Nat) (znc1y : Nat) (znc1s : Nat) (znc1f : Nat) (znc1l : Nat) (znc1z : Nat)  : Met l yX10_isThing wsX10_isThing ({ frames := 2, cells := 0, slots := 0, locals := 42 }) (va_Pc [.ref zx, .int ziv, .int ziw] (PRE dC dI cy [(zx, .inr (10, [.ref zn, .ref zk, .ref zr, .ref zl, .ref zc, .ref zs, .ref zw, .ref zt, .ref zm, .int 0])), (zn, .inr (8, [.ref znh, .ref znl, .ref znc, .ref znd, .ref znm, .ref zno, .ref zni, .int 0, .int 0])), (znc, .inl (cy 3, 2, .inr (.inr (.inr (.inr (va_up (va_up (fun _ => none) (0 : Int32).toNatClampNeg (some znc0)) (1 : Int32).toNatClampNeg (some znc1))))))), (znc0, .inr (0, [.ref znc0k, .ref znc0w, .ref znc0y, .ref znc0s, .ref znc0f, .ref znc0l, .ref znc0z, .int 0, .int 0, .int 2, .int 0])), (znc1, .inr (0, [.ref znc1k, .ref znc1w, .ref znc1y, .ref znc1s, .ref znc1f, .ref znc1l, .ref znc1z, .int 0, .int 0, .int 2, .int 0]))] sz)) (va_Qi (fun (r : Int32) (_ : Unit) => r = 0) (fun u t => POST dC dI cy (va_A [(zx, .inr (10, [.ref zn, .ref zk, .ref zr, .ref zl, .ref zc, .ref zs, .ref zw, .ref zt, .ref zm, .int 0])), (zn, .inr (8, [.ref znh, .ref znl, .ref znc, .ref znd, .ref znm, .ref zno, .ref zni, .int 0, .int 0])), (znc, .inl (cy 3, 2, .inr (.inr (.inr (.inr (va_up (va_up (fun _ => none) (0 : Int32).toNatClampNeg (some znc0)) (1 : Int32).toNatClampNeg (some znc1))))))), (znc0, .inr (0, [.ref znc0k, .ref znc0w, .ref znc0y, .ref znc0s, .ref znc0f, .ref znc0l, .ref znc0z, .int 0, .int 0, .int 2, .int 0])), (znc1, .inr (0, [.ref znc1k, .ref znc1w, .ref znc1y, .ref znc1s, .ref znc1f, .ref znc1l, .ref znc1z, .int 0, .int 0, .int 2, .int 0]))] sz) [] t) (va_A [(zx, .inr (10, [.ref zn, .ref zk, .ref zr, .ref zl, .ref zc, .ref zs, .ref zw, .ref zt, .ref zm, .int 0])), (zn, .inr (8, [.ref znh, .ref znl, .ref znc, .ref znd, .ref znm, .ref zno, .ref zni, .int 0, .int 0])), (znc, .inl (cy 3, 2, .inr (.inr (.inr (.inr (va_up (va_up (fun _ => none) (0 : Int32).toNatClampNeg (some znc0)) (1 : Int32).toNatClampNeg (some znc1))))))), (znc0, .inr (0, [.ref znc0k, .ref znc0w, .ref znc0y, .ref znc0s, .ref znc0f, .ref znc0l, .ref znc0z, .int 0, .int 0, .int 2, .int 0])), (znc1, .inr (0, [.ref znc1k, .ref znc1w, .ref znc1y, .ref znc1s, .ref znc1f, .ref znc1l, .ref znc1z, .int 0, .int 0, .int 2, .int 0]))] sz)) 0 0 (va_A [(zx, .inr (10, [.ref zn, .ref zk, .ref zr, .ref zl, .ref zc, .ref zs, .ref zw, .ref zt, .ref zm, .int 0])), (zn, .inr (8, [.ref znh, .ref znl, .ref znc, .ref znd, .ref znm, .ref zno, .ref zni, .int 0, .int 0])), (znc, .inl (cy 3, 2, .inr (.inr (.inr (.inr (va_up (va_up (fun _ => none) (0 : Int32).toNatClampNeg (some znc0)) (1 : Int32).toNatClampNeg (some znc1))))))), (znc0, .inr (0, [.ref znc0k, .ref znc0w, .ref znc0y, .ref znc0s, .ref znc0f, .ref znc0l, .ref znc0z, .int 0, .int 0, .int 2, .int 0])), (znc1, .inr (0, [.ref znc1k, .ref znc1w, .ref znc1y, .ref znc1s, .ref znc1f, .ref znc1l, .ref znc1z, .int 0, .int 0, .int 2, .int 0]))] sz) := by
  refine Met.ofW (cc := cX10_isThing) (maxL := 3) (ret := (some .boolean)) (by decide) rfl ?_
  intro p e s m args below meth c s₁ B hml hv
  obtain ⟨rfl, hsz, hP, hK, hD0, hN⟩ := hv
  have hx := B.exec
  have hb := B.bytes
  have hr := B.returns
  have hts := atoms_spec (ws := wsX10_isThing) B.pre
  have hown : s.vm.findClass RX10 = some m.cls := findClass_of_methodNamed B.named
  have hlocks := B.notSynchronized
  subst hsz
  have hD := hD0.self (sz := s.heap.size)
  generalize hAe : va_A [(zx, .inr (10, [.ref zn, .ref zk, .ref zr, .ref zl, .ref zc, .ref zs, .ref zw, .ref zt, .ref zm, .int 0])), (zn, .inr (8, [.ref znh, .ref znl, .ref znc, .ref znd, .ref znm, .ref zno, .ref zni, .int 0, .int 0])), (znc, .inl (cy 3, 2, .inr (.inr (.inr (.inr (va_up (va_up (fun _ => none) (0 : Int32).toNatClampNeg (some znc0)) (1 : Int32).toNatClampNeg (some znc1))))))), (znc0, .inr (0, [.ref znc0k, .ref znc0w, .ref znc0y, .ref znc0s, .ref znc0f, .ref znc0l, .ref znc0z, .int 0, .int 0, .int 2, .int 0])), (znc1, .inr (0, [.ref znc1k, .ref znc1w, .ref znc1y, .ref znc1s, .ref znc1f, .ref znc1l, .ref znc1z, .int 0, .int 0, .int 2, .int 0]))] s.heap.size = A at hD ⊢
  have hA : ∀ q : Nat, s.heap.size ≤ q → A q := fun q h => by rw [← hAe]; exact Or.inr h
  have hS : va_S A s.heap s.heap [] := va_S.rf
  have hP : va_P (dC, dI) vwCl [(zx, .inr (10, [.ref zn, .ref zk, .ref zr, .ref zl, .ref zc, .ref zs, .ref zw, .ref zt, .ref zm, .int 0])), (zn, .inr (8, [.ref znh, .ref znl, .ref znc, .ref znd, .ref znm, .ref zno, .ref zni, .int 0, .int 0])), (znc, .inl (cy 3, 2, .inr (.inr (.inr (.inr (va_up (va_up (fun _ => none) (0 : Int32).toNatClampNeg (some znc0)) (1 : Int32).toNatClampNeg (some znc1))))))), (znc0, .inr (0, [.ref znc0k, .ref znc0w, .ref znc0y, .ref znc0s, .ref znc0f, .ref znc0l, .ref znc0z, .int 0, .int 0, .int 2, .int 0])), (znc1, .inr (0, [.ref znc1k, .ref znc1w, .ref znc1y, .ref znc1s, .ref znc1f, .ref znc1l, .ref znc1z, .int 0, .int 0, .int 2, .int 0]))] s.heap := hP
  have hl := lv_entry ([.ref zx, .int ziv, .int ziw] : List Value) (n := 3) (Nat.le_of_ble_eq_true rfl)
  rw [lg_entry_eq]
  generalize (lg_sl ([.ref zx, .int ziv, .int ziw] : List Value) ++ List.replicate (3 - (lg_sl ([.ref zx, .int ziv, .int ziw] : List Value)).length) Slot.unset).toArray = ls at hl ⊢
  have hl : lv_has ls 3 [(0, .ref zx), (1, .int ziv), (2, .int ziw)] := hl
  refine lv_iload_n hx hb dX10_isThing_0 rfl (lv_at hl 1 rfl) ?_
  refine cj_i (wc := []) (wr := [(zx, .inr (10, [.ref zn, .ref zk, .ref zr, .ref zl, .ref zc, .ref zs, .ref zw, .ref zt, .ref zm, .int 0])), (zn, .inr (8, [.ref znh, .ref znl, .ref znc, .ref znd, .ref znm, .ref zno, .ref zni, .int 0, .int 0])), (znc, .inl (cy 3, 2, .inr (.inr (.inr (.inr (va_up (va_up (fun _ => none) (0 : Int32).toNatClampNeg (some znc0)) (1 : Int32).toNatClampNeg (some znc1))))))), (znc0, .inr (0, [.ref znc0k, .ref znc0w, .ref znc0y, .ref znc0s, .ref znc0f, .ref znc0l, .ref znc0z, .int 0, .int 0, .int 2, .int 0])), (znc1, .inr (0, [.ref znc1k, .ref znc1w, .ref znc1y, .ref znc1s, .ref znc1f, .ref znc1l, .ref znc1z, .int 0, .int 0, .int 2, .int 0]))]) (w1 := fun (_ : Unit) => []) (va_runS (As := [.int ziv]) (rest := []) ⟨hx, hb, hml, hown, hts⟩ (c_X10_isCandle l dC dI cy s.heap.size ziv) (va_cwS 1 hts gX10_isThing_X10_isCandle rfl rfl rfl (by decide +kernel) ⟨(Nat.le_of_ble_eq_true rfl), (Nat.le_of_ble_eq_true rfl)⟩) (PRE.s (hP.sub [] rfl) hK (hD.sub [] (by decide) rfl) hN) rfl rfl hl.1 rfl (lv_room (Nat.le_of_ble_eq_true rfl)) dX10_isThing_1 ⟨(Nat.le_of_ble_eq_true rfl), (Nat.le_of_ble_eq_true rfl)⟩) hP hD hS hA [] [0, 1, 2, 3, 4] rfl rfl rfl (by decide) (fun r_2 u_1 H locs hw_3 hP hD hS => ?_)
  have hP : va_P (dC, dI) vwCl [(zx, .inr (10, [.ref zn, .ref zk, .ref zr, .ref zl, .ref zc, .ref zs, .ref zw, .ref zt, .ref zm, .int 0])), (zn, .inr (8, [.ref znh, .ref znl, .ref znc, .ref znd, .ref znm, .ref zno, .ref zni, .int 0, .int 0])), (znc, .inl (cy 3, 2, .inr (.inr (.inr (.inr (va_up (va_up (fun _ => none) (0 : Int32).toNatClampNeg (some znc0)) (1 : Int32).toNatClampNeg (some znc1))))))), (znc0, .inr (0, [.ref znc0k, .ref znc0w, .ref znc0y, .ref znc0s, .ref znc0f, .ref znc0l, .ref znc0z, .int 0, .int 0, .int 2, .int 0])), (znc1, .inr (0, [.ref znc1k, .ref znc1w, .ref znc1y, .ref znc1s, .ref znc1f, .ref znc1l, .ref znc1z, .int 0, .int 0, .int 2, .int 0]))] H := hP
  have hD : va_D A [(zx, .inr (10, [.ref zn, .ref zk, .ref zr, .ref zl, .ref zc, .ref zs, .ref zw, .ref zt, .ref zm, .int 0])), (zn, .inr (8, [.ref znh, .ref znl, .ref znc, .ref znd, .ref znm, .ref zno, .ref zni, .int 0, .int 0])), (znc, .inl (cy 3, 2, .inr (.inr (.inr (.inr (va_up (va_up (fun _ => none) (0 : Int32).toNatClampNeg (some znc0)) (1 : Int32).toNatClampNeg (some znc1))))))), (znc0, .inr (0, [.ref znc0k, .ref znc0w, .ref znc0y, .ref znc0s, .ref znc0f, .ref znc0l, .ref znc0z, .int 0, .int 0, .int 2, .int 0])), (znc1, .inr (0, [.ref znc1k, .ref znc1w, .ref znc1y, .ref znc1s, .ref znc1f, .ref znc1l, .ref znc1z, .int 0, .int 0, .int 2, .int 0]))] := hD
  have hw_3 : r_2 = if 0 ≤ ziv.toInt ∧ ziv.toInt ≤ 1 then 1 else 0 := hw_3
  refine lv_if_eq (tgt := 33) hx hb dX10_isThing_4 (by decide) (fun c_4 => ?_) (fun c_4 => ?_)
  · have f_5 : ¬ (0 ≤ ziv.toInt ∧ ziv.toInt ≤ 1) := bz_0 hw_3 c_4
    refine lv_iconst (v := 0) hx hb dX10_isThing_33 (by decide) ?_
    have hP9 := hP.sub (ws' := []) [] rfl
    have hD9 := hD.sub (ws' := []) [] (by decide) rfl
    exact W.zret (v := 0) hx hb hr rfl (fun t ht hW => ⟨⟨0, (), rfl, rfl, ⟨by rw [ht]; exact hP9, va_K.moved hW.alike hK, hD9⟩⟩, hS.F ht⟩) hS.2.2 dX10_isThing_34
  · have f_5 : 0 ≤ ziv.toInt ∧ ziv.toInt ≤ 1 := bz_1 hw_3 c_4
    refine lv_iload_n hx hb dX10_isThing_7 rfl (lv_at hl 2 rfl) ?_
    refine lv_iconst (v := 0) hx hb dX10_isThing_8 (by decide) ?_
    refine lv_aload_n hx hb dX10_isThing_9 rfl (lv_at hl 0 rfl) ?_
    refine va_get (D := (dC, dI)) (ci := 10) (v := .ref zn) (C := RX10) (T := TX10) (N := 10) hx hb hts (by decide +kernel) hown hK hP 0 rfl rfl 0 (by decide) (hts (.fieldLink RX10 12 "DripStone" "now" "LDripStone$State;") (by decide +kernel)) (fun _ h9 => h9) rfl dX10_isThing_10 ?_
    refine va_get (D := (dC, dI)) (ci := 8) (v := .ref znc) (C := RX8) (T := TX8) (N := 9) hx hb hts (by decide +kernel) hown hK hP 1 rfl rfl 2 (by decide) (hts (.fieldLink RX10 147 "DripStone$State" "candles" "[LDripStone$Candle;") (by decide +kernel)) (fun _ h9 => h9) rfl dX10_isThing_13 ?_
    refine lv_iload_n hx hb dX10_isThing_16 rfl (lv_at hl 1 rfl) ?_
    have k_6 : ziv = 0 ∨ ziv = 1 := ix_2 (by omega) (by omega)
    rcases k_6 with rfl | rfl
    · have zk_6_0 : (0 : Int32).toInt = 0 := by decide
      refine va_aldq hx hb hK hP 2 3 rfl rfl (vp_in_iff.mpr ⟨by decide, by decide⟩) dX10_isThing_17 ?_
      refine W.eq (g2 := F0 m 18 ls [.ref znc0, .int 0, .int ziw]) rfl ?_
      refine va_get (D := (dC, dI)) (ci := 0) (v := .int 0) (C := RX0) (T := TX0) (N := 11) hx hb hts (by decide +kernel) hown hK hP 3 rfl rfl 7 (by decide) (hts (.fieldLink RX10 167 "DripStone$Candle" "things" "I") (by decide +kernel)) (fun _ h9 => h9) rfl dX10_isThing_18 ?_
      refine lv_iconst (v := 1) hx hb dX10_isThing_21 (by decide) ?_
      refine lv_isub hx hb dX10_isThing_22 ?_
      refine lv_topi (fun v_7 ev_7 => ?_)
      obtain rfl : v_7 = ((-1) : Int32) := ev_7.trans (by decide)
      refine cj_i (wc := []) (wr := [(zx, .inr (10, [.ref zn, .ref zk, .ref zr, .ref zl, .ref zc, .ref zs, .ref zw, .ref zt, .ref zm, .int 0])), (zn, .inr (8, [.ref znh, .ref znl, .ref znc, .ref znd, .ref znm, .ref zno, .ref zni, .int 0, .int 0])), (znc, .inl (cy 3, 2, .inr (.inr (.inr (.inr (va_up (va_up (fun _ => none) (0 : Int32).toNatClampNeg (some znc0)) (1 : Int32).toNatClampNeg (some znc1))))))), (znc0, .inr (0, [.ref znc0k, .ref znc0w, .ref znc0y, .ref znc0s, .ref znc0f, .ref znc0l, .ref znc0z, .int 0, .int 0, .int 2, .int 0])), (znc1, .inr (0, [.ref znc1k, .ref znc1w, .ref znc1y, .ref znc1s, .ref znc1f, .ref znc1l, .ref znc1z, .int 0, .int 0, .int 2, .int 0]))]) (w1 := fun (_ : Unit) => []) (va_runS (As := [.int ziw, .int 0, .int (-1)]) (rest := []) ⟨hx, hb, hml, hown, hts⟩ (c_X10_isWithin l dC dI cy H.size ziw 0 (-1) 0 (-1) (by first | rfl | decide | omega | exact Int32.toInt_toInt64 _) (by first | rfl | decide | omega | exact Int32.toInt_toInt64 _)) (va_cwS 3 hts gX10_isThing_X10_isWithin rfl rfl rfl (by decide +kernel) ⟨(Nat.le_of_ble_eq_true rfl), (Nat.le_of_ble_eq_true rfl)⟩) (PRE.s (hP.sub [] rfl) hK (hD.sub [] (by decide) rfl) hN) rfl rfl hl.1 rfl (lv_room (Nat.le_of_ble_eq_true rfl)) dX10_isThing_23 ⟨(Nat.le_of_ble_eq_true rfl), (Nat.le_of_ble_eq_true rfl)⟩) hP hD hS hA [] [0, 1, 2, 3, 4] rfl rfl rfl (by decide) (fun r_9 u_8 H locs hw_10 hP hD hS => ?_)
      have hP : va_P (dC, dI) vwCl [(zx, .inr (10, [.ref zn, .ref zk, .ref zr, .ref zl, .ref zc, .ref zs, .ref zw, .ref zt, .ref zm, .int 0])), (zn, .inr (8, [.ref znh, .ref znl, .ref znc, .ref znd, .ref znm, .ref zno, .ref zni, .int 0, .int 0])), (znc, .inl (cy 3, 2, .inr (.inr (.inr (.inr (va_up (va_up (fun _ => none) (0 : Int32).toNatClampNeg (some znc0)) (1 : Int32).toNatClampNeg (some znc1))))))), (znc0, .inr (0, [.ref znc0k, .ref znc0w, .ref znc0y, .ref znc0s, .ref znc0f, .ref znc0l, .ref znc0z, .int 0, .int 0, .int 2, .int 0])), (znc1, .inr (0, [.ref znc1k, .ref znc1w, .ref znc1y, .ref znc1s, .ref znc1f, .ref znc1l, .ref znc1z, .int 0, .int 0, .int 2, .int 0]))] H := hP
      have hD : va_D A [(zx, .inr (10, [.ref zn, .ref zk, .ref zr, .ref zl, .ref zc, .ref zs, .ref zw, .ref zt, .ref zm, .int 0])), (zn, .inr (8, [.ref znh, .ref znl, .ref znc, .ref znd, .ref znm, .ref zno, .ref zni, .int 0, .int 0])), (znc, .inl (cy 3, 2, .inr (.inr (.inr (.inr (va_up (va_up (fun _ => none) (0 : Int32).toNatClampNeg (some znc0)) (1 : Int32).toNatClampNeg (some znc1))))))), (znc0, .inr (0, [.ref znc0k, .ref znc0w, .ref znc0y, .ref znc0s, .ref znc0f, .ref znc0l, .ref znc0z, .int 0, .int 0, .int 2, .int 0])), (znc1, .inr (0, [.ref znc1k, .ref znc1w, .ref znc1y, .ref znc1s, .ref znc1f, .ref znc1l, .ref znc1z, .int 0, .int 0, .int 2, .int 0]))] := hD
      have hw_10 : r_9 = if 0 ≤ ziw.toInt ∧ ziw.toInt ≤ (-1) then 1 else 0 := hw_10
      refine lv_if_eq (tgt := 33) hx hb dX10_isThing_26 (by decide) (fun c_11 => ?_) (fun c_11 => ?_)
      · have f_12 : ¬ (0 ≤ ziw.toInt ∧ ziw.toInt ≤ (-1)) := bz_0 hw_10 c_11
        refine lv_iconst (v := 0) hx hb dX10_isThing_33 (by decide) ?_
        have hP9 := hP.sub (ws' := []) [] rfl
        have hD9 := hD.sub (ws' := []) [] (by decide) rfl
        exact W.zret (v := 0) hx hb hr rfl (fun t ht hW => ⟨⟨0, (), rfl, rfl, ⟨by rw [ht]; exact hP9, va_K.moved hW.alike hK, hD9⟩⟩, hS.F ht⟩) hS.2.2 dX10_isThing_34
      · have f_12 : 0 ≤ ziw.toInt ∧ ziw.toInt ≤ (-1) := bz_1 hw_10 c_11
        exfalso; omega
    · have zk_6_1 : (1 : Int32).toInt = 1 := by decide
      refine va_aldq hx hb hK hP 2 3 rfl rfl (vp_in_iff.mpr ⟨by decide, by decide⟩) dX10_isThing_17 ?_
      refine W.eq (g2 := F0 m 18 ls [.ref znc1, .int 0, .int ziw]) rfl ?_
      refine va_get (D := (dC, dI)) (ci := 0) (v := .int 0) (C := RX0) (T := TX0) (N := 11) hx hb hts (by decide +kernel) hown hK hP 4 rfl rfl 7 (by decide) (hts (.fieldLink RX10 167 "DripStone$Candle" "things" "I") (by decide +kernel)) (fun _ h9 => h9) rfl dX10_isThing_18 ?_
      refine lv_iconst (v := 1) hx hb dX10_isThing_21 (by decide) ?_
      refine lv_isub hx hb dX10_isThing_22 ?_
      refine lv_topi (fun v_13 ev_13 => ?_)
      obtain rfl : v_13 = ((-1) : Int32) := ev_13.trans (by decide)
      refine cj_i (wc := []) (wr := [(zx, .inr (10, [.ref zn, .ref zk, .ref zr, .ref zl, .ref zc, .ref zs, .ref zw, .ref zt, .ref zm, .int 0])), (zn, .inr (8, [.ref znh, .ref znl, .ref znc, .ref znd, .ref znm, .ref zno, .ref zni, .int 0, .int 0])), (znc, .inl (cy 3, 2, .inr (.inr (.inr (.inr (va_up (va_up (fun _ => none) (0 : Int32).toNatClampNeg (some znc0)) (1 : Int32).toNatClampNeg (some znc1))))))), (znc0, .inr (0, [.ref znc0k, .ref znc0w, .ref znc0y, .ref znc0s, .ref znc0f, .ref znc0l, .ref znc0z, .int 0, .int 0, .int 2, .int 0])), (znc1, .inr (0, [.ref znc1k, .ref znc1w, .ref znc1y, .ref znc1s, .ref znc1f, .ref znc1l, .ref znc1z, .int 0, .int 0, .int 2, .int 0]))]) (w1 := fun (_ : Unit) => []) (va_runS (As := [.int ziw, .int 0, .int (-1)]) (rest := []) ⟨hx, hb, hml, hown, hts⟩ (c_X10_isWithin l dC dI cy H.size ziw 0 (-1) 0 (-1) (by first | rfl | decide | omega | exact Int32.toInt_toInt64 _) (by first | rfl | decide | omega | exact Int32.toInt_toInt64 _)) (va_cwS 3 hts gX10_isThing_X10_isWithin rfl rfl rfl (by decide +kernel) ⟨(Nat.le_of_ble_eq_true rfl), (Nat.le_of_ble_eq_true rfl)⟩) (PRE.s (hP.sub [] rfl) hK (hD.sub [] (by decide) rfl) hN) rfl rfl hl.1 rfl (lv_room (Nat.le_of_ble_eq_true rfl)) dX10_isThing_23 ⟨(Nat.le_of_ble_eq_true rfl), (Nat.le_of_ble_eq_true rfl)⟩) hP hD hS hA [] [0, 1, 2, 3, 4] rfl rfl rfl (by decide) (fun r_15 u_14 H locs hw_16 hP hD hS => ?_)
      have hP : va_P (dC, dI) vwCl [(zx, .inr (10, [.ref zn, .ref zk, .ref zr, .ref zl, .ref zc, .ref zs, .ref zw, .ref zt, .ref zm, .int 0])), (zn, .inr (8, [.ref znh, .ref znl, .ref znc, .ref znd, .ref znm, .ref zno, .ref zni, .int 0, .int 0])), (znc, .inl (cy 3, 2, .inr (.inr (.inr (.inr (va_up (va_up (fun _ => none) (0 : Int32).toNatClampNeg (some znc0)) (1 : Int32).toNatClampNeg (some znc1))))))), (znc0, .inr (0, [.ref znc0k, .ref znc0w, .ref znc0y, .ref znc0s, .ref znc0f, .ref znc0l, .ref znc0z, .int 0, .int 0, .int 2, .int 0])), (znc1, .inr (0, [.ref znc1k, .ref znc1w, .ref znc1y, .ref znc1s, .ref znc1f, .ref znc1l, .ref znc1z, .int 0, .int 0, .int 2, .int 0]))] H := hP
      have hD : va_D A [(zx, .inr (10, [.ref zn, .ref zk, .ref zr, .ref zl, .ref zc, .ref zs, .ref zw, .ref zt, .ref zm, .int 0])), (zn, .inr (8, [.ref znh, .ref znl, .ref znc, .ref znd, .ref znm, .ref zno, .ref zni, .int 0, .int 0])), (znc, .inl (cy 3, 2, .inr (.inr (.inr (.inr (va_up (va_up (fun _ => none) (0 : Int32).toNatClampNeg (some znc0)) (1 : Int32).toNatClampNeg (some znc1))))))), (znc0, .inr (0, [.ref znc0k, .ref znc0w, .ref znc0y, .ref znc0s, .ref znc0f, .ref znc0l, .ref znc0z, .int 0, .int 0, .int 2, .int 0])), (znc1, .inr (0, [.ref znc1k, .ref znc1w, .ref znc1y, .ref znc1s, .ref znc1f, .ref znc1l, .ref znc1z, .int 0, .int 0, .int 2, .int 0]))] := hD
      have hw_16 : r_15 = if 0 ≤ ziw.toInt ∧ ziw.toInt ≤ (-1) then 1 else 0 := hw_16
      refine lv_if_eq (tgt := 33) hx hb dX10_isThing_26 (by decide) (fun c_17 => ?_) (fun c_17 => ?_)
      · have f_18 : ¬ (0 ≤ ziw.toInt ∧ ziw.toInt ≤ (-1)) := bz_0 hw_16 c_17
        refine lv_iconst (v := 0) hx hb dX10_isThing_33 (by decide) ?_
        have hP9 := hP.sub (ws' := []) [] rfl
        have hD9 := hD.sub (ws' := []) [] (by decide) rfl
        exact W.zret (v := 0) hx hb hr rfl (fun t ht hW => ⟨⟨0, (), rfl, rfl, ⟨by rw [ht]; exact hP9, va_K.moved hW.alike hK, hD9⟩⟩, hS.F ht⟩) hS.2.2 dX10_isThing_34
      · have f_18 : 0 ≤ ziw.toInt ∧ ziw.toInt ≤ (-1) := bz_1 hw_16 c_17
        exfalso; omega
set_option maxHeartbeats 4000000 in
set_option maxRecDepth 100000 in
theorem c_X10_isPair (l : Launch) (dC : Nat → ClassId) (dI : Nat → Nat → Nat) (cy : Nat → ClassId) (sz : Nat) (zx : Nat) (ziv : Int32) (ziw : Int32) (zix : Int32) (zn : Nat) (zk : Nat) (zr : Nat) (zl : Nat) (zc : Nat) (zs : Nat) (zw : Nat) (zt : Nat) (zm : Nat) (znh : Nat) (znl : Nat) (znc : Nat) (znd : Nat) (znm : Nat) (zno : Nat) (zni : Nat) (znc0 : Nat) (znc1 : Nat) (znc0k : Nat) (znc0w : Nat) (znc0y : Nat) (znc0s : Nat) (znc0f : Nat) (znc0l : Nat) (znc0z : Nat) (znc1k : Nat) (znc1w : Nat) (znc1y : Nat) (znc1s : Nat) (znc1f : Nat) (znc1l : Nat) (znc1z : Nat)  : Met l yX10_isPair wsX10_isPair ({ frames := 3, cells := 0, slots := 0, locals := 64 }) (va_Pc [.ref zx, .int ziv, .int ziw, .int zix] (PRE dC dI cy [(zx, .inr (10, [.ref zn, .ref zk, .ref zr, .ref zl, .ref zc, .ref zs, .ref zw, .ref zt, .ref zm, .int 0])), (zn, .inr (8, [.ref znh, .ref znl, .ref znc, .ref znd, .ref znm, .ref zno, .ref zni, .int 0, .int 0])), (znc, .inl (cy 3, 2, .inr (.inr (.inr (.inr (va_up (va_up (fun _ => none) (0 : Int32).toNatClampNeg (some znc0)) (1 : Int32).toNatClampNeg (some znc1))))))), (znc0, .inr (0, [.ref znc0k, .ref znc0w, .ref znc0y, .ref znc0s, .ref znc0f, .ref znc0l, .ref znc0z, .int 0, .int 0, .int 2, .int 0])), (znc1, .inr (0, [.ref znc1k, .ref znc1w, .ref znc1y, .ref znc1s, .ref znc1f, .ref znc1l, .ref znc1z, .int 0, .int 0, .int 2, .int 0]))] sz)) (va_Qi (fun (r : Int32) (_ : Unit) => r = 0) (fun u t => POST dC dI cy (va_A [(zx, .inr (10, [.ref zn, .ref zk, .ref zr, .ref zl, .ref zc, .ref zs, .ref zw, .ref zt, .ref zm, .int 0])), (zn, .inr (8, [.ref znh, .ref znl, .ref znc, .ref znd, .ref znm, .ref zno, .ref zni, .int 0, .int 0])), (znc, .inl (cy 3, 2, .inr (.inr (.inr (.inr (va_up (va_up (fun _ => none) (0 : Int32).toNatClampNeg (some znc0)) (1 : Int32).toNatClampNeg (some znc1))))))), (znc0, .inr (0, [.ref znc0k, .ref znc0w, .ref znc0y, .ref znc0s, .ref znc0f, .ref znc0l, .ref znc0z, .int 0, .int 0, .int 2, .int 0])), (znc1, .inr (0, [.ref znc1k, .ref znc1w, .ref znc1y, .ref znc1s, .ref znc1f, .ref znc1l, .ref znc1z, .int 0, .int 0, .int 2, .int 0]))] sz) [] t) (va_A [(zx, .inr (10, [.ref zn, .ref zk, .ref zr, .ref zl, .ref zc, .ref zs, .ref zw, .ref zt, .ref zm, .int 0])), (zn, .inr (8, [.ref znh, .ref znl, .ref znc, .ref znd, .ref znm, .ref zno, .ref zni, .int 0, .int 0])), (znc, .inl (cy 3, 2, .inr (.inr (.inr (.inr (va_up (va_up (fun _ => none) (0 : Int32).toNatClampNeg (some znc0)) (1 : Int32).toNatClampNeg (some znc1))))))), (znc0, .inr (0, [.ref znc0k, .ref znc0w, .ref znc0y, .ref znc0s, .ref znc0f, .ref znc0l, .ref znc0z, .int 0, .int 0, .int 2, .int 0])), (znc1, .inr (0, [.ref znc1k, .ref znc1w, .ref znc1y, .ref znc1s, .ref znc1f, .ref znc1l, .ref znc1z, .int 0, .int 0, .int 2, .int 0]))] sz)) 0 0 (va_A [(zx, .inr (10, [.ref zn, .ref zk, .ref zr, .ref zl, .ref zc, .ref zs, .ref zw, .ref zt, .ref zm, .int 0])), (zn, .inr (8, [.ref znh, .ref znl, .ref znc, .ref znd, .ref znm, .ref zno, .ref zni, .int 0, .int 0])), (znc, .inl (cy 3, 2, .inr (.inr (.inr (.inr (va_up (va_up (fun _ => none) (0 : Int32).toNatClampNeg (some znc0)) (1 : Int32).toNatClampNeg (some znc1))))))), (znc0, .inr (0, [.ref znc0k, .ref znc0w, .ref znc0y, .ref znc0s, .ref znc0f, .ref znc0l, .ref znc0z, .int 0, .int 0, .int 2, .int 0])), (znc1, .inr (0, [.ref znc1k, .ref znc1w, .ref znc1y, .ref znc1s, .ref znc1f, .ref znc1l, .ref znc1z, .int 0, .int 0, .int 2, .int 0]))] sz) := by
  refine Met.ofW (cc := cX10_isPair) (maxL := 4) (ret := (some .boolean)) (by decide) rfl ?_
  intro p e s m args below meth c s₁ B hml hv
  obtain ⟨rfl, hsz, hP, hK, hD0, hN⟩ := hv
  have hx := B.exec
  have hb := B.bytes
  have hr := B.returns
  have hts := atoms_spec (ws := wsX10_isPair) B.pre
  have hown : s.vm.findClass RX10 = some m.cls := findClass_of_methodNamed B.named
  have hlocks := B.notSynchronized
  subst hsz
  have hD := hD0.self (sz := s.heap.size)
  generalize hAe : va_A [(zx, .inr (10, [.ref zn, .ref zk, .ref zr, .ref zl, .ref zc, .ref zs, .ref zw, .ref zt, .ref zm, .int 0])), (zn, .inr (8, [.ref znh, .ref znl, .ref znc, .ref znd, .ref znm, .ref zno, .ref zni, .int 0, .int 0])), (znc, .inl (cy 3, 2, .inr (.inr (.inr (.inr (va_up (va_up (fun _ => none) (0 : Int32).toNatClampNeg (some znc0)) (1 : Int32).toNatClampNeg (some znc1))))))), (znc0, .inr (0, [.ref znc0k, .ref znc0w, .ref znc0y, .ref znc0s, .ref znc0f, .ref znc0l, .ref znc0z, .int 0, .int 0, .int 2, .int 0])), (znc1, .inr (0, [.ref znc1k, .ref znc1w, .ref znc1y, .ref znc1s, .ref znc1f, .ref znc1l, .ref znc1z, .int 0, .int 0, .int 2, .int 0]))] s.heap.size = A at hD ⊢
  have hA : ∀ q : Nat, s.heap.size ≤ q → A q := fun q h => by rw [← hAe]; exact Or.inr h
  have hS : va_S A s.heap s.heap [] := va_S.rf
  have hP : va_P (dC, dI) vwCl [(zx, .inr (10, [.ref zn, .ref zk, .ref zr, .ref zl, .ref zc, .ref zs, .ref zw, .ref zt, .ref zm, .int 0])), (zn, .inr (8, [.ref znh, .ref znl, .ref znc, .ref znd, .ref znm, .ref zno, .ref zni, .int 0, .int 0])), (znc, .inl (cy 3, 2, .inr (.inr (.inr (.inr (va_up (va_up (fun _ => none) (0 : Int32).toNatClampNeg (some znc0)) (1 : Int32).toNatClampNeg (some znc1))))))), (znc0, .inr (0, [.ref znc0k, .ref znc0w, .ref znc0y, .ref znc0s, .ref znc0f, .ref znc0l, .ref znc0z, .int 0, .int 0, .int 2, .int 0])), (znc1, .inr (0, [.ref znc1k, .ref znc1w, .ref znc1y, .ref znc1s, .ref znc1f, .ref znc1l, .ref znc1z, .int 0, .int 0, .int 2, .int 0]))] s.heap := hP
  have hl := lv_entry ([.ref zx, .int ziv, .int ziw, .int zix] : List Value) (n := 4) (Nat.le_of_ble_eq_true rfl)
  rw [lg_entry_eq]
  generalize (lg_sl ([.ref zx, .int ziv, .int ziw, .int zix] : List Value) ++ List.replicate (4 - (lg_sl ([.ref zx, .int ziv, .int ziw, .int zix] : List Value)).length) Slot.unset).toArray = ls at hl ⊢
  have hl : lv_has ls 4 [(0, .ref zx), (1, .int ziv), (2, .int ziw), (3, .int zix)] := hl
  refine lv_aload_n hx hb dX10_isPair_0 rfl (lv_at hl 0 rfl) ?_
  refine lv_iload_n hx hb dX10_isPair_1 rfl (lv_at hl 1 rfl) ?_
  refine lv_iload_n hx hb dX10_isPair_2 rfl (lv_at hl 2 rfl) ?_
  refine cj_i (wc := [(zx, .inr (10, [.ref zn, .ref zk, .ref zr, .ref zl, .ref zc, .ref zs, .ref zw, .ref zt, .ref zm, .int 0])), (zn, .inr (8, [.ref znh, .ref znl, .ref znc, .ref znd, .ref znm, .ref zno, .ref zni, .int 0, .int 0])), (znc, .inl (cy 3, 2, .inr (.inr (.inr (.inr (va_up (va_up (fun _ => none) (0 : Int32).toNatClampNeg (some znc0)) (1 : Int32).toNatClampNeg (some znc1))))))), (znc0, .inr (0, [.ref znc0k, .ref znc0w, .ref znc0y, .ref znc0s, .ref znc0f, .ref znc0l, .ref znc0z, .int 0, .int 0, .int 2, .int 0])), (znc1, .inr (0, [.ref znc1k, .ref znc1w, .ref znc1y, .ref znc1s, .ref znc1f, .ref znc1l, .ref znc1z, .int 0, .int 0, .int 2, .int 0]))]) (wr := []) (w1 := fun (_ : Unit) => []) (va_runV (As := [.int ziv, .int ziw]) (rest := []) ⟨hx, hb, hml, hown, hts⟩ (c_X10_isThing l dC dI cy s.heap.size zx ziv ziw zn zk zr zl zc zs zw zt zm znh znl znc znd znm zno zni znc0 znc1 znc0k znc0w znc0y znc0s znc0f znc0l znc0z znc1k znc1w znc1y znc1s znc1f znc1l znc1z) (cwV 2 hts gX10_isPair_X10_isThing rfl rfl rfl (by decide +kernel) ⟨(Nat.le_of_ble_eq_true rfl), (Nat.le_of_ble_eq_true rfl)⟩) (PRE.v (hP.sub [0, 1, 2, 3, 4] rfl) hK (hD.sub [0, 1, 2, 3, 4] (by decide) rfl) hN (va_recv hK hP (ci := 10) (q0 := 0) rfl rfl)) rfl rfl hl.1 rfl (lv_room (Nat.le_of_ble_eq_true rfl)) dX10_isPair_3 ⟨(Nat.le_of_ble_eq_true rfl), (Nat.le_of_ble_eq_true rfl)⟩) hP hD hS hA [0, 1, 2, 3, 4] [] rfl rfl rfl (by decide) (fun r_2 u_1 H locs hw_3 hP hD hS => ?_)
  have hP : va_P (dC, dI) vwCl [] H := hP
  have hD : va_D A [] := hD
  obtain rfl : r_2 = 0 := hw_3
  refine lv_if_eq (tgt := 27) hx hb dX10_isPair_6 (by decide) (fun c_4 => ?_) (fun c_4 => absurd (by decide) c_4)
  refine lv_iconst (v := 0) hx hb dX10_isPair_27 (by decide) ?_
  have hP9 := hP.sub (ws' := []) [] rfl
  have hD9 := hD.sub (ws' := []) [] (by decide) rfl
  exact W.zret (v := 0) hx hb hr rfl (fun t ht hW => ⟨⟨0, (), rfl, rfl, ⟨by rw [ht]; exact hP9, va_K.moved hW.alike hK, hD9⟩⟩, hS.F ht⟩) hS.2.2 dX10_isPair_28
set_option maxHeartbeats 4000000 in
set_option maxRecDepth 100000 in
theorem c_X10_isClaim (l : Launch) (dC : Nat → ClassId) (dI : Nat → Nat → Nat) (cy : Nat → ClassId) (sz : Nat) (zx : Nat) (ziv : Int32) (zn : Nat) (zk : Nat) (zr : Nat) (zl : Nat) (zc : Nat) (zs : Nat) (zw : Nat) (zt : Nat) (zm : Nat) (znh : Nat) (znl : Nat) (znc : Nat) (znd : Nat) (znm : Nat) (zno : Nat) (zni : Nat)  : Met l yX10_isClaim wsX10_isClaim ({ frames := 1, cells := 0, slots := 0, locals := 22 }) (va_Pc [.ref zx, .int ziv] (PRE dC dI cy [(zx, .inr (10, [.ref zn, .ref zk, .ref zr, .ref zl, .ref zc, .ref zs, .ref zw, .ref zt, .ref zm, .int 0])), (zn, .inr (8, [.ref znh, .ref znl, .ref znc, .ref znd, .ref znm, .ref zno, .ref zni, .int 0, .int 0]))] sz)) (va_Qi (fun (r : Int32) (_ : Unit) => r = 0) (fun u t => POST dC dI cy (va_A [(zx, .inr (10, [.ref zn, .ref zk, .ref zr, .ref zl, .ref zc, .ref zs, .ref zw, .ref zt, .ref zm, .int 0])), (zn, .inr (8, [.ref znh, .ref znl, .ref znc, .ref znd, .ref znm, .ref zno, .ref zni, .int 0, .int 0]))] sz) [] t) (va_A [(zx, .inr (10, [.ref zn, .ref zk, .ref zr, .ref zl, .ref zc, .ref zs, .ref zw, .ref zt, .ref zm, .int 0])), (zn, .inr (8, [.ref znh, .ref znl, .ref znc, .ref znd, .ref znm, .ref zno, .ref zni, .int 0, .int 0]))] sz)) 0 0 (va_A [(zx, .inr (10, [.ref zn, .ref zk, .ref zr, .ref zl, .ref zc, .ref zs, .ref zw, .ref zt, .ref zm, .int 0])), (zn, .inr (8, [.ref znh, .ref znl, .ref znc, .ref znd, .ref znm, .ref zno, .ref zni, .int 0, .int 0]))] sz) := by
  refine Met.ofW (cc := cX10_isClaim) (maxL := 2) (ret := (some .boolean)) (by decide) rfl ?_
  intro p e s m args below meth c s₁ B hml hv
  obtain ⟨rfl, hsz, hP, hK, hD0, hN⟩ := hv
  have hx := B.exec
  have hb := B.bytes
  have hr := B.returns
  have hts := atoms_spec (ws := wsX10_isClaim) B.pre
  have hown : s.vm.findClass RX10 = some m.cls := findClass_of_methodNamed B.named
  have hlocks := B.notSynchronized
  subst hsz
  have hD := hD0.self (sz := s.heap.size)
  generalize hAe : va_A [(zx, .inr (10, [.ref zn, .ref zk, .ref zr, .ref zl, .ref zc, .ref zs, .ref zw, .ref zt, .ref zm, .int 0])), (zn, .inr (8, [.ref znh, .ref znl, .ref znc, .ref znd, .ref znm, .ref zno, .ref zni, .int 0, .int 0]))] s.heap.size = A at hD ⊢
  have hA : ∀ q : Nat, s.heap.size ≤ q → A q := fun q h => by rw [← hAe]; exact Or.inr h
  have hS : va_S A s.heap s.heap [] := va_S.rf
  have hP : va_P (dC, dI) vwCl [(zx, .inr (10, [.ref zn, .ref zk, .ref zr, .ref zl, .ref zc, .ref zs, .ref zw, .ref zt, .ref zm, .int 0])), (zn, .inr (8, [.ref znh, .ref znl, .ref znc, .ref znd, .ref znm, .ref zno, .ref zni, .int 0, .int 0]))] s.heap := hP
  have hl := lv_entry ([.ref zx, .int ziv] : List Value) (n := 2) (Nat.le_of_ble_eq_true rfl)
  rw [lg_entry_eq]
  generalize (lg_sl ([.ref zx, .int ziv] : List Value) ++ List.replicate (2 - (lg_sl ([.ref zx, .int ziv] : List Value)).length) Slot.unset).toArray = ls at hl ⊢
  have hl : lv_has ls 2 [(0, .ref zx), (1, .int ziv)] := hl
  refine lv_iload_n hx hb dX10_isClaim_0 rfl (lv_at hl 1 rfl) ?_
  refine lv_iconst (v := 0) hx hb dX10_isClaim_1 (by decide) ?_
  refine lv_aload_n hx hb dX10_isClaim_2 rfl (lv_at hl 0 rfl) ?_
  refine va_get (D := (dC, dI)) (ci := 10) (v := .ref zn) (C := RX10) (T := TX10) (N := 10) hx hb hts (by decide +kernel) hown hK hP 0 rfl rfl 0 (by decide) (hts (.fieldLink RX10 12 "DripStone" "now" "LDripStone$State;") (by decide +kernel)) (fun _ h9 => h9) rfl dX10_isClaim_3 ?_
  refine va_get (D := (dC, dI)) (ci := 8) (v := .int 0) (C := RX8) (T := TX8) (N := 9) hx hb hts (by decide +kernel) hown hK hP 1 rfl rfl 7 (by decide) (hts (.fieldLink RX10 225 "DripStone$State" "claimed" "I") (by decide +kernel)) (fun _ h9 => h9) rfl dX10_isClaim_6 ?_
  refine lv_iconst (v := 1) hx hb dX10_isClaim_9 (by decide) ?_
  refine lv_isub hx hb dX10_isClaim_10 ?_
  refine lv_topi (fun v_1 ev_1 => ?_)
  obtain rfl : v_1 = ((-1) : Int32) := ev_1.trans (by decide)
  refine cj_i (wc := []) (wr := [(zx, .inr (10, [.ref zn, .ref zk, .ref zr, .ref zl, .ref zc, .ref zs, .ref zw, .ref zt, .ref zm, .int 0])), (zn, .inr (8, [.ref znh, .ref znl, .ref znc, .ref znd, .ref znm, .ref zno, .ref zni, .int 0, .int 0]))]) (w1 := fun (_ : Unit) => []) (va_runS (As := [.int ziv, .int 0, .int (-1)]) (rest := []) ⟨hx, hb, hml, hown, hts⟩ (c_X10_isWithin l dC dI cy s.heap.size ziv 0 (-1) 0 (-1) (by first | rfl | decide | omega | exact Int32.toInt_toInt64 _) (by first | rfl | decide | omega | exact Int32.toInt_toInt64 _)) (va_cwS 3 hts gX10_isClaim_X10_isWithin rfl rfl rfl (by decide +kernel) ⟨(Nat.le_of_ble_eq_true rfl), (Nat.le_of_ble_eq_true rfl)⟩) (PRE.s (hP.sub [] rfl) hK (hD.sub [] (by decide) rfl) hN) rfl rfl hl.1 rfl (lv_room (Nat.le_of_ble_eq_true rfl)) dX10_isClaim_11 ⟨(Nat.le_of_ble_eq_true rfl), (Nat.le_of_ble_eq_true rfl)⟩) hP hD hS hA [] [0, 1] rfl rfl rfl (by decide) (fun r_3 u_2 H locs hw_4 hP hD hS => ?_)
  have hP : va_P (dC, dI) vwCl [(zx, .inr (10, [.ref zn, .ref zk, .ref zr, .ref zl, .ref zc, .ref zs, .ref zw, .ref zt, .ref zm, .int 0])), (zn, .inr (8, [.ref znh, .ref znl, .ref znc, .ref znd, .ref znm, .ref zno, .ref zni, .int 0, .int 0]))] H := hP
  have hD : va_D A [(zx, .inr (10, [.ref zn, .ref zk, .ref zr, .ref zl, .ref zc, .ref zs, .ref zw, .ref zt, .ref zm, .int 0])), (zn, .inr (8, [.ref znh, .ref znl, .ref znc, .ref znd, .ref znm, .ref zno, .ref zni, .int 0, .int 0]))] := hD
  have hw_4 : r_3 = if 0 ≤ ziv.toInt ∧ ziv.toInt ≤ (-1) then 1 else 0 := hw_4
  have hP9 := hP.sub (ws' := []) [] rfl
  have hD9 := hD.sub (ws' := []) [] (by decide) rfl
  exact W.zret (v := r_3) hx hb hr (zb_n hw_4) (fun t ht hW => ⟨⟨r_3, (), rfl, (hw_4.trans (if_neg (by omega))), ⟨by rw [ht]; exact hP9, va_K.moved hW.alike hK, hD9⟩⟩, hS.F ht⟩) hS.2.2 dX10_isClaim_14
set_option maxHeartbeats 4000000 in
set_option maxRecDepth 100000 in
theorem c_X0_places (l : Launch) (dC : Nat → ClassId) (dI : Nat → Nat → Nat) (cy : Nat → ClassId) (sz : Nat) (zc : Nat) (zck : Nat) (zcw : Nat) (zcy : Nat) (zcs : Nat) (zcf : Nat) (zcl : Nat) (zcz : Nat)  : Met l yX0_places wsX0_places ({ frames := 0, cells := 0, slots := 0, locals := 0 }) (va_Pc [.ref zc] (PRE dC dI cy [(zc, .inr (0, [.ref zck, .ref zcw, .ref zcy, .ref zcs, .ref zcf, .ref zcl, .ref zcz, .int 0, .int 0, .int 2, .int 0]))] sz)) (va_Qi (fun (r : Int32) (_ : Unit) => r = 0) (fun u t => POST dC dI cy (va_A [(zc, .inr (0, [.ref zck, .ref zcw, .ref zcy, .ref zcs, .ref zcf, .ref zcl, .ref zcz, .int 0, .int 0, .int 2, .int 0]))] sz) [] t) (va_A [(zc, .inr (0, [.ref zck, .ref zcw, .ref zcy, .ref zcs, .ref zcf, .ref zcl, .ref zcz, .int 0, .int 0, .int 2, .int 0]))] sz)) 0 0 (va_A [(zc, .inr (0, [.ref zck, .ref zcw, .ref zcy, .ref zcs, .ref zcf, .ref zcl, .ref zcz, .int 0, .int 0, .int 2, .int 0]))] sz) := by
  refine Met.ofW (cc := cX0_places) (maxL := 3) (ret := (some .int)) (by decide) rfl ?_
  intro p e s m args below meth c s₁ B hml hv
  obtain ⟨rfl, hsz, hP, hK, hD0, hN⟩ := hv
  have hx := B.exec
  have hb := B.bytes
  have hr := B.returns
  have hts := atoms_spec (ws := wsX0_places) B.pre
  have hown : s.vm.findClass RX0 = some m.cls := findClass_of_methodNamed B.named
  have hlocks := B.notSynchronized
  subst hsz
  have hD := hD0.self (sz := s.heap.size)
  generalize hAe : va_A [(zc, .inr (0, [.ref zck, .ref zcw, .ref zcy, .ref zcs, .ref zcf, .ref zcl, .ref zcz, .int 0, .int 0, .int 2, .int 0]))] s.heap.size = A at hD ⊢
  have hA : ∀ q : Nat, s.heap.size ≤ q → A q := fun q h => by rw [← hAe]; exact Or.inr h
  have hS : va_S A s.heap s.heap [] := va_S.rf
  have hP : va_P (dC, dI) vwCl [(zc, .inr (0, [.ref zck, .ref zcw, .ref zcy, .ref zcs, .ref zcf, .ref zcl, .ref zcz, .int 0, .int 0, .int 2, .int 0]))] s.heap := hP
  have hl := lv_entry ([.ref zc] : List Value) (n := 3) (Nat.le_of_ble_eq_true rfl)
  rw [lg_entry_eq]
  generalize (lg_sl ([.ref zc] : List Value) ++ List.replicate (3 - (lg_sl ([.ref zc] : List Value)).length) Slot.unset).toArray = ls at hl ⊢
  have hl : lv_has ls 3 [(0, .ref zc)] := hl
  refine lv_iconst (v := 0) hx hb dX0_places_0 (by decide) ?_
  refine lv_istore_n (lv' := [(1, .int 0), (0, .ref zc)]) hx hb dX0_places_1 rfl hl (by decide) rfl (fun ls hl => ?_)
  refine lv_iconst (v := 0) hx hb dX0_places_2 (by decide) ?_
  refine lv_istore_n (lv' := [(2, .int 0), (1, .int 0), (0, .ref zc)]) hx hb dX0_places_3 rfl hl (by decide) rfl (fun ls hl => ?_)
  refine lv_iload_n hx hb dX0_places_4 rfl (lv_at hl 0 rfl) ?_
  refine lv_aload_n hx hb dX0_places_5 rfl (lv_at hl 2 rfl) ?_
  refine va_get (D := (dC, dI)) (ci := 0) (v := .int 0) (C := RX0) (T := TX0) (N := 11) hx hb hts (by decide +kernel) hown hK hP 0 rfl rfl 7 (by decide) (hts (.fieldLink RX0 37 "DripStone$Candle" "things" "I") (by decide +kernel)) (fun _ h9 => h9) rfl dX0_places_6 ?_
  refine lv_icmp_ge (tgt := 34) hx hb dX0_places_9 (by decide) (fun c_1 => ?_) (fun c_1 => absurd (by decide) c_1)
  refine lv_iload_n hx hb dX0_places_34 rfl (lv_at hl 1 rfl) ?_
  have hP9 := hP.sub (ws' := []) [] rfl
  have hD9 := hD.sub (ws' := []) [] (by decide) rfl
  exact W.iret (v := 0) hx hb hr (fun t ht hW => ⟨⟨0, (), rfl, rfl, ⟨by rw [ht]; exact hP9, va_K.moved hW.alike hK, hD9⟩⟩, hS.F ht⟩) hS.2.2 dX0_places_35
set_option maxHeartbeats 4000000 in
set_option maxRecDepth 100000 in
theorem c_X2_thrown (l : Launch) (dC : Nat → ClassId) (dI : Nat → Nat → Nat) (cy : Nat → ClassId) (sz : Nat) (zd : Nat) (zdc : Nat) (zdt : Nat) (zdf : Nat) (zdo : Nat) (zdd : Nat) (zdr : Nat)  : Met l yX2_thrown wsX2_thrown ({ frames := 0, cells := 0, slots := 0, locals := 0 }) (va_Pc [.ref zd] (PRE dC dI cy [(zd, .inr (2, [.ref zdc, .ref zdt, .ref zdf, .ref zdo, .ref zdd, .ref zdr, .int 0]))] sz)) (va_Qi (fun (r : Int32) (_ : Unit) => r = 0) (fun u t => POST dC dI cy (va_A [(zd, .inr (2, [.ref zdc, .ref zdt, .ref zdf, .ref zdo, .ref zdd, .ref zdr, .int 0]))] sz) [] t) (va_A [(zd, .inr (2, [.ref zdc, .ref zdt, .ref zdf, .ref zdo, .ref zdd, .ref zdr, .int 0]))] sz)) 0 0 (va_A [(zd, .inr (2, [.ref zdc, .ref zdt, .ref zdf, .ref zdo, .ref zdd, .ref zdr, .int 0]))] sz) := by
  refine Met.ofW (cc := cX2_thrown) (maxL := 3) (ret := (some .int)) (by decide) rfl ?_
  intro p e s m args below meth c s₁ B hml hv
  obtain ⟨rfl, hsz, hP, hK, hD0, hN⟩ := hv
  have hx := B.exec
  have hb := B.bytes
  have hr := B.returns
  have hts := atoms_spec (ws := wsX2_thrown) B.pre
  have hown : s.vm.findClass RX2 = some m.cls := findClass_of_methodNamed B.named
  have hlocks := B.notSynchronized
  subst hsz
  have hD := hD0.self (sz := s.heap.size)
  generalize hAe : va_A [(zd, .inr (2, [.ref zdc, .ref zdt, .ref zdf, .ref zdo, .ref zdd, .ref zdr, .int 0]))] s.heap.size = A at hD ⊢
  have hA : ∀ q : Nat, s.heap.size ≤ q → A q := fun q h => by rw [← hAe]; exact Or.inr h
  have hS : va_S A s.heap s.heap [] := va_S.rf
  have hP : va_P (dC, dI) vwCl [(zd, .inr (2, [.ref zdc, .ref zdt, .ref zdf, .ref zdo, .ref zdd, .ref zdr, .int 0]))] s.heap := hP
  have hl := lv_entry ([.ref zd] : List Value) (n := 3) (Nat.le_of_ble_eq_true rfl)
  rw [lg_entry_eq]
  generalize (lg_sl ([.ref zd] : List Value) ++ List.replicate (3 - (lg_sl ([.ref zd] : List Value)).length) Slot.unset).toArray = ls at hl ⊢
  have hl : lv_has ls 3 [(0, .ref zd)] := hl
  refine lv_iconst (v := 0) hx hb dX2_thrown_0 (by decide) ?_
  refine lv_istore_n (lv' := [(1, .int 0), (0, .ref zd)]) hx hb dX2_thrown_1 rfl hl (by decide) rfl (fun ls hl => ?_)
  refine lv_iconst (v := 0) hx hb dX2_thrown_2 (by decide) ?_
  refine lv_istore_n (lv' := [(2, .int 0), (1, .int 0), (0, .ref zd)]) hx hb dX2_thrown_3 rfl hl (by decide) rfl (fun ls hl => ?_)
  refine lv_iload_n hx hb dX2_thrown_4 rfl (lv_at hl 0 rfl) ?_
  refine lv_aload_n hx hb dX2_thrown_5 rfl (lv_at hl 2 rfl) ?_
  refine va_get (D := (dC, dI)) (ci := 2) (v := .int 0) (C := RX2) (T := TX2) (N := 7) hx hb hts (by decide +kernel) hown hK hP 0 rfl rfl 6 (by decide) (hts (.fieldLink RX2 30 "DripStone$Dates" "held" "I") (by decide +kernel)) (fun _ h9 => h9) rfl dX2_thrown_6 ?_
  refine lv_icmp_ge (tgt := 35) hx hb dX2_thrown_9 (by decide) (fun c_1 => ?_) (fun c_1 => absurd (by decide) c_1)
  refine lv_iload_n hx hb dX2_thrown_35 rfl (lv_at hl 1 rfl) ?_
  have hP9 := hP.sub (ws' := []) [] rfl
  have hD9 := hD.sub (ws' := []) [] (by decide) rfl
  exact W.iret (v := 0) hx hb hr (fun t ht hW => ⟨⟨0, (), rfl, rfl, ⟨by rw [ht]; exact hP9, va_K.moved hW.alike hK, hD9⟩⟩, hS.F ht⟩) hS.2.2 dX2_thrown_36
set_option maxHeartbeats 4000000 in
set_option maxRecDepth 100000 in
theorem c_X7_refusal (l : Launch) (dC : Nat → ClassId) (dI : Nat → Nat → Nat) (cy : Nat → ClassId) (sz : Nat) (zs : Nat) (ziv : Int32) (ziw : Int32) (zix : Int32) (zsi : Nat)  : Met l yX7_refusal wsX7_refusal ({ frames := 0, cells := 0, slots := 0, locals := 0 }) (va_Pc [.ref zs, .int ziv, .int ziw, .int zix] (PRE dC dI cy [(zs, .inr (7, [.ref zsi, .int 0, .int 0, .int 0]))] sz)) (va_Qi (fun (r : Int32) (_ : Unit) => r = (-11)) (fun u t => POST dC dI cy (va_A [(zs, .inr (7, [.ref zsi, .int 0, .int 0, .int 0]))] sz) [] t) (va_A [(zs, .inr (7, [.ref zsi, .int 0, .int 0, .int 0]))] sz)) 0 0 (va_A [(zs, .inr (7, [.ref zsi, .int 0, .int 0, .int 0]))] sz) := by
  refine Met.ofW (cc := cX7_refusal) (maxL := 4) (ret := (some .int)) (by decide) rfl ?_
  intro p e s m args below meth c s₁ B hml hv
  obtain ⟨rfl, hsz, hP, hK, hD0, hN⟩ := hv
  have hx := B.exec
  have hb := B.bytes
  have hr := B.returns
  have hts := atoms_spec (ws := wsX7_refusal) B.pre
  have hown : s.vm.findClass RX7 = some m.cls := findClass_of_methodNamed B.named
  have hlocks := B.notSynchronized
  subst hsz
  have hD := hD0.self (sz := s.heap.size)
  generalize hAe : va_A [(zs, .inr (7, [.ref zsi, .int 0, .int 0, .int 0]))] s.heap.size = A at hD ⊢
  have hA : ∀ q : Nat, s.heap.size ≤ q → A q := fun q h => by rw [← hAe]; exact Or.inr h
  have hS : va_S A s.heap s.heap [] := va_S.rf
  have hP : va_P (dC, dI) vwCl [(zs, .inr (7, [.ref zsi, .int 0, .int 0, .int 0]))] s.heap := hP
  have hl := lv_entry ([.ref zs, .int ziv, .int ziw, .int zix] : List Value) (n := 4) (Nat.le_of_ble_eq_true rfl)
  rw [lg_entry_eq]
  generalize (lg_sl ([.ref zs, .int ziv, .int ziw, .int zix] : List Value) ++ List.replicate (4 - (lg_sl ([.ref zs, .int ziv, .int ziw, .int zix] : List Value)).length) Slot.unset).toArray = ls at hl ⊢
  have hl : lv_has ls 4 [(0, .ref zs), (1, .int ziv), (2, .int ziw), (3, .int zix)] := hl
  refine lv_aload_n hx hb dX7_refusal_0 rfl (lv_at hl 0 rfl) ?_
  refine va_get (D := (dC, dI)) (ci := 7) (v := .int 0) (C := RX7) (T := TX7) (N := 4) hx hb hts (by decide +kernel) hown hK hP 0 rfl rfl 3 (by decide) (hts (.fieldLink RX7 15 "DripStone$Sheet" "there" "Z") (by decide +kernel)) (fun _ h9 => h9) rfl dX7_refusal_1 ?_
  refine lv_if_ne (tgt := 10) hx hb dX7_refusal_4 (by decide) (fun c_1 => absurd (by decide) c_1) (fun c_1 => ?_)
  refine lv_bipush (v := (-11)) hx hb dX7_refusal_7 (by decide) ?_
  have hP9 := hP.sub (ws' := []) [] rfl
  have hD9 := hD.sub (ws' := []) [] (by decide) rfl
  exact W.iret (v := (-11)) hx hb hr (fun t ht hW => ⟨⟨(-11), (), rfl, rfl, ⟨by rw [ht]; exact hP9, va_K.moved hW.alike hK, hD9⟩⟩, hS.F ht⟩) hS.2.2 dX7_refusal_9
set_option maxHeartbeats 4000000 in
set_option maxRecDepth 100000 in
theorem c_X3_wetBy (l : Launch) (dC : Nat → ClassId) (dI : Nat → Nat → Nat) (cy : Nat → ClassId) (sz : Nat) (zh : Nat) (ziv : Int32) (zhr : Nat) (zqh : Nat → Nat) (hy : 0 ≤ ziv.toInt ∧ ziv.toInt ≤ 23) : Met l yX3_wetBy wsX3_wetBy ({ frames := 1, cells := 0, slots := 0, locals := 30 }) (va_Pc [.ref zh, .int ziv, .int 1] (PRE dC dI cy [(zh, .inr (3, [.ref zhr, .int 1, .int 3])), (zhr, .inl (cy 7, 3, .inr (.inr (.inr (.inr (fun i => if i < 3 then some (zqh i) else none)))))), ((zqh 0), .inl (cy 0, 24, .inl (fun _ => 0)))] sz)) (va_Qi (fun (r : Int32) (_ : Unit) => r = 0) (fun u t => POST dC dI cy (va_A [(zh, .inr (3, [.ref zhr, .int 1, .int 3])), (zhr, .inl (cy 7, 3, .inr (.inr (.inr (.inr (fun i => if i < 3 then some (zqh i) else none)))))), ((zqh 0), .inl (cy 0, 24, .inl (fun _ => 0)))] sz) [(zh, .inr (3, [.ref zhr, .int 1, .int 3])), (zhr, .inl (cy 7, 3, .inr (.inr (.inr (.inr (fun i => if i < 3 then some (zqh i) else none)))))), ((zqh 0), .inl (cy 0, 24, .inl (fun _ => 0)))] t) (va_A [(zh, .inr (3, [.ref zhr, .int 1, .int 3])), (zhr, .inl (cy 7, 3, .inr (.inr (.inr (.inr (fun i => if i < 3 then some (zqh i) else none)))))), ((zqh 0), .inl (cy 0, 24, .inl (fun _ => 0)))] sz)) 0 0 (va_A [(zh, .inr (3, [.ref zhr, .int 1, .int 3])), (zhr, .inl (cy 7, 3, .inr (.inr (.inr (.inr (fun i => if i < 3 then some (zqh i) else none)))))), ((zqh 0), .inl (cy 0, 24, .inl (fun _ => 0)))] sz) := by
  refine Met.ofW (cc := cX3_wetBy) (maxL := 5) (ret := (some .int)) (by decide) rfl ?_
  intro p e s m args below meth c s₁ B hml hv
  obtain ⟨rfl, hsz, hP, hK, hD0, hN⟩ := hv
  have hx := B.exec
  have hb := B.bytes
  have hr := B.returns
  have hts := atoms_spec (ws := wsX3_wetBy) B.pre
  have hown : s.vm.findClass RX3 = some m.cls := findClass_of_methodNamed B.named
  have hlocks := B.notSynchronized
  subst hsz
  have hD := hD0.self (sz := s.heap.size)
  generalize hAe : va_A [(zh, .inr (3, [.ref zhr, .int 1, .int 3])), (zhr, .inl (cy 7, 3, .inr (.inr (.inr (.inr (fun i => if i < 3 then some (zqh i) else none)))))), ((zqh 0), .inl (cy 0, 24, .inl (fun _ => 0)))] s.heap.size = A at hD ⊢
  have hA : ∀ q : Nat, s.heap.size ≤ q → A q := fun q h => by rw [← hAe]; exact Or.inr h
  have hS : va_S A s.heap s.heap [] := va_S.rf
  have hP : va_P (dC, dI) vwCl [(zh, .inr (3, [.ref zhr, .int 1, .int 3])), (zhr, .inl (cy 7, 3, .inr (.inr (.inr (.inr (fun i => if i < 3 then some (zqh i) else none)))))), ((zqh 0), .inl (cy 0, 24, .inl (fun _ => 0)))] s.heap := hP
  have hl := lv_entry ([.ref zh, .int ziv, .int 1] : List Value) (n := 5) (Nat.le_of_ble_eq_true rfl)
  rw [lg_entry_eq]
  generalize (lg_sl ([.ref zh, .int ziv, .int 1] : List Value) ++ List.replicate (5 - (lg_sl ([.ref zh, .int ziv, .int 1] : List Value)).length) Slot.unset).toArray = ls at hl ⊢
  have hl : lv_has ls 5 [(0, .ref zh), (1, .int ziv), (2, .int 1)] := hl
  refine lv_iconst (v := 0) hx hb dX3_wetBy_0 (by decide) ?_
  refine lv_istore_n (lv' := [(3, .int 0), (0, .ref zh), (1, .int ziv), (2, .int 1)]) hx hb dX3_wetBy_1 rfl hl (by decide) rfl (fun ls hl => ?_)
  refine lv_iconst (v := 0) hx hb dX3_wetBy_2 (by decide) ?_
  refine lv_iload_n hx hb dX3_wetBy_3 rfl (lv_at hl 2 rfl) ?_
  refine lv_iload_n hx hb dX3_wetBy_4 rfl (lv_at hl 3 rfl) ?_
  refine lv_isub hx hb dX3_wetBy_5 ?_
  refine lv_topi (fun v_1 ev_1 => ?_)
  have tv_1 : v_1.toInt = ziv.toInt - (1 : Int) := by rw [ev_1]; exact tsub (rfl) (show (1 : Int32).toInt = 1 by decide) (by omega) (by omega)
  refine lv_iconst (v := 1) hx hb dX3_wetBy_6 (by decide) ?_
  refine lv_iadd hx hb dX3_wetBy_7 ?_
  refine lv_topi (fun v_2 ev_2 => ?_)
  have tv_2 : v_2.toInt = v_1.toInt + (1 : Int) := by rw [ev_2]; exact tadd (rfl) (show (1 : Int32).toInt = 1 by decide) (by omega) (by omega)
  refine va_mmax hx hb (by rw [hml]; exact hl.1.symm) hown (hts (.methodLink RX3 27 Lib.Math.max.name) (by decide +kernel)) (hts (.static Lib.Math.max.name) (by decide +kernel)) (hts (.initialized "java/lang/Math") (by decide +kernel)) (hts (.code Lib.Math.max.name Lib.Math.max.code 2 (some .int)) (by decide +kernel)) (Nat.le_of_ble_eq_true rfl) (Nat.le_of_ble_eq_true rfl) (Nat.le_of_ble_eq_true rfl) (Nat.le_of_ble_eq_true rfl) dX3_wetBy_8 ?_
  refine lv_topi (fun v_3 ev_3 => ?_)
  have tv_3 : v_3.toInt = v_2.toInt := congrArg Int32.toInt (ev_3.trans (mx_0 (by omega)))
  refine lv_istore (lv' := [(4, .int v_3), (3, .int 0), (0, .ref zh), (1, .int ziv), (2, .int 1)]) hx hb dX3_wetBy_11 hl (by decide) rfl (fun ls hl => ?_)
  refine lv_iload hx hb dX3_wetBy_13 (lv_at hl 0 rfl) ?_
  refine lv_iload_n hx hb dX3_wetBy_15 rfl (lv_at hl 3 rfl) ?_
  refine lv_icmp_gt (tgt := 37) hx hb dX3_wetBy_16 (by decide) (fun c_4 => ?_) (fun c_4 => ?_)
  · have f_5 : v_3.toInt > ziv.toInt := ic_gt (rfl) (rfl) c_4
    exfalso; omega
  · have f_5 : ¬ (v_3.toInt > ziv.toInt) := ic_ngt (rfl) (rfl) c_4
    refine lv_iload_n hx hb dX3_wetBy_19 rfl (lv_at hl 1 rfl) ?_
    refine lv_aload_n hx hb dX3_wetBy_20 rfl (lv_at hl 2 rfl) ?_
    refine va_get (D := (dC, dI)) (ci := 3) (v := .ref zhr) (C := RX3) (T := TX3) (N := 3) hx hb hts (by decide +kernel) hown hK hP 0 rfl rfl 0 (by decide) (hts (.fieldLink RX3 11 "DripStone$Hill" "rain" "[[I") (by decide +kernel)) (fun _ h9 => h9) rfl dX3_wetBy_21 ?_
    refine lv_iconst (v := 0) hx hb dX3_wetBy_24 (by decide) ?_
    refine va_aldA hx hb hK hP 1 7 rfl rfl (vp_in_iff.mpr ⟨by decide, by decide⟩) dX3_wetBy_25 ?_
    refine W.eq (g2 := F0 m 26 ls [.ref (zqh 0), .int 0]) rfl ?_
    refine lv_iload hx hb dX3_wetBy_26 (lv_at hl 0 rfl) ?_
    refine va_iald hx hb hK hP 2 0 rfl rfl (vp_in_iff.mpr ⟨by omega, by omega⟩) dX3_wetBy_28 ?_
    refine W.eq (g2 := F0 m 29 ls [.int 0, .int 0]) rfl ?_
    refine lv_iadd hx hb dX3_wetBy_29 ?_
    refine lv_topi (fun v_6 ev_6 => ?_)
    obtain rfl : v_6 = (0 : Int32) := ev_6.trans (by decide)
    refine lv_istore_n (lv' := [(3, .int 0), (4, .int v_3), (0, .ref zh), (1, .int ziv), (2, .int 1)]) hx hb dX3_wetBy_30 rfl hl (by decide) rfl (fun ls hl => ?_)
    obtain ⟨x_7, ex_7⟩ : ∃ y : Int32, y = v_3 + 1 := ⟨_, rfl⟩
    have tx_7 : x_7.toInt = v_3.toInt + 1 := by rw [ex_7]; exact tadd rfl (show (1 : Int32).toInt = 1 by decide) (by omega) (by omega)
    refine lv_iinc (v := x_7) (lv' := [(4, .int x_7), (3, .int 0), (0, .ref zh), (1, .int ziv), (2, .int 1)]) hx hb dX3_wetBy_31 hl (k := 1) rfl (by rw [ex_7]; rfl) (by decide) rfl (fun ls hl => ?_)
    refine lv_goto (tgt := 13) hx hb dX3_wetBy_34 (by decide) ?_
    refine lv_iload hx hb dX3_wetBy_13 (lv_at hl 0 rfl) ?_
    refine lv_iload_n hx hb dX3_wetBy_15 rfl (lv_at hl 3 rfl) ?_
    refine lv_icmp_gt (tgt := 37) hx hb dX3_wetBy_16 (by decide) (fun c_8 => ?_) (fun c_8 => ?_)
    · have f_9 : x_7.toInt > ziv.toInt := ic_gt (rfl) (rfl) c_8
      refine lv_iload_n hx hb dX3_wetBy_37 rfl (lv_at hl 1 rfl) ?_
      have hP9 := hP.sub (ws' := [(zh, .inr (3, [.ref zhr, .int 1, .int 3])), (zhr, .inl (cy 7, 3, .inr (.inr (.inr (.inr (fun i => if i < 3 then some (zqh i) else none)))))), ((zqh 0), .inl (cy 0, 24, .inl (fun _ => 0)))]) [0, 1, 2] rfl
      have hD9 := hD.sub (ws' := [(zh, .inr (3, [.ref zhr, .int 1, .int 3])), (zhr, .inl (cy 7, 3, .inr (.inr (.inr (.inr (fun i => if i < 3 then some (zqh i) else none)))))), ((zqh 0), .inl (cy 0, 24, .inl (fun _ => 0)))]) [0, 1, 2] (by decide) rfl
      exact W.iret (v := 0) hx hb hr (fun t ht hW => ⟨⟨0, (), rfl, rfl, ⟨by rw [ht]; exact hP9, va_K.moved hW.alike hK, hD9⟩⟩, hS.F ht⟩) hS.2.2 dX3_wetBy_38
    · have f_9 : ¬ (x_7.toInt > ziv.toInt) := ic_ngt (rfl) (rfl) c_8
      exfalso; omega
set_option maxHeartbeats 4000000 in
set_option maxRecDepth 100000 in
theorem c_X3_waterBy (l : Launch) (dC : Nat → ClassId) (dI : Nat → Nat → Nat) (cy : Nat → ClassId) (sz : Nat) (zh : Nat) (ziv : Int32) (zhr : Nat) (zqh : Nat → Nat) (hy : 0 ≤ ziv.toInt ∧ ziv.toInt ≤ 23) : Met l yX3_waterBy wsX3_waterBy ({ frames := 2, cells := 0, slots := 0, locals := 54 }) (va_Pc [.ref zh, .int ziv, .int 1] (PRE dC dI cy [(zh, .inr (3, [.ref zhr, .int 1, .int 3])), (zhr, .inl (cy 7, 3, .inr (.inr (.inr (.inr (fun i => if i < 3 then some (zqh i) else none)))))), ((zqh 0), .inl (cy 0, 24, .inl (fun _ => 0)))] sz)) (va_Qi (fun (r : Int32) (_ : Unit) => r = (-1004)) (fun u t => POST dC dI cy (va_A [(zh, .inr (3, [.ref zhr, .int 1, .int 3])), (zhr, .inl (cy 7, 3, .inr (.inr (.inr (.inr (fun i => if i < 3 then some (zqh i) else none)))))), ((zqh 0), .inl (cy 0, 24, .inl (fun _ => 0)))] sz) [] t) (va_A [(zh, .inr (3, [.ref zhr, .int 1, .int 3])), (zhr, .inl (cy 7, 3, .inr (.inr (.inr (.inr (fun i => if i < 3 then some (zqh i) else none)))))), ((zqh 0), .inl (cy 0, 24, .inl (fun _ => 0)))] sz)) 0 0 (va_A [(zh, .inr (3, [.ref zhr, .int 1, .int 3])), (zhr, .inl (cy 7, 3, .inr (.inr (.inr (.inr (fun i => if i < 3 then some (zqh i) else none)))))), ((zqh 0), .inl (cy 0, 24, .inl (fun _ => 0)))] sz) := by
  refine Met.ofW (cc := cX3_waterBy) (maxL := 6) (ret := (some .int)) (by decide) rfl ?_
  intro p e s m args below meth c s₁ B hml hv
  obtain ⟨rfl, hsz, hP, hK, hD0, hN⟩ := hv
  have hx := B.exec
  have hb := B.bytes
  have hr := B.returns
  have hts := atoms_spec (ws := wsX3_waterBy) B.pre
  have hown : s.vm.findClass RX3 = some m.cls := findClass_of_methodNamed B.named
  have hlocks := B.notSynchronized
  subst hsz
  have hD := hD0.self (sz := s.heap.size)
  generalize hAe : va_A [(zh, .inr (3, [.ref zhr, .int 1, .int 3])), (zhr, .inl (cy 7, 3, .inr (.inr (.inr (.inr (fun i => if i < 3 then some (zqh i) else none)))))), ((zqh 0), .inl (cy 0, 24, .inl (fun _ => 0)))] s.heap.size = A at hD ⊢
  have hA : ∀ q : Nat, s.heap.size ≤ q → A q := fun q h => by rw [← hAe]; exact Or.inr h
  have hS : va_S A s.heap s.heap [] := va_S.rf
  have hP : va_P (dC, dI) vwCl [(zh, .inr (3, [.ref zhr, .int 1, .int 3])), (zhr, .inl (cy 7, 3, .inr (.inr (.inr (.inr (fun i => if i < 3 then some (zqh i) else none)))))), ((zqh 0), .inl (cy 0, 24, .inl (fun _ => 0)))] s.heap := hP
  have hl := lv_entry ([.ref zh, .int ziv, .int 1] : List Value) (n := 6) (Nat.le_of_ble_eq_true rfl)
  rw [lg_entry_eq]
  generalize (lg_sl ([.ref zh, .int ziv, .int 1] : List Value) ++ List.replicate (6 - (lg_sl ([.ref zh, .int ziv, .int 1] : List Value)).length) Slot.unset).toArray = ls at hl ⊢
  have hl : lv_has ls 6 [(0, .ref zh), (1, .int ziv), (2, .int 1)] := hl
  refine lv_aload_n hx hb dX3_waterBy_0 rfl (lv_at hl 0 rfl) ?_
  refine lv_iload_n hx hb dX3_waterBy_1 rfl (lv_at hl 1 rfl) ?_
  refine lv_iload_n hx hb dX3_waterBy_2 rfl (lv_at hl 2 rfl) ?_
  refine cj_i (wc := [(zh, .inr (3, [.ref zhr, .int 1, .int 3])), (zhr, .inl (cy 7, 3, .inr (.inr (.inr (.inr (fun i => if i < 3 then some (zqh i) else none)))))), ((zqh 0), .inl (cy 0, 24, .inl (fun _ => 0)))]) (wr := []) (w1 := fun (_ : Unit) => [(zh, .inr (3, [.ref zhr, .int 1, .int 3])), (zhr, .inl (cy 7, 3, .inr (.inr (.inr (.inr (fun i => if i < 3 then some (zqh i) else none)))))), ((zqh 0), .inl (cy 0, 24, .inl (fun _ => 0)))]) (va_runV (As := [.int ziv, .int 1]) (rest := []) ⟨hx, hb, hml, hown, hts⟩ (c_X3_wetBy l dC dI cy s.heap.size zh ziv zhr zqh (by first | rfl | decide | omega | exact Int32.toInt_toInt64 _)) (cwV 2 hts gX3_waterBy_X3_wetBy rfl rfl rfl (by decide +kernel) ⟨(Nat.le_of_ble_eq_true rfl), (Nat.le_of_ble_eq_true rfl)⟩) (PRE.v (hP.sub [0, 1, 2] rfl) hK (hD.sub [0, 1, 2] (by decide) rfl) hN (va_recv hK hP (ci := 3) (q0 := 0) rfl rfl)) rfl rfl hl.1 rfl (lv_room (Nat.le_of_ble_eq_true rfl)) dX3_waterBy_3 ⟨(Nat.le_of_ble_eq_true rfl), (Nat.le_of_ble_eq_true rfl)⟩) hP hD hS hA [0, 1, 2] [] rfl rfl rfl (by decide) (fun r_2 u_1 H locs hw_3 hP hD hS => ?_)
  have hP : va_P (dC, dI) vwCl [(zh, .inr (3, [.ref zhr, .int 1, .int 3])), (zhr, .inl (cy 7, 3, .inr (.inr (.inr (.inr (fun i => if i < 3 then some (zqh i) else none)))))), ((zqh 0), .inl (cy 0, 24, .inl (fun _ => 0)))] H := hP
  have hD : va_D A [(zh, .inr (3, [.ref zhr, .int 1, .int 3])), (zhr, .inl (cy 7, 3, .inr (.inr (.inr (.inr (fun i => if i < 3 then some (zqh i) else none)))))), ((zqh 0), .inl (cy 0, 24, .inl (fun _ => 0)))] := hD
  obtain rfl : r_2 = 0 := hw_3
  refine lv_istore_n (lv' := [(3, .int 0), (0, .ref zh), (1, .int ziv), (2, .int 1)]) hx hb dX3_waterBy_6 rfl hl (by decide) rfl (fun ls hl => ?_)
  refine lv_iload_n hx hb dX3_waterBy_7 rfl (lv_at hl 0 rfl) ?_
  refine lv_if_ne (tgt := 15) hx hb dX3_waterBy_8 (by decide) (fun c_4 => absurd (by decide) c_4) (fun c_4 => ?_)
  refine lv_sipush (v := (-1004)) hx hb dX3_waterBy_11 (by decide) ?_
  have hP9 := hP.sub (ws' := []) [] rfl
  have hD9 := hD.sub (ws' := []) [] (by decide) rfl
  exact W.iret (v := (-1004)) hx hb hr (fun t ht hW => ⟨⟨(-1004), (), rfl, rfl, ⟨by rw [ht]; exact hP9, va_K.moved hW.alike hK, hD9⟩⟩, hS.F ht⟩) hS.2.2 dX3_waterBy_14
set_option maxHeartbeats 4000000 in
set_option maxRecDepth 100000 in
theorem c_X4_growth (l : Launch) (dC : Nat → ClassId) (dI : Nat → Nat → Nat) (cy : Nat → ClassId) (sz : Nat) (zl : Nat) (zh : Nat) (ziv : Int32) (zhr : Nat) (zqh : Nat → Nat) (hy : 0 ≤ ziv.toInt ∧ ziv.toInt ≤ 23) : Met l yX4_growth wsX4_growth ({ frames := 2, cells := 0, slots := 0, locals := 54 }) (va_Pc [.ref zl, .ref zh, .int ziv] (PRE dC dI cy [(zh, .inr (3, [.ref zhr, .int 1, .int 3])), (zhr, .inl (cy 7, 3, .inr (.inr (.inr (.inr (fun i => if i < 3 then some (zqh i) else none)))))), ((zqh 0), .inl (cy 0, 24, .inl (fun _ => 0)))] sz)) (va_Qi (fun (r : Int32) (_ : Unit) => r = 0) (fun u t => POST dC dI cy (va_A [(zh, .inr (3, [.ref zhr, .int 1, .int 3])), (zhr, .inl (cy 7, 3, .inr (.inr (.inr (.inr (fun i => if i < 3 then some (zqh i) else none)))))), ((zqh 0), .inl (cy 0, 24, .inl (fun _ => 0)))] sz) [] t) (va_A [(zh, .inr (3, [.ref zhr, .int 1, .int 3])), (zhr, .inl (cy 7, 3, .inr (.inr (.inr (.inr (fun i => if i < 3 then some (zqh i) else none)))))), ((zqh 0), .inl (cy 0, 24, .inl (fun _ => 0)))] sz)) 0 0 (va_A [(zh, .inr (3, [.ref zhr, .int 1, .int 3])), (zhr, .inl (cy 7, 3, .inr (.inr (.inr (.inr (fun i => if i < 3 then some (zqh i) else none)))))), ((zqh 0), .inl (cy 0, 24, .inl (fun _ => 0)))] sz) := by
  refine Met.ofW (cc := cX4_growth) (maxL := 5) (ret := (some .int)) (by decide) rfl ?_
  intro p e s m args below meth c s₁ B hml hv
  obtain ⟨rfl, hsz, hP, hK, hD0, hN⟩ := hv
  have hx := B.exec
  have hb := B.bytes
  have hr := B.returns
  have hts := atoms_spec (ws := wsX4_growth) B.pre
  have hown : s.vm.findClass RX4 = some m.cls := findClass_of_methodNamed B.named
  have hlocks := B.notSynchronized
  subst hsz
  have hD := hD0.self (sz := s.heap.size)
  generalize hAe : va_A [(zh, .inr (3, [.ref zhr, .int 1, .int 3])), (zhr, .inl (cy 7, 3, .inr (.inr (.inr (.inr (fun i => if i < 3 then some (zqh i) else none)))))), ((zqh 0), .inl (cy 0, 24, .inl (fun _ => 0)))] s.heap.size = A at hD ⊢
  have hA : ∀ q : Nat, s.heap.size ≤ q → A q := fun q h => by rw [← hAe]; exact Or.inr h
  have hS : va_S A s.heap s.heap [] := va_S.rf
  have hP : va_P (dC, dI) vwCl [(zh, .inr (3, [.ref zhr, .int 1, .int 3])), (zhr, .inl (cy 7, 3, .inr (.inr (.inr (.inr (fun i => if i < 3 then some (zqh i) else none)))))), ((zqh 0), .inl (cy 0, 24, .inl (fun _ => 0)))] s.heap := hP
  have hl := lv_entry ([.ref zl, .ref zh, .int ziv] : List Value) (n := 5) (Nat.le_of_ble_eq_true rfl)
  rw [lg_entry_eq]
  generalize (lg_sl ([.ref zl, .ref zh, .int ziv] : List Value) ++ List.replicate (5 - (lg_sl ([.ref zl, .ref zh, .int ziv] : List Value)).length) Slot.unset).toArray = ls at hl ⊢
  have hl : lv_has ls 5 [(0, .ref zl), (1, .ref zh), (2, .int ziv)] := hl
  refine lv_aload_n hx hb dX4_growth_0 rfl (lv_at hl 1 rfl) ?_
  refine lv_iload_n hx hb dX4_growth_1 rfl (lv_at hl 2 rfl) ?_
  refine lv_aload_n hx hb dX4_growth_2 rfl (lv_at hl 1 rfl) ?_
  refine va_get (D := (dC, dI)) (ci := 3) (v := .int 1) (C := RX3) (T := TX3) (N := 3) hx hb hts (by decide +kernel) hown hK hP 0 rfl rfl 1 (by decide) (hts (.fieldLink RX4 27 "DripStone$Hill" "keeps" "I") (by decide +kernel)) (fun _ h9 => h9) rfl dX4_growth_3 ?_
  refine cj_i (wc := [(zh, .inr (3, [.ref zhr, .int 1, .int 3])), (zhr, .inl (cy 7, 3, .inr (.inr (.inr (.inr (fun i => if i < 3 then some (zqh i) else none)))))), ((zqh 0), .inl (cy 0, 24, .inl (fun _ => 0)))]) (wr := []) (w1 := fun (_ : Unit) => [(zh, .inr (3, [.ref zhr, .int 1, .int 3])), (zhr, .inl (cy 7, 3, .inr (.inr (.inr (.inr (fun i => if i < 3 then some (zqh i) else none)))))), ((zqh 0), .inl (cy 0, 24, .inl (fun _ => 0)))]) (va_runV (As := [.int ziv, .int 1]) (rest := []) ⟨hx, hb, hml, hown, hts⟩ (c_X3_wetBy l dC dI cy s.heap.size zh ziv zhr zqh (by first | rfl | decide | omega | exact Int32.toInt_toInt64 _)) (cwV 2 hts gX4_growth_X3_wetBy rfl rfl rfl (by decide +kernel) ⟨(Nat.le_of_ble_eq_true rfl), (Nat.le_of_ble_eq_true rfl)⟩) (PRE.v (hP.sub [0, 1, 2] rfl) hK (hD.sub [0, 1, 2] (by decide) rfl) hN (va_recv hK hP (ci := 3) (q0 := 0) rfl rfl)) rfl rfl hl.1 rfl (lv_room (Nat.le_of_ble_eq_true rfl)) dX4_growth_6 ⟨(Nat.le_of_ble_eq_true rfl), (Nat.le_of_ble_eq_true rfl)⟩) hP hD hS hA [0, 1, 2] [] rfl rfl rfl (by decide) (fun r_2 u_1 H locs hw_3 hP hD hS => ?_)
  have hP : va_P (dC, dI) vwCl [(zh, .inr (3, [.ref zhr, .int 1, .int 3])), (zhr, .inl (cy 7, 3, .inr (.inr (.inr (.inr (fun i => if i < 3 then some (zqh i) else none)))))), ((zqh 0), .inl (cy 0, 24, .inl (fun _ => 0)))] H := hP
  have hD : va_D A [(zh, .inr (3, [.ref zhr, .int 1, .int 3])), (zhr, .inl (cy 7, 3, .inr (.inr (.inr (.inr (fun i => if i < 3 then some (zqh i) else none)))))), ((zqh 0), .inl (cy 0, 24, .inl (fun _ => 0)))] := hD
  obtain rfl : r_2 = 0 := hw_3
  refine lv_istore_n (lv' := [(3, .int 0), (0, .ref zl), (1, .ref zh), (2, .int ziv)]) hx hb dX4_growth_9 rfl hl (by decide) rfl (fun ls hl => ?_)
  refine lv_iload_n hx hb dX4_growth_10 rfl (lv_at hl 0 rfl) ?_
  refine lv_if_ne (tgt := 16) hx hb dX4_growth_11 (by decide) (fun c_4 => absurd (by decide) c_4) (fun c_4 => ?_)
  refine lv_iconst (v := 0) hx hb dX4_growth_14 (by decide) ?_
  have hP9 := hP.sub (ws' := []) [] rfl
  have hD9 := hD.sub (ws' := []) [] (by decide) rfl
  exact W.iret (v := 0) hx hb hr (fun t ht hW => ⟨⟨0, (), rfl, rfl, ⟨by rw [ht]; exact hP9, va_K.moved hW.alike hK, hD9⟩⟩, hS.F ht⟩) hS.2.2 dX4_growth_15
set_option maxHeartbeats 4000000 in
set_option maxRecDepth 100000 in
theorem c_X0_add (l : Launch) (dC : Nat → ClassId) (dI : Nat → Nat → Nat) (cy : Nat → ClassId) (sz : Nat) (zc : Nat) (ziv : Int32) (ziw : Int32) (zix : Int32) (zck : Nat) (zcw : Nat) (zcy : Nat) (zcs : Nat) (zcf : Nat) (zcl : Nat) (zcz : Nat)  : Met l yX0_add wsX0_add ({ frames := 0, cells := 0, slots := 0, locals := 0 }) (va_Pc [.ref zc, .int ziv, .int ziw, .int zix] (PRE dC dI cy [(zc, .inr (0, [.ref zck, .ref zcw, .ref zcy, .ref zcs, .ref zcf, .ref zcl, .ref zcz, .int 0, .int 0, .int 2, .int 0])), (zck, .inl (cy 0, 12, .inl (fun _ => 0))), (zcw, .inl (cy 0, 12, .inl (fun _ => 0))), (zcy, .inl (cy 0, 12, .inl (fun _ => 0)))] sz)) (va_Qv (fun (_ : Unit) => True) (fun u t => POST dC dI cy (va_A [(zc, .inr (0, [.ref zck, .ref zcw, .ref zcy, .ref zcs, .ref zcf, .ref zcl, .ref zcz, .int 0, .int 0, .int 2, .int 0])), (zck, .inl (cy 0, 12, .inl (fun _ => 0))), (zcw, .inl (cy 0, 12, .inl (fun _ => 0))), (zcy, .inl (cy 0, 12, .inl (fun _ => 0)))] sz) [(zc, .inr (0, [.ref zck, .ref zcw, .ref zcy, .ref zcs, .ref zcf, .ref zcl, .ref zcz, .int 1, .int 0, .int 2, .int 0]))] t) (va_A [(zc, .inr (0, [.ref zck, .ref zcw, .ref zcy, .ref zcs, .ref zcf, .ref zcl, .ref zcz, .int 0, .int 0, .int 2, .int 0])), (zck, .inl (cy 0, 12, .inl (fun _ => 0))), (zcw, .inl (cy 0, 12, .inl (fun _ => 0))), (zcy, .inl (cy 0, 12, .inl (fun _ => 0)))] sz)) 0 0 (va_A [(zc, .inr (0, [.ref zck, .ref zcw, .ref zcy, .ref zcs, .ref zcf, .ref zcl, .ref zcz, .int 0, .int 0, .int 2, .int 0])), (zck, .inl (cy 0, 12, .inl (fun _ => 0))), (zcw, .inl (cy 0, 12, .inl (fun _ => 0))), (zcy, .inl (cy 0, 12, .inl (fun _ => 0)))] sz) := by
  refine Met.ofW (cc := cX0_add) (maxL := 4) (ret := none) (by decide) rfl ?_
  intro p e s m args below meth c s₁ B hml hv
  obtain ⟨rfl, hsz, hP, hK, hD0, hN⟩ := hv
  have hx := B.exec
  have hb := B.bytes
  have hr := B.returns
  have hts := atoms_spec (ws := wsX0_add) B.pre
  have hown : s.vm.findClass RX0 = some m.cls := findClass_of_methodNamed B.named
  have hlocks := B.notSynchronized
  subst hsz
  have hD := hD0.self (sz := s.heap.size)
  generalize hAe : va_A [(zc, .inr (0, [.ref zck, .ref zcw, .ref zcy, .ref zcs, .ref zcf, .ref zcl, .ref zcz, .int 0, .int 0, .int 2, .int 0])), (zck, .inl (cy 0, 12, .inl (fun _ => 0))), (zcw, .inl (cy 0, 12, .inl (fun _ => 0))), (zcy, .inl (cy 0, 12, .inl (fun _ => 0)))] s.heap.size = A at hD ⊢
  have hA : ∀ q : Nat, s.heap.size ≤ q → A q := fun q h => by rw [← hAe]; exact Or.inr h
  have hS : va_S A s.heap s.heap [] := va_S.rf
  have hP : va_P (dC, dI) vwCl [(zc, .inr (0, [.ref zck, .ref zcw, .ref zcy, .ref zcs, .ref zcf, .ref zcl, .ref zcz, .int 0, .int 0, .int 2, .int 0])), (zck, .inl (cy 0, 12, .inl (fun _ => 0))), (zcw, .inl (cy 0, 12, .inl (fun _ => 0))), (zcy, .inl (cy 0, 12, .inl (fun _ => 0)))] s.heap := hP
  have hl := lv_entry ([.ref zc, .int ziv, .int ziw, .int zix] : List Value) (n := 4) (Nat.le_of_ble_eq_true rfl)
  rw [lg_entry_eq]
  generalize (lg_sl ([.ref zc, .int ziv, .int ziw, .int zix] : List Value) ++ List.replicate (4 - (lg_sl ([.ref zc, .int ziv, .int ziw, .int zix] : List Value)).length) Slot.unset).toArray = ls at hl ⊢
  have hl : lv_has ls 4 [(0, .ref zc), (1, .int ziv), (2, .int ziw), (3, .int zix)] := hl
  refine lv_aload_n hx hb dX0_add_0 rfl (lv_at hl 0 rfl) ?_
  refine va_get (D := (dC, dI)) (ci := 0) (v := .int 0) (C := RX0) (T := TX0) (N := 11) hx hb hts (by decide +kernel) hown hK hP 0 rfl rfl 7 (by decide) (hts (.fieldLink RX0 37 "DripStone$Candle" "things" "I") (by decide +kernel)) (fun _ h9 => h9) rfl dX0_add_1 ?_
  refine lv_bipush (v := 12) hx hb dX0_add_4 (by decide) ?_
  refine lv_icmp_ge (tgt := 49) hx hb dX0_add_6 (by decide) (fun c_1 => absurd c_1 (by decide)) (fun c_1 => ?_)
  refine lv_aload_n hx hb dX0_add_9 rfl (lv_at hl 0 rfl) ?_
  refine va_get (D := (dC, dI)) (ci := 0) (v := .ref zck) (C := RX0) (T := TX0) (N := 11) hx hb hts (by decide +kernel) hown hK hP 0 rfl rfl 0 (by decide) (hts (.fieldLink RX0 9 "DripStone$Candle" "kinds" "[I") (by decide +kernel)) (fun _ h9 => h9) rfl dX0_add_10 ?_
  refine lv_aload_n hx hb dX0_add_13 rfl (lv_at hl 0 rfl) ?_
  refine va_get (D := (dC, dI)) (ci := 0) (v := .int 0) (C := RX0) (T := TX0) (N := 11) hx hb hts (by decide +kernel) hown hK hP 0 rfl rfl 7 (by decide) (hts (.fieldLink RX0 37 "DripStone$Candle" "things" "I") (by decide +kernel)) (fun _ h9 => h9) rfl dX0_add_14 ?_
  refine lv_iload_n hx hb dX0_add_17 rfl (lv_at hl 1 rfl) ?_
  refine va_iast hx hb hK hP hD hS 1 0 rfl rfl (vp_in_iff.mpr ⟨by decide, by decide⟩) dX0_add_18 (fun H locs hP hD hS => ?_)
  have hP : va_P (dC, dI) vwCl [(zc, .inr (0, [.ref zck, .ref zcw, .ref zcy, .ref zcs, .ref zcf, .ref zcl, .ref zcz, .int 0, .int 0, .int 2, .int 0])), (zck, .inl (cy 0, 12, .inl (upd (fun _ => 0) (0 : Int32).toNatClampNeg ziv))), (zcw, .inl (cy 0, 12, .inl (fun _ => 0))), (zcy, .inl (cy 0, 12, .inl (fun _ => 0)))] H := hP
  have hD : va_D A [(zc, .inr (0, [.ref zck, .ref zcw, .ref zcy, .ref zcs, .ref zcf, .ref zcl, .ref zcz, .int 0, .int 0, .int 2, .int 0])), (zck, .inl (cy 0, 12, .inl (upd (fun _ => 0) (0 : Int32).toNatClampNeg ziv))), (zcw, .inl (cy 0, 12, .inl (fun _ => 0))), (zcy, .inl (cy 0, 12, .inl (fun _ => 0)))] := hD
  refine lv_aload_n hx hb dX0_add_19 rfl (lv_at hl 0 rfl) ?_
  refine va_get (D := (dC, dI)) (ci := 0) (v := .ref zcw) (C := RX0) (T := TX0) (N := 11) hx hb hts (by decide +kernel) hown hK hP 0 rfl rfl 1 (by decide) (hts (.fieldLink RX0 15 "DripStone$Candle" "weights" "[I") (by decide +kernel)) (fun _ h9 => h9) rfl dX0_add_20 ?_
  refine lv_aload_n hx hb dX0_add_23 rfl (lv_at hl 0 rfl) ?_
  refine va_get (D := (dC, dI)) (ci := 0) (v := .int 0) (C := RX0) (T := TX0) (N := 11) hx hb hts (by decide +kernel) hown hK hP 0 rfl rfl 7 (by decide) (hts (.fieldLink RX0 37 "DripStone$Candle" "things" "I") (by decide +kernel)) (fun _ h9 => h9) rfl dX0_add_24 ?_
  refine lv_iload_n hx hb dX0_add_27 rfl (lv_at hl 2 rfl) ?_
  refine va_iast hx hb hK hP hD hS 2 0 rfl rfl (vp_in_iff.mpr ⟨by decide, by decide⟩) dX0_add_28 (fun H locs hP hD hS => ?_)
  have hP : va_P (dC, dI) vwCl [(zc, .inr (0, [.ref zck, .ref zcw, .ref zcy, .ref zcs, .ref zcf, .ref zcl, .ref zcz, .int 0, .int 0, .int 2, .int 0])), (zck, .inl (cy 0, 12, .inl (upd (fun _ => 0) (0 : Int32).toNatClampNeg ziv))), (zcw, .inl (cy 0, 12, .inl (upd (fun _ => 0) (0 : Int32).toNatClampNeg ziw))), (zcy, .inl (cy 0, 12, .inl (fun _ => 0)))] H := hP
  have hD : va_D A [(zc, .inr (0, [.ref zck, .ref zcw, .ref zcy, .ref zcs, .ref zcf, .ref zcl, .ref zcz, .int 0, .int 0, .int 2, .int 0])), (zck, .inl (cy 0, 12, .inl (upd (fun _ => 0) (0 : Int32).toNatClampNeg ziv))), (zcw, .inl (cy 0, 12, .inl (upd (fun _ => 0) (0 : Int32).toNatClampNeg ziw))), (zcy, .inl (cy 0, 12, .inl (fun _ => 0)))] := hD
  refine lv_aload_n hx hb dX0_add_29 rfl (lv_at hl 0 rfl) ?_
  refine va_get (D := (dC, dI)) (ci := 0) (v := .ref zcy) (C := RX0) (T := TX0) (N := 11) hx hb hts (by decide +kernel) hown hK hP 0 rfl rfl 2 (by decide) (hts (.fieldLink RX0 18 "DripStone$Candle" "years" "[I") (by decide +kernel)) (fun _ h9 => h9) rfl dX0_add_30 ?_
  refine lv_aload_n hx hb dX0_add_33 rfl (lv_at hl 0 rfl) ?_
  refine va_get (D := (dC, dI)) (ci := 0) (v := .int 0) (C := RX0) (T := TX0) (N := 11) hx hb hts (by decide +kernel) hown hK hP 0 rfl rfl 7 (by decide) (hts (.fieldLink RX0 37 "DripStone$Candle" "things" "I") (by decide +kernel)) (fun _ h9 => h9) rfl dX0_add_34 ?_
  refine lv_iload_n hx hb dX0_add_37 rfl (lv_at hl 3 rfl) ?_
  refine va_iast hx hb hK hP hD hS 3 0 rfl rfl (vp_in_iff.mpr ⟨by decide, by decide⟩) dX0_add_38 (fun H locs hP hD hS => ?_)
  have hP : va_P (dC, dI) vwCl [(zc, .inr (0, [.ref zck, .ref zcw, .ref zcy, .ref zcs, .ref zcf, .ref zcl, .ref zcz, .int 0, .int 0, .int 2, .int 0])), (zck, .inl (cy 0, 12, .inl (upd (fun _ => 0) (0 : Int32).toNatClampNeg ziv))), (zcw, .inl (cy 0, 12, .inl (upd (fun _ => 0) (0 : Int32).toNatClampNeg ziw))), (zcy, .inl (cy 0, 12, .inl (upd (fun _ => 0) (0 : Int32).toNatClampNeg zix)))] H := hP
  have hD : va_D A [(zc, .inr (0, [.ref zck, .ref zcw, .ref zcy, .ref zcs, .ref zcf, .ref zcl, .ref zcz, .int 0, .int 0, .int 2, .int 0])), (zck, .inl (cy 0, 12, .inl (upd (fun _ => 0) (0 : Int32).toNatClampNeg ziv))), (zcw, .inl (cy 0, 12, .inl (upd (fun _ => 0) (0 : Int32).toNatClampNeg ziw))), (zcy, .inl (cy 0, 12, .inl (upd (fun _ => 0) (0 : Int32).toNatClampNeg zix)))] := hD
  refine lv_aload_n hx hb dX0_add_39 rfl (lv_at hl 0 rfl) ?_
  refine lv_dup hx hb dX0_add_40 rfl ?_
  refine va_get (D := (dC, dI)) (ci := 0) (v := .int 0) (C := RX0) (T := TX0) (N := 11) hx hb hts (by decide +kernel) hown hK hP 0 rfl rfl 7 (by decide) (hts (.fieldLink RX0 37 "DripStone$Candle" "things" "I") (by decide +kernel)) (fun _ h9 => h9) rfl dX0_add_41 ?_
  refine lv_iconst (v := 1) hx hb dX0_add_44 (by decide) ?_
  refine lv_iadd hx hb dX0_add_45 ?_
  refine lv_topi (fun v_2 ev_2 => ?_)
  obtain rfl : v_2 = (1 : Int32) := ev_2.trans (by decide)
  refine va_put (D := (dC, dI)) (ci := 0) (v := .int 1) (ty := .int) (C := RX0) (T := TX0) (N := 11) hx hb hts (by decide +kernel) tyX0 tyX0_ok nmX0 hown hK hP hD hS 0 rfl rfl 7 (by decide) (hts (.fieldLink RX0 37 "DripStone$Candle" "things" "I") (by decide +kernel)) (fun _ h9 => h9) rfl (by decide +kernel) rfl rfl (Nat.le_of_ble_eq_true rfl) dX0_add_46 (fun H locs hP hD hS => ?_)
  have hP : va_P (dC, dI) vwCl [(zc, .inr (0, [.ref zck, .ref zcw, .ref zcy, .ref zcs, .ref zcf, .ref zcl, .ref zcz, .int 1, .int 0, .int 2, .int 0])), (zck, .inl (cy 0, 12, .inl (upd (fun _ => 0) (0 : Int32).toNatClampNeg ziv))), (zcw, .inl (cy 0, 12, .inl (upd (fun _ => 0) (0 : Int32).toNatClampNeg ziw))), (zcy, .inl (cy 0, 12, .inl (upd (fun _ => 0) (0 : Int32).toNatClampNeg zix)))] H := hP
  have hD : va_D A [(zc, .inr (0, [.ref zck, .ref zcw, .ref zcy, .ref zcs, .ref zcf, .ref zcl, .ref zcz, .int 1, .int 0, .int 2, .int 0])), (zck, .inl (cy 0, 12, .inl (upd (fun _ => 0) (0 : Int32).toNatClampNeg ziv))), (zcw, .inl (cy 0, 12, .inl (upd (fun _ => 0) (0 : Int32).toNatClampNeg ziw))), (zcy, .inl (cy 0, 12, .inl (upd (fun _ => 0) (0 : Int32).toNatClampNeg zix)))] := hD
  have hP9 := hP.sub (ws' := [(zc, .inr (0, [.ref zck, .ref zcw, .ref zcy, .ref zcs, .ref zcf, .ref zcl, .ref zcz, .int 1, .int 0, .int 2, .int 0]))]) [0] rfl
  have hD9 := hD.sub (ws' := [(zc, .inr (0, [.ref zck, .ref zcw, .ref zcy, .ref zcs, .ref zcf, .ref zcl, .ref zcz, .int 1, .int 0, .int 2, .int 0]))]) [0] (by decide) rfl
  exact W.vret hx hb hr (fun t ht hW => ⟨⟨(), rfl, trivial, ⟨by rw [ht]; exact hP9, va_K.moved hW.alike hK, hD9⟩⟩, hS.F ht⟩) hS.2.2 dX0_add_49
set_option maxHeartbeats 4000000 in
set_option maxRecDepth 100000 in
theorem c_X6_look (l : Launch) (dC : Nat → ClassId) (dI : Nat → Nat → Nat) (cy : Nat → ClassId) (sz : Nat) (zr : Nat) (zrt : Nat) (zif : Int32)  : Met l yX6_look wsX6_look ({ frames := 0, cells := 0, slots := 0, locals := 0 }) (va_Pc [.ref zr] (PRE dC dI cy [(zr, .inr (6, [.ref zrt, .int 0, .int 0, .int zif]))] sz)) (va_Qi (fun (r : Int32) (_ : Unit) => r = (-1)) (fun u t => POST dC dI cy (va_A [(zr, .inr (6, [.ref zrt, .int 0, .int 0, .int zif]))] sz) [(zr, .inr (6, [.ref zrt, .int 0, .int 0, .int zif]))] t) (va_A [(zr, .inr (6, [.ref zrt, .int 0, .int 0, .int zif]))] sz)) 0 0 (va_A [(zr, .inr (6, [.ref zrt, .int 0, .int 0, .int zif]))] sz) := by
  refine Met.ofW (cc := cX6_look) (maxL := 1) (ret := (some .int)) (by decide) rfl ?_
  intro p e s m args below meth c s₁ B hml hv
  obtain ⟨rfl, hsz, hP, hK, hD0, hN⟩ := hv
  have hx := B.exec
  have hb := B.bytes
  have hr := B.returns
  have hts := atoms_spec (ws := wsX6_look) B.pre
  have hown : s.vm.findClass RX6 = some m.cls := findClass_of_methodNamed B.named
  have hlocks := B.notSynchronized
  subst hsz
  have hD := hD0.self (sz := s.heap.size)
  generalize hAe : va_A [(zr, .inr (6, [.ref zrt, .int 0, .int 0, .int zif]))] s.heap.size = A at hD ⊢
  have hA : ∀ q : Nat, s.heap.size ≤ q → A q := fun q h => by rw [← hAe]; exact Or.inr h
  have hS : va_S A s.heap s.heap [] := va_S.rf
  have hP : va_P (dC, dI) vwCl [(zr, .inr (6, [.ref zrt, .int 0, .int 0, .int zif]))] s.heap := hP
  have hl := lv_entry ([.ref zr] : List Value) (n := 1) (Nat.le_of_ble_eq_true rfl)
  rw [lg_entry_eq]
  generalize (lg_sl ([.ref zr] : List Value) ++ List.replicate (1 - (lg_sl ([.ref zr] : List Value)).length) Slot.unset).toArray = ls at hl ⊢
  have hl : lv_has ls 1 [(0, .ref zr)] := hl
  refine lv_aload_n hx hb dX6_look_0 rfl (lv_at hl 0 rfl) ?_
  refine va_get (D := (dC, dI)) (ci := 6) (v := .int 0) (C := RX6) (T := TX6) (N := 4) hx hb hts (by decide +kernel) hown hK hP 0 rfl rfl 2 (by decide) (hts (.fieldLink RX6 15 "DripStone$Reader" "at" "I") (by decide +kernel)) (fun _ h9 => h9) rfl dX6_look_1 ?_
  refine lv_aload_n hx hb dX6_look_4 rfl (lv_at hl 0 rfl) ?_
  refine va_get (D := (dC, dI)) (ci := 6) (v := .int 0) (C := RX6) (T := TX6) (N := 4) hx hb hts (by decide +kernel) hown hK hP 0 rfl rfl 1 (by decide) (hts (.fieldLink RX6 110 "DripStone$Reader" "typed" "I") (by decide +kernel)) (fun _ h9 => h9) rfl dX6_look_5 ?_
  refine lv_icmp_ge (tgt := 38) hx hb dX6_look_8 (by decide) (fun c_1 => ?_) (fun c_1 => absurd (by decide) c_1)
  refine lv_aload_n hx hb dX6_look_38 rfl (lv_at hl 0 rfl) ?_
  refine va_get (D := (dC, dI)) (ci := 6) (v := .int 0) (C := RX6) (T := TX6) (N := 4) hx hb hts (by decide +kernel) hown hK hP 0 rfl rfl 2 (by decide) (hts (.fieldLink RX6 15 "DripStone$Reader" "at" "I") (by decide +kernel)) (fun _ h9 => h9) rfl dX6_look_39 ?_
  refine lv_aload_n hx hb dX6_look_42 rfl (lv_at hl 0 rfl) ?_
  refine va_get (D := (dC, dI)) (ci := 6) (v := .int 0) (C := RX6) (T := TX6) (N := 4) hx hb hts (by decide +kernel) hown hK hP 0 rfl rfl 1 (by decide) (hts (.fieldLink RX6 110 "DripStone$Reader" "typed" "I") (by decide +kernel)) (fun _ h9 => h9) rfl dX6_look_43 ?_
  refine lv_icmp_ge (tgt := 61) hx hb dX6_look_46 (by decide) (fun c_2 => ?_) (fun c_2 => absurd (by decide) c_2)
  refine lv_iconst (v := (-1)) hx hb dX6_look_61 (by decide) ?_
  have hP9 := hP.sub (ws' := [(zr, .inr (6, [.ref zrt, .int 0, .int 0, .int zif]))]) [0] rfl
  have hD9 := hD.sub (ws' := [(zr, .inr (6, [.ref zrt, .int 0, .int 0, .int zif]))]) [0] (by decide) rfl
  exact W.iret (v := (-1)) hx hb hr (fun t ht hW => ⟨⟨(-1), (), rfl, rfl, ⟨by rw [ht]; exact hP9, va_K.moved hW.alike hK, hD9⟩⟩, hS.F ht⟩) hS.2.2 dX6_look_62
set_option maxHeartbeats 4000000 in
set_option maxRecDepth 100000 in
theorem c_X6_reads (l : Launch) (dC : Nat → ClassId) (dI : Nat → Nat → Nat) (cy : Nat → ClassId) (sz : Nat) (zr : Nat) (zig : Int32) (zrt : Nat) (zif : Int32) (hg : 0 ≤ zig.toInt) : Met l yX6_reads wsX6_reads ({ frames := 1, cells := 0, slots := 0, locals := 20 }) (va_Pc [.ref zr, .int zig] (PRE dC dI cy [(zr, .inr (6, [.ref zrt, .int 0, .int 0, .int zif]))] sz)) (va_Qi (fun (r : Int32) (_ : Unit) => r = 0) (fun u t => POST dC dI cy (va_A [(zr, .inr (6, [.ref zrt, .int 0, .int 0, .int zif]))] sz) [(zr, .inr (6, [.ref zrt, .int 0, .int 0, .int zif]))] t) (va_A [(zr, .inr (6, [.ref zrt, .int 0, .int 0, .int zif]))] sz)) 0 0 (va_A [(zr, .inr (6, [.ref zrt, .int 0, .int 0, .int zif]))] sz) := by
  refine Met.ofW (cc := cX6_reads) (maxL := 2) (ret := (some .boolean)) (by decide) rfl ?_
  intro p e s m args below meth c s₁ B hml hv
  obtain ⟨rfl, hsz, hP, hK, hD0, hN⟩ := hv
  have hx := B.exec
  have hb := B.bytes
  have hr := B.returns
  have hts := atoms_spec (ws := wsX6_reads) B.pre
  have hown : s.vm.findClass RX6 = some m.cls := findClass_of_methodNamed B.named
  have hlocks := B.notSynchronized
  subst hsz
  have hD := hD0.self (sz := s.heap.size)
  generalize hAe : va_A [(zr, .inr (6, [.ref zrt, .int 0, .int 0, .int zif]))] s.heap.size = A at hD ⊢
  have hA : ∀ q : Nat, s.heap.size ≤ q → A q := fun q h => by rw [← hAe]; exact Or.inr h
  have hS : va_S A s.heap s.heap [] := va_S.rf
  have hP : va_P (dC, dI) vwCl [(zr, .inr (6, [.ref zrt, .int 0, .int 0, .int zif]))] s.heap := hP
  have hl := lv_entry ([.ref zr, .int zig] : List Value) (n := 2) (Nat.le_of_ble_eq_true rfl)
  rw [lg_entry_eq]
  generalize (lg_sl ([.ref zr, .int zig] : List Value) ++ List.replicate (2 - (lg_sl ([.ref zr, .int zig] : List Value)).length) Slot.unset).toArray = ls at hl ⊢
  have hl : lv_has ls 2 [(0, .ref zr), (1, .int zig)] := hl
  refine lv_aload_n hx hb dX6_reads_0 rfl (lv_at hl 0 rfl) ?_
  refine cj_i (wc := [(zr, .inr (6, [.ref zrt, .int 0, .int 0, .int zif]))]) (wr := []) (w1 := fun (_ : Unit) => [(zr, .inr (6, [.ref zrt, .int 0, .int 0, .int zif]))]) (va_runV (As := []) (rest := []) ⟨hx, hb, hml, hown, hts⟩ (c_X6_look l dC dI cy s.heap.size zr zrt zif) (cwV 0 hts gX6_reads_X6_look rfl rfl rfl (by decide +kernel) ⟨(Nat.le_of_ble_eq_true rfl), (Nat.le_of_ble_eq_true rfl)⟩) (PRE.v (hP.sub [0] rfl) hK (hD.sub [0] (by decide) rfl) hN (va_recv hK hP (ci := 6) (q0 := 0) rfl rfl)) rfl rfl hl.1 rfl (lv_room (Nat.le_of_ble_eq_true rfl)) dX6_reads_1 ⟨(Nat.le_of_ble_eq_true rfl), (Nat.le_of_ble_eq_true rfl)⟩) hP hD hS hA [0] [] rfl rfl rfl (by decide) (fun r_2 u_1 H locs hw_3 hP hD hS => ?_)
  have hP : va_P (dC, dI) vwCl [(zr, .inr (6, [.ref zrt, .int 0, .int 0, .int zif]))] H := hP
  have hD : va_D A [(zr, .inr (6, [.ref zrt, .int 0, .int 0, .int zif]))] := hD
  obtain rfl : r_2 = (-1) := hw_3
  refine lv_iload_n hx hb dX6_reads_4 rfl (lv_at hl 1 rfl) ?_
  refine lv_icmp_eq (tgt := 10) hx hb dX6_reads_5 (by decide) (fun c_4 => ?_) (fun c_4 => ?_)
  · have f_5 : (-1 : Int) = zig.toInt := ic_eq (show ((-1) : Int32).toInt = -1 by decide) (rfl) c_4
    exfalso; omega
  · have f_5 : ¬ ((-1 : Int) = zig.toInt) := ic_neq (show ((-1) : Int32).toInt = -1 by decide) (rfl) c_4
    refine lv_iconst (v := 0) hx hb dX6_reads_8 (by decide) ?_
    have hP9 := hP.sub (ws' := [(zr, .inr (6, [.ref zrt, .int 0, .int 0, .int zif]))]) [0] rfl
    have hD9 := hD.sub (ws' := [(zr, .inr (6, [.ref zrt, .int 0, .int 0, .int zif]))]) [0] (by decide) rfl
    exact W.zret (v := 0) hx hb hr rfl (fun t ht hW => ⟨⟨0, (), rfl, rfl, ⟨by rw [ht]; exact hP9, va_K.moved hW.alike hK, hD9⟩⟩, hS.F ht⟩) hS.2.2 dX6_reads_9
set_option maxHeartbeats 4000000 in
set_option maxRecDepth 100000 in
theorem c_X6_fails (l : Launch) (dC : Nat → ClassId) (dI : Nat → Nat → Nat) (cy : Nat → ClassId) (sz : Nat) (zr : Nat) (zrt : Nat) (zif : Int32)  : Met l yX6_fails wsX6_fails ({ frames := 0, cells := 0, slots := 0, locals := 0 }) (va_Pc [.ref zr, .int 0] (PRE dC dI cy [(zr, .inr (6, [.ref zrt, .int 0, .int 0, .int zif]))] sz)) (va_Qi (fun (r : Int32) (_ : Unit) => r = 0) (fun u t => POST dC dI cy (va_A [(zr, .inr (6, [.ref zrt, .int 0, .int 0, .int zif]))] sz) [(zr, .inr (6, [.ref zrt, .int 0, .int 0, .int (-20)]))] t) (va_A [(zr, .inr (6, [.ref zrt, .int 0, .int 0, .int zif]))] sz)) 0 0 (va_A [(zr, .inr (6, [.ref zrt, .int 0, .int 0, .int zif]))] sz) := by
  refine Met.ofW (cc := cX6_fails) (maxL := 2) (ret := (some .boolean)) (by decide) rfl ?_
  intro p e s m args below meth c s₁ B hml hv
  obtain ⟨rfl, hsz, hP, hK, hD0, hN⟩ := hv
  have hx := B.exec
  have hb := B.bytes
  have hr := B.returns
  have hts := atoms_spec (ws := wsX6_fails) B.pre
  have hown : s.vm.findClass RX6 = some m.cls := findClass_of_methodNamed B.named
  have hlocks := B.notSynchronized
  subst hsz
  have hD := hD0.self (sz := s.heap.size)
  generalize hAe : va_A [(zr, .inr (6, [.ref zrt, .int 0, .int 0, .int zif]))] s.heap.size = A at hD ⊢
  have hA : ∀ q : Nat, s.heap.size ≤ q → A q := fun q h => by rw [← hAe]; exact Or.inr h
  have hS : va_S A s.heap s.heap [] := va_S.rf
  have hP : va_P (dC, dI) vwCl [(zr, .inr (6, [.ref zrt, .int 0, .int 0, .int zif]))] s.heap := hP
  have hl := lv_entry ([.ref zr, .int 0] : List Value) (n := 2) (Nat.le_of_ble_eq_true rfl)
  rw [lg_entry_eq]
  generalize (lg_sl ([.ref zr, .int 0] : List Value) ++ List.replicate (2 - (lg_sl ([.ref zr, .int 0] : List Value)).length) Slot.unset).toArray = ls at hl ⊢
  have hl : lv_has ls 2 [(0, .ref zr), (1, .int 0)] := hl
  refine lv_aload_n hx hb dX6_fails_0 rfl (lv_at hl 0 rfl) ?_
  refine lv_bipush (v := (-20)) hx hb dX6_fails_1 (by decide) ?_
  refine lv_iload_n hx hb dX6_fails_3 rfl (lv_at hl 1 rfl) ?_
  refine lv_isub hx hb dX6_fails_4 ?_
  refine lv_topi (fun v_1 ev_1 => ?_)
  obtain rfl : v_1 = ((-20) : Int32) := ev_1.trans (by decide)
  refine va_put (D := (dC, dI)) (ci := 6) (v := .int (-20)) (ty := .int) (C := RX6) (T := TX6) (N := 4) hx hb hts (by decide +kernel) tyX6 tyX6_ok nmX6 hown hK hP hD hS 0 rfl rfl 3 (by decide) (hts (.fieldLink RX6 23 "DripStone$Reader" "fault" "I") (by decide +kernel)) (fun _ h9 => h9) rfl (by decide +kernel) rfl rfl (Nat.le_of_ble_eq_true rfl) dX6_fails_5 (fun H locs hP hD hS => ?_)
  have hP : va_P (dC, dI) vwCl [(zr, .inr (6, [.ref zrt, .int 0, .int 0, .int (-20)]))] H := hP
  have hD : va_D A [(zr, .inr (6, [.ref zrt, .int 0, .int 0, .int (-20)]))] := hD
  refine lv_iconst (v := 0) hx hb dX6_fails_8 (by decide) ?_
  have hP9 := hP.sub (ws' := [(zr, .inr (6, [.ref zrt, .int 0, .int 0, .int (-20)]))]) [0] rfl
  have hD9 := hD.sub (ws' := [(zr, .inr (6, [.ref zrt, .int 0, .int 0, .int (-20)]))]) [0] (by decide) rfl
  exact W.zret (v := 0) hx hb hr rfl (fun t ht hW => ⟨⟨0, (), rfl, rfl, ⟨by rw [ht]; exact hP9, va_K.moved hW.alike hK, hD9⟩⟩, hS.F ht⟩) hS.2.2 dX6_fails_9
set_option maxHeartbeats 4000000 in
set_option maxRecDepth 100000 in
theorem c_X6_wants (l : Launch) (dC : Nat → ClassId) (dI : Nat → Nat → Nat) (cy : Nat → ClassId) (sz : Nat) (zr : Nat) (zig : Int32) (zrt : Nat) (zif : Int32) (hg : 0 ≤ zig.toInt) : Met l yX6_wants wsX6_wants ({ frames := 2, cells := 0, slots := 0, locals := 41 }) (va_Pc [.ref zr, .int zig] (PRE dC dI cy [(zr, .inr (6, [.ref zrt, .int 0, .int 0, .int zif]))] sz)) (va_Qi (fun (r : Int32) (_ : Unit) => r = 0) (fun u t => POST dC dI cy (va_A [(zr, .inr (6, [.ref zrt, .int 0, .int 0, .int zif]))] sz) [(zr, .inr (6, [.ref zrt, .int 0, .int 0, .int (-20)]))] t) (va_A [(zr, .inr (6, [.ref zrt, .int 0, .int 0, .int zif]))] sz)) 0 0 (va_A [(zr, .inr (6, [.ref zrt, .int 0, .int 0, .int zif]))] sz) := by
  refine Met.ofW (cc := cX6_wants) (maxL := 2) (ret := (some .boolean)) (by decide) rfl ?_
  intro p e s m args below meth c s₁ B hml hv
  obtain ⟨rfl, hsz, hP, hK, hD0, hN⟩ := hv
  have hx := B.exec
  have hb := B.bytes
  have hr := B.returns
  have hts := atoms_spec (ws := wsX6_wants) B.pre
  have hown : s.vm.findClass RX6 = some m.cls := findClass_of_methodNamed B.named
  have hlocks := B.notSynchronized
  subst hsz
  have hD := hD0.self (sz := s.heap.size)
  generalize hAe : va_A [(zr, .inr (6, [.ref zrt, .int 0, .int 0, .int zif]))] s.heap.size = A at hD ⊢
  have hA : ∀ q : Nat, s.heap.size ≤ q → A q := fun q h => by rw [← hAe]; exact Or.inr h
  have hS : va_S A s.heap s.heap [] := va_S.rf
  have hP : va_P (dC, dI) vwCl [(zr, .inr (6, [.ref zrt, .int 0, .int 0, .int zif]))] s.heap := hP
  have hl := lv_entry ([.ref zr, .int zig] : List Value) (n := 2) (Nat.le_of_ble_eq_true rfl)
  rw [lg_entry_eq]
  generalize (lg_sl ([.ref zr, .int zig] : List Value) ++ List.replicate (2 - (lg_sl ([.ref zr, .int zig] : List Value)).length) Slot.unset).toArray = ls at hl ⊢
  have hl : lv_has ls 2 [(0, .ref zr), (1, .int zig)] := hl
  refine lv_aload_n hx hb dX6_wants_0 rfl (lv_at hl 0 rfl) ?_
  refine lv_iload_n hx hb dX6_wants_1 rfl (lv_at hl 1 rfl) ?_
  refine cj_i (wc := [(zr, .inr (6, [.ref zrt, .int 0, .int 0, .int zif]))]) (wr := []) (w1 := fun (_ : Unit) => [(zr, .inr (6, [.ref zrt, .int 0, .int 0, .int zif]))]) (va_runV (As := [.int zig]) (rest := []) ⟨hx, hb, hml, hown, hts⟩ (c_X6_reads l dC dI cy s.heap.size zr zig zrt zif (by first | rfl | decide | omega | exact Int32.toInt_toInt64 _)) (cwV 1 hts gX6_wants_X6_reads rfl rfl rfl (by decide +kernel) ⟨(Nat.le_of_ble_eq_true rfl), (Nat.le_of_ble_eq_true rfl)⟩) (PRE.v (hP.sub [0] rfl) hK (hD.sub [0] (by decide) rfl) hN (va_recv hK hP (ci := 6) (q0 := 0) rfl rfl)) rfl rfl hl.1 rfl (lv_room (Nat.le_of_ble_eq_true rfl)) dX6_wants_2 ⟨(Nat.le_of_ble_eq_true rfl), (Nat.le_of_ble_eq_true rfl)⟩) hP hD hS hA [0] [] rfl rfl rfl (by decide) (fun r_2 u_1 H locs hw_3 hP hD hS => ?_)
  have hP : va_P (dC, dI) vwCl [(zr, .inr (6, [.ref zrt, .int 0, .int 0, .int zif]))] H := hP
  have hD : va_D A [(zr, .inr (6, [.ref zrt, .int 0, .int 0, .int zif]))] := hD
  obtain rfl : r_2 = 0 := hw_3
  refine lv_if_ne (tgt := 19) hx hb dX6_wants_5 (by decide) (fun c_4 => absurd (by decide) c_4) (fun c_4 => ?_)
  refine lv_aload_n hx hb dX6_wants_8 rfl (lv_at hl 0 rfl) ?_
  refine lv_aload_n hx hb dX6_wants_9 rfl (lv_at hl 0 rfl) ?_
  refine va_get (D := (dC, dI)) (ci := 6) (v := .int 0) (C := RX6) (T := TX6) (N := 4) hx hb hts (by decide +kernel) hown hK hP 0 rfl rfl 2 (by decide) (hts (.fieldLink RX6 15 "DripStone$Reader" "at" "I") (by decide +kernel)) (fun _ h9 => h9) rfl dX6_wants_10 ?_
  refine cj_i (wc := [(zr, .inr (6, [.ref zrt, .int 0, .int 0, .int zif]))]) (wr := []) (w1 := fun (_ : Unit) => [(zr, .inr (6, [.ref zrt, .int 0, .int 0, .int (-20)]))]) (va_runV (As := [.int 0]) (rest := []) ⟨hx, hb, hml, hown, hts⟩ (c_X6_fails l dC dI cy H.size zr zrt zif) (cwV 1 hts gX6_wants_X6_fails rfl rfl rfl (by decide +kernel) ⟨(Nat.le_of_ble_eq_true rfl), (Nat.le_of_ble_eq_true rfl)⟩) (PRE.v (hP.sub [0] rfl) hK (hD.sub [0] (by decide) rfl) hN (va_recv hK hP (ci := 6) (q0 := 0) rfl rfl)) rfl rfl hl.1 rfl (lv_room (Nat.le_of_ble_eq_true rfl)) dX6_wants_13 ⟨(Nat.le_of_ble_eq_true rfl), (Nat.le_of_ble_eq_true rfl)⟩) hP hD hS hA [0] [] rfl rfl rfl (by decide) (fun r_6 u_5 H locs hw_7 hP hD hS => ?_)
  have hP : va_P (dC, dI) vwCl [(zr, .inr (6, [.ref zrt, .int 0, .int 0, .int (-20)]))] H := hP
  have hD : va_D A [(zr, .inr (6, [.ref zrt, .int 0, .int 0, .int (-20)]))] := hD
  obtain rfl : r_6 = 0 := hw_7
  refine lv_if_eq (tgt := 23) hx hb dX6_wants_16 (by decide) (fun c_8 => ?_) (fun c_8 => absurd (by decide) c_8)
  refine lv_iconst (v := 0) hx hb dX6_wants_23 (by decide) ?_
  have hP9 := hP.sub (ws' := [(zr, .inr (6, [.ref zrt, .int 0, .int 0, .int (-20)]))]) [0] rfl
  have hD9 := hD.sub (ws' := [(zr, .inr (6, [.ref zrt, .int 0, .int 0, .int (-20)]))]) [0] (by decide) rfl
  exact W.zret (v := 0) hx hb hr rfl (fun t ht hW => ⟨⟨0, (), rfl, rfl, ⟨by rw [ht]; exact hP9, va_K.moved hW.alike hK, hD9⟩⟩, hS.F ht⟩) hS.2.2 dX6_wants_24
set_option maxHeartbeats 4000000 in
set_option maxRecDepth 100000 in
theorem c_X6_readConditions (l : Launch) (dC : Nat → ClassId) (dI : Nat → Nat → Nat) (cy : Nat → ClassId) (sz : Nat) (zr : Nat) (zl : Nat) (zrt : Nat) (zif : Int32) (zld : Nat) (zlc : Nat) (zls : Nat) (zlg : Nat) (zln : Nat)  : Met l yX6_readConditions wsX6_readConditions ({ frames := 2, cells := 0, slots := 0, locals := 41 }) (va_Pc [.ref zr, .ref zl, .int 0] (PRE dC dI cy [(zr, .inr (6, [.ref zrt, .int 0, .int 0, .int zif])), (zl, .inr (4, [.ref zld, .ref zlc, .ref zls, .ref zlg, .ref zln, .int 0])), (zls, .inl (cy 0, 18, .inl (fun _ => 0)))] sz)) (va_Qi (fun (r : Int32) (_ : Unit) => r = 0) (fun u t => POST dC dI cy (va_A [(zr, .inr (6, [.ref zrt, .int 0, .int 0, .int zif])), (zl, .inr (4, [.ref zld, .ref zlc, .ref zls, .ref zlg, .ref zln, .int 0])), (zls, .inl (cy 0, 18, .inl (fun _ => 0)))] sz) [(zr, .inr (6, [.ref zrt, .int 0, .int 0, .int (-20)]))] t) (va_A [(zr, .inr (6, [.ref zrt, .int 0, .int 0, .int zif])), (zl, .inr (4, [.ref zld, .ref zlc, .ref zls, .ref zlg, .ref zln, .int 0])), (zls, .inl (cy 0, 18, .inl (fun _ => 0)))] sz)) 0 0 (va_A [(zr, .inr (6, [.ref zrt, .int 0, .int 0, .int zif])), (zl, .inr (4, [.ref zld, .ref zlc, .ref zls, .ref zlg, .ref zln, .int 0])), (zls, .inl (cy 0, 18, .inl (fun _ => 0)))] sz) := by
  refine Met.ofW (cc := cX6_readConditions) (maxL := 6) (ret := (some .boolean)) (by decide) rfl ?_
  intro p e s m args below meth c s₁ B hml hv
  obtain ⟨rfl, hsz, hP, hK, hD0, hN⟩ := hv
  have hx := B.exec
  have hb := B.bytes
  have hr := B.returns
  have hts := atoms_spec (ws := wsX6_readConditions) B.pre
  have hown : s.vm.findClass RX6 = some m.cls := findClass_of_methodNamed B.named
  have hlocks := B.notSynchronized
  subst hsz
  have hD := hD0.self (sz := s.heap.size)
  generalize hAe : va_A [(zr, .inr (6, [.ref zrt, .int 0, .int 0, .int zif])), (zl, .inr (4, [.ref zld, .ref zlc, .ref zls, .ref zlg, .ref zln, .int 0])), (zls, .inl (cy 0, 18, .inl (fun _ => 0)))] s.heap.size = A at hD ⊢
  have hA : ∀ q : Nat, s.heap.size ≤ q → A q := fun q h => by rw [← hAe]; exact Or.inr h
  have hS : va_S A s.heap s.heap [] := va_S.rf
  have hP : va_P (dC, dI) vwCl [(zr, .inr (6, [.ref zrt, .int 0, .int 0, .int zif])), (zl, .inr (4, [.ref zld, .ref zlc, .ref zls, .ref zlg, .ref zln, .int 0])), (zls, .inl (cy 0, 18, .inl (fun _ => 0)))] s.heap := hP
  have hl := lv_entry ([.ref zr, .ref zl, .int 0] : List Value) (n := 6) (Nat.le_of_ble_eq_true rfl)
  rw [lg_entry_eq]
  generalize (lg_sl ([.ref zr, .ref zl, .int 0] : List Value) ++ List.replicate (6 - (lg_sl ([.ref zr, .ref zl, .int 0] : List Value)).length) Slot.unset).toArray = ls at hl ⊢
  have hl : lv_has ls 6 [(0, .ref zr), (1, .ref zl), (2, .int 0)] := hl
  refine lv_iconst (v := 1) hx hb dX6_readConditions_0 (by decide) ?_
  refine lv_istore_n (lv' := [(3, .int 1), (0, .ref zr), (1, .ref zl), (2, .int 0)]) hx hb dX6_readConditions_1 rfl hl (by decide) rfl (fun ls hl => ?_)
  refine lv_iconst (v := 0) hx hb dX6_readConditions_2 (by decide) ?_
  refine lv_istore (lv' := [(4, .int 0), (3, .int 1), (0, .ref zr), (1, .ref zl), (2, .int 0)]) hx hb dX6_readConditions_3 hl (by decide) rfl (fun ls hl => ?_)
  refine lv_iload hx hb dX6_readConditions_5 (lv_at hl 0 rfl) ?_
  refine lv_iconst (v := 3) hx hb dX6_readConditions_7 (by decide) ?_
  refine lv_icmp_ge (tgt := 182) hx hb dX6_readConditions_8 (by decide) (fun c_1 => absurd c_1 (by decide)) (fun c_1 => ?_)
  refine lv_iload_n hx hb dX6_readConditions_11 rfl (lv_at hl 1 rfl) ?_
  refine lv_if_eq (tgt := 182) hx hb dX6_readConditions_12 (by decide) (fun c_2 => absurd c_2 (by decide)) (fun c_2 => ?_)
  refine lv_iload_n hx hb dX6_readConditions_15 rfl (lv_at hl 4 rfl) ?_
  refine lv_iconst (v := 3) hx hb dX6_readConditions_16 (by decide) ?_
  refine lv_imul hx hb dX6_readConditions_17 ?_
  refine lv_topi (fun v_3 ev_3 => ?_)
  obtain rfl : v_3 = (0 : Int32) := ev_3.trans (by decide)
  refine lv_iload hx hb dX6_readConditions_18 (lv_at hl 0 rfl) ?_
  refine lv_iadd hx hb dX6_readConditions_20 ?_
  refine lv_topi (fun v_4 ev_4 => ?_)
  obtain rfl : v_4 = (0 : Int32) := ev_4.trans (by decide)
  refine lv_istore (lv' := [(5, .int 0), (4, .int 0), (3, .int 1), (0, .ref zr), (1, .ref zl), (2, .int 0)]) hx hb dX6_readConditions_21 hl (by decide) rfl (fun ls hl => ?_)
  refine lv_aload_n hx hb dX6_readConditions_23 rfl (lv_at hl 4 rfl) ?_
  refine va_get (D := (dC, dI)) (ci := 4) (v := .ref zls) (C := RX4) (T := TX4) (N := 6) hx hb hts (by decide +kernel) hown hK hP 1 rfl rfl 2 (by decide) (hts (.fieldLink RX6 58 "DripStone$Law" "subjects" "[I") (by decide +kernel)) (fun _ h9 => h9) rfl dX6_readConditions_24 ?_
  refine lv_iload hx hb dX6_readConditions_27 (lv_at hl 0 rfl) ?_
  refine lv_aload_n hx hb dX6_readConditions_29 rfl (lv_at hl 3 rfl) ?_
  refine cj_i (wc := [(zr, .inr (6, [.ref zrt, .int 0, .int 0, .int zif]))]) (wr := [(zl, .inr (4, [.ref zld, .ref zlc, .ref zls, .ref zlg, .ref zln, .int 0])), (zls, .inl (cy 0, 18, .inl (fun _ => 0)))]) (w1 := fun (_ : Unit) => [(zr, .inr (6, [.ref zrt, .int 0, .int 0, .int zif]))]) (va_runV (As := []) (rest := [.int 0, .ref zls]) ⟨hx, hb, hml, hown, hts⟩ (c_X6_look l dC dI cy s.heap.size zr zrt zif) (cwV 0 hts gX6_readConditions_X6_look rfl rfl rfl (by decide +kernel) ⟨(Nat.le_of_ble_eq_true rfl), (Nat.le_of_ble_eq_true rfl)⟩) (PRE.v (hP.sub [0] rfl) hK (hD.sub [0] (by decide) rfl) hN (va_recv hK hP (ci := 6) (q0 := 0) rfl rfl)) rfl rfl hl.1 rfl (lv_room (Nat.le_of_ble_eq_true rfl)) dX6_readConditions_30 ⟨(Nat.le_of_ble_eq_true rfl), (Nat.le_of_ble_eq_true rfl)⟩) hP hD hS hA [0] [1, 2] rfl rfl rfl (by decide) (fun r_6 u_5 H locs hw_7 hP hD hS => ?_)
  have hP : va_P (dC, dI) vwCl [(zl, .inr (4, [.ref zld, .ref zlc, .ref zls, .ref zlg, .ref zln, .int 0])), (zls, .inl (cy 0, 18, .inl (fun _ => 0))), (zr, .inr (6, [.ref zrt, .int 0, .int 0, .int zif]))] H := hP
  have hD : va_D A [(zl, .inr (4, [.ref zld, .ref zlc, .ref zls, .ref zlg, .ref zln, .int 0])), (zls, .inl (cy 0, 18, .inl (fun _ => 0))), (zr, .inr (6, [.ref zrt, .int 0, .int 0, .int zif]))] := hD
  obtain rfl : r_6 = (-1) := hw_7
  refine va_iast hx hb hK hP hD hS 1 0 rfl rfl (vp_in_iff.mpr ⟨by decide, by decide⟩) dX6_readConditions_33 (fun H locs hP hD hS => ?_)
  have hP : va_P (dC, dI) vwCl [(zl, .inr (4, [.ref zld, .ref zlc, .ref zls, .ref zlg, .ref zln, .int 0])), (zls, .inl (cy 0, 18, .inl (upd (fun _ => 0) (0 : Int32).toNatClampNeg (-1)))), (zr, .inr (6, [.ref zrt, .int 0, .int 0, .int zif]))] H := hP
  have hD : va_D A [(zl, .inr (4, [.ref zld, .ref zlc, .ref zls, .ref zlg, .ref zln, .int 0])), (zls, .inl (cy 0, 18, .inl (upd (fun _ => 0) (0 : Int32).toNatClampNeg (-1)))), (zr, .inr (6, [.ref zrt, .int 0, .int 0, .int zif]))] := hD
  refine lv_aload_n hx hb dX6_readConditions_34 rfl (lv_at hl 3 rfl) ?_
  refine lv_bipush (v := 97) hx hb dX6_readConditions_35 (by decide) ?_
  refine cj_i (wc := [(zr, .inr (6, [.ref zrt, .int 0, .int 0, .int zif]))]) (wr := [(zl, .inr (4, [.ref zld, .ref zlc, .ref zls, .ref zlg, .ref zln, .int 0])), (zls, .inl (cy 0, 18, .inl (upd (fun _ => 0) (0 : Int32).toNatClampNeg (-1))))]) (w1 := fun (_ : Unit) => [(zr, .inr (6, [.ref zrt, .int 0, .int 0, .int zif]))]) (va_runV (As := [.int 97]) (rest := []) ⟨hx, hb, hml, hown, hts⟩ (c_X6_reads l dC dI cy H.size zr 97 zrt zif (by first | rfl | decide | omega | exact Int32.toInt_toInt64 _)) (cwV 1 hts gX6_readConditions_X6_reads rfl rfl rfl (by decide +kernel) ⟨(Nat.le_of_ble_eq_true rfl), (Nat.le_of_ble_eq_true rfl)⟩) (PRE.v (hP.sub [2] rfl) hK (hD.sub [2] (by decide) rfl) hN (va_recv hK hP (ci := 6) (q0 := 2) rfl rfl)) rfl rfl hl.1 rfl (lv_room (Nat.le_of_ble_eq_true rfl)) dX6_readConditions_37 ⟨(Nat.le_of_ble_eq_true rfl), (Nat.le_of_ble_eq_true rfl)⟩) hP hD hS hA [2] [0, 1] rfl rfl rfl (by decide) (fun r_9 u_8 H locs hw_10 hP hD hS => ?_)
  have hP : va_P (dC, dI) vwCl [(zl, .inr (4, [.ref zld, .ref zlc, .ref zls, .ref zlg, .ref zln, .int 0])), (zls, .inl (cy 0, 18, .inl (upd (fun _ => 0) (0 : Int32).toNatClampNeg (-1)))), (zr, .inr (6, [.ref zrt, .int 0, .int 0, .int zif]))] H := hP
  have hD : va_D A [(zl, .inr (4, [.ref zld, .ref zlc, .ref zls, .ref zlg, .ref zln, .int 0])), (zls, .inl (cy 0, 18, .inl (upd (fun _ => 0) (0 : Int32).toNatClampNeg (-1)))), (zr, .inr (6, [.ref zrt, .int 0, .int 0, .int zif]))] := hD
  obtain rfl : r_9 = 0 := hw_10
  refine lv_if_ne (tgt := 70) hx hb dX6_readConditions_40 (by decide) (fun c_11 => absurd (by decide) c_11) (fun c_11 => ?_)
  refine lv_aload_n hx hb dX6_readConditions_43 rfl (lv_at hl 3 rfl) ?_
  refine lv_bipush (v := 104) hx hb dX6_readConditions_44 (by decide) ?_
  refine cj_i (wc := [(zr, .inr (6, [.ref zrt, .int 0, .int 0, .int zif]))]) (wr := [(zl, .inr (4, [.ref zld, .ref zlc, .ref zls, .ref zlg, .ref zln, .int 0])), (zls, .inl (cy 0, 18, .inl (upd (fun _ => 0) (0 : Int32).toNatClampNeg (-1))))]) (w1 := fun (_ : Unit) => [(zr, .inr (6, [.ref zrt, .int 0, .int 0, .int zif]))]) (va_runV (As := [.int 104]) (rest := []) ⟨hx, hb, hml, hown, hts⟩ (c_X6_reads l dC dI cy H.size zr 104 zrt zif (by first | rfl | decide | omega | exact Int32.toInt_toInt64 _)) (cwV 1 hts gX6_readConditions_X6_reads rfl rfl rfl (by decide +kernel) ⟨(Nat.le_of_ble_eq_true rfl), (Nat.le_of_ble_eq_true rfl)⟩) (PRE.v (hP.sub [2] rfl) hK (hD.sub [2] (by decide) rfl) hN (va_recv hK hP (ci := 6) (q0 := 2) rfl rfl)) rfl rfl hl.1 rfl (lv_room (Nat.le_of_ble_eq_true rfl)) dX6_readConditions_46 ⟨(Nat.le_of_ble_eq_true rfl), (Nat.le_of_ble_eq_true rfl)⟩) hP hD hS hA [2] [0, 1] rfl rfl rfl (by decide) (fun r_13 u_12 H locs hw_14 hP hD hS => ?_)
  have hP : va_P (dC, dI) vwCl [(zl, .inr (4, [.ref zld, .ref zlc, .ref zls, .ref zlg, .ref zln, .int 0])), (zls, .inl (cy 0, 18, .inl (upd (fun _ => 0) (0 : Int32).toNatClampNeg (-1)))), (zr, .inr (6, [.ref zrt, .int 0, .int 0, .int zif]))] H := hP
  have hD : va_D A [(zl, .inr (4, [.ref zld, .ref zlc, .ref zls, .ref zlg, .ref zln, .int 0])), (zls, .inl (cy 0, 18, .inl (upd (fun _ => 0) (0 : Int32).toNatClampNeg (-1)))), (zr, .inr (6, [.ref zrt, .int 0, .int 0, .int zif]))] := hD
  obtain rfl : r_13 = 0 := hw_14
  refine lv_if_ne (tgt := 70) hx hb dX6_readConditions_49 (by decide) (fun c_15 => absurd (by decide) c_15) (fun c_15 => ?_)
  refine lv_aload_n hx hb dX6_readConditions_52 rfl (lv_at hl 3 rfl) ?_
  refine lv_bipush (v := 119) hx hb dX6_readConditions_53 (by decide) ?_
  refine cj_i (wc := [(zr, .inr (6, [.ref zrt, .int 0, .int 0, .int zif]))]) (wr := [(zl, .inr (4, [.ref zld, .ref zlc, .ref zls, .ref zlg, .ref zln, .int 0])), (zls, .inl (cy 0, 18, .inl (upd (fun _ => 0) (0 : Int32).toNatClampNeg (-1))))]) (w1 := fun (_ : Unit) => [(zr, .inr (6, [.ref zrt, .int 0, .int 0, .int zif]))]) (va_runV (As := [.int 119]) (rest := []) ⟨hx, hb, hml, hown, hts⟩ (c_X6_reads l dC dI cy H.size zr 119 zrt zif (by first | rfl | decide | omega | exact Int32.toInt_toInt64 _)) (cwV 1 hts gX6_readConditions_X6_reads rfl rfl rfl (by decide +kernel) ⟨(Nat.le_of_ble_eq_true rfl), (Nat.le_of_ble_eq_true rfl)⟩) (PRE.v (hP.sub [2] rfl) hK (hD.sub [2] (by decide) rfl) hN (va_recv hK hP (ci := 6) (q0 := 2) rfl rfl)) rfl rfl hl.1 rfl (lv_room (Nat.le_of_ble_eq_true rfl)) dX6_readConditions_55 ⟨(Nat.le_of_ble_eq_true rfl), (Nat.le_of_ble_eq_true rfl)⟩) hP hD hS hA [2] [0, 1] rfl rfl rfl (by decide) (fun r_17 u_16 H locs hw_18 hP hD hS => ?_)
  have hP : va_P (dC, dI) vwCl [(zl, .inr (4, [.ref zld, .ref zlc, .ref zls, .ref zlg, .ref zln, .int 0])), (zls, .inl (cy 0, 18, .inl (upd (fun _ => 0) (0 : Int32).toNatClampNeg (-1)))), (zr, .inr (6, [.ref zrt, .int 0, .int 0, .int zif]))] H := hP
  have hD : va_D A [(zl, .inr (4, [.ref zld, .ref zlc, .ref zls, .ref zlg, .ref zln, .int 0])), (zls, .inl (cy 0, 18, .inl (upd (fun _ => 0) (0 : Int32).toNatClampNeg (-1)))), (zr, .inr (6, [.ref zrt, .int 0, .int 0, .int zif]))] := hD
  obtain rfl : r_17 = 0 := hw_18
  refine lv_if_ne (tgt := 70) hx hb dX6_readConditions_58 (by decide) (fun c_19 => absurd (by decide) c_19) (fun c_19 => ?_)
  refine lv_aload_n hx hb dX6_readConditions_61 rfl (lv_at hl 3 rfl) ?_
  refine lv_aload_n hx hb dX6_readConditions_62 rfl (lv_at hl 3 rfl) ?_
  refine va_get (D := (dC, dI)) (ci := 6) (v := .int 0) (C := RX6) (T := TX6) (N := 4) hx hb hts (by decide +kernel) hown hK hP 2 rfl rfl 2 (by decide) (hts (.fieldLink RX6 15 "DripStone$Reader" "at" "I") (by decide +kernel)) (fun _ h9 => h9) rfl dX6_readConditions_63 ?_
  refine cj_i (wc := [(zr, .inr (6, [.ref zrt, .int 0, .int 0, .int zif]))]) (wr := [(zl, .inr (4, [.ref zld, .ref zlc, .ref zls, .ref zlg, .ref zln, .int 0])), (zls, .inl (cy 0, 18, .inl (upd (fun _ => 0) (0 : Int32).toNatClampNeg (-1))))]) (w1 := fun (_ : Unit) => [(zr, .inr (6, [.ref zrt, .int 0, .int 0, .int (-20)]))]) (va_runV (As := [.int 0]) (rest := []) ⟨hx, hb, hml, hown, hts⟩ (c_X6_fails l dC dI cy H.size zr zrt zif) (cwV 1 hts gX6_readConditions_X6_fails rfl rfl rfl (by decide +kernel) ⟨(Nat.le_of_ble_eq_true rfl), (Nat.le_of_ble_eq_true rfl)⟩) (PRE.v (hP.sub [2] rfl) hK (hD.sub [2] (by decide) rfl) hN (va_recv hK hP (ci := 6) (q0 := 2) rfl rfl)) rfl rfl hl.1 rfl (lv_room (Nat.le_of_ble_eq_true rfl)) dX6_readConditions_66 ⟨(Nat.le_of_ble_eq_true rfl), (Nat.le_of_ble_eq_true rfl)⟩) hP hD hS hA [2] [0, 1] rfl rfl rfl (by decide) (fun r_21 u_20 H locs hw_22 hP hD hS => ?_)
  have hP : va_P (dC, dI) vwCl [(zl, .inr (4, [.ref zld, .ref zlc, .ref zls, .ref zlg, .ref zln, .int 0])), (zls, .inl (cy 0, 18, .inl (upd (fun _ => 0) (0 : Int32).toNatClampNeg (-1)))), (zr, .inr (6, [.ref zrt, .int 0, .int 0, .int (-20)]))] H := hP
  have hD : va_D A [(zl, .inr (4, [.ref zld, .ref zlc, .ref zls, .ref zlg, .ref zln, .int 0])), (zls, .inl (cy 0, 18, .inl (upd (fun _ => 0) (0 : Int32).toNatClampNeg (-1)))), (zr, .inr (6, [.ref zrt, .int 0, .int 0, .int (-20)]))] := hD
  obtain rfl : r_21 = 0 := hw_22
  have hP9 := hP.sub (ws' := [(zr, .inr (6, [.ref zrt, .int 0, .int 0, .int (-20)]))]) [2] rfl
  have hD9 := hD.sub (ws' := [(zr, .inr (6, [.ref zrt, .int 0, .int 0, .int (-20)]))]) [2] (by decide) rfl
  exact W.zret (v := 0) hx hb hr rfl (fun t ht hW => ⟨⟨0, (), rfl, rfl, ⟨by rw [ht]; exact hP9, va_K.moved hW.alike hK, hD9⟩⟩, hS.F ht⟩) hS.2.2 dX6_readConditions_69
set_option maxHeartbeats 4000000 in
set_option maxRecDepth 100000 in
theorem c_X6_readClause (l : Launch) (dC : Nat → ClassId) (dI : Nat → Nat → Nat) (cy : Nat → ClassId) (sz : Nat) (zr : Nat) (zl : Nat) (zrt : Nat) (zif : Int32) (zld : Nat) (zlc : Nat) (zls : Nat) (zlg : Nat) (zln : Nat)  : Met l yX6_readClause wsX6_readClause ({ frames := 3, cells := 0, slots := 0, locals := 66 }) (va_Pc [.ref zr, .ref zl, .int 0] (PRE dC dI cy [(zr, .inr (6, [.ref zrt, .int 0, .int 0, .int zif])), (zl, .inr (4, [.ref zld, .ref zlc, .ref zls, .ref zlg, .ref zln, .int 0])), (zlc, .inl (cy 0, 6, .inl (fun _ => 0))), (zls, .inl (cy 0, 18, .inl (fun _ => 0)))] sz)) (va_Qi (fun (r : Int32) (_ : Unit) => r = 0) (fun u t => POST dC dI cy (va_A [(zr, .inr (6, [.ref zrt, .int 0, .int 0, .int zif])), (zl, .inr (4, [.ref zld, .ref zlc, .ref zls, .ref zlg, .ref zln, .int 0])), (zlc, .inl (cy 0, 6, .inl (fun _ => 0))), (zls, .inl (cy 0, 18, .inl (fun _ => 0)))] sz) [(zr, .inr (6, [.ref zrt, .int 0, .int 0, .int (-20)]))] t) (va_A [(zr, .inr (6, [.ref zrt, .int 0, .int 0, .int zif])), (zl, .inr (4, [.ref zld, .ref zlc, .ref zls, .ref zlg, .ref zln, .int 0])), (zlc, .inl (cy 0, 6, .inl (fun _ => 0))), (zls, .inl (cy 0, 18, .inl (fun _ => 0)))] sz)) 0 0 (va_A [(zr, .inr (6, [.ref zrt, .int 0, .int 0, .int zif])), (zl, .inr (4, [.ref zld, .ref zlc, .ref zls, .ref zlg, .ref zln, .int 0])), (zlc, .inl (cy 0, 6, .inl (fun _ => 0))), (zls, .inl (cy 0, 18, .inl (fun _ => 0)))] sz) := by
  refine Met.ofW (cc := cX6_readClause) (maxL := 4) (ret := (some .boolean)) (by decide) rfl ?_
  intro p e s m args below meth c s₁ B hml hv
  obtain ⟨rfl, hsz, hP, hK, hD0, hN⟩ := hv
  have hx := B.exec
  have hb := B.bytes
  have hr := B.returns
  have hts := atoms_spec (ws := wsX6_readClause) B.pre
  have hown : s.vm.findClass RX6 = some m.cls := findClass_of_methodNamed B.named
  have hlocks := B.notSynchronized
  subst hsz
  have hD := hD0.self (sz := s.heap.size)
  generalize hAe : va_A [(zr, .inr (6, [.ref zrt, .int 0, .int 0, .int zif])), (zl, .inr (4, [.ref zld, .ref zlc, .ref zls, .ref zlg, .ref zln, .int 0])), (zlc, .inl (cy 0, 6, .inl (fun _ => 0))), (zls, .inl (cy 0, 18, .inl (fun _ => 0)))] s.heap.size = A at hD ⊢
  have hA : ∀ q : Nat, s.heap.size ≤ q → A q := fun q h => by rw [← hAe]; exact Or.inr h
  have hS : va_S A s.heap s.heap [] := va_S.rf
  have hP : va_P (dC, dI) vwCl [(zr, .inr (6, [.ref zrt, .int 0, .int 0, .int zif])), (zl, .inr (4, [.ref zld, .ref zlc, .ref zls, .ref zlg, .ref zln, .int 0])), (zlc, .inl (cy 0, 6, .inl (fun _ => 0))), (zls, .inl (cy 0, 18, .inl (fun _ => 0)))] s.heap := hP
  have hl := lv_entry ([.ref zr, .ref zl, .int 0] : List Value) (n := 4) (Nat.le_of_ble_eq_true rfl)
  rw [lg_entry_eq]
  generalize (lg_sl ([.ref zr, .ref zl, .int 0] : List Value) ++ List.replicate (4 - (lg_sl ([.ref zr, .ref zl, .int 0] : List Value)).length) Slot.unset).toArray = ls at hl ⊢
  have hl : lv_has ls 4 [(0, .ref zr), (1, .ref zl), (2, .int 0)] := hl
  refine lv_aload_n hx hb dX6_readClause_0 rfl (lv_at hl 1 rfl) ?_
  refine va_get (D := (dC, dI)) (ci := 4) (v := .ref zlc) (C := RX4) (T := TX4) (N := 6) hx hb hts (by decide +kernel) hown hK hP 1 rfl rfl 1 (by decide) (hts (.fieldLink RX6 42 "DripStone$Law" "conditions" "[I") (by decide +kernel)) (fun _ h9 => h9) rfl dX6_readClause_1 ?_
  refine lv_iload_n hx hb dX6_readClause_4 rfl (lv_at hl 2 rfl) ?_
  refine lv_iconst (v := 0) hx hb dX6_readClause_5 (by decide) ?_
  refine va_iast hx hb hK hP hD hS 2 0 rfl rfl (vp_in_iff.mpr ⟨by decide, by decide⟩) dX6_readClause_6 (fun H locs hP hD hS => ?_)
  have hP : va_P (dC, dI) vwCl [(zr, .inr (6, [.ref zrt, .int 0, .int 0, .int zif])), (zl, .inr (4, [.ref zld, .ref zlc, .ref zls, .ref zlg, .ref zln, .int 0])), (zlc, .inl (cy 0, 6, .inl (upd (fun _ => 0) (0 : Int32).toNatClampNeg 0))), (zls, .inl (cy 0, 18, .inl (fun _ => 0)))] H := hP
  have hD : va_D A [(zr, .inr (6, [.ref zrt, .int 0, .int 0, .int zif])), (zl, .inr (4, [.ref zld, .ref zlc, .ref zls, .ref zlg, .ref zln, .int 0])), (zlc, .inl (cy 0, 6, .inl (upd (fun _ => 0) (0 : Int32).toNatClampNeg 0))), (zls, .inl (cy 0, 18, .inl (fun _ => 0)))] := hD
  refine lv_aload_n hx hb dX6_readClause_7 rfl (lv_at hl 0 rfl) ?_
  refine lv_bipush (v := 42) hx hb dX6_readClause_8 (by decide) ?_
  refine cj_i (wc := [(zr, .inr (6, [.ref zrt, .int 0, .int 0, .int zif]))]) (wr := [(zl, .inr (4, [.ref zld, .ref zlc, .ref zls, .ref zlg, .ref zln, .int 0])), (zlc, .inl (cy 0, 6, .inl (upd (fun _ => 0) (0 : Int32).toNatClampNeg 0))), (zls, .inl (cy 0, 18, .inl (fun _ => 0)))]) (w1 := fun (_ : Unit) => [(zr, .inr (6, [.ref zrt, .int 0, .int 0, .int zif]))]) (va_runV (As := [.int 42]) (rest := []) ⟨hx, hb, hml, hown, hts⟩ (c_X6_reads l dC dI cy H.size zr 42 zrt zif (by first | rfl | decide | omega | exact Int32.toInt_toInt64 _)) (cwV 1 hts gX6_readClause_X6_reads rfl rfl rfl (by decide +kernel) ⟨(Nat.le_of_ble_eq_true rfl), (Nat.le_of_ble_eq_true rfl)⟩) (PRE.v (hP.sub [0] rfl) hK (hD.sub [0] (by decide) rfl) hN (va_recv hK hP (ci := 6) (q0 := 0) rfl rfl)) rfl rfl hl.1 rfl (lv_room (Nat.le_of_ble_eq_true rfl)) dX6_readClause_10 ⟨(Nat.le_of_ble_eq_true rfl), (Nat.le_of_ble_eq_true rfl)⟩) hP hD hS hA [0] [1, 2, 3] rfl rfl rfl (by decide) (fun r_2 u_1 H locs hw_3 hP hD hS => ?_)
  have hP : va_P (dC, dI) vwCl [(zl, .inr (4, [.ref zld, .ref zlc, .ref zls, .ref zlg, .ref zln, .int 0])), (zlc, .inl (cy 0, 6, .inl (upd (fun _ => 0) (0 : Int32).toNatClampNeg 0))), (zls, .inl (cy 0, 18, .inl (fun _ => 0))), (zr, .inr (6, [.ref zrt, .int 0, .int 0, .int zif]))] H := hP
  have hD : va_D A [(zl, .inr (4, [.ref zld, .ref zlc, .ref zls, .ref zlg, .ref zln, .int 0])), (zlc, .inl (cy 0, 6, .inl (upd (fun _ => 0) (0 : Int32).toNatClampNeg 0))), (zls, .inl (cy 0, 18, .inl (fun _ => 0))), (zr, .inr (6, [.ref zrt, .int 0, .int 0, .int zif]))] := hD
  obtain rfl : r_2 = 0 := hw_3
  refine lv_if_ne (tgt := 27) hx hb dX6_readClause_13 (by decide) (fun c_4 => absurd (by decide) c_4) (fun c_4 => ?_)
  refine lv_aload_n hx hb dX6_readClause_16 rfl (lv_at hl 0 rfl) ?_
  refine lv_aload_n hx hb dX6_readClause_17 rfl (lv_at hl 1 rfl) ?_
  refine lv_iload_n hx hb dX6_readClause_18 rfl (lv_at hl 2 rfl) ?_
  refine cj_i (wc := [(zr, .inr (6, [.ref zrt, .int 0, .int 0, .int zif])), (zl, .inr (4, [.ref zld, .ref zlc, .ref zls, .ref zlg, .ref zln, .int 0])), (zls, .inl (cy 0, 18, .inl (fun _ => 0)))]) (wr := [(zlc, .inl (cy 0, 6, .inl (upd (fun _ => 0) (0 : Int32).toNatClampNeg 0)))]) (w1 := fun (_ : Unit) => [(zr, .inr (6, [.ref zrt, .int 0, .int 0, .int (-20)]))]) (va_runV (As := [.ref zl, .int 0]) (rest := []) ⟨hx, hb, hml, hown, hts⟩ (c_X6_readConditions l dC dI cy H.size zr zl zrt zif zld zlc zls zlg zln) (cwV 2 hts gX6_readClause_X6_readConditions rfl rfl rfl (by decide +kernel) ⟨(Nat.le_of_ble_eq_true rfl), (Nat.le_of_ble_eq_true rfl)⟩) (PRE.v (hP.sub [3, 0, 2] rfl) hK (hD.sub [3, 0, 2] (by decide) rfl) hN (va_recv hK hP (ci := 6) (q0 := 3) rfl rfl)) rfl rfl hl.1 rfl (lv_room (Nat.le_of_ble_eq_true rfl)) dX6_readClause_19 ⟨(Nat.le_of_ble_eq_true rfl), (Nat.le_of_ble_eq_true rfl)⟩) hP hD hS hA [3, 0, 2] [1] rfl rfl rfl (by decide) (fun r_6 u_5 H locs hw_7 hP hD hS => ?_)
  have hP : va_P (dC, dI) vwCl [(zlc, .inl (cy 0, 6, .inl (upd (fun _ => 0) (0 : Int32).toNatClampNeg 0))), (zr, .inr (6, [.ref zrt, .int 0, .int 0, .int (-20)]))] H := hP
  have hD : va_D A [(zlc, .inl (cy 0, 6, .inl (upd (fun _ => 0) (0 : Int32).toNatClampNeg 0))), (zr, .inr (6, [.ref zrt, .int 0, .int 0, .int (-20)]))] := hD
  obtain rfl : r_6 = 0 := hw_7
  refine lv_if_ne (tgt := 27) hx hb dX6_readClause_22 (by decide) (fun c_8 => absurd (by decide) c_8) (fun c_8 => ?_)
  refine lv_iconst (v := 0) hx hb dX6_readClause_25 (by decide) ?_
  have hP9 := hP.sub (ws' := [(zr, .inr (6, [.ref zrt, .int 0, .int 0, .int (-20)]))]) [1] rfl
  have hD9 := hD.sub (ws' := [(zr, .inr (6, [.ref zrt, .int 0, .int 0, .int (-20)]))]) [1] (by decide) rfl
  exact W.zret (v := 0) hx hb hr rfl (fun t ht hW => ⟨⟨0, (), rfl, rfl, ⟨by rw [ht]; exact hP9, va_K.moved hW.alike hK, hD9⟩⟩, hS.F ht⟩) hS.2.2 dX6_readClause_26
set_option maxHeartbeats 4000000 in
set_option maxRecDepth 100000 in
theorem c_X6_readLaw (l : Launch) (dC : Nat → ClassId) (dI : Nat → Nat → Nat) (cy : Nat → ClassId) (sz : Nat) (zr : Nat) (zl : Nat) (zrt : Nat) (zif : Int32) (zld : Nat) (zlc : Nat) (zls : Nat) (zlg : Nat) (zln : Nat)  : Met l yX6_readLaw wsX6_readLaw ({ frames := 4, cells := 0, slots := 0, locals := 89 }) (va_Pc [.ref zr, .ref zl] (PRE dC dI cy [(zr, .inr (6, [.ref zrt, .int 0, .int 0, .int zif])), (zl, .inr (4, [.ref zld, .ref zlc, .ref zls, .ref zlg, .ref zln, .int 0])), (zlc, .inl (cy 0, 6, .inl (fun _ => 0))), (zls, .inl (cy 0, 18, .inl (fun _ => 0)))] sz)) (va_Qi (fun (r : Int32) (_ : Unit) => r = (-20)) (fun u t => POST dC dI cy (va_A [(zr, .inr (6, [.ref zrt, .int 0, .int 0, .int zif])), (zl, .inr (4, [.ref zld, .ref zlc, .ref zls, .ref zlg, .ref zln, .int 0])), (zlc, .inl (cy 0, 6, .inl (fun _ => 0))), (zls, .inl (cy 0, 18, .inl (fun _ => 0)))] sz) [(zr, .inr (6, [.ref zrt, .int 0, .int 0, .int (-20)]))] t) (va_A [(zr, .inr (6, [.ref zrt, .int 0, .int 0, .int zif])), (zl, .inr (4, [.ref zld, .ref zlc, .ref zls, .ref zlg, .ref zln, .int 0])), (zlc, .inl (cy 0, 6, .inl (fun _ => 0))), (zls, .inl (cy 0, 18, .inl (fun _ => 0)))] sz)) 0 0 (va_A [(zr, .inr (6, [.ref zrt, .int 0, .int 0, .int zif])), (zl, .inr (4, [.ref zld, .ref zlc, .ref zls, .ref zlg, .ref zln, .int 0])), (zlc, .inl (cy 0, 6, .inl (fun _ => 0))), (zls, .inl (cy 0, 18, .inl (fun _ => 0)))] sz) := by
  refine Met.ofW (cc := cX6_readLaw) (maxL := 4) (ret := (some .int)) (by decide) rfl ?_
  intro p e s m args below meth c s₁ B hml hv
  obtain ⟨rfl, hsz, hP, hK, hD0, hN⟩ := hv
  have hx := B.exec
  have hb := B.bytes
  have hr := B.returns
  have hts := atoms_spec (ws := wsX6_readLaw) B.pre
  have hown : s.vm.findClass RX6 = some m.cls := findClass_of_methodNamed B.named
  have hlocks := B.notSynchronized
  subst hsz
  have hD := hD0.self (sz := s.heap.size)
  generalize hAe : va_A [(zr, .inr (6, [.ref zrt, .int 0, .int 0, .int zif])), (zl, .inr (4, [.ref zld, .ref zlc, .ref zls, .ref zlg, .ref zln, .int 0])), (zlc, .inl (cy 0, 6, .inl (fun _ => 0))), (zls, .inl (cy 0, 18, .inl (fun _ => 0)))] s.heap.size = A at hD ⊢
  have hA : ∀ q : Nat, s.heap.size ≤ q → A q := fun q h => by rw [← hAe]; exact Or.inr h
  have hS : va_S A s.heap s.heap [] := va_S.rf
  have hP : va_P (dC, dI) vwCl [(zr, .inr (6, [.ref zrt, .int 0, .int 0, .int zif])), (zl, .inr (4, [.ref zld, .ref zlc, .ref zls, .ref zlg, .ref zln, .int 0])), (zlc, .inl (cy 0, 6, .inl (fun _ => 0))), (zls, .inl (cy 0, 18, .inl (fun _ => 0)))] s.heap := hP
  have hl := lv_entry ([.ref zr, .ref zl] : List Value) (n := 4) (Nat.le_of_ble_eq_true rfl)
  rw [lg_entry_eq]
  generalize (lg_sl ([.ref zr, .ref zl] : List Value) ++ List.replicate (4 - (lg_sl ([.ref zr, .ref zl] : List Value)).length) Slot.unset).toArray = ls at hl ⊢
  have hl : lv_has ls 4 [(0, .ref zr), (1, .ref zl)] := hl
  refine lv_aload_n hx hb dX6_readLaw_0 rfl (lv_at hl 0 rfl) ?_
  refine lv_iconst (v := 0) hx hb dX6_readLaw_1 (by decide) ?_
  refine va_put (D := (dC, dI)) (ci := 6) (v := .int 0) (ty := .int) (C := RX6) (T := TX6) (N := 4) hx hb hts (by decide +kernel) tyX6 tyX6_ok nmX6 hown hK hP hD hS 0 rfl rfl 2 (by decide) (hts (.fieldLink RX6 15 "DripStone$Reader" "at" "I") (by decide +kernel)) (fun _ h9 => h9) rfl (by decide +kernel) rfl rfl (Nat.le_of_ble_eq_true rfl) dX6_readLaw_2 (fun H locs hP hD hS => ?_)
  have hP : va_P (dC, dI) vwCl [(zr, .inr (6, [.ref zrt, .int 0, .int 0, .int zif])), (zl, .inr (4, [.ref zld, .ref zlc, .ref zls, .ref zlg, .ref zln, .int 0])), (zlc, .inl (cy 0, 6, .inl (fun _ => 0))), (zls, .inl (cy 0, 18, .inl (fun _ => 0)))] H := hP
  have hD : va_D A [(zr, .inr (6, [.ref zrt, .int 0, .int 0, .int zif])), (zl, .inr (4, [.ref zld, .ref zlc, .ref zls, .ref zlg, .ref zln, .int 0])), (zlc, .inl (cy 0, 6, .inl (fun _ => 0))), (zls, .inl (cy 0, 18, .inl (fun _ => 0)))] := hD
  refine lv_iconst (v := 1) hx hb dX6_readLaw_5 (by decide) ?_
  refine lv_istore_n (lv' := [(2, .int 1), (0, .ref zr), (1, .ref zl)]) hx hb dX6_readLaw_6 rfl hl (by decide) rfl (fun ls hl => ?_)
  refine lv_iconst (v := 0) hx hb dX6_readLaw_7 (by decide) ?_
  refine lv_istore_n (lv' := [(3, .int 0), (2, .int 1), (0, .ref zr), (1, .ref zl)]) hx hb dX6_readLaw_8 rfl hl (by decide) rfl (fun ls hl => ?_)
  refine lv_iload_n hx hb dX6_readLaw_9 rfl (lv_at hl 0 rfl) ?_
  refine lv_bipush (v := 6) hx hb dX6_readLaw_10 (by decide) ?_
  refine lv_icmp_ge (tgt := 70) hx hb dX6_readLaw_12 (by decide) (fun c_1 => absurd c_1 (by decide)) (fun c_1 => ?_)
  refine lv_iload_n hx hb dX6_readLaw_15 rfl (lv_at hl 1 rfl) ?_
  refine lv_if_eq (tgt := 70) hx hb dX6_readLaw_16 (by decide) (fun c_2 => absurd c_2 (by decide)) (fun c_2 => ?_)
  refine lv_aload_n hx hb dX6_readLaw_19 rfl (lv_at hl 2 rfl) ?_
  refine lv_aload_n hx hb dX6_readLaw_20 rfl (lv_at hl 3 rfl) ?_
  refine lv_iload_n hx hb dX6_readLaw_21 rfl (lv_at hl 0 rfl) ?_
  refine cj_i (wc := [(zr, .inr (6, [.ref zrt, .int 0, .int 0, .int zif])), (zl, .inr (4, [.ref zld, .ref zlc, .ref zls, .ref zlg, .ref zln, .int 0])), (zlc, .inl (cy 0, 6, .inl (fun _ => 0))), (zls, .inl (cy 0, 18, .inl (fun _ => 0)))]) (wr := []) (w1 := fun (_ : Unit) => [(zr, .inr (6, [.ref zrt, .int 0, .int 0, .int (-20)]))]) (va_runV (As := [.ref zl, .int 0]) (rest := []) ⟨hx, hb, hml, hown, hts⟩ (c_X6_readClause l dC dI cy H.size zr zl zrt zif zld zlc zls zlg zln) (cwV 2 hts gX6_readLaw_X6_readClause rfl rfl rfl (by decide +kernel) ⟨(Nat.le_of_ble_eq_true rfl), (Nat.le_of_ble_eq_true rfl)⟩) (PRE.v (hP.sub [0, 1, 2, 3] rfl) hK (hD.sub [0, 1, 2, 3] (by decide) rfl) hN (va_recv hK hP (ci := 6) (q0 := 0) rfl rfl)) rfl rfl hl.1 rfl (lv_room (Nat.le_of_ble_eq_true rfl)) dX6_readLaw_22 ⟨(Nat.le_of_ble_eq_true rfl), (Nat.le_of_ble_eq_true rfl)⟩) hP hD hS hA [0, 1, 2, 3] [] rfl rfl rfl (by decide) (fun r_4 u_3 H locs hw_5 hP hD hS => ?_)
  have hP : va_P (dC, dI) vwCl [(zr, .inr (6, [.ref zrt, .int 0, .int 0, .int (-20)]))] H := hP
  have hD : va_D A [(zr, .inr (6, [.ref zrt, .int 0, .int 0, .int (-20)]))] := hD
  obtain rfl : r_4 = 0 := hw_5
  refine lv_if_ne (tgt := 33) hx hb dX6_readLaw_25 (by decide) (fun c_6 => absurd (by decide) c_6) (fun c_6 => ?_)
  refine lv_aload_n hx hb dX6_readLaw_28 rfl (lv_at hl 2 rfl) ?_
  refine va_get (D := (dC, dI)) (ci := 6) (v := .int (-20)) (C := RX6) (T := TX6) (N := 4) hx hb hts (by decide +kernel) hown hK hP 0 rfl rfl 3 (by decide) (hts (.fieldLink RX6 23 "DripStone$Reader" "fault" "I") (by decide +kernel)) (fun _ h9 => h9) rfl dX6_readLaw_29 ?_
  have hP9 := hP.sub (ws' := [(zr, .inr (6, [.ref zrt, .int 0, .int 0, .int (-20)]))]) [0] rfl
  have hD9 := hD.sub (ws' := [(zr, .inr (6, [.ref zrt, .int 0, .int 0, .int (-20)]))]) [0] (by decide) rfl
  exact W.iret (v := (-20)) hx hb hr (fun t ht hW => ⟨⟨(-20), (), rfl, rfl, ⟨by rw [ht]; exact hP9, va_K.moved hW.alike hK, hD9⟩⟩, hS.F ht⟩) hS.2.2 dX6_readLaw_32
set_option maxHeartbeats 4000000 in
set_option maxRecDepth 100000 in
theorem c_X6_readWeight (l : Launch) (dC : Nat → ClassId) (dI : Nat → Nat → Nat) (cy : Nat → ClassId) (sz : Nat) (zr : Nat) (zc : Nat) (zrt : Nat) (zif : Int32)  : Met l yX6_readWeight wsX6_readWeight ({ frames := 3, cells := 0, slots := 0, locals := 62 }) (va_Pc [.ref zr, .ref zc, .int 0] (PRE dC dI cy [(zr, .inr (6, [.ref zrt, .int 0, .int 0, .int zif]))] sz)) (va_Qi (fun (r : Int32) (_ : Unit) => r = 0) (fun u t => POST dC dI cy (va_A [(zr, .inr (6, [.ref zrt, .int 0, .int 0, .int zif]))] sz) [(zr, .inr (6, [.ref zrt, .int 0, .int 0, .int (-20)]))] t) (va_A [(zr, .inr (6, [.ref zrt, .int 0, .int 0, .int zif]))] sz)) 0 0 (va_A [(zr, .inr (6, [.ref zrt, .int 0, .int 0, .int zif]))] sz) := by
  refine Met.ofW (cc := cX6_readWeight) (maxL := 6) (ret := (some .boolean)) (by decide) rfl ?_
  intro p e s m args below meth c s₁ B hml hv
  obtain ⟨rfl, hsz, hP, hK, hD0, hN⟩ := hv
  have hx := B.exec
  have hb := B.bytes
  have hr := B.returns
  have hts := atoms_spec (ws := wsX6_readWeight) B.pre
  have hown : s.vm.findClass RX6 = some m.cls := findClass_of_methodNamed B.named
  have hlocks := B.notSynchronized
  subst hsz
  have hD := hD0.self (sz := s.heap.size)
  generalize hAe : va_A [(zr, .inr (6, [.ref zrt, .int 0, .int 0, .int zif]))] s.heap.size = A at hD ⊢
  have hA : ∀ q : Nat, s.heap.size ≤ q → A q := fun q h => by rw [← hAe]; exact Or.inr h
  have hS : va_S A s.heap s.heap [] := va_S.rf
  have hP : va_P (dC, dI) vwCl [(zr, .inr (6, [.ref zrt, .int 0, .int 0, .int zif]))] s.heap := hP
  have hl := lv_entry ([.ref zr, .ref zc, .int 0] : List Value) (n := 6) (Nat.le_of_ble_eq_true rfl)
  rw [lg_entry_eq]
  generalize (lg_sl ([.ref zr, .ref zc, .int 0] : List Value) ++ List.replicate (6 - (lg_sl ([.ref zr, .ref zc, .int 0] : List Value)).length) Slot.unset).toArray = ls at hl ⊢
  have hl : lv_has ls 6 [(0, .ref zr), (1, .ref zc), (2, .int 0)] := hl
  refine lv_aload_n hx hb dX6_readWeight_0 rfl (lv_at hl 0 rfl) ?_
  refine lv_bipush (v := 119) hx hb dX6_readWeight_1 (by decide) ?_
  refine cj_i (wc := [(zr, .inr (6, [.ref zrt, .int 0, .int 0, .int zif]))]) (wr := []) (w1 := fun (_ : Unit) => [(zr, .inr (6, [.ref zrt, .int 0, .int 0, .int (-20)]))]) (va_runV (As := [.int 119]) (rest := []) ⟨hx, hb, hml, hown, hts⟩ (c_X6_wants l dC dI cy s.heap.size zr 119 zrt zif (by first | rfl | decide | omega | exact Int32.toInt_toInt64 _)) (cwV 1 hts gX6_readWeight_X6_wants rfl rfl rfl (by decide +kernel) ⟨(Nat.le_of_ble_eq_true rfl), (Nat.le_of_ble_eq_true rfl)⟩) (PRE.v (hP.sub [0] rfl) hK (hD.sub [0] (by decide) rfl) hN (va_recv hK hP (ci := 6) (q0 := 0) rfl rfl)) rfl rfl hl.1 rfl (lv_room (Nat.le_of_ble_eq_true rfl)) dX6_readWeight_3 ⟨(Nat.le_of_ble_eq_true rfl), (Nat.le_of_ble_eq_true rfl)⟩) hP hD hS hA [0] [] rfl rfl rfl (by decide) (fun r_2 u_1 H locs hw_3 hP hD hS => ?_)
  have hP : va_P (dC, dI) vwCl [(zr, .inr (6, [.ref zrt, .int 0, .int 0, .int (-20)]))] H := hP
  have hD : va_D A [(zr, .inr (6, [.ref zrt, .int 0, .int 0, .int (-20)]))] := hD
  obtain rfl : r_2 = 0 := hw_3
  refine lv_if_ne (tgt := 11) hx hb dX6_readWeight_6 (by decide) (fun c_4 => absurd (by decide) c_4) (fun c_4 => ?_)
  refine lv_iconst (v := 0) hx hb dX6_readWeight_9 (by decide) ?_
  have hP9 := hP.sub (ws' := [(zr, .inr (6, [.ref zrt, .int 0, .int 0, .int (-20)]))]) [0] rfl
  have hD9 := hD.sub (ws' := [(zr, .inr (6, [.ref zrt, .int 0, .int 0, .int (-20)]))]) [0] (by decide) rfl
  exact W.zret (v := 0) hx hb hr rfl (fun t ht hW => ⟨⟨0, (), rfl, rfl, ⟨by rw [ht]; exact hP9, va_K.moved hW.alike hK, hD9⟩⟩, hS.F ht⟩) hS.2.2 dX6_readWeight_10
set_option maxHeartbeats 4000000 in
set_option maxRecDepth 100000 in
theorem c_X6_readAtom (l : Launch) (dC : Nat → ClassId) (dI : Nat → Nat → Nat) (cy : Nat → ClassId) (sz : Nat) (zr : Nat) (zc : Nat) (zrt : Nat) (zif : Int32) (zct : Nat) (zcw : Nat) (zcf : Nat) (zcl : Nat) (zcg : Nat) (zcn : Nat)  : Met l yX6_readAtom wsX6_readAtom ({ frames := 4, cells := 0, slots := 0, locals := 87 }) (va_Pc [.ref zr, .ref zc, .int 0] (PRE dC dI cy [(zr, .inr (6, [.ref zrt, .int 0, .int 0, .int zif])), (zc, .inr (1, [.ref zct, .ref zcw, .ref zcf, .ref zcl, .ref zcg, .ref zcn, .int 0, .int 0])), (zct, .inl (cy 0, 2, .inl (fun _ => 0))), (zcn, .inl (cy 2, 2, .inl (fun _ => 0)))] sz)) (va_Qi (fun (r : Int32) (_ : Unit) => r = 0) (fun u t => POST dC dI cy (va_A [(zr, .inr (6, [.ref zrt, .int 0, .int 0, .int zif])), (zc, .inr (1, [.ref zct, .ref zcw, .ref zcf, .ref zcl, .ref zcg, .ref zcn, .int 0, .int 0])), (zct, .inl (cy 0, 2, .inl (fun _ => 0))), (zcn, .inl (cy 2, 2, .inl (fun _ => 0)))] sz) [(zr, .inr (6, [.ref zrt, .int 0, .int 0, .int (-20)]))] t) (va_A [(zr, .inr (6, [.ref zrt, .int 0, .int 0, .int zif])), (zc, .inr (1, [.ref zct, .ref zcw, .ref zcf, .ref zcl, .ref zcg, .ref zcn, .int 0, .int 0])), (zct, .inl (cy 0, 2, .inl (fun _ => 0))), (zcn, .inl (cy 2, 2, .inl (fun _ => 0)))] sz)) 0 0 (va_A [(zr, .inr (6, [.ref zrt, .int 0, .int 0, .int zif])), (zc, .inr (1, [.ref zct, .ref zcw, .ref zcf, .ref zcl, .ref zcg, .ref zcn, .int 0, .int 0])), (zct, .inl (cy 0, 2, .inl (fun _ => 0))), (zcn, .inl (cy 2, 2, .inl (fun _ => 0)))] sz) := by
  refine Met.ofW (cc := cX6_readAtom) (maxL := 3) (ret := (some .boolean)) (by decide) rfl ?_
  intro p e s m args below meth c s₁ B hml hv
  obtain ⟨rfl, hsz, hP, hK, hD0, hN⟩ := hv
  have hx := B.exec
  have hb := B.bytes
  have hr := B.returns
  have hts := atoms_spec (ws := wsX6_readAtom) B.pre
  have hown : s.vm.findClass RX6 = some m.cls := findClass_of_methodNamed B.named
  have hlocks := B.notSynchronized
  subst hsz
  have hD := hD0.self (sz := s.heap.size)
  generalize hAe : va_A [(zr, .inr (6, [.ref zrt, .int 0, .int 0, .int zif])), (zc, .inr (1, [.ref zct, .ref zcw, .ref zcf, .ref zcl, .ref zcg, .ref zcn, .int 0, .int 0])), (zct, .inl (cy 0, 2, .inl (fun _ => 0))), (zcn, .inl (cy 2, 2, .inl (fun _ => 0)))] s.heap.size = A at hD ⊢
  have hA : ∀ q : Nat, s.heap.size ≤ q → A q := fun q h => by rw [← hAe]; exact Or.inr h
  have hS : va_S A s.heap s.heap [] := va_S.rf
  have hP : va_P (dC, dI) vwCl [(zr, .inr (6, [.ref zrt, .int 0, .int 0, .int zif])), (zc, .inr (1, [.ref zct, .ref zcw, .ref zcf, .ref zcl, .ref zcg, .ref zcn, .int 0, .int 0])), (zct, .inl (cy 0, 2, .inl (fun _ => 0))), (zcn, .inl (cy 2, 2, .inl (fun _ => 0)))] s.heap := hP
  have hl := lv_entry ([.ref zr, .ref zc, .int 0] : List Value) (n := 3) (Nat.le_of_ble_eq_true rfl)
  rw [lg_entry_eq]
  generalize (lg_sl ([.ref zr, .ref zc, .int 0] : List Value) ++ List.replicate (3 - (lg_sl ([.ref zr, .ref zc, .int 0] : List Value)).length) Slot.unset).toArray = ls at hl ⊢
  have hl : lv_has ls 3 [(0, .ref zr), (1, .ref zc), (2, .int 0)] := hl
  refine lv_aload_n hx hb dX6_readAtom_0 rfl (lv_at hl 1 rfl) ?_
  refine va_get (D := (dC, dI)) (ci := 1) (v := .ref zcn) (C := RX1) (T := TX1) (N := 8) hx hb hts (by decide +kernel) hown hK hP 1 rfl rfl 5 (by decide) (hts (.fieldLink RX6 84 "DripStone$Claim" "negated" "[Z") (by decide +kernel)) (fun _ h9 => h9) rfl dX6_readAtom_1 ?_
  refine lv_iload_n hx hb dX6_readAtom_4 rfl (lv_at hl 2 rfl) ?_
  refine lv_aload_n hx hb dX6_readAtom_5 rfl (lv_at hl 0 rfl) ?_
  refine lv_bipush (v := 33) hx hb dX6_readAtom_6 (by decide) ?_
  refine cj_i (wc := [(zr, .inr (6, [.ref zrt, .int 0, .int 0, .int zif]))]) (wr := [(zc, .inr (1, [.ref zct, .ref zcw, .ref zcf, .ref zcl, .ref zcg, .ref zcn, .int 0, .int 0])), (zct, .inl (cy 0, 2, .inl (fun _ => 0))), (zcn, .inl (cy 2, 2, .inl (fun _ => 0)))]) (w1 := fun (_ : Unit) => [(zr, .inr (6, [.ref zrt, .int 0, .int 0, .int zif]))]) (va_runV (As := [.int 33]) (rest := [.int 0, .ref zcn]) ⟨hx, hb, hml, hown, hts⟩ (c_X6_reads l dC dI cy s.heap.size zr 33 zrt zif (by first | rfl | decide | omega | exact Int32.toInt_toInt64 _)) (cwV 1 hts gX6_readAtom_X6_reads rfl rfl rfl (by decide +kernel) ⟨(Nat.le_of_ble_eq_true rfl), (Nat.le_of_ble_eq_true rfl)⟩) (PRE.v (hP.sub [0] rfl) hK (hD.sub [0] (by decide) rfl) hN (va_recv hK hP (ci := 6) (q0 := 0) rfl rfl)) rfl rfl hl.1 rfl (lv_room (Nat.le_of_ble_eq_true rfl)) dX6_readAtom_8 ⟨(Nat.le_of_ble_eq_true rfl), (Nat.le_of_ble_eq_true rfl)⟩) hP hD hS hA [0] [1, 2, 3] rfl rfl rfl (by decide) (fun r_2 u_1 H locs hw_3 hP hD hS => ?_)
  have hP : va_P (dC, dI) vwCl [(zc, .inr (1, [.ref zct, .ref zcw, .ref zcf, .ref zcl, .ref zcg, .ref zcn, .int 0, .int 0])), (zct, .inl (cy 0, 2, .inl (fun _ => 0))), (zcn, .inl (cy 2, 2, .inl (fun _ => 0))), (zr, .inr (6, [.ref zrt, .int 0, .int 0, .int zif]))] H := hP
  have hD : va_D A [(zc, .inr (1, [.ref zct, .ref zcw, .ref zcf, .ref zcl, .ref zcg, .ref zcn, .int 0, .int 0])), (zct, .inl (cy 0, 2, .inl (fun _ => 0))), (zcn, .inl (cy 2, 2, .inl (fun _ => 0))), (zr, .inr (6, [.ref zrt, .int 0, .int 0, .int zif]))] := hD
  obtain rfl : r_2 = 0 := hw_3
  refine va_zast hx hb hK hP hD hS 2 2 rfl rfl (vp_in_iff.mpr ⟨by decide, by decide⟩) dX6_readAtom_11 (fun H locs hP hD hS => ?_)
  have hP : va_P (dC, dI) vwCl [(zc, .inr (1, [.ref zct, .ref zcw, .ref zcf, .ref zcl, .ref zcg, .ref zcn, .int 0, .int 0])), (zct, .inl (cy 0, 2, .inl (fun _ => 0))), (zcn, .inl (cy 2, 2, .inl (upd (fun _ => 0) (0 : Int32).toNatClampNeg (vp_nar .boolean 0)))), (zr, .inr (6, [.ref zrt, .int 0, .int 0, .int zif]))] H := hP
  have hD : va_D A [(zc, .inr (1, [.ref zct, .ref zcw, .ref zcf, .ref zcl, .ref zcg, .ref zcn, .int 0, .int 0])), (zct, .inl (cy 0, 2, .inl (fun _ => 0))), (zcn, .inl (cy 2, 2, .inl (upd (fun _ => 0) (0 : Int32).toNatClampNeg (vp_nar .boolean 0)))), (zr, .inr (6, [.ref zrt, .int 0, .int 0, .int zif]))] := hD
  refine lv_aload_n hx hb dX6_readAtom_12 rfl (lv_at hl 1 rfl) ?_
  refine va_get (D := (dC, dI)) (ci := 1) (v := .ref zct) (C := RX1) (T := TX1) (N := 8) hx hb hts (by decide +kernel) hown hK hP 0 rfl rfl 0 (by decide) (hts (.fieldLink RX6 88 "DripStone$Claim" "tests" "[I") (by decide +kernel)) (fun _ h9 => h9) rfl dX6_readAtom_13 ?_
  refine lv_iload_n hx hb dX6_readAtom_16 rfl (lv_at hl 2 rfl) ?_
  refine lv_bipush (v := 42) hx hb dX6_readAtom_17 (by decide) ?_
  refine va_iast hx hb hK hP hD hS 1 0 rfl rfl (vp_in_iff.mpr ⟨by decide, by decide⟩) dX6_readAtom_19 (fun H locs hP hD hS => ?_)
  have hP : va_P (dC, dI) vwCl [(zc, .inr (1, [.ref zct, .ref zcw, .ref zcf, .ref zcl, .ref zcg, .ref zcn, .int 0, .int 0])), (zct, .inl (cy 0, 2, .inl (upd (fun _ => 0) (0 : Int32).toNatClampNeg 42))), (zcn, .inl (cy 2, 2, .inl (upd (fun _ => 0) (0 : Int32).toNatClampNeg (vp_nar .boolean 0)))), (zr, .inr (6, [.ref zrt, .int 0, .int 0, .int zif]))] H := hP
  have hD : va_D A [(zc, .inr (1, [.ref zct, .ref zcw, .ref zcf, .ref zcl, .ref zcg, .ref zcn, .int 0, .int 0])), (zct, .inl (cy 0, 2, .inl (upd (fun _ => 0) (0 : Int32).toNatClampNeg 42))), (zcn, .inl (cy 2, 2, .inl (upd (fun _ => 0) (0 : Int32).toNatClampNeg (vp_nar .boolean 0)))), (zr, .inr (6, [.ref zrt, .int 0, .int 0, .int zif]))] := hD
  refine lv_aload_n hx hb dX6_readAtom_20 rfl (lv_at hl 0 rfl) ?_
  refine lv_bipush (v := 42) hx hb dX6_readAtom_21 (by decide) ?_
  refine cj_i (wc := [(zr, .inr (6, [.ref zrt, .int 0, .int 0, .int zif]))]) (wr := [(zc, .inr (1, [.ref zct, .ref zcw, .ref zcf, .ref zcl, .ref zcg, .ref zcn, .int 0, .int 0])), (zct, .inl (cy 0, 2, .inl (upd (fun _ => 0) (0 : Int32).toNatClampNeg 42))), (zcn, .inl (cy 2, 2, .inl (upd (fun _ => 0) (0 : Int32).toNatClampNeg (vp_nar .boolean 0))))]) (w1 := fun (_ : Unit) => [(zr, .inr (6, [.ref zrt, .int 0, .int 0, .int zif]))]) (va_runV (As := [.int 42]) (rest := []) ⟨hx, hb, hml, hown, hts⟩ (c_X6_reads l dC dI cy H.size zr 42 zrt zif (by first | rfl | decide | omega | exact Int32.toInt_toInt64 _)) (cwV 1 hts gX6_readAtom_X6_reads rfl rfl rfl (by decide +kernel) ⟨(Nat.le_of_ble_eq_true rfl), (Nat.le_of_ble_eq_true rfl)⟩) (PRE.v (hP.sub [3] rfl) hK (hD.sub [3] (by decide) rfl) hN (va_recv hK hP (ci := 6) (q0 := 3) rfl rfl)) rfl rfl hl.1 rfl (lv_room (Nat.le_of_ble_eq_true rfl)) dX6_readAtom_23 ⟨(Nat.le_of_ble_eq_true rfl), (Nat.le_of_ble_eq_true rfl)⟩) hP hD hS hA [3] [0, 1, 2] rfl rfl rfl (by decide) (fun r_5 u_4 H locs hw_6 hP hD hS => ?_)
  have hP : va_P (dC, dI) vwCl [(zc, .inr (1, [.ref zct, .ref zcw, .ref zcf, .ref zcl, .ref zcg, .ref zcn, .int 0, .int 0])), (zct, .inl (cy 0, 2, .inl (upd (fun _ => 0) (0 : Int32).toNatClampNeg 42))), (zcn, .inl (cy 2, 2, .inl (upd (fun _ => 0) (0 : Int32).toNatClampNeg (vp_nar .boolean 0)))), (zr, .inr (6, [.ref zrt, .int 0, .int 0, .int zif]))] H := hP
  have hD : va_D A [(zc, .inr (1, [.ref zct, .ref zcw, .ref zcf, .ref zcl, .ref zcg, .ref zcn, .int 0, .int 0])), (zct, .inl (cy 0, 2, .inl (upd (fun _ => 0) (0 : Int32).toNatClampNeg 42))), (zcn, .inl (cy 2, 2, .inl (upd (fun _ => 0) (0 : Int32).toNatClampNeg (vp_nar .boolean 0)))), (zr, .inr (6, [.ref zrt, .int 0, .int 0, .int zif]))] := hD
  obtain rfl : r_5 = 0 := hw_6
  refine lv_if_ne (tgt := 40) hx hb dX6_readAtom_26 (by decide) (fun c_7 => absurd (by decide) c_7) (fun c_7 => ?_)
  refine lv_aload_n hx hb dX6_readAtom_29 rfl (lv_at hl 0 rfl) ?_
  refine lv_aload_n hx hb dX6_readAtom_30 rfl (lv_at hl 1 rfl) ?_
  refine lv_iload_n hx hb dX6_readAtom_31 rfl (lv_at hl 2 rfl) ?_
  refine cj_i (wc := [(zr, .inr (6, [.ref zrt, .int 0, .int 0, .int zif]))]) (wr := [(zc, .inr (1, [.ref zct, .ref zcw, .ref zcf, .ref zcl, .ref zcg, .ref zcn, .int 0, .int 0])), (zct, .inl (cy 0, 2, .inl (upd (fun _ => 0) (0 : Int32).toNatClampNeg 42))), (zcn, .inl (cy 2, 2, .inl (upd (fun _ => 0) (0 : Int32).toNatClampNeg (vp_nar .boolean 0))))]) (w1 := fun (_ : Unit) => [(zr, .inr (6, [.ref zrt, .int 0, .int 0, .int (-20)]))]) (va_runV (As := [.ref zc, .int 0]) (rest := []) ⟨hx, hb, hml, hown, hts⟩ (c_X6_readWeight l dC dI cy H.size zr zc zrt zif) (cwV 2 hts gX6_readAtom_X6_readWeight rfl rfl rfl (by decide +kernel) ⟨(Nat.le_of_ble_eq_true rfl), (Nat.le_of_ble_eq_true rfl)⟩) (PRE.v (hP.sub [3] rfl) hK (hD.sub [3] (by decide) rfl) hN (va_recv hK hP (ci := 6) (q0 := 3) rfl rfl)) rfl rfl hl.1 rfl (lv_room (Nat.le_of_ble_eq_true rfl)) dX6_readAtom_32 ⟨(Nat.le_of_ble_eq_true rfl), (Nat.le_of_ble_eq_true rfl)⟩) hP hD hS hA [3] [0, 1, 2] rfl rfl rfl (by decide) (fun r_9 u_8 H locs hw_10 hP hD hS => ?_)
  have hP : va_P (dC, dI) vwCl [(zc, .inr (1, [.ref zct, .ref zcw, .ref zcf, .ref zcl, .ref zcg, .ref zcn, .int 0, .int 0])), (zct, .inl (cy 0, 2, .inl (upd (fun _ => 0) (0 : Int32).toNatClampNeg 42))), (zcn, .inl (cy 2, 2, .inl (upd (fun _ => 0) (0 : Int32).toNatClampNeg (vp_nar .boolean 0)))), (zr, .inr (6, [.ref zrt, .int 0, .int 0, .int (-20)]))] H := hP
  have hD : va_D A [(zc, .inr (1, [.ref zct, .ref zcw, .ref zcf, .ref zcl, .ref zcg, .ref zcn, .int 0, .int 0])), (zct, .inl (cy 0, 2, .inl (upd (fun _ => 0) (0 : Int32).toNatClampNeg 42))), (zcn, .inl (cy 2, 2, .inl (upd (fun _ => 0) (0 : Int32).toNatClampNeg (vp_nar .boolean 0)))), (zr, .inr (6, [.ref zrt, .int 0, .int 0, .int (-20)]))] := hD
  obtain rfl : r_9 = 0 := hw_10
  refine lv_if_ne (tgt := 40) hx hb dX6_readAtom_35 (by decide) (fun c_11 => absurd (by decide) c_11) (fun c_11 => ?_)
  refine lv_iconst (v := 0) hx hb dX6_readAtom_38 (by decide) ?_
  have hP9 := hP.sub (ws' := [(zr, .inr (6, [.ref zrt, .int 0, .int 0, .int (-20)]))]) [3] rfl
  have hD9 := hD.sub (ws' := [(zr, .inr (6, [.ref zrt, .int 0, .int 0, .int (-20)]))]) [3] (by decide) rfl
  exact W.zret (v := 0) hx hb hr rfl (fun t ht hW => ⟨⟨0, (), rfl, rfl, ⟨by rw [ht]; exact hP9, va_K.moved hW.alike hK, hD9⟩⟩, hS.F ht⟩) hS.2.2 dX6_readAtom_39
set_option maxHeartbeats 4000000 in
set_option maxRecDepth 100000 in
theorem c_X6_readClaim (l : Launch) (dC : Nat → ClassId) (dI : Nat → Nat → Nat) (cy : Nat → ClassId) (sz : Nat) (zr : Nat) (zc : Nat) (zrt : Nat) (zif : Int32) (zct : Nat) (zcw : Nat) (zcf : Nat) (zcl : Nat) (zcg : Nat) (zcn : Nat)  : Met l yX6_readClaim wsX6_readClaim ({ frames := 5, cells := 0, slots := 0, locals := 109 }) (va_Pc [.ref zr, .ref zc] (PRE dC dI cy [(zr, .inr (6, [.ref zrt, .int 0, .int 0, .int zif])), (zc, .inr (1, [.ref zct, .ref zcw, .ref zcf, .ref zcl, .ref zcg, .ref zcn, .int 0, .int 0])), (zct, .inl (cy 0, 2, .inl (fun _ => 0))), (zcn, .inl (cy 2, 2, .inl (fun _ => 0)))] sz)) (va_Qi (fun (r : Int32) (_ : Unit) => r = (-20)) (fun u t => POST dC dI cy (va_A [(zr, .inr (6, [.ref zrt, .int 0, .int 0, .int zif])), (zc, .inr (1, [.ref zct, .ref zcw, .ref zcf, .ref zcl, .ref zcg, .ref zcn, .int 0, .int 0])), (zct, .inl (cy 0, 2, .inl (fun _ => 0))), (zcn, .inl (cy 2, 2, .inl (fun _ => 0)))] sz) [(zr, .inr (6, [.ref zrt, .int 0, .int 0, .int (-20)]))] t) (va_A [(zr, .inr (6, [.ref zrt, .int 0, .int 0, .int zif])), (zc, .inr (1, [.ref zct, .ref zcw, .ref zcf, .ref zcl, .ref zcg, .ref zcn, .int 0, .int 0])), (zct, .inl (cy 0, 2, .inl (fun _ => 0))), (zcn, .inl (cy 2, 2, .inl (fun _ => 0)))] sz)) 0 0 (va_A [(zr, .inr (6, [.ref zrt, .int 0, .int 0, .int zif])), (zc, .inr (1, [.ref zct, .ref zcw, .ref zcf, .ref zcl, .ref zcg, .ref zcn, .int 0, .int 0])), (zct, .inl (cy 0, 2, .inl (fun _ => 0))), (zcn, .inl (cy 2, 2, .inl (fun _ => 0)))] sz) := by
  refine Met.ofW (cc := cX6_readClaim) (maxL := 4) (ret := (some .int)) (by decide) rfl ?_
  intro p e s m args below meth c s₁ B hml hv
  obtain ⟨rfl, hsz, hP, hK, hD0, hN⟩ := hv
  have hx := B.exec
  have hb := B.bytes
  have hr := B.returns
  have hts := atoms_spec (ws := wsX6_readClaim) B.pre
  have hown : s.vm.findClass RX6 = some m.cls := findClass_of_methodNamed B.named
  have hlocks := B.notSynchronized
  subst hsz
  have hD := hD0.self (sz := s.heap.size)
  generalize hAe : va_A [(zr, .inr (6, [.ref zrt, .int 0, .int 0, .int zif])), (zc, .inr (1, [.ref zct, .ref zcw, .ref zcf, .ref zcl, .ref zcg, .ref zcn, .int 0, .int 0])), (zct, .inl (cy 0, 2, .inl (fun _ => 0))), (zcn, .inl (cy 2, 2, .inl (fun _ => 0)))] s.heap.size = A at hD ⊢
  have hA : ∀ q : Nat, s.heap.size ≤ q → A q := fun q h => by rw [← hAe]; exact Or.inr h
  have hS : va_S A s.heap s.heap [] := va_S.rf
  have hP : va_P (dC, dI) vwCl [(zr, .inr (6, [.ref zrt, .int 0, .int 0, .int zif])), (zc, .inr (1, [.ref zct, .ref zcw, .ref zcf, .ref zcl, .ref zcg, .ref zcn, .int 0, .int 0])), (zct, .inl (cy 0, 2, .inl (fun _ => 0))), (zcn, .inl (cy 2, 2, .inl (fun _ => 0)))] s.heap := hP
  have hl := lv_entry ([.ref zr, .ref zc] : List Value) (n := 4) (Nat.le_of_ble_eq_true rfl)
  rw [lg_entry_eq]
  generalize (lg_sl ([.ref zr, .ref zc] : List Value) ++ List.replicate (4 - (lg_sl ([.ref zr, .ref zc] : List Value)).length) Slot.unset).toArray = ls at hl ⊢
  have hl : lv_has ls 4 [(0, .ref zr), (1, .ref zc)] := hl
  refine lv_aload_n hx hb dX6_readClaim_0 rfl (lv_at hl 0 rfl) ?_
  refine lv_iconst (v := 0) hx hb dX6_readClaim_1 (by decide) ?_
  refine va_put (D := (dC, dI)) (ci := 6) (v := .int 0) (ty := .int) (C := RX6) (T := TX6) (N := 4) hx hb hts (by decide +kernel) tyX6 tyX6_ok nmX6 hown hK hP hD hS 0 rfl rfl 2 (by decide) (hts (.fieldLink RX6 15 "DripStone$Reader" "at" "I") (by decide +kernel)) (fun _ h9 => h9) rfl (by decide +kernel) rfl rfl (Nat.le_of_ble_eq_true rfl) dX6_readClaim_2 (fun H locs hP hD hS => ?_)
  have hP : va_P (dC, dI) vwCl [(zr, .inr (6, [.ref zrt, .int 0, .int 0, .int zif])), (zc, .inr (1, [.ref zct, .ref zcw, .ref zcf, .ref zcl, .ref zcg, .ref zcn, .int 0, .int 0])), (zct, .inl (cy 0, 2, .inl (fun _ => 0))), (zcn, .inl (cy 2, 2, .inl (fun _ => 0)))] H := hP
  have hD : va_D A [(zr, .inr (6, [.ref zrt, .int 0, .int 0, .int zif])), (zc, .inr (1, [.ref zct, .ref zcw, .ref zcf, .ref zcl, .ref zcg, .ref zcn, .int 0, .int 0])), (zct, .inl (cy 0, 2, .inl (fun _ => 0))), (zcn, .inl (cy 2, 2, .inl (fun _ => 0)))] := hD
  refine lv_aload_n hx hb dX6_readClaim_5 rfl (lv_at hl 1 rfl) ?_
  refine lv_iconst (v := 0) hx hb dX6_readClaim_6 (by decide) ?_
  refine va_put (D := (dC, dI)) (ci := 1) (v := .int 0) (ty := .boolean) (C := RX1) (T := TX1) (N := 8) hx hb hts (by decide +kernel) tyX1 tyX1_ok nmX1 hown hK hP hD hS 1 rfl rfl 7 (by decide) (hts (.fieldLink RX6 71 "DripStone$Claim" "either" "Z") (by decide +kernel)) (fun _ h9 => h9) rfl (by decide +kernel) rfl rfl (Nat.le_of_ble_eq_true rfl) dX6_readClaim_7 (fun H locs hP hD hS => ?_)
  have hP : va_P (dC, dI) vwCl [(zr, .inr (6, [.ref zrt, .int 0, .int 0, .int zif])), (zc, .inr (1, [.ref zct, .ref zcw, .ref zcf, .ref zcl, .ref zcg, .ref zcn, .int 0, .int 0])), (zct, .inl (cy 0, 2, .inl (fun _ => 0))), (zcn, .inl (cy 2, 2, .inl (fun _ => 0)))] H := hP
  have hD : va_D A [(zr, .inr (6, [.ref zrt, .int 0, .int 0, .int zif])), (zc, .inr (1, [.ref zct, .ref zcw, .ref zcf, .ref zcl, .ref zcg, .ref zcn, .int 0, .int 0])), (zct, .inl (cy 0, 2, .inl (fun _ => 0))), (zcn, .inl (cy 2, 2, .inl (fun _ => 0)))] := hD
  refine lv_iconst (v := 1) hx hb dX6_readClaim_10 (by decide) ?_
  refine lv_istore_n (lv' := [(2, .int 1), (0, .ref zr), (1, .ref zc)]) hx hb dX6_readClaim_11 rfl hl (by decide) rfl (fun ls hl => ?_)
  refine lv_iconst (v := 0) hx hb dX6_readClaim_12 (by decide) ?_
  refine lv_istore_n (lv' := [(3, .int 0), (2, .int 1), (0, .ref zr), (1, .ref zc)]) hx hb dX6_readClaim_13 rfl hl (by decide) rfl (fun ls hl => ?_)
  refine lv_iload_n hx hb dX6_readClaim_14 rfl (lv_at hl 0 rfl) ?_
  refine lv_iconst (v := 2) hx hb dX6_readClaim_15 (by decide) ?_
  refine lv_icmp_ge (tgt := 107) hx hb dX6_readClaim_16 (by decide) (fun c_1 => absurd c_1 (by decide)) (fun c_1 => ?_)
  refine lv_iload_n hx hb dX6_readClaim_19 rfl (lv_at hl 1 rfl) ?_
  refine lv_if_eq (tgt := 107) hx hb dX6_readClaim_20 (by decide) (fun c_2 => absurd c_2 (by decide)) (fun c_2 => ?_)
  refine lv_aload_n hx hb dX6_readClaim_23 rfl (lv_at hl 2 rfl) ?_
  refine lv_aload_n hx hb dX6_readClaim_24 rfl (lv_at hl 3 rfl) ?_
  refine lv_iload_n hx hb dX6_readClaim_25 rfl (lv_at hl 0 rfl) ?_
  refine cj_i (wc := [(zr, .inr (6, [.ref zrt, .int 0, .int 0, .int zif])), (zc, .inr (1, [.ref zct, .ref zcw, .ref zcf, .ref zcl, .ref zcg, .ref zcn, .int 0, .int 0])), (zct, .inl (cy 0, 2, .inl (fun _ => 0))), (zcn, .inl (cy 2, 2, .inl (fun _ => 0)))]) (wr := []) (w1 := fun (_ : Unit) => [(zr, .inr (6, [.ref zrt, .int 0, .int 0, .int (-20)]))]) (va_runV (As := [.ref zc, .int 0]) (rest := []) ⟨hx, hb, hml, hown, hts⟩ (c_X6_readAtom l dC dI cy H.size zr zc zrt zif zct zcw zcf zcl zcg zcn) (cwV 2 hts gX6_readClaim_X6_readAtom rfl rfl rfl (by decide +kernel) ⟨(Nat.le_of_ble_eq_true rfl), (Nat.le_of_ble_eq_true rfl)⟩) (PRE.v (hP.sub [0, 1, 2, 3] rfl) hK (hD.sub [0, 1, 2, 3] (by decide) rfl) hN (va_recv hK hP (ci := 6) (q0 := 0) rfl rfl)) rfl rfl hl.1 rfl (lv_room (Nat.le_of_ble_eq_true rfl)) dX6_readClaim_26 ⟨(Nat.le_of_ble_eq_true rfl), (Nat.le_of_ble_eq_true rfl)⟩) hP hD hS hA [0, 1, 2, 3] [] rfl rfl rfl (by decide) (fun r_4 u_3 H locs hw_5 hP hD hS => ?_)
  have hP : va_P (dC, dI) vwCl [(zr, .inr (6, [.ref zrt, .int 0, .int 0, .int (-20)]))] H := hP
  have hD : va_D A [(zr, .inr (6, [.ref zrt, .int 0, .int 0, .int (-20)]))] := hD
  obtain rfl : r_4 = 0 := hw_5
  refine lv_if_ne (tgt := 37) hx hb dX6_readClaim_29 (by decide) (fun c_6 => absurd (by decide) c_6) (fun c_6 => ?_)
  refine lv_aload_n hx hb dX6_readClaim_32 rfl (lv_at hl 2 rfl) ?_
  refine va_get (D := (dC, dI)) (ci := 6) (v := .int (-20)) (C := RX6) (T := TX6) (N := 4) hx hb hts (by decide +kernel) hown hK hP 0 rfl rfl 3 (by decide) (hts (.fieldLink RX6 23 "DripStone$Reader" "fault" "I") (by decide +kernel)) (fun _ h9 => h9) rfl dX6_readClaim_33 ?_
  have hP9 := hP.sub (ws' := [(zr, .inr (6, [.ref zrt, .int 0, .int 0, .int (-20)]))]) [0] rfl
  have hD9 := hD.sub (ws' := [(zr, .inr (6, [.ref zrt, .int 0, .int 0, .int (-20)]))]) [0] (by decide) rfl
  exact W.iret (v := (-20)) hx hb hr (fun t ht hW => ⟨⟨(-20), (), rfl, rfl, ⟨by rw [ht]; exact hP9, va_K.moved hW.alike hK, hD9⟩⟩, hS.F ht⟩) hS.2.2 dX6_readClaim_36
