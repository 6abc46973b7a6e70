set_option maxHeartbeats 4000000 in
set_option maxRecDepth 100000 in
theorem c_addThing_0 (l : Launch) (dC : Nat → ClassId) (dI : Nat → Nat → Nat) (cy : Nat → ClassId) (sz : Nat) (zy : Nat) (ziw : Int32) (zix : Int32) (zy0 : Nat) (zy1 : Nat) (zy5 : Nat) (zy8 : Nat) (zy9 : Nat) (zy10 : Nat) (zy11 : Nat) (zy12 : Nat) (zy13 : Nat) (zy14 : Nat) (zy16 : Nat) (zy17 : Nat) (zy18 : Nat) (zy21 : Nat) (zy22 : Nat) (zy24 : Nat) (zy25 : Nat) (zy26 : Nat) (zy27 : Nat)  : Met l yX11_addThing wsX11_addThing ({ frames := 0, cells := 0, slots := 0, locals := 0 }) (va_Pc [.ref zy, .int 0, .int ziw, .int zix, .int 0] (PRE dC dI cy [(zy, .inr (11, [.ref zy0, .ref zy1, .int 0, .int 0, .int 0, .ref zy5, .int 0, .int 0, .ref zy8, .ref zy9, .ref zy10, .ref zy11, .ref zy12, .ref zy13, .ref zy14, .long 0, .ref zy16, .ref zy17, .ref zy18, .int 0, .long 0, .ref zy21, .ref zy22, .int 0, .ref zy24, .ref zy25, .ref zy26, .ref zy27])), (zy0, .inl (cy 0, 392, .inl zz))] sz)) (va_Qv (fun (_ : Unit) => True) (fun u t => POST dC dI cy (va_A [(zy, .inr (11, [.ref zy0, .ref zy1, .int 0, .int 0, .int 0, .ref zy5, .int 0, .int 0, .ref zy8, .ref zy9, .ref zy10, .ref zy11, .ref zy12, .ref zy13, .ref zy14, .long 0, .ref zy16, .ref zy17, .ref zy18, .int 0, .long 0, .ref zy21, .ref zy22, .int 0, .ref zy24, .ref zy25, .ref zy26, .ref zy27])), (zy0, .inl (cy 0, 392, .inl zz))] sz) [(zy, .inr (11, [.ref zy0, .ref zy1, .int 0, .int 0, .int 0, .ref zy5, .int 0, .int 0, .ref zy8, .ref zy9, .ref zy10, .ref zy11, .ref zy12, .ref zy13, .ref zy14, .long 0, .ref zy16, .ref zy17, .ref zy18, .int 0, .long 0, .ref zy21, .ref zy22, .int 0, .ref zy24, .ref zy25, .ref zy26, .ref zy27])), (zy0, .inl (cy 0, 392, .inl (upd (upd (upd (upd zz (158 : Int32).toNatClampNeg ziw) (182 : Int32).toNatClampNeg zix) (206 : Int32).toNatClampNeg 0) (5 : Int32).toNatClampNeg 1)))] t) (va_A [(zy, .inr (11, [.ref zy0, .ref zy1, .int 0, .int 0, .int 0, .ref zy5, .int 0, .int 0, .ref zy8, .ref zy9, .ref zy10, .ref zy11, .ref zy12, .ref zy13, .ref zy14, .long 0, .ref zy16, .ref zy17, .ref zy18, .int 0, .long 0, .ref zy21, .ref zy22, .int 0, .ref zy24, .ref zy25, .ref zy26, .ref zy27])), (zy0, .inl (cy 0, 392, .inl zz))] sz)) 0 0 (va_A [(zy, .inr (11, [.ref zy0, .ref zy1, .int 0, .int 0, .int 0, .ref zy5, .int 0, .int 0, .ref zy8, .ref zy9, .ref zy10, .ref zy11, .ref zy12, .ref zy13, .ref zy14, .long 0, .ref zy16, .ref zy17, .ref zy18, .int 0, .long 0, .ref zy21, .ref zy22, .int 0, .ref zy24, .ref zy25, .ref zy26, .ref zy27])), (zy0, .inl (cy 0, 392, .inl zz))] sz) := by
  refine Met.ofW (cc := cX11_addThing) (maxL := 6) (ret := none) (by decide) rfl ?_
  intro p e s m args below meth c s₁ B hml hv
  obtain ⟨rfl, hsz, hP, hK, hD0, hN⟩ := hv
  have hx := B.exec
  have hb := B.bytes
  have hr := B.returns
  have hts := atoms_spec (ws := wsX11_addThing) B.pre
  have hown : s.vm.findClass RX11 = some m.cls := findClass_of_methodNamed B.named
  have hlocks := B.notSynchronized
  subst hsz
  have hD := hD0.self (sz := s.heap.size)
  generalize hAe : va_A [(zy, .inr (11, [.ref zy0, .ref zy1, .int 0, .int 0, .int 0, .ref zy5, .int 0, .int 0, .ref zy8, .ref zy9, .ref zy10, .ref zy11, .ref zy12, .ref zy13, .ref zy14, .long 0, .ref zy16, .ref zy17, .ref zy18, .int 0, .long 0, .ref zy21, .ref zy22, .int 0, .ref zy24, .ref zy25, .ref zy26, .ref zy27])), (zy0, .inl (cy 0, 392, .inl zz))] s.heap.size = A at hD ⊢
  have hA : ∀ q : Nat, s.heap.size ≤ q → A q := fun q h => by rw [← hAe]; exact Or.inr h
  have hS : va_S A s.heap s.heap [] := va_S.rf
  have hP : va_P (dC, dI) vwCl [(zy, .inr (11, [.ref zy0, .ref zy1, .int 0, .int 0, .int 0, .ref zy5, .int 0, .int 0, .ref zy8, .ref zy9, .ref zy10, .ref zy11, .ref zy12, .ref zy13, .ref zy14, .long 0, .ref zy16, .ref zy17, .ref zy18, .int 0, .long 0, .ref zy21, .ref zy22, .int 0, .ref zy24, .ref zy25, .ref zy26, .ref zy27])), (zy0, .inl (cy 0, 392, .inl zz))] s.heap := hP
  have hl := lv_entry ([.ref zy, .int 0, .int ziw, .int zix, .int 0] : List Value) (n := 6) (Nat.le_of_ble_eq_true rfl)
  rw [lg_entry_eq]
  generalize (lg_sl ([.ref zy, .int 0, .int ziw, .int zix, .int 0] : List Value) ++ List.replicate (6 - (lg_sl ([.ref zy, .int 0, .int ziw, .int zix, .int 0] : List Value)).length) Slot.unset).toArray = ls at hl ⊢
  have hl : lv_has ls 6 [(0, .ref zy), (1, .int 0), (2, .int ziw), (3, .int zix), (4, .int 0)] := hl
  refine lv_aload_n hx hb dX11_addThing_0 rfl (lv_at hl 0 rfl) ?_
  refine va_get (D := (dC, dI)) (ci := 11) (v := .ref zy0) (C := RX11) (T := TX11) (N := 28) hx hb hts (by decide +kernel) hown hK hP 0 rfl rfl 0 (by decide) (hts (.fieldLink RX11 7 "DripStoneModel" "z" "[I") (by decide +kernel)) (fun _ h9 => h9) rfl dX11_addThing_1 ?_
  refine lv_iconst (v := 5) hx hb dX11_addThing_4 (by decide) ?_
  refine lv_iload_n hx hb dX11_addThing_5 rfl (lv_at hl 1 rfl) ?_
  refine lv_iadd hx hb dX11_addThing_6 ?_
  refine lv_topi (fun v_1 ev_1 => ?_)
  obtain rfl : v_1 = (5 : Int32) := ev_1.trans (by decide)
  refine va_iald hx hb hK hP 1 0 rfl rfl (vp_in_iff.mpr ⟨by decide, by decide⟩) dX11_addThing_7 ?_
  refine W.eq (g2 := F0 m 8 ls [.int 0]) rfl ?_
  refine lv_istore (lv' := [(5, .int 0), (0, .ref zy), (1, .int 0), (2, .int ziw), (3, .int zix), (4, .int 0)]) hx hb dX11_addThing_8 hl (by decide) rfl (fun ls hl => ?_)
  refine lv_iload hx hb dX11_addThing_10 (lv_at hl 0 rfl) ?_
  refine lv_bipush (v := 12) hx hb dX11_addThing_12 (by decide) ?_
  refine lv_icmp_ge (tgt := 81) hx hb dX11_addThing_14 (by decide) (fun c_2 => absurd c_2 (by decide)) (fun c_2 => ?_)
  refine lv_aload_n hx hb dX11_addThing_17 rfl (lv_at hl 1 rfl) ?_
  refine va_get (D := (dC, dI)) (ci := 11) (v := .ref zy0) (C := RX11) (T := TX11) (N := 28) hx hb hts (by decide +kernel) hown hK hP 0 rfl rfl 0 (by decide) (hts (.fieldLink RX11 7 "DripStoneModel" "z" "[I") (by decide +kernel)) (fun _ h9 => h9) rfl dX11_addThing_18 ?_
  refine lv_sipush (v := 158) hx hb dX11_addThing_21 (by decide) ?_
  refine lv_bipush (v := 12) hx hb dX11_addThing_24 (by decide) ?_
  refine lv_iload_n hx hb dX11_addThing_26 rfl (lv_at hl 2 rfl) ?_
  refine lv_imul hx hb dX11_addThing_27 ?_
  refine lv_topi (fun v_3 ev_3 => ?_)
  obtain rfl : v_3 = (0 : Int32) := ev_3.trans (by decide)
  refine lv_iadd hx hb dX11_addThing_28 ?_
  refine lv_topi (fun v_4 ev_4 => ?_)
  obtain rfl : v_4 = (158 : Int32) := ev_4.trans (by decide)
  refine lv_iload hx hb dX11_addThing_29 (lv_at hl 0 rfl) ?_
  refine lv_iadd hx hb dX11_addThing_31 ?_
  refine lv_topi (fun v_5 ev_5 => ?_)
  obtain rfl : v_5 = (158 : Int32) := ev_5.trans (by decide)
  refine lv_iload_n hx hb dX11_addThing_32 rfl (lv_at hl 3 rfl) ?_
  refine va_iast hx hb hK hP hD hS 1 0 rfl rfl (vp_in_iff.mpr ⟨by decide, by decide⟩) dX11_addThing_33 (fun H locs hP hD hS => ?_)
  have hP : va_P (dC, dI) vwCl [(zy, .inr (11, [.ref zy0, .ref zy1, .int 0, .int 0, .int 0, .ref zy5, .int 0, .int 0, .ref zy8, .ref zy9, .ref zy10, .ref zy11, .ref zy12, .ref zy13, .ref zy14, .long 0, .ref zy16, .ref zy17, .ref zy18, .int 0, .long 0, .ref zy21, .ref zy22, .int 0, .ref zy24, .ref zy25, .ref zy26, .ref zy27])), (zy0, .inl (cy 0, 392, .inl (upd zz (158 : Int32).toNatClampNeg ziw)))] H := hP
  have hD : va_D A [(zy, .inr (11, [.ref zy0, .ref zy1, .int 0, .int 0, .int 0, .ref zy5, .int 0, .int 0, .ref zy8, .ref zy9, .ref zy10, .ref zy11, .ref zy12, .ref zy13, .ref zy14, .long 0, .ref zy16, .ref zy17, .ref zy18, .int 0, .long 0, .ref zy21, .ref zy22, .int 0, .ref zy24, .ref zy25, .ref zy26, .ref zy27])), (zy0, .inl (cy 0, 392, .inl (upd zz (158 : Int32).toNatClampNeg ziw)))] := hD
  refine lv_aload_n hx hb dX11_addThing_34 rfl (lv_at hl 1 rfl) ?_
  refine va_get (D := (dC, dI)) (ci := 11) (v := .ref zy0) (C := RX11) (T := TX11) (N := 28) hx hb hts (by decide +kernel) hown hK hP 0 rfl rfl 0 (by decide) (hts (.fieldLink RX11 7 "DripStoneModel" "z" "[I") (by decide +kernel)) (fun _ h9 => h9) rfl dX11_addThing_35 ?_
  refine lv_sipush (v := 182) hx hb dX11_addThing_38 (by decide) ?_
  refine lv_bipush (v := 12) hx hb dX11_addThing_41 (by decide) ?_
  refine lv_iload_n hx hb dX11_addThing_43 rfl (lv_at hl 2 rfl) ?_
  refine lv_imul hx hb dX11_addThing_44 ?_
  refine lv_topi (fun v_6 ev_6 => ?_)
  obtain rfl : v_6 = (0 : Int32) := ev_6.trans (by decide)
  refine lv_iadd hx hb dX11_addThing_45 ?_
  refine lv_topi (fun v_7 ev_7 => ?_)
  obtain rfl : v_7 = (182 : Int32) := ev_7.trans (by decide)
  refine lv_iload hx hb dX11_addThing_46 (lv_at hl 0 rfl) ?_
  refine lv_iadd hx hb dX11_addThing_48 ?_
  refine lv_topi (fun v_8 ev_8 => ?_)
  obtain rfl : v_8 = (182 : Int32) := ev_8.trans (by decide)
  refine lv_iload_n hx hb dX11_addThing_49 rfl (lv_at hl 4 rfl) ?_
  refine va_iast hx hb hK hP hD hS 1 0 rfl rfl (vp_in_iff.mpr ⟨by decide, by decide⟩) dX11_addThing_50 (fun H locs hP hD hS => ?_)
  have hP : va_P (dC, dI) vwCl [(zy, .inr (11, [.ref zy0, .ref zy1, .int 0, .int 0, .int 0, .ref zy5, .int 0, .int 0, .ref zy8, .ref zy9, .ref zy10, .ref zy11, .ref zy12, .ref zy13, .ref zy14, .long 0, .ref zy16, .ref zy17, .ref zy18, .int 0, .long 0, .ref zy21, .ref zy22, .int 0, .ref zy24, .ref zy25, .ref zy26, .ref zy27])), (zy0, .inl (cy 0, 392, .inl (upd (upd zz (158 : Int32).toNatClampNeg ziw) (182 : Int32).toNatClampNeg zix)))] H := hP
  have hD : va_D A [(zy, .inr (11, [.ref zy0, .ref zy1, .int 0, .int 0, .int 0, .ref zy5, .int 0, .int 0, .ref zy8, .ref zy9, .ref zy10, .ref zy11, .ref zy12, .ref zy13, .ref zy14, .long 0, .ref zy16, .ref zy17, .ref zy18, .int 0, .long 0, .ref zy21, .ref zy22, .int 0, .ref zy24, .ref zy25, .ref zy26, .ref zy27])), (zy0, .inl (cy 0, 392, .inl (upd (upd zz (158 : Int32).toNatClampNeg ziw) (182 : Int32).toNatClampNeg zix)))] := hD
  refine lv_aload_n hx hb dX11_addThing_51 rfl (lv_at hl 1 rfl) ?_
  refine va_get (D := (dC, dI)) (ci := 11) (v := .ref zy0) (C := RX11) (T := TX11) (N := 28) hx hb hts (by decide +kernel) hown hK hP 0 rfl rfl 0 (by decide) (hts (.fieldLink RX11 7 "DripStoneModel" "z" "[I") (by decide +kernel)) (fun _ h9 => h9) rfl dX11_addThing_52 ?_
  refine lv_sipush (v := 206) hx hb dX11_addThing_55 (by decide) ?_
  refine lv_bipush (v := 12) hx hb dX11_addThing_58 (by decide) ?_
  refine lv_iload_n hx hb dX11_addThing_60 rfl (lv_at hl 2 rfl) ?_
  refine lv_imul hx hb dX11_addThing_61 ?_
  refine lv_topi (fun v_9 ev_9 => ?_)
  obtain rfl : v_9 = (0 : Int32) := ev_9.trans (by decide)
  refine lv_iadd hx hb dX11_addThing_62 ?_
  refine lv_topi (fun v_10 ev_10 => ?_)
  obtain rfl : v_10 = (206 : Int32) := ev_10.trans (by decide)
  refine lv_iload hx hb dX11_addThing_63 (lv_at hl 0 rfl) ?_
  refine lv_iadd hx hb dX11_addThing_65 ?_
  refine lv_topi (fun v_11 ev_11 => ?_)
  obtain rfl : v_11 = (206 : Int32) := ev_11.trans (by decide)
  refine lv_iload hx hb dX11_addThing_66 (lv_at hl 5 rfl) ?_
  refine va_iast hx hb hK hP hD hS 1 0 rfl rfl (vp_in_iff.mpr ⟨by decide, by decide⟩) dX11_addThing_68 (fun H locs hP hD hS => ?_)
  have hP : va_P (dC, dI) vwCl [(zy, .inr (11, [.ref zy0, .ref zy1, .int 0, .int 0, .int 0, .ref zy5, .int 0, .int 0, .ref zy8, .ref zy9, .ref zy10, .ref zy11, .ref zy12, .ref zy13, .ref zy14, .long 0, .ref zy16, .ref zy17, .ref zy18, .int 0, .long 0, .ref zy21, .ref zy22, .int 0, .ref zy24, .ref zy25, .ref zy26, .ref zy27])), (zy0, .inl (cy 0, 392, .inl (upd (upd (upd zz (158 : Int32).toNatClampNeg ziw) (182 : Int32).toNatClampNeg zix) (206 : Int32).toNatClampNeg 0)))] H := hP
  have hD : va_D A [(zy, .inr (11, [.ref zy0, .ref zy1, .int 0, .int 0, .int 0, .ref zy5, .int 0, .int 0, .ref zy8, .ref zy9, .ref zy10, .ref zy11, .ref zy12, .ref zy13, .ref zy14, .long 0, .ref zy16, .ref zy17, .ref zy18, .int 0, .long 0, .ref zy21, .ref zy22, .int 0, .ref zy24, .ref zy25, .ref zy26, .ref zy27])), (zy0, .inl (cy 0, 392, .inl (upd (upd (upd zz (158 : Int32).toNatClampNeg ziw) (182 : Int32).toNatClampNeg zix) (206 : Int32).toNatClampNeg 0)))] := hD
  refine lv_aload_n hx hb dX11_addThing_69 rfl (lv_at hl 1 rfl) ?_
  refine va_get (D := (dC, dI)) (ci := 11) (v := .ref zy0) (C := RX11) (T := TX11) (N := 28) hx hb hts (by decide +kernel) hown hK hP 0 rfl rfl 0 (by decide) (hts (.fieldLink RX11 7 "DripStoneModel" "z" "[I") (by decide +kernel)) (fun _ h9 => h9) rfl dX11_addThing_70 ?_
  refine lv_iconst (v := 5) hx hb dX11_addThing_73 (by decide) ?_
  refine lv_iload_n hx hb dX11_addThing_74 rfl (lv_at hl 2 rfl) ?_
  refine lv_iadd hx hb dX11_addThing_75 ?_
  refine lv_topi (fun v_12 ev_12 => ?_)
  obtain rfl : v_12 = (5 : Int32) := ev_12.trans (by decide)
  refine lv_dup2_11 hx hb dX11_addThing_76 rfl rfl ?_
  refine va_iald hx hb hK hP 1 0 rfl rfl (vp_in_iff.mpr ⟨by decide, by decide⟩) dX11_addThing_77 ?_
  refine W.eq (g2 := F0 m 78 ls [.int 0, .int 5, .ref zy0]) rfl ?_
  refine lv_iconst (v := 1) hx hb dX11_addThing_78 (by decide) ?_
  refine lv_iadd hx hb dX11_addThing_79 ?_
  refine lv_topi (fun v_13 ev_13 => ?_)
  obtain rfl : v_13 = (1 : Int32) := ev_13.trans (by decide)
  refine va_iast hx hb hK hP hD hS 1 0 rfl rfl (vp_in_iff.mpr ⟨by decide, by decide⟩) dX11_addThing_80 (fun H locs hP hD hS => ?_)
  have hP : va_P (dC, dI) vwCl [(zy, .inr (11, [.ref zy0, .ref zy1, .int 0, .int 0, .int 0, .ref zy5, .int 0, .int 0, .ref zy8, .ref zy9, .ref zy10, .ref zy11, .ref zy12, .ref zy13, .ref zy14, .long 0, .ref zy16, .ref zy17, .ref zy18, .int 0, .long 0, .ref zy21, .ref zy22, .int 0, .ref zy24, .ref zy25, .ref zy26, .ref zy27])), (zy0, .inl (cy 0, 392, .inl (upd (upd (upd (upd zz (158 : Int32).toNatClampNeg ziw) (182 : Int32).toNatClampNeg zix) (206 : Int32).toNatClampNeg 0) (5 : Int32).toNatClampNeg 1)))] H := hP
  have hD : va_D A [(zy, .inr (11, [.ref zy0, .ref zy1, .int 0, .int 0, .int 0, .ref zy5, .int 0, .int 0, .ref zy8, .ref zy9, .ref zy10, .ref zy11, .ref zy12, .ref zy13, .ref zy14, .long 0, .ref zy16, .ref zy17, .ref zy18, .int 0, .long 0, .ref zy21, .ref zy22, .int 0, .ref zy24, .ref zy25, .ref zy26, .ref zy27])), (zy0, .inl (cy 0, 392, .inl (upd (upd (upd (upd zz (158 : Int32).toNatClampNeg ziw) (182 : Int32).toNatClampNeg zix) (206 : Int32).toNatClampNeg 0) (5 : Int32).toNatClampNeg 1)))] := hD
  have hP9 := hP.sub (ws' := [(zy, .inr (11, [.ref zy0, .ref zy1, .int 0, .int 0, .int 0, .ref zy5, .int 0, .int 0, .ref zy8, .ref zy9, .ref zy10, .ref zy11, .ref zy12, .ref zy13, .ref zy14, .long 0, .ref zy16, .ref zy17, .ref zy18, .int 0, .long 0, .ref zy21, .ref zy22, .int 0, .ref zy24, .ref zy25, .ref zy26, .ref zy27])), (zy0, .inl (cy 0, 392, .inl (upd (upd (upd (upd zz (158 : Int32).toNatClampNeg ziw) (182 : Int32).toNatClampNeg zix) (206 : Int32).toNatClampNeg 0) (5 : Int32).toNatClampNeg 1)))]) [0, 1] rfl
  have hD9 := hD.sub (ws' := [(zy, .inr (11, [.ref zy0, .ref zy1, .int 0, .int 0, .int 0, .ref zy5, .int 0, .int 0, .ref zy8, .ref zy9, .ref zy10, .ref zy11, .ref zy12, .ref zy13, .ref zy14, .long 0, .ref zy16, .ref zy17, .ref zy18, .int 0, .long 0, .ref zy21, .ref zy22, .int 0, .ref zy24, .ref zy25, .ref zy26, .ref zy27])), (zy0, .inl (cy 0, 392, .inl (upd (upd (upd (upd zz (158 : Int32).toNatClampNeg ziw) (182 : Int32).toNatClampNeg zix) (206 : Int32).toNatClampNeg 0) (5 : Int32).toNatClampNeg 1)))]) [0, 1] (by decide) rfl
  exact W.vret hx hb hr (fun t ht hW => ⟨⟨(), rfl, trivial, ⟨by rw [ht]; exact hP9, va_K.moved hW.alike hK, hD9⟩⟩, hS.F ht⟩) hS.2.2 dX11_addThing_81
set_option maxHeartbeats 4000000 in
set_option maxRecDepth 100000 in
theorem c_addThing_1 (l : Launch) (dC : Nat → ClassId) (dI : Nat → Nat → Nat) (cy : Nat → ClassId) (sz : Nat) (zy : Nat) (ziw : Int32) (zix : Int32) (zy0 : Nat) (zy1 : Nat) (zy5 : Nat) (zy8 : Nat) (zy9 : Nat) (zy10 : Nat) (zy11 : Nat) (zy12 : Nat) (zy13 : Nat) (zy14 : Nat) (zy16 : Nat) (zy17 : Nat) (zy18 : Nat) (zy21 : Nat) (zy22 : Nat) (zy24 : Nat) (zy25 : Nat) (zy26 : Nat) (zy27 : Nat)  : Met l yX11_addThing wsX11_addThing ({ frames := 0, cells := 0, slots := 0, locals := 0 }) (va_Pc [.ref zy, .int 1, .int ziw, .int zix, .int 0] (PRE dC dI cy [(zy, .inr (11, [.ref zy0, .ref zy1, .int 0, .int 0, .int 0, .ref zy5, .int 0, .int 0, .ref zy8, .ref zy9, .ref zy10, .ref zy11, .ref zy12, .ref zy13, .ref zy14, .long 0, .ref zy16, .ref zy17, .ref zy18, .int 0, .long 0, .ref zy21, .ref zy22, .int 0, .ref zy24, .ref zy25, .ref zy26, .ref zy27])), (zy0, .inl (cy 0, 392, .inl zz))] sz)) (va_Qv (fun (_ : Unit) => True) (fun u t => POST dC dI cy (va_A [(zy, .inr (11, [.ref zy0, .ref zy1, .int 0, .int 0, .int 0, .ref zy5, .int 0, .int 0, .ref zy8, .ref zy9, .ref zy10, .ref zy11, .ref zy12, .ref zy13, .ref zy14, .long 0, .ref zy16, .ref zy17, .ref zy18, .int 0, .long 0, .ref zy21, .ref zy22, .int 0, .ref zy24, .ref zy25, .ref zy26, .ref zy27])), (zy0, .inl (cy 0, 392, .inl zz))] sz) [(zy, .inr (11, [.ref zy0, .ref zy1, .int 0, .int 0, .int 0, .ref zy5, .int 0, .int 0, .ref zy8, .ref zy9, .ref zy10, .ref zy11, .ref zy12, .ref zy13, .ref zy14, .long 0, .ref zy16, .ref zy17, .ref zy18, .int 0, .long 0, .ref zy21, .ref zy22, .int 0, .ref zy24, .ref zy25, .ref zy26, .ref zy27])), (zy0, .inl (cy 0, 392, .inl (upd (upd (upd (upd zz (170 : Int32).toNatClampNeg ziw) (194 : Int32).toNatClampNeg zix) (218 : Int32).toNatClampNeg 0) (6 : Int32).toNatClampNeg 1)))] t) (va_A [(zy, .inr (11, [.ref zy0, .ref zy1, .int 0, .int 0, .int 0, .ref zy5, .int 0, .int 0, .ref zy8, .ref zy9, .ref zy10, .ref zy11, .ref zy12, .ref zy13, .ref zy14, .long 0, .ref zy16, .ref zy17, .ref zy18, .int 0, .long 0, .ref zy21, .ref zy22, .int 0, .ref zy24, .ref zy25, .ref zy26, .ref zy27])), (zy0, .inl (cy 0, 392, .inl zz))] sz)) 0 0 (va_A [(zy, .inr (11, [.ref zy0, .ref zy1, .int 0, .int 0, .int 0, .ref zy5, .int 0, .int 0, .ref zy8, .ref zy9, .ref zy10, .ref zy11, .ref zy12, .ref zy13, .ref zy14, .long 0, .ref zy16, .ref zy17, .ref zy18, .int 0, .long 0, .ref zy21, .ref zy22, .int 0, .ref zy24, .ref zy25, .ref zy26, .ref zy27])), (zy0, .inl (cy 0, 392, .inl zz))] sz) := by
  refine Met.ofW (cc := cX11_addThing) (maxL := 6) (ret := none) (by decide) rfl ?_
  intro p e s m args below meth c s₁ B hml hv
  obtain ⟨rfl, hsz, hP, hK, hD0, hN⟩ := hv
  have hx := B.exec
  have hb := B.bytes
  have hr := B.returns
  have hts := atoms_spec (ws := wsX11_addThing) B.pre
  have hown : s.vm.findClass RX11 = some m.cls := findClass_of_methodNamed B.named
  have hlocks := B.notSynchronized
  subst hsz
  have hD := hD0.self (sz := s.heap.size)
  generalize hAe : va_A [(zy, .inr (11, [.ref zy0, .ref zy1, .int 0, .int 0, .int 0, .ref zy5, .int 0, .int 0, .ref zy8, .ref zy9, .ref zy10, .ref zy11, .ref zy12, .ref zy13, .ref zy14, .long 0, .ref zy16, .ref zy17, .ref zy18, .int 0, .long 0, .ref zy21, .ref zy22, .int 0, .ref zy24, .ref zy25, .ref zy26, .ref zy27])), (zy0, .inl (cy 0, 392, .inl zz))] s.heap.size = A at hD ⊢
  have hA : ∀ q : Nat, s.heap.size ≤ q → A q := fun q h => by rw [← hAe]; exact Or.inr h
  have hS : va_S A s.heap s.heap [] := va_S.rf
  have hP : va_P (dC, dI) vwCl [(zy, .inr (11, [.ref zy0, .ref zy1, .int 0, .int 0, .int 0, .ref zy5, .int 0, .int 0, .ref zy8, .ref zy9, .ref zy10, .ref zy11, .ref zy12, .ref zy13, .ref zy14, .long 0, .ref zy16, .ref zy17, .ref zy18, .int 0, .long 0, .ref zy21, .ref zy22, .int 0, .ref zy24, .ref zy25, .ref zy26, .ref zy27])), (zy0, .inl (cy 0, 392, .inl zz))] s.heap := hP
  have hl := lv_entry ([.ref zy, .int 1, .int ziw, .int zix, .int 0] : List Value) (n := 6) (Nat.le_of_ble_eq_true rfl)
  rw [lg_entry_eq]
  generalize (lg_sl ([.ref zy, .int 1, .int ziw, .int zix, .int 0] : List Value) ++ List.replicate (6 - (lg_sl ([.ref zy, .int 1, .int ziw, .int zix, .int 0] : List Value)).length) Slot.unset).toArray = ls at hl ⊢
  have hl : lv_has ls 6 [(0, .ref zy), (1, .int 1), (2, .int ziw), (3, .int zix), (4, .int 0)] := hl
  refine lv_aload_n hx hb dX11_addThing_0 rfl (lv_at hl 0 rfl) ?_
  refine va_get (D := (dC, dI)) (ci := 11) (v := .ref zy0) (C := RX11) (T := TX11) (N := 28) hx hb hts (by decide +kernel) hown hK hP 0 rfl rfl 0 (by decide) (hts (.fieldLink RX11 7 "DripStoneModel" "z" "[I") (by decide +kernel)) (fun _ h9 => h9) rfl dX11_addThing_1 ?_
  refine lv_iconst (v := 5) hx hb dX11_addThing_4 (by decide) ?_
  refine lv_iload_n hx hb dX11_addThing_5 rfl (lv_at hl 1 rfl) ?_
  refine lv_iadd hx hb dX11_addThing_6 ?_
  refine lv_topi (fun v_1 ev_1 => ?_)
  obtain rfl : v_1 = (6 : Int32) := ev_1.trans (by decide)
  refine va_iald hx hb hK hP 1 0 rfl rfl (vp_in_iff.mpr ⟨by decide, by decide⟩) dX11_addThing_7 ?_
  refine W.eq (g2 := F0 m 8 ls [.int 0]) rfl ?_
  refine lv_istore (lv' := [(5, .int 0), (0, .ref zy), (1, .int 1), (2, .int ziw), (3, .int zix), (4, .int 0)]) hx hb dX11_addThing_8 hl (by decide) rfl (fun ls hl => ?_)
  refine lv_iload hx hb dX11_addThing_10 (lv_at hl 0 rfl) ?_
  refine lv_bipush (v := 12) hx hb dX11_addThing_12 (by decide) ?_
  refine lv_icmp_ge (tgt := 81) hx hb dX11_addThing_14 (by decide) (fun c_2 => absurd c_2 (by decide)) (fun c_2 => ?_)
  refine lv_aload_n hx hb dX11_addThing_17 rfl (lv_at hl 1 rfl) ?_
  refine va_get (D := (dC, dI)) (ci := 11) (v := .ref zy0) (C := RX11) (T := TX11) (N := 28) hx hb hts (by decide +kernel) hown hK hP 0 rfl rfl 0 (by decide) (hts (.fieldLink RX11 7 "DripStoneModel" "z" "[I") (by decide +kernel)) (fun _ h9 => h9) rfl dX11_addThing_18 ?_
  refine lv_sipush (v := 158) hx hb dX11_addThing_21 (by decide) ?_
  refine lv_bipush (v := 12) hx hb dX11_addThing_24 (by decide) ?_
  refine lv_iload_n hx hb dX11_addThing_26 rfl (lv_at hl 2 rfl) ?_
  refine lv_imul hx hb dX11_addThing_27 ?_
  refine lv_topi (fun v_3 ev_3 => ?_)
  obtain rfl : v_3 = (12 : Int32) := ev_3.trans (by decide)
  refine lv_iadd hx hb dX11_addThing_28 ?_
  refine lv_topi (fun v_4 ev_4 => ?_)
  obtain rfl : v_4 = (170 : Int32) := ev_4.trans (by decide)
  refine lv_iload hx hb dX11_addThing_29 (lv_at hl 0 rfl) ?_
  refine lv_iadd hx hb dX11_addThing_31 ?_
  refine lv_topi (fun v_5 ev_5 => ?_)
  obtain rfl : v_5 = (170 : Int32) := ev_5.trans (by decide)
  refine lv_iload_n hx hb dX11_addThing_32 rfl (lv_at hl 3 rfl) ?_
  refine va_iast hx hb hK hP hD hS 1 0 rfl rfl (vp_in_iff.mpr ⟨by decide, by decide⟩) dX11_addThing_33 (fun H locs hP hD hS => ?_)
  have hP : va_P (dC, dI) vwCl [(zy, .inr (11, [.ref zy0, .ref zy1, .int 0, .int 0, .int 0, .ref zy5, .int 0, .int 0, .ref zy8, .ref zy9, .ref zy10, .ref zy11, .ref zy12, .ref zy13, .ref zy14, .long 0, .ref zy16, .ref zy17, .ref zy18, .int 0, .long 0, .ref zy21, .ref zy22, .int 0, .ref zy24, .ref zy25, .ref zy26, .ref zy27])), (zy0, .inl (cy 0, 392, .inl (upd zz (170 : Int32).toNatClampNeg ziw)))] H := hP
  have hD : va_D A [(zy, .inr (11, [.ref zy0, .ref zy1, .int 0, .int 0, .int 0, .ref zy5, .int 0, .int 0, .ref zy8, .ref zy9, .ref zy10, .ref zy11, .ref zy12, .ref zy13, .ref zy14, .long 0, .ref zy16, .ref zy17, .ref zy18, .int 0, .long 0, .ref zy21, .ref zy22, .int 0, .ref zy24, .ref zy25, .ref zy26, .ref zy27])), (zy0, .inl (cy 0, 392, .inl (upd zz (170 : Int32).toNatClampNeg ziw)))] := hD
  refine lv_aload_n hx hb dX11_addThing_34 rfl (lv_at hl 1 rfl) ?_
  refine va_get (D := (dC, dI)) (ci := 11) (v := .ref zy0) (C := RX11) (T := TX11) (N := 28) hx hb hts (by decide +kernel) hown hK hP 0 rfl rfl 0 (by decide) (hts (.fieldLink RX11 7 "DripStoneModel" "z" "[I") (by decide +kernel)) (fun _ h9 => h9) rfl dX11_addThing_35 ?_
  refine lv_sipush (v := 182) hx hb dX11_addThing_38 (by decide) ?_
  refine lv_bipush (v := 12) hx hb dX11_addThing_41 (by decide) ?_
  refine lv_iload_n hx hb dX11_addThing_43 rfl (lv_at hl 2 rfl) ?_
  refine lv_imul hx hb dX11_addThing_44 ?_
  refine lv_topi (fun v_6 ev_6 => ?_)
  obtain rfl : v_6 = (12 : Int32) := ev_6.trans (by decide)
  refine lv_iadd hx hb dX11_addThing_45 ?_
  refine lv_topi (fun v_7 ev_7 => ?_)
  obtain rfl : v_7 = (194 : Int32) := ev_7.trans (by decide)
  refine lv_iload hx hb dX11_addThing_46 (lv_at hl 0 rfl) ?_
  refine lv_iadd hx hb dX11_addThing_48 ?_
  refine lv_topi (fun v_8 ev_8 => ?_)
  obtain rfl : v_8 = (194 : Int32) := ev_8.trans (by decide)
  refine lv_iload_n hx hb dX11_addThing_49 rfl (lv_at hl 4 rfl) ?_
  refine va_iast hx hb hK hP hD hS 1 0 rfl rfl (vp_in_iff.mpr ⟨by decide, by decide⟩) dX11_addThing_50 (fun H locs hP hD hS => ?_)
  have hP : va_P (dC, dI) vwCl [(zy, .inr (11, [.ref zy0, .ref zy1, .int 0, .int 0, .int 0, .ref zy5, .int 0, .int 0, .ref zy8, .ref zy9, .ref zy10, .ref zy11, .ref zy12, .ref zy13, .ref zy14, .long 0, .ref zy16, .ref zy17, .ref zy18, .int 0, .long 0, .ref zy21, .ref zy22, .int 0, .ref zy24, .ref zy25, .ref zy26, .ref zy27])), (zy0, .inl (cy 0, 392, .inl (upd (upd zz (170 : Int32).toNatClampNeg ziw) (194 : Int32).toNatClampNeg zix)))] H := hP
  have hD : va_D A [(zy, .inr (11, [.ref zy0, .ref zy1, .int 0, .int 0, .int 0, .ref zy5, .int 0, .int 0, .ref zy8, .ref zy9, .ref zy10, .ref zy11, .ref zy12, .ref zy13, .ref zy14, .long 0, .ref zy16, .ref zy17, .ref zy18, .int 0, .long 0, .ref zy21, .ref zy22, .int 0, .ref zy24, .ref zy25, .ref zy26, .ref zy27])), (zy0, .inl (cy 0, 392, .inl (upd (upd zz (170 : Int32).toNatClampNeg ziw) (194 : Int32).toNatClampNeg zix)))] := hD
  refine lv_aload_n hx hb dX11_addThing_51 rfl (lv_at hl 1 rfl) ?_
  refine va_get (D := (dC, dI)) (ci := 11) (v := .ref zy0) (C := RX11) (T := TX11) (N := 28) hx hb hts (by decide +kernel) hown hK hP 0 rfl rfl 0 (by decide) (hts (.fieldLink RX11 7 "DripStoneModel" "z" "[I") (by decide +kernel)) (fun _ h9 => h9) rfl dX11_addThing_52 ?_
  refine lv_sipush (v := 206) hx hb dX11_addThing_55 (by decide) ?_
  refine lv_bipush (v := 12) hx hb dX11_addThing_58 (by decide) ?_
  refine lv_iload_n hx hb dX11_addThing_60 rfl (lv_at hl 2 rfl) ?_
  refine lv_imul hx hb dX11_addThing_61 ?_
  refine lv_topi (fun v_9 ev_9 => ?_)
  obtain rfl : v_9 = (12 : Int32) := ev_9.trans (by decide)
  refine lv_iadd hx hb dX11_addThing_62 ?_
  refine lv_topi (fun v_10 ev_10 => ?_)
  obtain rfl : v_10 = (218 : Int32) := ev_10.trans (by decide)
  refine lv_iload hx hb dX11_addThing_63 (lv_at hl 0 rfl) ?_
  refine lv_iadd hx hb dX11_addThing_65 ?_
  refine lv_topi (fun v_11 ev_11 => ?_)
  obtain rfl : v_11 = (218 : Int32) := ev_11.trans (by decide)
  refine lv_iload hx hb dX11_addThing_66 (lv_at hl 5 rfl) ?_
  refine va_iast hx hb hK hP hD hS 1 0 rfl rfl (vp_in_iff.mpr ⟨by decide, by decide⟩) dX11_addThing_68 (fun H locs hP hD hS => ?_)
  have hP : va_P (dC, dI) vwCl [(zy, .inr (11, [.ref zy0, .ref zy1, .int 0, .int 0, .int 0, .ref zy5, .int 0, .int 0, .ref zy8, .ref zy9, .ref zy10, .ref zy11, .ref zy12, .ref zy13, .ref zy14, .long 0, .ref zy16, .ref zy17, .ref zy18, .int 0, .long 0, .ref zy21, .ref zy22, .int 0, .ref zy24, .ref zy25, .ref zy26, .ref zy27])), (zy0, .inl (cy 0, 392, .inl (upd (upd (upd zz (170 : Int32).toNatClampNeg ziw) (194 : Int32).toNatClampNeg zix) (218 : Int32).toNatClampNeg 0)))] H := hP
  have hD : va_D A [(zy, .inr (11, [.ref zy0, .ref zy1, .int 0, .int 0, .int 0, .ref zy5, .int 0, .int 0, .ref zy8, .ref zy9, .ref zy10, .ref zy11, .ref zy12, .ref zy13, .ref zy14, .long 0, .ref zy16, .ref zy17, .ref zy18, .int 0, .long 0, .ref zy21, .ref zy22, .int 0, .ref zy24, .ref zy25, .ref zy26, .ref zy27])), (zy0, .inl (cy 0, 392, .inl (upd (upd (upd zz (170 : Int32).toNatClampNeg ziw) (194 : Int32).toNatClampNeg zix) (218 : Int32).toNatClampNeg 0)))] := hD
  refine lv_aload_n hx hb dX11_addThing_69 rfl (lv_at hl 1 rfl) ?_
  refine va_get (D := (dC, dI)) (ci := 11) (v := .ref zy0) (C := RX11) (T := TX11) (N := 28) hx hb hts (by decide +kernel) hown hK hP 0 rfl rfl 0 (by decide) (hts (.fieldLink RX11 7 "DripStoneModel" "z" "[I") (by decide +kernel)) (fun _ h9 => h9) rfl dX11_addThing_70 ?_
  refine lv_iconst (v := 5) hx hb dX11_addThing_73 (by decide) ?_
  refine lv_iload_n hx hb dX11_addThing_74 rfl (lv_at hl 2 rfl) ?_
  refine lv_iadd hx hb dX11_addThing_75 ?_
  refine lv_topi (fun v_12 ev_12 => ?_)
  obtain rfl : v_12 = (6 : Int32) := ev_12.trans (by decide)
  refine lv_dup2_11 hx hb dX11_addThing_76 rfl rfl ?_
  refine va_iald hx hb hK hP 1 0 rfl rfl (vp_in_iff.mpr ⟨by decide, by decide⟩) dX11_addThing_77 ?_
  refine W.eq (g2 := F0 m 78 ls [.int 0, .int 6, .ref zy0]) rfl ?_
  refine lv_iconst (v := 1) hx hb dX11_addThing_78 (by decide) ?_
  refine lv_iadd hx hb dX11_addThing_79 ?_
  refine lv_topi (fun v_13 ev_13 => ?_)
  obtain rfl : v_13 = (1 : Int32) := ev_13.trans (by decide)
  refine va_iast hx hb hK hP hD hS 1 0 rfl rfl (vp_in_iff.mpr ⟨by decide, by decide⟩) dX11_addThing_80 (fun H locs hP hD hS => ?_)
  have hP : va_P (dC, dI) vwCl [(zy, .inr (11, [.ref zy0, .ref zy1, .int 0, .int 0, .int 0, .ref zy5, .int 0, .int 0, .ref zy8, .ref zy9, .ref zy10, .ref zy11, .ref zy12, .ref zy13, .ref zy14, .long 0, .ref zy16, .ref zy17, .ref zy18, .int 0, .long 0, .ref zy21, .ref zy22, .int 0, .ref zy24, .ref zy25, .ref zy26, .ref zy27])), (zy0, .inl (cy 0, 392, .inl (upd (upd (upd (upd zz (170 : Int32).toNatClampNeg ziw) (194 : Int32).toNatClampNeg zix) (218 : Int32).toNatClampNeg 0) (6 : Int32).toNatClampNeg 1)))] H := hP
  have hD : va_D A [(zy, .inr (11, [.ref zy0, .ref zy1, .int 0, .int 0, .int 0, .ref zy5, .int 0, .int 0, .ref zy8, .ref zy9, .ref zy10, .ref zy11, .ref zy12, .ref zy13, .ref zy14, .long 0, .ref zy16, .ref zy17, .ref zy18, .int 0, .long 0, .ref zy21, .ref zy22, .int 0, .ref zy24, .ref zy25, .ref zy26, .ref zy27])), (zy0, .inl (cy 0, 392, .inl (upd (upd (upd (upd zz (170 : Int32).toNatClampNeg ziw) (194 : Int32).toNatClampNeg zix) (218 : Int32).toNatClampNeg 0) (6 : Int32).toNatClampNeg 1)))] := hD
  have hP9 := hP.sub (ws' := [(zy, .inr (11, [.ref zy0, .ref zy1, .int 0, .int 0, .int 0, .ref zy5, .int 0, .int 0, .ref zy8, .ref zy9, .ref zy10, .ref zy11, .ref zy12, .ref zy13, .ref zy14, .long 0, .ref zy16, .ref zy17, .ref zy18, .int 0, .long 0, .ref zy21, .ref zy22, .int 0, .ref zy24, .ref zy25, .ref zy26, .ref zy27])), (zy0, .inl (cy 0, 392, .inl (upd (upd (upd (upd zz (170 : Int32).toNatClampNeg ziw) (194 : Int32).toNatClampNeg zix) (218 : Int32).toNatClampNeg 0) (6 : Int32).toNatClampNeg 1)))]) [0, 1] rfl
  have hD9 := hD.sub (ws' := [(zy, .inr (11, [.ref zy0, .ref zy1, .int 0, .int 0, .int 0, .ref zy5, .int 0, .int 0, .ref zy8, .ref zy9, .ref zy10, .ref zy11, .ref zy12, .ref zy13, .ref zy14, .long 0, .ref zy16, .ref zy17, .ref zy18, .int 0, .long 0, .ref zy21, .ref zy22, .int 0, .ref zy24, .ref zy25, .ref zy26, .ref zy27])), (zy0, .inl (cy 0, 392, .inl (upd (upd (upd (upd zz (170 : Int32).toNatClampNeg ziw) (194 : Int32).toNatClampNeg zix) (218 : Int32).toNatClampNeg 0) (6 : Int32).toNatClampNeg 1)))]) [0, 1] (by decide) rfl
  exact W.vret hx hb hr (fun t ht hW => ⟨⟨(), rfl, trivial, ⟨by rw [ht]; exact hP9, va_K.moved hW.alike hK, hD9⟩⟩, hS.F ht⟩) hS.2.2 dX11_addThing_81
set_option maxHeartbeats 4000000 in
set_option maxRecDepth 100000 in
theorem c_X11_put (l : Launch) (dC : Nat → ClassId) (dI : Nat → Nat → Nat) (cy : Nat → ClassId) (sz : Nat) (zy : Nat) (zia : Int32) (zib : Int32) (zic : Int32) (zy0 : Nat) (zy1 : Nat) (zy5 : Nat) (zy8 : Nat) (zy9 : Nat) (zy10 : Nat) (zy11 : Nat) (zy12 : Nat) (zy13 : Nat) (zy14 : Nat) (zy16 : Nat) (zy17 : Nat) (zy18 : Nat) (zy21 : Nat) (zy22 : Nat) (zy24 : Nat) (zy25 : Nat) (zy26 : Nat) (zy27 : Nat)  : Met l yX11_put wsX11_put ({ frames := 2, cells := 0, slots := 0, locals := 45 }) (va_Pc [.ref zy, .int zia, .int zib, .int zic] (PRE dC dI cy [(zy, .inr (11, [.ref zy0, .ref zy1, .int 0, .int 0, .int 0, .ref zy5, .int 0, .int 0, .ref zy8, .ref zy9, .ref zy10, .ref zy11, .ref zy12, .ref zy13, .ref zy14, .long 0, .ref zy16, .ref zy17, .ref zy18, .int 0, .long 0, .ref zy21, .ref zy22, .int 0, .ref zy24, .ref zy25, .ref zy26, .ref zy27])), (zy0, .inl (cy 0, 392, .inl zz))] sz)) (va_Qi (fun (r : Int32) (_ : Unit) => r = an_put zia zib zic) (fun u t => POST dC dI cy (va_A [(zy, .inr (11, [.ref zy0, .ref zy1, .int 0, .int 0, .int 0, .ref zy5, .int 0, .int 0, .ref zy8, .ref zy9, .ref zy10, .ref zy11, .ref zy12, .ref zy13, .ref zy14, .long 0, .ref zy16, .ref zy17, .ref zy18, .int 0, .long 0, .ref zy21, .ref zy22, .int 0, .ref zy24, .ref zy25, .ref zy26, .ref zy27])), (zy0, .inl (cy 0, 392, .inl zz))] sz) [] t) (va_A [(zy, .inr (11, [.ref zy0, .ref zy1, .int 0, .int 0, .int 0, .ref zy5, .int 0, .int 0, .ref zy8, .ref zy9, .ref zy10, .ref zy11, .ref zy12, .ref zy13, .ref zy14, .long 0, .ref zy16, .ref zy17, .ref zy18, .int 0, .long 0, .ref zy21, .ref zy22, .int 0, .ref zy24, .ref zy25, .ref zy26, .ref zy27])), (zy0, .inl (cy 0, 392, .inl zz))] sz)) 0 0 (va_A [(zy, .inr (11, [.ref zy0, .ref zy1, .int 0, .int 0, .int 0, .ref zy5, .int 0, .int 0, .ref zy8, .ref zy9, .ref zy10, .ref zy11, .ref zy12, .ref zy13, .ref zy14, .long 0, .ref zy16, .ref zy17, .ref zy18, .int 0, .long 0, .ref zy21, .ref zy22, .int 0, .ref zy24, .ref zy25, .ref zy26, .ref zy27])), (zy0, .inl (cy 0, 392, .inl zz))] sz) := by
  refine Met.ofW (cc := cX11_put) (maxL := 4) (ret := (some .int)) (by decide) rfl ?_
  intro p e s m args below meth c s₁ B hml hv
  obtain ⟨rfl, hsz, hP, hK, hD0, hN⟩ := hv
  have hx := B.exec
  have hb := B.bytes
  have hr := B.returns
  have hts := atoms_spec (ws := wsX11_put) B.pre
  have hown : s.vm.findClass RX11 = some m.cls := findClass_of_methodNamed B.named
  have hlocks := B.notSynchronized
  subst hsz
  have hD := hD0.self (sz := s.heap.size)
  generalize hAe : va_A [(zy, .inr (11, [.ref zy0, .ref zy1, .int 0, .int 0, .int 0, .ref zy5, .int 0, .int 0, .ref zy8, .ref zy9, .ref zy10, .ref zy11, .ref zy12, .ref zy13, .ref zy14, .long 0, .ref zy16, .ref zy17, .ref zy18, .int 0, .long 0, .ref zy21, .ref zy22, .int 0, .ref zy24, .ref zy25, .ref zy26, .ref zy27])), (zy0, .inl (cy 0, 392, .inl zz))] s.heap.size = A at hD ⊢
  have hA : ∀ q : Nat, s.heap.size ≤ q → A q := fun q h => by rw [← hAe]; exact Or.inr h
  have hS : va_S A s.heap s.heap [] := va_S.rf
  have hP : va_P (dC, dI) vwCl [(zy, .inr (11, [.ref zy0, .ref zy1, .int 0, .int 0, .int 0, .ref zy5, .int 0, .int 0, .ref zy8, .ref zy9, .ref zy10, .ref zy11, .ref zy12, .ref zy13, .ref zy14, .long 0, .ref zy16, .ref zy17, .ref zy18, .int 0, .long 0, .ref zy21, .ref zy22, .int 0, .ref zy24, .ref zy25, .ref zy26, .ref zy27])), (zy0, .inl (cy 0, 392, .inl zz))] s.heap := hP
  have hl := lv_entry ([.ref zy, .int zia, .int zib, .int zic] : List Value) (n := 4) (Nat.le_of_ble_eq_true rfl)
  rw [lg_entry_eq]
  generalize (lg_sl ([.ref zy, .int zia, .int zib, .int zic] : List Value) ++ List.replicate (4 - (lg_sl ([.ref zy, .int zia, .int zib, .int zic] : List Value)).length) Slot.unset).toArray = ls at hl ⊢
  have hl : lv_has ls 4 [(0, .ref zy), (1, .int zia), (2, .int zib), (3, .int zic)] := hl
  refine lv_iload_n hx hb dX11_put_0 rfl (lv_at hl 1 rfl) ?_
  refine cj_i (wc := []) (wr := [(zy, .inr (11, [.ref zy0, .ref zy1, .int 0, .int 0, .int 0, .ref zy5, .int 0, .int 0, .ref zy8, .ref zy9, .ref zy10, .ref zy11, .ref zy12, .ref zy13, .ref zy14, .long 0, .ref zy16, .ref zy17, .ref zy18, .int 0, .long 0, .ref zy21, .ref zy22, .int 0, .ref zy24, .ref zy25, .ref zy26, .ref zy27])), (zy0, .inl (cy 0, 392, .inl zz))]) (w1 := fun (_ : Unit) => []) (va_runS (As := [.int zia]) (rest := []) ⟨hx, hb, hml, hown, hts⟩ (c_X11_isCandle l dC dI cy s.heap.size zia) (va_cwS 1 hts gX11_put_X11_isCandle rfl rfl rfl (by decide +kernel) ⟨(Nat.le_of_ble_eq_true rfl), (Nat.le_of_ble_eq_true rfl)⟩) (PRE.s (hP.sub [] rfl) hK (hD.sub [] (by decide) rfl) hN) rfl rfl hl.1 rfl (lv_room (Nat.le_of_ble_eq_true rfl)) dX11_put_1 ⟨(Nat.le_of_ble_eq_true rfl), (Nat.le_of_ble_eq_true rfl)⟩) hP hD hS hA [] [0, 1] rfl rfl rfl (by decide) (fun r_2 u_1 H locs hw_3 hP hD hS => ?_)
  have hP : va_P (dC, dI) vwCl [(zy, .inr (11, [.ref zy0, .ref zy1, .int 0, .int 0, .int 0, .ref zy5, .int 0, .int 0, .ref zy8, .ref zy9, .ref zy10, .ref zy11, .ref zy12, .ref zy13, .ref zy14, .long 0, .ref zy16, .ref zy17, .ref zy18, .int 0, .long 0, .ref zy21, .ref zy22, .int 0, .ref zy24, .ref zy25, .ref zy26, .ref zy27])), (zy0, .inl (cy 0, 392, .inl zz))] H := hP
  have hD : va_D A [(zy, .inr (11, [.ref zy0, .ref zy1, .int 0, .int 0, .int 0, .ref zy5, .int 0, .int 0, .ref zy8, .ref zy9, .ref zy10, .ref zy11, .ref zy12, .ref zy13, .ref zy14, .long 0, .ref zy16, .ref zy17, .ref zy18, .int 0, .long 0, .ref zy21, .ref zy22, .int 0, .ref zy24, .ref zy25, .ref zy26, .ref zy27])), (zy0, .inl (cy 0, 392, .inl zz))] := hD
  have hw_3 : r_2 = if 0 ≤ zia.toInt ∧ zia.toInt ≤ 1 then 1 else 0 := hw_3
  refine lv_if_eq (tgt := 41) hx hb dX11_put_4 (by decide) (fun c_4 => ?_) (fun c_4 => ?_)
  · have f_5 : ¬ (0 ≤ zia.toInt ∧ zia.toInt ≤ 1) := bz_0 hw_3 c_4
    refine lv_iconst (v := (-1)) hx hb dX11_put_41 (by decide) ?_
    have hP9 := hP.sub (ws' := []) [] rfl
    have hD9 := hD.sub (ws' := []) [] (by decide) rfl
    exact W.iret (v := (-1)) hx hb hr (fun t ht hW => ⟨⟨(-1), (), rfl, (by unfold an_put; (repeat' split) <;> first | rfl | (exfalso; omega)), ⟨by rw [ht]; exact hP9, va_K.moved hW.alike hK, hD9⟩⟩, hS.F ht⟩) hS.2.2 dX11_put_42
  · have f_5 : 0 ≤ zia.toInt ∧ zia.toInt ≤ 1 := bz_1 hw_3 c_4
    refine lv_iload_n hx hb dX11_put_7 rfl (lv_at hl 2 rfl) ?_
    refine lv_i2l (v := zib.toInt64) hx hb dX11_put_8 rfl ?_
    refine lv_lconst (v := 0) hx hb dX11_put_9 (by decide) ?_
    refine lv_ldc2 (v := 2) hx hb hown (hts (.constantLong RX11 180 2) (by decide +kernel)) dX11_put_10 ?_
    refine cj_i (wc := []) (wr := [(zy, .inr (11, [.ref zy0, .ref zy1, .int 0, .int 0, .int 0, .ref zy5, .int 0, .int 0, .ref zy8, .ref zy9, .ref zy10, .ref zy11, .ref zy12, .ref zy13, .ref zy14, .long 0, .ref zy16, .ref zy17, .ref zy18, .int 0, .long 0, .ref zy21, .ref zy22, .int 0, .ref zy24, .ref zy25, .ref zy26, .ref zy27])), (zy0, .inl (cy 0, 392, .inl zz))]) (w1 := fun (_ : Unit) => []) (va_runS (As := [.long zib.toInt64, .long 0, .long 2]) (rest := []) ⟨hx, hb, hml, hown, hts⟩ (c_X11_in l dC dI cy H.size zib.toInt64 0 2 0 2 zib.toInt (by first | rfl | decide | omega | exact Int32.toInt_toInt64 _) (by first | rfl | decide | omega | exact Int32.toInt_toInt64 _) (by first | rfl | decide | omega | exact Int32.toInt_toInt64 _)) (va_cwS 3 hts gX11_put_X11_in rfl rfl rfl (by decide +kernel) ⟨(Nat.le_of_ble_eq_true rfl), (Nat.le_of_ble_eq_true rfl)⟩) (PRE.s (hP.sub [] rfl) hK (hD.sub [] (by decide) rfl) hN) rfl rfl hl.1 rfl (lv_room (Nat.le_of_ble_eq_true rfl)) dX11_put_13 ⟨(Nat.le_of_ble_eq_true rfl), (Nat.le_of_ble_eq_true rfl)⟩) hP hD hS hA [] [0, 1] rfl rfl rfl (by decide) (fun r_7 u_6 H locs hw_8 hP hD hS => ?_)
    have hP : va_P (dC, dI) vwCl [(zy, .inr (11, [.ref zy0, .ref zy1, .int 0, .int 0, .int 0, .ref zy5, .int 0, .int 0, .ref zy8, .ref zy9, .ref zy10, .ref zy11, .ref zy12, .ref zy13, .ref zy14, .long 0, .ref zy16, .ref zy17, .ref zy18, .int 0, .long 0, .ref zy21, .ref zy22, .int 0, .ref zy24, .ref zy25, .ref zy26, .ref zy27])), (zy0, .inl (cy 0, 392, .inl zz))] H := hP
    have hD : va_D A [(zy, .inr (11, [.ref zy0, .ref zy1, .int 0, .int 0, .int 0, .ref zy5, .int 0, .int 0, .ref zy8, .ref zy9, .ref zy10, .ref zy11, .ref zy12, .ref zy13, .ref zy14, .long 0, .ref zy16, .ref zy17, .ref zy18, .int 0, .long 0, .ref zy21, .ref zy22, .int 0, .ref zy24, .ref zy25, .ref zy26, .ref zy27])), (zy0, .inl (cy 0, 392, .inl zz))] := hD
    have hw_8 : r_7 = if 0 ≤ zib.toInt ∧ zib.toInt ≤ 2 then 1 else 0 := hw_8
    refine lv_if_eq (tgt := 41) hx hb dX11_put_16 (by decide) (fun c_9 => ?_) (fun c_9 => ?_)
    · have f_10 : ¬ (0 ≤ zib.toInt ∧ zib.toInt ≤ 2) := bz_0 hw_8 c_9
      refine lv_iconst (v := (-1)) hx hb dX11_put_41 (by decide) ?_
      have hP9 := hP.sub (ws' := []) [] rfl
      have hD9 := hD.sub (ws' := []) [] (by decide) rfl
      exact W.iret (v := (-1)) hx hb hr (fun t ht hW => ⟨⟨(-1), (), rfl, (by unfold an_put; (repeat' split) <;> first | rfl | (exfalso; omega)), ⟨by rw [ht]; exact hP9, va_K.moved hW.alike hK, hD9⟩⟩, hS.F ht⟩) hS.2.2 dX11_put_42
    · have f_10 : 0 ≤ zib.toInt ∧ zib.toInt ≤ 2 := bz_1 hw_8 c_9
      refine lv_iload_n hx hb dX11_put_19 rfl (lv_at hl 3 rfl) ?_
      refine lv_i2l (v := zic.toInt64) hx hb dX11_put_20 rfl ?_
      refine lv_ldc2 (v := (-50)) hx hb hown (hts (.constantLong RX11 182 (-50)) (by decide +kernel)) dX11_put_21 ?_
      refine lv_ldc2 (v := 50) hx hb hown (hts (.constantLong RX11 184 50) (by decide +kernel)) dX11_put_24 ?_
      refine cj_i (wc := []) (wr := [(zy, .inr (11, [.ref zy0, .ref zy1, .int 0, .int 0, .int 0, .ref zy5, .int 0, .int 0, .ref zy8, .ref zy9, .ref zy10, .ref zy11, .ref zy12, .ref zy13, .ref zy14, .long 0, .ref zy16, .ref zy17, .ref zy18, .int 0, .long 0, .ref zy21, .ref zy22, .int 0, .ref zy24, .ref zy25, .ref zy26, .ref zy27])), (zy0, .inl (cy 0, 392, .inl zz))]) (w1 := fun (_ : Unit) => []) (va_runS (As := [.long zic.toInt64, .long (-50), .long 50]) (rest := []) ⟨hx, hb, hml, hown, hts⟩ (c_X11_in l dC dI cy H.size zic.toInt64 (-50) 50 (-50) 50 zic.toInt (by first | rfl | decide | omega | exact Int32.toInt_toInt64 _) (by first | rfl | decide | omega | exact Int32.toInt_toInt64 _) (by first | rfl | decide | omega | exact Int32.toInt_toInt64 _)) (va_cwS 3 hts gX11_put_X11_in rfl rfl rfl (by decide +kernel) ⟨(Nat.le_of_ble_eq_true rfl), (Nat.le_of_ble_eq_true rfl)⟩) (PRE.s (hP.sub [] rfl) hK (hD.sub [] (by decide) rfl) hN) rfl rfl hl.1 rfl (lv_room (Nat.le_of_ble_eq_true rfl)) dX11_put_27 ⟨(Nat.le_of_ble_eq_true rfl), (Nat.le_of_ble_eq_true rfl)⟩) hP hD hS hA [] [0, 1] rfl rfl rfl (by decide) (fun r_12 u_11 H locs hw_13 hP hD hS => ?_)
      have hP : va_P (dC, dI) vwCl [(zy, .inr (11, [.ref zy0, .ref zy1, .int 0, .int 0, .int 0, .ref zy5, .int 0, .int 0, .ref zy8, .ref zy9, .ref zy10, .ref zy11, .ref zy12, .ref zy13, .ref zy14, .long 0, .ref zy16, .ref zy17, .ref zy18, .int 0, .long 0, .ref zy21, .ref zy22, .int 0, .ref zy24, .ref zy25, .ref zy26, .ref zy27])), (zy0, .inl (cy 0, 392, .inl zz))] H := hP
      have hD : va_D A [(zy, .inr (11, [.ref zy0, .ref zy1, .int 0, .int 0, .int 0, .ref zy5, .int 0, .int 0, .ref zy8, .ref zy9, .ref zy10, .ref zy11, .ref zy12, .ref zy13, .ref zy14, .long 0, .ref zy16, .ref zy17, .ref zy18, .int 0, .long 0, .ref zy21, .ref zy22, .int 0, .ref zy24, .ref zy25, .ref zy26, .ref zy27])), (zy0, .inl (cy 0, 392, .inl zz))] := hD
      have hw_13 : r_12 = if (-50) ≤ zic.toInt ∧ zic.toInt ≤ 50 then 1 else 0 := hw_13
      refine lv_if_eq (tgt := 41) hx hb dX11_put_30 (by decide) (fun c_14 => ?_) (fun c_14 => ?_)
      · have f_15 : ¬ ((-50) ≤ zic.toInt ∧ zic.toInt ≤ 50) := bz_0 hw_13 c_14
        refine lv_iconst (v := (-1)) hx hb dX11_put_41 (by decide) ?_
        have hP9 := hP.sub (ws' := []) [] rfl
        have hD9 := hD.sub (ws' := []) [] (by decide) rfl
        exact W.iret (v := (-1)) hx hb hr (fun t ht hW => ⟨⟨(-1), (), rfl, (by unfold an_put; (repeat' split) <;> first | rfl | (exfalso; omega)), ⟨by rw [ht]; exact hP9, va_K.moved hW.alike hK, hD9⟩⟩, hS.F ht⟩) hS.2.2 dX11_put_42
      · have f_15 : (-50) ≤ zic.toInt ∧ zic.toInt ≤ 50 := bz_1 hw_13 c_14
        refine lv_iload_n hx hb dX11_put_33 rfl (lv_at hl 2 rfl) ?_
        refine lv_if_eq (tgt := 43) hx hb dX11_put_34 (by decide) (fun c_16 => ?_) (fun c_16 => ?_)
        · have f_17 : zib.toInt = 0 := ic_eq (rfl) (by decide) c_16
          have k_18 : zia = 0 ∨ zia = 1 := ix_2 (by omega) (by omega)
          rcases k_18 with rfl | rfl
          · have zk_18_0 : (0 : Int32).toInt = 0 := by decide
            refine lv_aload_n hx hb dX11_put_43 rfl (lv_at hl 0 rfl) ?_
            refine va_get (D := (dC, dI)) (ci := 11) (v := .ref zy0) (C := RX11) (T := TX11) (N := 28) hx hb hts (by decide +kernel) hown hK hP 0 rfl rfl 0 (by decide) (hts (.fieldLink RX11 7 "DripStoneModel" "z" "[I") (by decide +kernel)) (fun _ h9 => h9) rfl dX11_put_44 ?_
            refine lv_iconst (v := 5) hx hb dX11_put_47 (by decide) ?_
            refine lv_iload_n hx hb dX11_put_48 rfl (lv_at hl 1 rfl) ?_
            refine lv_iadd hx hb dX11_put_49 ?_
            refine lv_topi (fun v_19 ev_19 => ?_)
            obtain rfl : v_19 = (5 : Int32) := ev_19.trans (by decide)
            refine va_iald hx hb hK hP 1 0 rfl rfl (vp_in_iff.mpr ⟨by decide, by decide⟩) dX11_put_50 ?_
            refine W.eq (g2 := F0 m 51 ls [.int 0]) rfl ?_
            refine lv_bipush (v := 12) hx hb dX11_put_51 (by decide) ?_
            refine lv_icmp_ne (tgt := 59) hx hb dX11_put_53 (by decide) (fun c_20 => ?_) (fun c_20 => absurd c_20 (by decide))
            refine lv_aload_n hx hb dX11_put_59 rfl (lv_at hl 0 rfl) ?_
            refine lv_iload_n hx hb dX11_put_60 rfl (lv_at hl 1 rfl) ?_
            refine lv_iload_n hx hb dX11_put_61 rfl (lv_at hl 2 rfl) ?_
            refine lv_iload_n hx hb dX11_put_62 rfl (lv_at hl 3 rfl) ?_
            refine lv_iconst (v := 0) hx hb dX11_put_63 (by decide) ?_
            refine cj_v (wc := [(zy, .inr (11, [.ref zy0, .ref zy1, .int 0, .int 0, .int 0, .ref zy5, .int 0, .int 0, .ref zy8, .ref zy9, .ref zy10, .ref zy11, .ref zy12, .ref zy13, .ref zy14, .long 0, .ref zy16, .ref zy17, .ref zy18, .int 0, .long 0, .ref zy21, .ref zy22, .int 0, .ref zy24, .ref zy25, .ref zy26, .ref zy27])), (zy0, .inl (cy 0, 392, .inl zz))]) (wr := []) (w1 := fun (_ : Unit) => [(zy, .inr (11, [.ref zy0, .ref zy1, .int 0, .int 0, .int 0, .ref zy5, .int 0, .int 0, .ref zy8, .ref zy9, .ref zy10, .ref zy11, .ref zy12, .ref zy13, .ref zy14, .long 0, .ref zy16, .ref zy17, .ref zy18, .int 0, .long 0, .ref zy21, .ref zy22, .int 0, .ref zy24, .ref zy25, .ref zy26, .ref zy27])), (zy0, .inl (cy 0, 392, .inl (upd (upd (upd (upd zz (158 : Int32).toNatClampNeg zib) (182 : Int32).toNatClampNeg zic) (206 : Int32).toNatClampNeg 0) (5 : Int32).toNatClampNeg 1)))]) (va_runV (As := [.int 0, .int zib, .int zic, .int 0]) (rest := []) ⟨hx, hb, hml, hown, hts⟩ (c_addThing_0 l dC dI cy H.size zy zib zic zy0 zy1 zy5 zy8 zy9 zy10 zy11 zy12 zy13 zy14 zy16 zy17 zy18 zy21 zy22 zy24 zy25 zy26 zy27) (cwV 4 hts gX11_put_X11_addThing rfl rfl rfl (by decide +kernel) ⟨(Nat.le_of_ble_eq_true rfl), (Nat.le_of_ble_eq_true rfl)⟩) (PRE.v (hP.sub [0, 1] rfl) hK (hD.sub [0, 1] (by decide) rfl) hN (va_recv hK hP (ci := 11) (q0 := 0) rfl rfl)) rfl rfl hl.1 rfl (lv_room (Nat.le_of_ble_eq_true rfl)) dX11_put_64 ⟨(Nat.le_of_ble_eq_true rfl), (Nat.le_of_ble_eq_true rfl)⟩) hP hD hS hA [0, 1] [] rfl rfl rfl (by decide) (fun u_21 H locs hw_23 hP hD hS => ?_)
            have hP : va_P (dC, dI) vwCl [(zy, .inr (11, [.ref zy0, .ref zy1, .int 0, .int 0, .int 0, .ref zy5, .int 0, .int 0, .ref zy8, .ref zy9, .ref zy10, .ref zy11, .ref zy12, .ref zy13, .ref zy14, .long 0, .ref zy16, .ref zy17, .ref zy18, .int 0, .long 0, .ref zy21, .ref zy22, .int 0, .ref zy24, .ref zy25, .ref zy26, .ref zy27])), (zy0, .inl (cy 0, 392, .inl (upd (upd (upd (upd zz (158 : Int32).toNatClampNeg zib) (182 : Int32).toNatClampNeg zic) (206 : Int32).toNatClampNeg 0) (5 : Int32).toNatClampNeg 1)))] H := hP
            have hD : va_D A [(zy, .inr (11, [.ref zy0, .ref zy1, .int 0, .int 0, .int 0, .ref zy5, .int 0, .int 0, .ref zy8, .ref zy9, .ref zy10, .ref zy11, .ref zy12, .ref zy13, .ref zy14, .long 0, .ref zy16, .ref zy17, .ref zy18, .int 0, .long 0, .ref zy21, .ref zy22, .int 0, .ref zy24, .ref zy25, .ref zy26, .ref zy27])), (zy0, .inl (cy 0, 392, .inl (upd (upd (upd (upd zz (158 : Int32).toNatClampNeg zib) (182 : Int32).toNatClampNeg zic) (206 : Int32).toNatClampNeg 0) (5 : Int32).toNatClampNeg 1)))] := hD
            refine lv_aload_n hx hb dX11_put_67 rfl (lv_at hl 0 rfl) ?_
            refine va_get (D := (dC, dI)) (ci := 11) (v := .ref zy0) (C := RX11) (T := TX11) (N := 28) hx hb hts (by decide +kernel) hown hK hP 0 rfl rfl 0 (by decide) (hts (.fieldLink RX11 7 "DripStoneModel" "z" "[I") (by decide +kernel)) (fun _ h9 => h9) rfl dX11_put_68 ?_
            refine lv_bipush (v := 7) hx hb dX11_put_71 (by decide) ?_
            refine lv_iload_n hx hb dX11_put_73 rfl (lv_at hl 1 rfl) ?_
            refine lv_iadd hx hb dX11_put_74 ?_
            refine lv_topi (fun v_24 ev_24 => ?_)
            obtain rfl : v_24 = (7 : Int32) := ev_24.trans (by decide)
            refine lv_iconst (v := 0) hx hb dX11_put_75 (by decide) ?_
            refine va_iast hx hb hK hP hD hS 1 0 rfl rfl (vp_in_iff.mpr ⟨by decide, by decide⟩) dX11_put_76 (fun H locs hP hD hS => ?_)
            have hP : va_P (dC, dI) vwCl [(zy, .inr (11, [.ref zy0, .ref zy1, .int 0, .int 0, .int 0, .ref zy5, .int 0, .int 0, .ref zy8, .ref zy9, .ref zy10, .ref zy11, .ref zy12, .ref zy13, .ref zy14, .long 0, .ref zy16, .ref zy17, .ref zy18, .int 0, .long 0, .ref zy21, .ref zy22, .int 0, .ref zy24, .ref zy25, .ref zy26, .ref zy27])), (zy0, .inl (cy 0, 392, .inl (upd (upd (upd (upd (upd zz (158 : Int32).toNatClampNeg zib) (182 : Int32).toNatClampNeg zic) (206 : Int32).toNatClampNeg 0) (5 : Int32).toNatClampNeg 1) (7 : Int32).toNatClampNeg 0)))] H := hP
            have hD : va_D A [(zy, .inr (11, [.ref zy0, .ref zy1, .int 0, .int 0, .int 0, .ref zy5, .int 0, .int 0, .ref zy8, .ref zy9, .ref zy10, .ref zy11, .ref zy12, .ref zy13, .ref zy14, .long 0, .ref zy16, .ref zy17, .ref zy18, .int 0, .long 0, .ref zy21, .ref zy22, .int 0, .ref zy24, .ref zy25, .ref zy26, .ref zy27])), (zy0, .inl (cy 0, 392, .inl (upd (upd (upd (upd (upd zz (158 : Int32).toNatClampNeg zib) (182 : Int32).toNatClampNeg zic) (206 : Int32).toNatClampNeg 0) (5 : Int32).toNatClampNeg 1) (7 : Int32).toNatClampNeg 0)))] := hD
            refine lv_aload_n hx hb dX11_put_77 rfl (lv_at hl 0 rfl) ?_
            refine va_get (D := (dC, dI)) (ci := 11) (v := .ref zy0) (C := RX11) (T := TX11) (N := 28) hx hb hts (by decide +kernel) hown hK hP 0 rfl rfl 0 (by decide) (hts (.fieldLink RX11 7 "DripStoneModel" "z" "[I") (by decide +kernel)) (fun _ h9 => h9) rfl dX11_put_78 ?_
            refine lv_iconst (v := 5) hx hb dX11_put_81 (by decide) ?_
            refine lv_iload_n hx hb dX11_put_82 rfl (lv_at hl 1 rfl) ?_
            refine lv_iadd hx hb dX11_put_83 ?_
            refine lv_topi (fun v_25 ev_25 => ?_)
            obtain rfl : v_25 = (5 : Int32) := ev_25.trans (by decide)
            refine va_iald hx hb hK hP 1 0 rfl rfl (vp_in_iff.mpr ⟨by decide, by decide⟩) dX11_put_84 ?_
            refine W.eq (g2 := F0 m 85 ls [.int 1]) rfl ?_
            refine lv_iconst (v := 1) hx hb dX11_put_85 (by decide) ?_
            refine lv_isub hx hb dX11_put_86 ?_
            refine lv_topi (fun v_26 ev_26 => ?_)
            obtain rfl : v_26 = (0 : Int32) := ev_26.trans (by decide)
            have hP9 := hP.sub (ws' := []) [] rfl
            have hD9 := hD.sub (ws' := []) [] (by decide) rfl
            exact W.iret (v := 0) hx hb hr (fun t ht hW => ⟨⟨0, (), rfl, (by unfold an_put; (repeat' split) <;> first | rfl | (exfalso; omega)), ⟨by rw [ht]; exact hP9, va_K.moved hW.alike hK, hD9⟩⟩, hS.F ht⟩) hS.2.2 dX11_put_87
          · have zk_18_1 : (1 : Int32).toInt = 1 := by decide
            refine lv_aload_n hx hb dX11_put_43 rfl (lv_at hl 0 rfl) ?_
            refine va_get (D := (dC, dI)) (ci := 11) (v := .ref zy0) (C := RX11) (T := TX11) (N := 28) hx hb hts (by decide +kernel) hown hK hP 0 rfl rfl 0 (by decide) (hts (.fieldLink RX11 7 "DripStoneModel" "z" "[I") (by decide +kernel)) (fun _ h9 => h9) rfl dX11_put_44 ?_
            refine lv_iconst (v := 5) hx hb dX11_put_47 (by decide) ?_
            refine lv_iload_n hx hb dX11_put_48 rfl (lv_at hl 1 rfl) ?_
            refine lv_iadd hx hb dX11_put_49 ?_
            refine lv_topi (fun v_27 ev_27 => ?_)
            obtain rfl : v_27 = (6 : Int32) := ev_27.trans (by decide)
            refine va_iald hx hb hK hP 1 0 rfl rfl (vp_in_iff.mpr ⟨by decide, by decide⟩) dX11_put_50 ?_
            refine W.eq (g2 := F0 m 51 ls [.int 0]) rfl ?_
            refine lv_bipush (v := 12) hx hb dX11_put_51 (by decide) ?_
            refine lv_icmp_ne (tgt := 59) hx hb dX11_put_53 (by decide) (fun c_28 => ?_) (fun c_28 => absurd c_28 (by decide))
            refine lv_aload_n hx hb dX11_put_59 rfl (lv_at hl 0 rfl) ?_
            refine lv_iload_n hx hb dX11_put_60 rfl (lv_at hl 1 rfl) ?_
            refine lv_iload_n hx hb dX11_put_61 rfl (lv_at hl 2 rfl) ?_
            refine lv_iload_n hx hb dX11_put_62 rfl (lv_at hl 3 rfl) ?_
            refine lv_iconst (v := 0) hx hb dX11_put_63 (by decide) ?_
            refine cj_v (wc := [(zy, .inr (11, [.ref zy0, .ref zy1, .int 0, .int 0, .int 0, .ref zy5, .int 0, .int 0, .ref zy8, .ref zy9, .ref zy10, .ref zy11, .ref zy12, .ref zy13, .ref zy14, .long 0, .ref zy16, .ref zy17, .ref zy18, .int 0, .long 0, .ref zy21, .ref zy22, .int 0, .ref zy24, .ref zy25, .ref zy26, .ref zy27])), (zy0, .inl (cy 0, 392, .inl zz))]) (wr := []) (w1 := fun (_ : Unit) => [(zy, .inr (11, [.ref zy0, .ref zy1, .int 0, .int 0, .int 0, .ref zy5, .int 0, .int 0, .ref zy8, .ref zy9, .ref zy10, .ref zy11, .ref zy12, .ref zy13, .ref zy14, .long 0, .ref zy16, .ref zy17, .ref zy18, .int 0, .long 0, .ref zy21, .ref zy22, .int 0, .ref zy24, .ref zy25, .ref zy26, .ref zy27])), (zy0, .inl (cy 0, 392, .inl (upd (upd (upd (upd zz (170 : Int32).toNatClampNeg zib) (194 : Int32).toNatClampNeg zic) (218 : Int32).toNatClampNeg 0) (6 : Int32).toNatClampNeg 1)))]) (va_runV (As := [.int 1, .int zib, .int zic, .int 0]) (rest := []) ⟨hx, hb, hml, hown, hts⟩ (c_addThing_1 l dC dI cy H.size zy zib zic zy0 zy1 zy5 zy8 zy9 zy10 zy11 zy12 zy13 zy14 zy16 zy17 zy18 zy21 zy22 zy24 zy25 zy26 zy27) (cwV 4 hts gX11_put_X11_addThing rfl rfl rfl (by decide +kernel) ⟨(Nat.le_of_ble_eq_true rfl), (Nat.le_of_ble_eq_true rfl)⟩) (PRE.v (hP.sub [0, 1] rfl) hK (hD.sub [0, 1] (by decide) rfl) hN (va_recv hK hP (ci := 11) (q0 := 0) rfl rfl)) rfl rfl hl.1 rfl (lv_room (Nat.le_of_ble_eq_true rfl)) dX11_put_64 ⟨(Nat.le_of_ble_eq_true rfl), (Nat.le_of_ble_eq_true rfl)⟩) hP hD hS hA [0, 1] [] rfl rfl rfl (by decide) (fun u_29 H locs hw_31 hP hD hS => ?_)
            have hP : va_P (dC, dI) vwCl [(zy, .inr (11, [.ref zy0, .ref zy1, .int 0, .int 0, .int 0, .ref zy5, .int 0, .int 0, .ref zy8, .ref zy9, .ref zy10, .ref zy11, .ref zy12, .ref zy13, .ref zy14, .long 0, .ref zy16, .ref zy17, .ref zy18, .int 0, .long 0, .ref zy21, .ref zy22, .int 0, .ref zy24, .ref zy25, .ref zy26, .ref zy27])), (zy0, .inl (cy 0, 392, .inl (upd (upd (upd (upd zz (170 : Int32).toNatClampNeg zib) (194 : Int32).toNatClampNeg zic) (218 : Int32).toNatClampNeg 0) (6 : Int32).toNatClampNeg 1)))] H := hP
            have hD : va_D A [(zy, .inr (11, [.ref zy0, .ref zy1, .int 0, .int 0, .int 0, .ref zy5, .int 0, .int 0, .ref zy8, .ref zy9, .ref zy10, .ref zy11, .ref zy12, .ref zy13, .ref zy14, .long 0, .ref zy16, .ref zy17, .ref zy18, .int 0, .long 0, .ref zy21, .ref zy22, .int 0, .ref zy24, .ref zy25, .ref zy26, .ref zy27])), (zy0, .inl (cy 0, 392, .inl (upd (upd (upd (upd zz (170 : Int32).toNatClampNeg zib) (194 : Int32).toNatClampNeg zic) (218 : Int32).toNatClampNeg 0) (6 : Int32).toNatClampNeg 1)))] := hD
            refine lv_aload_n hx hb dX11_put_67 rfl (lv_at hl 0 rfl) ?_
            refine va_get (D := (dC, dI)) (ci := 11) (v := .ref zy0) (C := RX11) (T := TX11) (N := 28) hx hb hts (by decide +kernel) hown hK hP 0 rfl rfl 0 (by decide) (hts (.fieldLink RX11 7 "DripStoneModel" "z" "[I") (by decide +kernel)) (fun _ h9 => h9) rfl dX11_put_68 ?_
            refine lv_bipush (v := 7) hx hb dX11_put_71 (by decide) ?_
            refine lv_iload_n hx hb dX11_put_73 rfl (lv_at hl 1 rfl) ?_
            refine lv_iadd hx hb dX11_put_74 ?_
            refine lv_topi (fun v_32 ev_32 => ?_)
            obtain rfl : v_32 = (8 : Int32) := ev_32.trans (by decide)
            refine lv_iconst (v := 0) hx hb dX11_put_75 (by decide) ?_
            refine va_iast hx hb hK hP hD hS 1 0 rfl rfl (vp_in_iff.mpr ⟨by decide, by decide⟩) dX11_put_76 (fun H locs hP hD hS => ?_)
            have hP : va_P (dC, dI) vwCl [(zy, .inr (11, [.ref zy0, .ref zy1, .int 0, .int 0, .int 0, .ref zy5, .int 0, .int 0, .ref zy8, .ref zy9, .ref zy10, .ref zy11, .ref zy12, .ref zy13, .ref zy14, .long 0, .ref zy16, .ref zy17, .ref zy18, .int 0, .long 0, .ref zy21, .ref zy22, .int 0, .ref zy24, .ref zy25, .ref zy26, .ref zy27])), (zy0, .inl (cy 0, 392, .inl (upd (upd (upd (upd (upd zz (170 : Int32).toNatClampNeg zib) (194 : Int32).toNatClampNeg zic) (218 : Int32).toNatClampNeg 0) (6 : Int32).toNatClampNeg 1) (8 : Int32).toNatClampNeg 0)))] H := hP
            have hD : va_D A [(zy, .inr (11, [.ref zy0, .ref zy1, .int 0, .int 0, .int 0, .ref zy5, .int 0, .int 0, .ref zy8, .ref zy9, .ref zy10, .ref zy11, .ref zy12, .ref zy13, .ref zy14, .long 0, .ref zy16, .ref zy17, .ref zy18, .int 0, .long 0, .ref zy21, .ref zy22, .int 0, .ref zy24, .ref zy25, .ref zy26, .ref zy27])), (zy0, .inl (cy 0, 392, .inl (upd (upd (upd (upd (upd zz (170 : Int32).toNatClampNeg zib) (194 : Int32).toNatClampNeg zic) (218 : Int32).toNatClampNeg 0) (6 : Int32).toNatClampNeg 1) (8 : Int32).toNatClampNeg 0)))] := hD
            refine lv_aload_n hx hb dX11_put_77 rfl (lv_at hl 0 rfl) ?_
            refine va_get (D := (dC, dI)) (ci := 11) (v := .ref zy0) (C := RX11) (T := TX11) (N := 28) hx hb hts (by decide +kernel) hown hK hP 0 rfl rfl 0 (by decide) (hts (.fieldLink RX11 7 "DripStoneModel" "z" "[I") (by decide +kernel)) (fun _ h9 => h9) rfl dX11_put_78 ?_
            refine lv_iconst (v := 5) hx hb dX11_put_81 (by decide) ?_
            refine lv_iload_n hx hb dX11_put_82 rfl (lv_at hl 1 rfl) ?_
            refine lv_iadd hx hb dX11_put_83 ?_
            refine lv_topi (fun v_33 ev_33 => ?_)
            obtain rfl : v_33 = (6 : Int32) := ev_33.trans (by decide)
            refine va_iald hx hb hK hP 1 0 rfl rfl (vp_in_iff.mpr ⟨by decide, by decide⟩) dX11_put_84 ?_
            refine W.eq (g2 := F0 m 85 ls [.int 1]) rfl ?_
            refine lv_iconst (v := 1) hx hb dX11_put_85 (by decide) ?_
            refine lv_isub hx hb dX11_put_86 ?_
            refine lv_topi (fun v_34 ev_34 => ?_)
            obtain rfl : v_34 = (0 : Int32) := ev_34.trans (by decide)
            have hP9 := hP.sub (ws' := []) [] rfl
            have hD9 := hD.sub (ws' := []) [] (by decide) rfl
            exact W.iret (v := 0) hx hb hr (fun t ht hW => ⟨⟨0, (), rfl, (by unfold an_put; (repeat' split) <;> first | rfl | (exfalso; omega)), ⟨by rw [ht]; exact hP9, va_K.moved hW.alike hK, hD9⟩⟩, hS.F ht⟩) hS.2.2 dX11_put_87
        · have f_17 : ¬ (zib.toInt = 0) := ic_neq (rfl) (by decide) c_16
          refine lv_iload_n hx hb dX11_put_37 rfl (lv_at hl 3 rfl) ?_
          refine lv_if_eq (tgt := 43) hx hb dX11_put_38 (by decide) (fun c_35 => ?_) (fun c_35 => ?_)
          · have f_36 : zic.toInt = 0 := ic_eq (rfl) (by decide) c_35
            have k_37 : zia = 0 ∨ zia = 1 := ix_2 (by omega) (by omega)
            rcases k_37 with rfl | rfl
            · have zk_37_0 : (0 : Int32).toInt = 0 := by decide
              refine lv_aload_n hx hb dX11_put_43 rfl (lv_at hl 0 rfl) ?_
              refine va_get (D := (dC, dI)) (ci := 11) (v := .ref zy0) (C := RX11) (T := TX11) (N := 28) hx hb hts (by decide +kernel) hown hK hP 0 rfl rfl 0 (by decide) (hts (.fieldLink RX11 7 "DripStoneModel" "z" "[I") (by decide +kernel)) (fun _ h9 => h9) rfl dX11_put_44 ?_
              refine lv_iconst (v := 5) hx hb dX11_put_47 (by decide) ?_
              refine lv_iload_n hx hb dX11_put_48 rfl (lv_at hl 1 rfl) ?_
              refine lv_iadd hx hb dX11_put_49 ?_
              refine lv_topi (fun v_38 ev_38 => ?_)
              obtain rfl : v_38 = (5 : Int32) := ev_38.trans (by decide)
              refine va_iald hx hb hK hP 1 0 rfl rfl (vp_in_iff.mpr ⟨by decide, by decide⟩) dX11_put_50 ?_
              refine W.eq (g2 := F0 m 51 ls [.int 0]) rfl ?_
              refine lv_bipush (v := 12) hx hb dX11_put_51 (by decide) ?_
              refine lv_icmp_ne (tgt := 59) hx hb dX11_put_53 (by decide) (fun c_39 => ?_) (fun c_39 => absurd c_39 (by decide))
              refine lv_aload_n hx hb dX11_put_59 rfl (lv_at hl 0 rfl) ?_
              refine lv_iload_n hx hb dX11_put_60 rfl (lv_at hl 1 rfl) ?_
              refine lv_iload_n hx hb dX11_put_61 rfl (lv_at hl 2 rfl) ?_
              refine lv_iload_n hx hb dX11_put_62 rfl (lv_at hl 3 rfl) ?_
              refine lv_iconst (v := 0) hx hb dX11_put_63 (by decide) ?_
              refine cj_v (wc := [(zy, .inr (11, [.ref zy0, .ref zy1, .int 0, .int 0, .int 0, .ref zy5, .int 0, .int 0, .ref zy8, .ref zy9, .ref zy10, .ref zy11, .ref zy12, .ref zy13, .ref zy14, .long 0, .ref zy16, .ref zy17, .ref zy18, .int 0, .long 0, .ref zy21, .ref zy22, .int 0, .ref zy24, .ref zy25, .ref zy26, .ref zy27])), (zy0, .inl (cy 0, 392, .inl zz))]) (wr := []) (w1 := fun (_ : Unit) => [(zy, .inr (11, [.ref zy0, .ref zy1, .int 0, .int 0, .int 0, .ref zy5, .int 0, .int 0, .ref zy8, .ref zy9, .ref zy10, .ref zy11, .ref zy12, .ref zy13, .ref zy14, .long 0, .ref zy16, .ref zy17, .ref zy18, .int 0, .long 0, .ref zy21, .ref zy22, .int 0, .ref zy24, .ref zy25, .ref zy26, .ref zy27])), (zy0, .inl (cy 0, 392, .inl (upd (upd (upd (upd zz (158 : Int32).toNatClampNeg zib) (182 : Int32).toNatClampNeg zic) (206 : Int32).toNatClampNeg 0) (5 : Int32).toNatClampNeg 1)))]) (va_runV (As := [.int 0, .int zib, .int zic, .int 0]) (rest := []) ⟨hx, hb, hml, hown, hts⟩ (c_addThing_0 l dC dI cy H.size zy zib zic zy0 zy1 zy5 zy8 zy9 zy10 zy11 zy12 zy13 zy14 zy16 zy17 zy18 zy21 zy22 zy24 zy25 zy26 zy27) (cwV 4 hts gX11_put_X11_addThing rfl rfl rfl (by decide +kernel) ⟨(Nat.le_of_ble_eq_true rfl), (Nat.le_of_ble_eq_true rfl)⟩) (PRE.v (hP.sub [0, 1] rfl) hK (hD.sub [0, 1] (by decide) rfl) hN (va_recv hK hP (ci := 11) (q0 := 0) rfl rfl)) rfl rfl hl.1 rfl (lv_room (Nat.le_of_ble_eq_true rfl)) dX11_put_64 ⟨(Nat.le_of_ble_eq_true rfl), (Nat.le_of_ble_eq_true rfl)⟩) hP hD hS hA [0, 1] [] rfl rfl rfl (by decide) (fun u_40 H locs hw_42 hP hD hS => ?_)
              have hP : va_P (dC, dI) vwCl [(zy, .inr (11, [.ref zy0, .ref zy1, .int 0, .int 0, .int 0, .ref zy5, .int 0, .int 0, .ref zy8, .ref zy9, .ref zy10, .ref zy11, .ref zy12, .ref zy13, .ref zy14, .long 0, .ref zy16, .ref zy17, .ref zy18, .int 0, .long 0, .ref zy21, .ref zy22, .int 0, .ref zy24, .ref zy25, .ref zy26, .ref zy27])), (zy0, .inl (cy 0, 392, .inl (upd (upd (upd (upd zz (158 : Int32).toNatClampNeg zib) (182 : Int32).toNatClampNeg zic) (206 : Int32).toNatClampNeg 0) (5 : Int32).toNatClampNeg 1)))] H := hP
              have hD : va_D A [(zy, .inr (11, [.ref zy0, .ref zy1, .int 0, .int 0, .int 0, .ref zy5, .int 0, .int 0, .ref zy8, .ref zy9, .ref zy10, .ref zy11, .ref zy12, .ref zy13, .ref zy14, .long 0, .ref zy16, .ref zy17, .ref zy18, .int 0, .long 0, .ref zy21, .ref zy22, .int 0, .ref zy24, .ref zy25, .ref zy26, .ref zy27])), (zy0, .inl (cy 0, 392, .inl (upd (upd (upd (upd zz (158 : Int32).toNatClampNeg zib) (182 : Int32).toNatClampNeg zic) (206 : Int32).toNatClampNeg 0) (5 : Int32).toNatClampNeg 1)))] := hD
              refine lv_aload_n hx hb dX11_put_67 rfl (lv_at hl 0 rfl) ?_
              refine va_get (D := (dC, dI)) (ci := 11) (v := .ref zy0) (C := RX11) (T := TX11) (N := 28) hx hb hts (by decide +kernel) hown hK hP 0 rfl rfl 0 (by decide) (hts (.fieldLink RX11 7 "DripStoneModel" "z" "[I") (by decide +kernel)) (fun _ h9 => h9) rfl dX11_put_68 ?_
              refine lv_bipush (v := 7) hx hb dX11_put_71 (by decide) ?_
              refine lv_iload_n hx hb dX11_put_73 rfl (lv_at hl 1 rfl) ?_
              refine lv_iadd hx hb dX11_put_74 ?_
              refine lv_topi (fun v_43 ev_43 => ?_)
              obtain rfl : v_43 = (7 : Int32) := ev_43.trans (by decide)
              refine lv_iconst (v := 0) hx hb dX11_put_75 (by decide) ?_
              refine va_iast hx hb hK hP hD hS 1 0 rfl rfl (vp_in_iff.mpr ⟨by decide, by decide⟩) dX11_put_76 (fun H locs hP hD hS => ?_)
              have hP : va_P (dC, dI) vwCl [(zy, .inr (11, [.ref zy0, .ref zy1, .int 0, .int 0, .int 0, .ref zy5, .int 0, .int 0, .ref zy8, .ref zy9, .ref zy10, .ref zy11, .ref zy12, .ref zy13, .ref zy14, .long 0, .ref zy16, .ref zy17, .ref zy18, .int 0, .long 0, .ref zy21, .ref zy22, .int 0, .ref zy24, .ref zy25, .ref zy26, .ref zy27])), (zy0, .inl (cy 0, 392, .inl (upd (upd (upd (upd (upd zz (158 : Int32).toNatClampNeg zib) (182 : Int32).toNatClampNeg zic) (206 : Int32).toNatClampNeg 0) (5 : Int32).toNatClampNeg 1) (7 : Int32).toNatClampNeg 0)))] H := hP
              have hD : va_D A [(zy, .inr (11, [.ref zy0, .ref zy1, .int 0, .int 0, .int 0, .ref zy5, .int 0, .int 0, .ref zy8, .ref zy9, .ref zy10, .ref zy11, .ref zy12, .ref zy13, .ref zy14, .long 0, .ref zy16, .ref zy17, .ref zy18, .int 0, .long 0, .ref zy21, .ref zy22, .int 0, .ref zy24, .ref zy25, .ref zy26, .ref zy27])), (zy0, .inl (cy 0, 392, .inl (upd (upd (upd (upd (upd zz (158 : Int32).toNatClampNeg zib) (182 : Int32).toNatClampNeg zic) (206 : Int32).toNatClampNeg 0) (5 : Int32).toNatClampNeg 1) (7 : Int32).toNatClampNeg 0)))] := hD
              refine lv_aload_n hx hb dX11_put_77 rfl (lv_at hl 0 rfl) ?_
              refine va_get (D := (dC, dI)) (ci := 11) (v := .ref zy0) (C := RX11) (T := TX11) (N := 28) hx hb hts (by decide +kernel) hown hK hP 0 rfl rfl 0 (by decide) (hts (.fieldLink RX11 7 "DripStoneModel" "z" "[I") (by decide +kernel)) (fun _ h9 => h9) rfl dX11_put_78 ?_
              refine lv_iconst (v := 5) hx hb dX11_put_81 (by decide) ?_
              refine lv_iload_n hx hb dX11_put_82 rfl (lv_at hl 1 rfl) ?_
              refine lv_iadd hx hb dX11_put_83 ?_
              refine lv_topi (fun v_44 ev_44 => ?_)
              obtain rfl : v_44 = (5 : Int32) := ev_44.trans (by decide)
              refine va_iald hx hb hK hP 1 0 rfl rfl (vp_in_iff.mpr ⟨by decide, by decide⟩) dX11_put_84 ?_
              refine W.eq (g2 := F0 m 85 ls [.int 1]) rfl ?_
              refine lv_iconst (v := 1) hx hb dX11_put_85 (by decide) ?_
              refine lv_isub hx hb dX11_put_86 ?_
              refine lv_topi (fun v_45 ev_45 => ?_)
              obtain rfl : v_45 = (0 : Int32) := ev_45.trans (by decide)
              have hP9 := hP.sub (ws' := []) [] rfl
              have hD9 := hD.sub (ws' := []) [] (by decide) rfl
              exact W.iret (v := 0) hx hb hr (fun t ht hW => ⟨⟨0, (), rfl, (by unfold an_put; (repeat' split) <;> first | rfl | (exfalso; omega)), ⟨by rw [ht]; exact hP9, va_K.moved hW.alike hK, hD9⟩⟩, hS.F ht⟩) hS.2.2 dX11_put_87
            · have zk_37_1 : (1 : Int32).toInt = 1 := by decide
              refine lv_aload_n hx hb dX11_put_43 rfl (lv_at hl 0 rfl) ?_
              refine va_get (D := (dC, dI)) (ci := 11) (v := .ref zy0) (C := RX11) (T := TX11) (N := 28) hx hb hts (by decide +kernel) hown hK hP 0 rfl rfl 0 (by decide) (hts (.fieldLink RX11 7 "DripStoneModel" "z" "[I") (by decide +kernel)) (fun _ h9 => h9) rfl dX11_put_44 ?_
              refine lv_iconst (v := 5) hx hb dX11_put_47 (by decide) ?_
              refine lv_iload_n hx hb dX11_put_48 rfl (lv_at hl 1 rfl) ?_
              refine lv_iadd hx hb dX11_put_49 ?_
              refine lv_topi (fun v_46 ev_46 => ?_)
              obtain rfl : v_46 = (6 : Int32) := ev_46.trans (by decide)
              refine va_iald hx hb hK hP 1 0 rfl rfl (vp_in_iff.mpr ⟨by decide, by decide⟩) dX11_put_50 ?_
              refine W.eq (g2 := F0 m 51 ls [.int 0]) rfl ?_
              refine lv_bipush (v := 12) hx hb dX11_put_51 (by decide) ?_
              refine lv_icmp_ne (tgt := 59) hx hb dX11_put_53 (by decide) (fun c_47 => ?_) (fun c_47 => absurd c_47 (by decide))
              refine lv_aload_n hx hb dX11_put_59 rfl (lv_at hl 0 rfl) ?_
              refine lv_iload_n hx hb dX11_put_60 rfl (lv_at hl 1 rfl) ?_
              refine lv_iload_n hx hb dX11_put_61 rfl (lv_at hl 2 rfl) ?_
              refine lv_iload_n hx hb dX11_put_62 rfl (lv_at hl 3 rfl) ?_
              refine lv_iconst (v := 0) hx hb dX11_put_63 (by decide) ?_
              refine cj_v (wc := [(zy, .inr (11, [.ref zy0, .ref zy1, .int 0, .int 0, .int 0, .ref zy5, .int 0, .int 0, .ref zy8, .ref zy9, .ref zy10, .ref zy11, .ref zy12, .ref zy13, .ref zy14, .long 0, .ref zy16, .ref zy17, .ref zy18, .int 0, .long 0, .ref zy21, .ref zy22, .int 0, .ref zy24, .ref zy25, .ref zy26, .ref zy27])), (zy0, .inl (cy 0, 392, .inl zz))]) (wr := []) (w1 := fun (_ : Unit) => [(zy, .inr (11, [.ref zy0, .ref zy1, .int 0, .int 0, .int 0, .ref zy5, .int 0, .int 0, .ref zy8, .ref zy9, .ref zy10, .ref zy11, .ref zy12, .ref zy13, .ref zy14, .long 0, .ref zy16, .ref zy17, .ref zy18, .int 0, .long 0, .ref zy21, .ref zy22, .int 0, .ref zy24, .ref zy25, .ref zy26, .ref zy27])), (zy0, .inl (cy 0, 392, .inl (upd (upd (upd (upd zz (170 : Int32).toNatClampNeg zib) (194 : Int32).toNatClampNeg zic) (218 : Int32).toNatClampNeg 0) (6 : Int32).toNatClampNeg 1)))]) (va_runV (As := [.int 1, .int zib, .int zic, .int 0]) (rest := []) ⟨hx, hb, hml, hown, hts⟩ (c_addThing_1 l dC dI cy H.size zy zib zic zy0 zy1 zy5 zy8 zy9 zy10 zy11 zy12 zy13 zy14 zy16 zy17 zy18 zy21 zy22 zy24 zy25 zy26 zy27) (cwV 4 hts gX11_put_X11_addThing rfl rfl rfl (by decide +kernel) ⟨(Nat.le_of_ble_eq_true rfl), (Nat.le_of_ble_eq_true rfl)⟩) (PRE.v (hP.sub [0, 1] rfl) hK (hD.sub [0, 1] (by decide) rfl) hN (va_recv hK hP (ci := 11) (q0 := 0) rfl rfl)) rfl rfl hl.1 rfl (lv_room (Nat.le_of_ble_eq_true rfl)) dX11_put_64 ⟨(Nat.le_of_ble_eq_true rfl), (Nat.le_of_ble_eq_true rfl)⟩) hP hD hS hA [0, 1] [] rfl rfl rfl (by decide) (fun u_48 H locs hw_50 hP hD hS => ?_)
              have hP : va_P (dC, dI) vwCl [(zy, .inr (11, [.ref zy0, .ref zy1, .int 0, .int 0, .int 0, .ref zy5, .int 0, .int 0, .ref zy8, .ref zy9, .ref zy10, .ref zy11, .ref zy12, .ref zy13, .ref zy14, .long 0, .ref zy16, .ref zy17, .ref zy18, .int 0, .long 0, .ref zy21, .ref zy22, .int 0, .ref zy24, .ref zy25, .ref zy26, .ref zy27])), (zy0, .inl (cy 0, 392, .inl (upd (upd (upd (upd zz (170 : Int32).toNatClampNeg zib) (194 : Int32).toNatClampNeg zic) (218 : Int32).toNatClampNeg 0) (6 : Int32).toNatClampNeg 1)))] H := hP
              have hD : va_D A [(zy, .inr (11, [.ref zy0, .ref zy1, .int 0, .int 0, .int 0, .ref zy5, .int 0, .int 0, .ref zy8, .ref zy9, .ref zy10, .ref zy11, .ref zy12, .ref zy13, .ref zy14, .long 0, .ref zy16, .ref zy17, .ref zy18, .int 0, .long 0, .ref zy21, .ref zy22, .int 0, .ref zy24, .ref zy25, .ref zy26, .ref zy27])), (zy0, .inl (cy 0, 392, .inl (upd (upd (upd (upd zz (170 : Int32).toNatClampNeg zib) (194 : Int32).toNatClampNeg zic) (218 : Int32).toNatClampNeg 0) (6 : Int32).toNatClampNeg 1)))] := hD
              refine lv_aload_n hx hb dX11_put_67 rfl (lv_at hl 0 rfl) ?_
              refine va_get (D := (dC, dI)) (ci := 11) (v := .ref zy0) (C := RX11) (T := TX11) (N := 28) hx hb hts (by decide +kernel) hown hK hP 0 rfl rfl 0 (by decide) (hts (.fieldLink RX11 7 "DripStoneModel" "z" "[I") (by decide +kernel)) (fun _ h9 => h9) rfl dX11_put_68 ?_
              refine lv_bipush (v := 7) hx hb dX11_put_71 (by decide) ?_
              refine lv_iload_n hx hb dX11_put_73 rfl (lv_at hl 1 rfl) ?_
              refine lv_iadd hx hb dX11_put_74 ?_
              refine lv_topi (fun v_51 ev_51 => ?_)
              obtain rfl : v_51 = (8 : Int32) := ev_51.trans (by decide)
              refine lv_iconst (v := 0) hx hb dX11_put_75 (by decide) ?_
              refine va_iast hx hb hK hP hD hS 1 0 rfl rfl (vp_in_iff.mpr ⟨by decide, by decide⟩) dX11_put_76 (fun H locs hP hD hS => ?_)
              have hP : va_P (dC, dI) vwCl [(zy, .inr (11, [.ref zy0, .ref zy1, .int 0, .int 0, .int 0, .ref zy5, .int 0, .int 0, .ref zy8, .ref zy9, .ref zy10, .ref zy11, .ref zy12, .ref zy13, .ref zy14, .long 0, .ref zy16, .ref zy17, .ref zy18, .int 0, .long 0, .ref zy21, .ref zy22, .int 0, .ref zy24, .ref zy25, .ref zy26, .ref zy27])), (zy0, .inl (cy 0, 392, .inl (upd (upd (upd (upd (upd zz (170 : Int32).toNatClampNeg zib) (194 : Int32).toNatClampNeg zic) (218 : Int32).toNatClampNeg 0) (6 : Int32).toNatClampNeg 1) (8 : Int32).toNatClampNeg 0)))] H := hP
              have hD : va_D A [(zy, .inr (11, [.ref zy0, .ref zy1, .int 0, .int 0, .int 0, .ref zy5, .int 0, .int 0, .ref zy8, .ref zy9, .ref zy10, .ref zy11, .ref zy12, .ref zy13, .ref zy14, .long 0, .ref zy16, .ref zy17, .ref zy18, .int 0, .long 0, .ref zy21, .ref zy22, .int 0, .ref zy24, .ref zy25, .ref zy26, .ref zy27])), (zy0, .inl (cy 0, 392, .inl (upd (upd (upd (upd (upd zz (170 : Int32).toNatClampNeg zib) (194 : Int32).toNatClampNeg zic) (218 : Int32).toNatClampNeg 0) (6 : Int32).toNatClampNeg 1) (8 : Int32).toNatClampNeg 0)))] := hD
              refine lv_aload_n hx hb dX11_put_77 rfl (lv_at hl 0 rfl) ?_
              refine va_get (D := (dC, dI)) (ci := 11) (v := .ref zy0) (C := RX11) (T := TX11) (N := 28) hx hb hts (by decide +kernel) hown hK hP 0 rfl rfl 0 (by decide) (hts (.fieldLink RX11 7 "DripStoneModel" "z" "[I") (by decide +kernel)) (fun _ h9 => h9) rfl dX11_put_78 ?_
              refine lv_iconst (v := 5) hx hb dX11_put_81 (by decide) ?_
              refine lv_iload_n hx hb dX11_put_82 rfl (lv_at hl 1 rfl) ?_
              refine lv_iadd hx hb dX11_put_83 ?_
              refine lv_topi (fun v_52 ev_52 => ?_)
              obtain rfl : v_52 = (6 : Int32) := ev_52.trans (by decide)
              refine va_iald hx hb hK hP 1 0 rfl rfl (vp_in_iff.mpr ⟨by decide, by decide⟩) dX11_put_84 ?_
              refine W.eq (g2 := F0 m 85 ls [.int 1]) rfl ?_
              refine lv_iconst (v := 1) hx hb dX11_put_85 (by decide) ?_
              refine lv_isub hx hb dX11_put_86 ?_
              refine lv_topi (fun v_53 ev_53 => ?_)
              obtain rfl : v_53 = (0 : Int32) := ev_53.trans (by decide)
              have hP9 := hP.sub (ws' := []) [] rfl
              have hD9 := hD.sub (ws' := []) [] (by decide) rfl
              exact W.iret (v := 0) hx hb hr (fun t ht hW => ⟨⟨0, (), rfl, (by unfold an_put; (repeat' split) <;> first | rfl | (exfalso; omega)), ⟨by rw [ht]; exact hP9, va_K.moved hW.alike hK, hD9⟩⟩, hS.F ht⟩) hS.2.2 dX11_put_87
          · have f_36 : ¬ (zic.toInt = 0) := ic_neq (rfl) (by decide) c_35
            refine lv_iconst (v := (-1)) hx hb dX11_put_41 (by decide) ?_
            have hP9 := hP.sub (ws' := []) [] rfl
            have hD9 := hD.sub (ws' := []) [] (by decide) rfl
            exact W.iret (v := (-1)) hx hb hr (fun t ht hW => ⟨⟨(-1), (), rfl, (by unfold an_put; (repeat' split) <;> first | rfl | (exfalso; omega)), ⟨by rw [ht]; exact hP9, va_K.moved hW.alike hK, hD9⟩⟩, hS.F ht⟩) hS.2.2 dX11_put_42
set_option maxHeartbeats 4000000 in
set_option maxRecDepth 100000 in
theorem lp_c_X11_sheet_40_0 {p : Program} {l : Launch} {e : Env} {R : Room} {s : State} {m : MethodId} {args : Array Value} {below : List Frame} {meth : Method} {c : Code} {cells slots : Nat} {Q : State → Prop} {A : Nat → Prop} {H0 : Heap} (dC : Nat → ClassId) (dI : Nat → Nat → Nat) (cy : Nat → ClassId) (zy : Nat) (zy0 : Nat) (zy1 : Nat) (zy5 : Nat) (zy8 : Nat) (zy9 : Nat) (zy10 : Nat) (zy11 : Nat) (zy12 : Nat) (zy13 : Nat) (zy14 : Nat) (zy16 : Nat) (zy17 : Nat) (zy18 : Nat) (zy21 : Nat) (zy22 : Nat) (zy24 : Nat) (zy25 : Nat) (zy26 : Nat) (zy27 : Nat) (zib : Int32) (zic : Int32) (hx : p.tables.exec = Jvm.exec) (hb : c.code = cX11_sheet) (hts : ∀ w ∈ wsX11_sheet, w.before args s = true) (hown : s.vm.findClass RX11 = some m.cls) (hK : va_K (dC, dI) vwCl (TY cy) s) (hA : ∀ q : Nat, H0.size ≤ q → A q)
    (kx : ∀ (zf0 : Nat → Int32) (H : Heap) (locs : List Loc) (ls : Array Slot), va_P (dC, dI) vwCl [(zy, .inr (11, [.ref zy0, .ref zy1, .int 0, .int 0, .int 0, .ref zy5, .int 0, .int 0, .ref zy8, .ref zy9, .ref zy10, .ref zy11, .ref zy12, .ref zy13, .ref zy14, .long 0, .ref zy16, .ref zy17, .ref zy18, .int 0, .long 0, .ref zy21, .ref zy22, .int 0, .ref zy24, .ref zy25, .ref zy26, .ref zy27])), (zy25, .inl (cy 0, 4, .inl (upd ll (0 : Int32).toNatClampNeg zib))), (zy26, .inl (cy 0, 4, .inl (upd (fun _ => 0) (0 : Int32).toNatClampNeg zic))), (zy27, .inl (cy 0, 96, .inl zf0))] H → va_D A [(zy, .inr (11, [.ref zy0, .ref zy1, .int 0, .int 0, .int 0, .ref zy5, .int 0, .int 0, .ref zy8, .ref zy9, .ref zy10, .ref zy11, .ref zy12, .ref zy13, .ref zy14, .long 0, .ref zy16, .ref zy17, .ref zy18, .int 0, .long 0, .ref zy21, .ref zy22, .int 0, .ref zy24, .ref zy25, .ref zy26, .ref zy27])), (zy25, .inl (cy 0, 4, .inl (upd ll (0 : Int32).toNatClampNeg zib))), (zy26, .inl (cy 0, 4, .inl (upd (fun _ => 0) (0 : Int32).toNatClampNeg zic))), (zy27, .inl (cy 0, 96, .inl zf0))] → va_S A H0 H locs → lv_has ls 5 [(0, .ref zy), (1, .int 0), (2, .int zib), (3, .int zic), (4, .int 24)] → W p l e R s m args below meth c H locs cells slots Q (F0 m 66 ls [])) :
    ∀ (n : Nat) (zix : Int32) (zf0 : Nat → Int32) (H : Heap) (locs : List Loc) (ls : Array Slot), zix.toInt + n = 24 → 0 ≤ zix.toInt → va_P (dC, dI) vwCl [(zy, .inr (11, [.ref zy0, .ref zy1, .int 0, .int 0, .int 0, .ref zy5, .int 0, .int 0, .ref zy8, .ref zy9, .ref zy10, .ref zy11, .ref zy12, .ref zy13, .ref zy14, .long 0, .ref zy16, .ref zy17, .ref zy18, .int 0, .long 0, .ref zy21, .ref zy22, .int 0, .ref zy24, .ref zy25, .ref zy26, .ref zy27])), (zy25, .inl (cy 0, 4, .inl (upd ll (0 : Int32).toNatClampNeg zib))), (zy26, .inl (cy 0, 4, .inl (upd (fun _ => 0) (0 : Int32).toNatClampNeg zic))), (zy27, .inl (cy 0, 96, .inl zf0))] H → va_D A [(zy, .inr (11, [.ref zy0, .ref zy1, .int 0, .int 0, .int 0, .ref zy5, .int 0, .int 0, .ref zy8, .ref zy9, .ref zy10, .ref zy11, .ref zy12, .ref zy13, .ref zy14, .long 0, .ref zy16, .ref zy17, .ref zy18, .int 0, .long 0, .ref zy21, .ref zy22, .int 0, .ref zy24, .ref zy25, .ref zy26, .ref zy27])), (zy25, .inl (cy 0, 4, .inl (upd ll (0 : Int32).toNatClampNeg zib))), (zy26, .inl (cy 0, 4, .inl (upd (fun _ => 0) (0 : Int32).toNatClampNeg zic))), (zy27, .inl (cy 0, 96, .inl zf0))] → va_S A H0 H locs → lv_has ls 5 [(0, .ref zy), (1, .int 0), (2, .int zib), (3, .int zic), (4, .int zix)] → W p l e R s m args below meth c H locs cells slots Q (F0 m 40 ls []) := by
  intro n
  induction n with
  | zero =>
    intro zix zf0 H locs ls hn h0 hP hD hS hl
    obtain rfl : zix = 24 := i32_eq 24 (show zix.toInt = 24 by omega) (by decide)
    refine lv_iload hx hb dX11_sheet_40 (lv_at hl 4 rfl) ?_
    refine lv_bipush (v := 24) hx hb dX11_sheet_42 (by decide) ?_
    refine lv_icmp_ge (tgt := 66) hx hb dX11_sheet_44 (by decide) (fun c_11 => ?_) (fun c_11 => absurd (by decide) c_11)
    exact kx _ _ _ _ hP hD hS (lv_sub hl [0, 1, 2, 3, 4] rfl)
  | succ n ih =>
    intro zix zf0 H locs ls hn h0 hP hD hS hl
    refine lv_iload hx hb dX11_sheet_40 (lv_at hl 4 rfl) ?_
    refine lv_bipush (v := 24) hx hb dX11_sheet_42 (by decide) ?_
    refine lv_icmp_ge (tgt := 66) hx hb dX11_sheet_44 (by decide) (fun c_12 => ?_) (fun c_12 => ?_)
    · have f_13 : zix.toInt ≥ (24 : Int) := ic_ge (rfl) (show (24 : Int32).toInt = 24 by decide) c_12
      exfalso; omega
    · have f_13 : ¬ (zix.toInt ≥ (24 : Int)) := ic_nge (rfl) (show (24 : Int32).toInt = 24 by decide) c_12
      refine lv_aload_n hx hb dX11_sheet_47 rfl (lv_at hl 0 rfl) ?_
      refine va_get (D := (dC, dI)) (ci := 11) (v := .ref zy27) (C := RX11) (T := TX11) (N := 28) hx hb hts (by decide +kernel) hown hK hP 0 rfl rfl 27 (by decide) (hts (.fieldLink RX11 65 "DripStoneModel" "items" "[I") (by decide +kernel)) (fun _ h9 => h9) rfl dX11_sheet_48 ?_
      refine lv_bipush (v := 24) hx hb dX11_sheet_51 (by decide) ?_
      refine lv_iload_n hx hb dX11_sheet_53 rfl (lv_at hl 1 rfl) ?_
      refine lv_imul hx hb dX11_sheet_54 ?_
      refine lv_topi (fun v_14 ev_14 => ?_)
      obtain rfl : v_14 = (0 : Int32) := ev_14.trans (by decide)
      refine lv_iload hx hb dX11_sheet_55 (lv_at hl 4 rfl) ?_
      refine lv_iadd hx hb dX11_sheet_57 ?_
      refine lv_topi (fun v_15 ev_15 => ?_)
      have tv_15 : v_15.toInt = (0 : Int) + zix.toInt := by rw [ev_15]; exact tadd (show (0 : Int32).toInt = 0 by decide) (rfl) (by omega) (by omega)
      refine lv_iconst (v := 0) hx hb dX11_sheet_58 (by decide) ?_
      refine va_iast hx hb hK hP hD hS 3 0 rfl rfl (vp_in_iff.mpr ⟨by omega, by omega⟩) dX11_sheet_59 (fun H locs hP hD hS => ?_)
      have hP : va_P (dC, dI) vwCl [(zy, .inr (11, [.ref zy0, .ref zy1, .int 0, .int 0, .int 0, .ref zy5, .int 0, .int 0, .ref zy8, .ref zy9, .ref zy10, .ref zy11, .ref zy12, .ref zy13, .ref zy14, .long 0, .ref zy16, .ref zy17, .ref zy18, .int 0, .long 0, .ref zy21, .ref zy22, .int 0, .ref zy24, .ref zy25, .ref zy26, .ref zy27])), (zy25, .inl (cy 0, 4, .inl (upd ll (0 : Int32).toNatClampNeg zib))), (zy26, .inl (cy 0, 4, .inl (upd (fun _ => 0) (0 : Int32).toNatClampNeg zic))), (zy27, .inl (cy 0, 96, .inl (upd zf0 v_15.toNatClampNeg 0)))] H := hP
      have hD : va_D A [(zy, .inr (11, [.ref zy0, .ref zy1, .int 0, .int 0, .int 0, .ref zy5, .int 0, .int 0, .ref zy8, .ref zy9, .ref zy10, .ref zy11, .ref zy12, .ref zy13, .ref zy14, .long 0, .ref zy16, .ref zy17, .ref zy18, .int 0, .long 0, .ref zy21, .ref zy22, .int 0, .ref zy24, .ref zy25, .ref zy26, .ref zy27])), (zy25, .inl (cy 0, 4, .inl (upd ll (0 : Int32).toNatClampNeg zib))), (zy26, .inl (cy 0, 4, .inl (upd (fun _ => 0) (0 : Int32).toNatClampNeg zic))), (zy27, .inl (cy 0, 96, .inl (upd zf0 v_15.toNatClampNeg 0)))] := hD
      obtain ⟨x_16, ex_16⟩ : ∃ y : Int32, y = zix + 1 := ⟨_, rfl⟩
      have tx_16 : x_16.toInt = zix.toInt + 1 := by rw [ex_16]; exact tadd rfl (show (1 : Int32).toInt = 1 by decide) (by omega) (by omega)
      refine lv_iinc (v := x_16) (lv' := [(4, .int x_16), (0, .ref zy), (1, .int 0), (2, .int zib), (3, .int zic)]) hx hb dX11_sheet_60 hl (k := 4) rfl (by rw [ex_16]; rfl) (by decide) rfl (fun ls hl => ?_)
      refine lv_goto (tgt := 40) hx hb dX11_sheet_63 (by decide) ?_
      exact ih x_16 _ _ _ _ (by omega) (by omega) hP hD hS (lv_sub hl [1, 2, 3, 4, 0] rfl)
set_option maxHeartbeats 4000000 in
set_option maxRecDepth 100000 in
theorem lp_c_X11_sheet_40_42 {p : Program} {l : Launch} {e : Env} {R : Room} {s : State} {m : MethodId} {args : Array Value} {below : List Frame} {meth : Method} {c : Code} {cells slots : Nat} {Q : State → Prop} {A : Nat → Prop} {H0 : Heap} (dC : Nat → ClassId) (dI : Nat → Nat → Nat) (cy : Nat → ClassId) (zy : Nat) (zy0 : Nat) (zy1 : Nat) (zy5 : Nat) (zy8 : Nat) (zy9 : Nat) (zy10 : Nat) (zy11 : Nat) (zy12 : Nat) (zy13 : Nat) (zy14 : Nat) (zy16 : Nat) (zy17 : Nat) (zy18 : Nat) (zy21 : Nat) (zy22 : Nat) (zy24 : Nat) (zy25 : Nat) (zy26 : Nat) (zy27 : Nat) (zib : Int32) (zic : Int32) (hx : p.tables.exec = Jvm.exec) (hb : c.code = cX11_sheet) (hts : ∀ w ∈ wsX11_sheet, w.before args s = true) (hown : s.vm.findClass RX11 = some m.cls) (hK : va_K (dC, dI) vwCl (TY cy) s) (hA : ∀ q : Nat, H0.size ≤ q → A q)
    (kx : ∀ (zf0 : Nat → Int32) (H : Heap) (locs : List Loc) (ls : Array Slot), va_P (dC, dI) vwCl [(zy, .inr (11, [.ref zy0, .ref zy1, .int 0, .int 0, .int 0, .ref zy5, .int 0, .int 0, .ref zy8, .ref zy9, .ref zy10, .ref zy11, .ref zy12, .ref zy13, .ref zy14, .long 0, .ref zy16, .ref zy17, .ref zy18, .int 0, .long 0, .ref zy21, .ref zy22, .int 0, .ref zy24, .ref zy25, .ref zy26, .ref zy27])), (zy25, .inl (cy 0, 4, .inl (upd ll (1 : Int32).toNatClampNeg zib))), (zy26, .inl (cy 0, 4, .inl (upd (fun _ => 0) (1 : Int32).toNatClampNeg zic))), (zy27, .inl (cy 0, 96, .inl zf0))] H → va_D A [(zy, .inr (11, [.ref zy0, .ref zy1, .int 0, .int 0, .int 0, .ref zy5, .int 0, .int 0, .ref zy8, .ref zy9, .ref zy10, .ref zy11, .ref zy12, .ref zy13, .ref zy14, .long 0, .ref zy16, .ref zy17, .ref zy18, .int 0, .long 0, .ref zy21, .ref zy22, .int 0, .ref zy24, .ref zy25, .ref zy26, .ref zy27])), (zy25, .inl (cy 0, 4, .inl (upd ll (1 : Int32).toNatClampNeg zib))), (zy26, .inl (cy 0, 4, .inl (upd (fun _ => 0) (1 : Int32).toNatClampNeg zic))), (zy27, .inl (cy 0, 96, .inl zf0))] → va_S A H0 H locs → lv_has ls 5 [(0, .ref zy), (1, .int 1), (2, .int zib), (3, .int zic), (4, .int 24)] → W p l e R s m args below meth c H locs cells slots Q (F0 m 66 ls [])) :
    ∀ (n : Nat) (zix : Int32) (zf0 : Nat → Int32) (H : Heap) (locs : List Loc) (ls : Array Slot), zix.toInt + n = 24 → 0 ≤ zix.toInt → va_P (dC, dI) vwCl [(zy, .inr (11, [.ref zy0, .ref zy1, .int 0, .int 0, .int 0, .ref zy5, .int 0, .int 0, .ref zy8, .ref zy9, .ref zy10, .ref zy11, .ref zy12, .ref zy13, .ref zy14, .long 0, .ref zy16, .ref zy17, .ref zy18, .int 0, .long 0, .ref zy21, .ref zy22, .int 0, .ref zy24, .ref zy25, .ref zy26, .ref zy27])), (zy25, .inl (cy 0, 4, .inl (upd ll (1 : Int32).toNatClampNeg zib))), (zy26, .inl (cy 0, 4, .inl (upd (fun _ => 0) (1 : Int32).toNatClampNeg zic))), (zy27, .inl (cy 0, 96, .inl zf0))] H → va_D A [(zy, .inr (11, [.ref zy0, .ref zy1, .int 0, .int 0, .int 0, .ref zy5, .int 0, .int 0, .ref zy8, .ref zy9, .ref zy10, .ref zy11, .ref zy12, .ref zy13, .ref zy14, .long 0, .ref zy16, .ref zy17, .ref zy18, .int 0, .long 0, .ref zy21, .ref zy22, .int 0, .ref zy24, .ref zy25, .ref zy26, .ref zy27])), (zy25, .inl (cy 0, 4, .inl (upd ll (1 : Int32).toNatClampNeg zib))), (zy26, .inl (cy 0, 4, .inl (upd (fun _ => 0) (1 : Int32).toNatClampNeg zic))), (zy27, .inl (cy 0, 96, .inl zf0))] → va_S A H0 H locs → lv_has ls 5 [(0, .ref zy), (1, .int 1), (2, .int zib), (3, .int zic), (4, .int zix)] → W p l e R s m args below meth c H locs cells slots Q (F0 m 40 ls []) := by
  intro n
  induction n with
  | zero =>
    intro zix zf0 H locs ls hn h0 hP hD hS hl
    obtain rfl : zix = 24 := i32_eq 24 (show zix.toInt = 24 by omega) (by decide)
    refine lv_iload hx hb dX11_sheet_40 (lv_at hl 4 rfl) ?_
    refine lv_bipush (v := 24) hx hb dX11_sheet_42 (by decide) ?_
    refine lv_icmp_ge (tgt := 66) hx hb dX11_sheet_44 (by decide) (fun c_17 => ?_) (fun c_17 => absurd (by decide) c_17)
    exact kx _ _ _ _ hP hD hS (lv_sub hl [0, 1, 2, 3, 4] rfl)
  | succ n ih =>
    intro zix zf0 H locs ls hn h0 hP hD hS hl
    refine lv_iload hx hb dX11_sheet_40 (lv_at hl 4 rfl) ?_
    refine lv_bipush (v := 24) hx hb dX11_sheet_42 (by decide) ?_
    refine lv_icmp_ge (tgt := 66) hx hb dX11_sheet_44 (by decide) (fun c_18 => ?_) (fun c_18 => ?_)
    · have f_19 : zix.toInt ≥ (24 : Int) := ic_ge (rfl) (show (24 : Int32).toInt = 24 by decide) c_18
      exfalso; omega
    · have f_19 : ¬ (zix.toInt ≥ (24 : Int)) := ic_nge (rfl) (show (24 : Int32).toInt = 24 by decide) c_18
      refine lv_aload_n hx hb dX11_sheet_47 rfl (lv_at hl 0 rfl) ?_
      refine va_get (D := (dC, dI)) (ci := 11) (v := .ref zy27) (C := RX11) (T := TX11) (N := 28) hx hb hts (by decide +kernel) hown hK hP 0 rfl rfl 27 (by decide) (hts (.fieldLink RX11 65 "DripStoneModel" "items" "[I") (by decide +kernel)) (fun _ h9 => h9) rfl dX11_sheet_48 ?_
      refine lv_bipush (v := 24) hx hb dX11_sheet_51 (by decide) ?_
      refine lv_iload_n hx hb dX11_sheet_53 rfl (lv_at hl 1 rfl) ?_
      refine lv_imul hx hb dX11_sheet_54 ?_
      refine lv_topi (fun v_20 ev_20 => ?_)
      obtain rfl : v_20 = (24 : Int32) := ev_20.trans (by decide)
      refine lv_iload hx hb dX11_sheet_55 (lv_at hl 4 rfl) ?_
      refine lv_iadd hx hb dX11_sheet_57 ?_
      refine lv_topi (fun v_21 ev_21 => ?_)
      have tv_21 : v_21.toInt = (24 : Int) + zix.toInt := by rw [ev_21]; exact tadd (show (24 : Int32).toInt = 24 by decide) (rfl) (by omega) (by omega)
      refine lv_iconst (v := 0) hx hb dX11_sheet_58 (by decide) ?_
      refine va_iast hx hb hK hP hD hS 3 0 rfl rfl (vp_in_iff.mpr ⟨by omega, by omega⟩) dX11_sheet_59 (fun H locs hP hD hS => ?_)
      have hP : va_P (dC, dI) vwCl [(zy, .inr (11, [.ref zy0, .ref zy1, .int 0, .int 0, .int 0, .ref zy5, .int 0, .int 0, .ref zy8, .ref zy9, .ref zy10, .ref zy11, .ref zy12, .ref zy13, .ref zy14, .long 0, .ref zy16, .ref zy17, .ref zy18, .int 0, .long 0, .ref zy21, .ref zy22, .int 0, .ref zy24, .ref zy25, .ref zy26, .ref zy27])), (zy25, .inl (cy 0, 4, .inl (upd ll (1 : Int32).toNatClampNeg zib))), (zy26, .inl (cy 0, 4, .inl (upd (fun _ => 0) (1 : Int32).toNatClampNeg zic))), (zy27, .inl (cy 0, 96, .inl (upd zf0 v_21.toNatClampNeg 0)))] H := hP
      have hD : va_D A [(zy, .inr (11, [.ref zy0, .ref zy1, .int 0, .int 0, .int 0, .ref zy5, .int 0, .int 0, .ref zy8, .ref zy9, .ref zy10, .ref zy11, .ref zy12, .ref zy13, .ref zy14, .long 0, .ref zy16, .ref zy17, .ref zy18, .int 0, .long 0, .ref zy21, .ref zy22, .int 0, .ref zy24, .ref zy25, .ref zy26, .ref zy27])), (zy25, .inl (cy 0, 4, .inl (upd ll (1 : Int32).toNatClampNeg zib))), (zy26, .inl (cy 0, 4, .inl (upd (fun _ => 0) (1 : Int32).toNatClampNeg zic))), (zy27, .inl (cy 0, 96, .inl (upd zf0 v_21.toNatClampNeg 0)))] := hD
      obtain ⟨x_22, ex_22⟩ : ∃ y : Int32, y = zix + 1 := ⟨_, rfl⟩
      have tx_22 : x_22.toInt = zix.toInt + 1 := by rw [ex_22]; exact tadd rfl (show (1 : Int32).toInt = 1 by decide) (by omega) (by omega)
      refine lv_iinc (v := x_22) (lv' := [(4, .int x_22), (0, .ref zy), (1, .int 1), (2, .int zib), (3, .int zic)]) hx hb dX11_sheet_60 hl (k := 4) rfl (by rw [ex_22]; rfl) (by decide) rfl (fun ls hl => ?_)
      refine lv_goto (tgt := 40) hx hb dX11_sheet_63 (by decide) ?_
      exact ih x_22 _ _ _ _ (by omega) (by omega) hP hD hS (lv_sub hl [1, 2, 3, 4, 0] rfl)
set_option maxHeartbeats 4000000 in
set_option maxRecDepth 100000 in
theorem lp_c_X11_sheet_40_84 {p : Program} {l : Launch} {e : Env} {R : Room} {s : State} {m : MethodId} {args : Array Value} {below : List Frame} {meth : Method} {c : Code} {cells slots : Nat} {Q : State → Prop} {A : Nat → Prop} {H0 : Heap} (dC : Nat → ClassId) (dI : Nat → Nat → Nat) (cy : Nat → ClassId) (zy : Nat) (zy0 : Nat) (zy1 : Nat) (zy5 : Nat) (zy8 : Nat) (zy9 : Nat) (zy10 : Nat) (zy11 : Nat) (zy12 : Nat) (zy13 : Nat) (zy14 : Nat) (zy16 : Nat) (zy17 : Nat) (zy18 : Nat) (zy21 : Nat) (zy22 : Nat) (zy24 : Nat) (zy25 : Nat) (zy26 : Nat) (zy27 : Nat) (zib : Int32) (zic : Int32) (hx : p.tables.exec = Jvm.exec) (hb : c.code = cX11_sheet) (hts : ∀ w ∈ wsX11_sheet, w.before args s = true) (hown : s.vm.findClass RX11 = some m.cls) (hK : va_K (dC, dI) vwCl (TY cy) s) (hA : ∀ q : Nat, H0.size ≤ q → A q)
    (kx : ∀ (zf0 : Nat → Int32) (H : Heap) (locs : List Loc) (ls : Array Slot), va_P (dC, dI) vwCl [(zy, .inr (11, [.ref zy0, .ref zy1, .int 0, .int 0, .int 0, .ref zy5, .int 0, .int 0, .ref zy8, .ref zy9, .ref zy10, .ref zy11, .ref zy12, .ref zy13, .ref zy14, .long 0, .ref zy16, .ref zy17, .ref zy18, .int 0, .long 0, .ref zy21, .ref zy22, .int 0, .ref zy24, .ref zy25, .ref zy26, .ref zy27])), (zy25, .inl (cy 0, 4, .inl (upd ll (2 : Int32).toNatClampNeg zib))), (zy26, .inl (cy 0, 4, .inl (upd (fun _ => 0) (2 : Int32).toNatClampNeg zic))), (zy27, .inl (cy 0, 96, .inl zf0))] H → va_D A [(zy, .inr (11, [.ref zy0, .ref zy1, .int 0, .int 0, .int 0, .ref zy5, .int 0, .int 0, .ref zy8, .ref zy9, .ref zy10, .ref zy11, .ref zy12, .ref zy13, .ref zy14, .long 0, .ref zy16, .ref zy17, .ref zy18, .int 0, .long 0, .ref zy21, .ref zy22, .int 0, .ref zy24, .ref zy25, .ref zy26, .ref zy27])), (zy25, .inl (cy 0, 4, .inl (upd ll (2 : Int32).toNatClampNeg zib))), (zy26, .inl (cy 0, 4, .inl (upd (fun _ => 0) (2 : Int32).toNatClampNeg zic))), (zy27, .inl (cy 0, 96, .inl zf0))] → va_S A H0 H locs → lv_has ls 5 [(0, .ref zy), (1, .int 2), (2, .int zib), (3, .int zic), (4, .int 24)] → W p l e R s m args below meth c H locs cells slots Q (F0 m 66 ls [])) :
    ∀ (n : Nat) (zix : Int32) (zf0 : Nat → Int32) (H : Heap) (locs : List Loc) (ls : Array Slot), zix.toInt + n = 24 → 0 ≤ zix.toInt → va_P (dC, dI) vwCl [(zy, .inr (11, [.ref zy0, .ref zy1, .int 0, .int 0, .int 0, .ref zy5, .int 0, .int 0, .ref zy8, .ref zy9, .ref zy10, .ref zy11, .ref zy12, .ref zy13, .ref zy14, .long 0, .ref zy16, .ref zy17, .ref zy18, .int 0, .long 0, .ref zy21, .ref zy22, .int 0, .ref zy24, .ref zy25, .ref zy26, .ref zy27])), (zy25, .inl (cy 0, 4, .inl (upd ll (2 : Int32).toNatClampNeg zib))), (zy26, .inl (cy 0, 4, .inl (upd (fun _ => 0) (2 : Int32).toNatClampNeg zic))), (zy27, .inl (cy 0, 96, .inl zf0))] H → va_D A [(zy, .inr (11, [.ref zy0, .ref zy1, .int 0, .int 0, .int 0, .ref zy5, .int 0, .int 0, .ref zy8, .ref zy9, .ref zy10, .ref zy11, .ref zy12, .ref zy13, .ref zy14, .long 0, .ref zy16, .ref zy17, .ref zy18, .int 0, .long 0, .ref zy21, .ref zy22, .int 0, .ref zy24, .ref zy25, .ref zy26, .ref zy27])), (zy25, .inl (cy 0, 4, .inl (upd ll (2 : Int32).toNatClampNeg zib))), (zy26, .inl (cy 0, 4, .inl (upd (fun _ => 0) (2 : Int32).toNatClampNeg zic))), (zy27, .inl (cy 0, 96, .inl zf0))] → va_S A H0 H locs → lv_has ls 5 [(0, .ref zy), (1, .int 2), (2, .int zib), (3, .int zic), (4, .int zix)] → W p l e R s m args below meth c H locs cells slots Q (F0 m 40 ls []) := by
  intro n
  induction n with
  | zero =>
    intro zix zf0 H locs ls hn h0 hP hD hS hl
    obtain rfl : zix = 24 := i32_eq 24 (show zix.toInt = 24 by omega) (by decide)
    refine lv_iload hx hb dX11_sheet_40 (lv_at hl 4 rfl) ?_
    refine lv_bipush (v := 24) hx hb dX11_sheet_42 (by decide) ?_
    refine lv_icmp_ge (tgt := 66) hx hb dX11_sheet_44 (by decide) (fun c_23 => ?_) (fun c_23 => absurd (by decide) c_23)
    exact kx _ _ _ _ hP hD hS (lv_sub hl [0, 1, 2, 3, 4] rfl)
  | succ n ih =>
    intro zix zf0 H locs ls hn h0 hP hD hS hl
    refine lv_iload hx hb dX11_sheet_40 (lv_at hl 4 rfl) ?_
    refine lv_bipush (v := 24) hx hb dX11_sheet_42 (by decide) ?_
    refine lv_icmp_ge (tgt := 66) hx hb dX11_sheet_44 (by decide) (fun c_24 => ?_) (fun c_24 => ?_)
    · have f_25 : zix.toInt ≥ (24 : Int) := ic_ge (rfl) (show (24 : Int32).toInt = 24 by decide) c_24
      exfalso; omega
    · have f_25 : ¬ (zix.toInt ≥ (24 : Int)) := ic_nge (rfl) (show (24 : Int32).toInt = 24 by decide) c_24
      refine lv_aload_n hx hb dX11_sheet_47 rfl (lv_at hl 0 rfl) ?_
      refine va_get (D := (dC, dI)) (ci := 11) (v := .ref zy27) (C := RX11) (T := TX11) (N := 28) hx hb hts (by decide +kernel) hown hK hP 0 rfl rfl 27 (by decide) (hts (.fieldLink RX11 65 "DripStoneModel" "items" "[I") (by decide +kernel)) (fun _ h9 => h9) rfl dX11_sheet_48 ?_
      refine lv_bipush (v := 24) hx hb dX11_sheet_51 (by decide) ?_
      refine lv_iload_n hx hb dX11_sheet_53 rfl (lv_at hl 1 rfl) ?_
      refine lv_imul hx hb dX11_sheet_54 ?_
      refine lv_topi (fun v_26 ev_26 => ?_)
      obtain rfl : v_26 = (48 : Int32) := ev_26.trans (by decide)
      refine lv_iload hx hb dX11_sheet_55 (lv_at hl 4 rfl) ?_
      refine lv_iadd hx hb dX11_sheet_57 ?_
      refine lv_topi (fun v_27 ev_27 => ?_)
      have tv_27 : v_27.toInt = (48 : Int) + zix.toInt := by rw [ev_27]; exact tadd (show (48 : Int32).toInt = 48 by decide) (rfl) (by omega) (by omega)
      refine lv_iconst (v := 0) hx hb dX11_sheet_58 (by decide) ?_
      refine va_iast hx hb hK hP hD hS 3 0 rfl rfl (vp_in_iff.mpr ⟨by omega, by omega⟩) dX11_sheet_59 (fun H locs hP hD hS => ?_)
      have hP : va_P (dC, dI) vwCl [(zy, .inr (11, [.ref zy0, .ref zy1, .int 0, .int 0, .int 0, .ref zy5, .int 0, .int 0, .ref zy8, .ref zy9, .ref zy10, .ref zy11, .ref zy12, .ref zy13, .ref zy14, .long 0, .ref zy16, .ref zy17, .ref zy18, .int 0, .long 0, .ref zy21, .ref zy22, .int 0, .ref zy24, .ref zy25, .ref zy26, .ref zy27])), (zy25, .inl (cy 0, 4, .inl (upd ll (2 : Int32).toNatClampNeg zib))), (zy26, .inl (cy 0, 4, .inl (upd (fun _ => 0) (2 : Int32).toNatClampNeg zic))), (zy27, .inl (cy 0, 96, .inl (upd zf0 v_27.toNatClampNeg 0)))] H := hP
      have hD : va_D A [(zy, .inr (11, [.ref zy0, .ref zy1, .int 0, .int 0, .int 0, .ref zy5, .int 0, .int 0, .ref zy8, .ref zy9, .ref zy10, .ref zy11, .ref zy12, .ref zy13, .ref zy14, .long 0, .ref zy16, .ref zy17, .ref zy18, .int 0, .long 0, .ref zy21, .ref zy22, .int 0, .ref zy24, .ref zy25, .ref zy26, .ref zy27])), (zy25, .inl (cy 0, 4, .inl (upd ll (2 : Int32).toNatClampNeg zib))), (zy26, .inl (cy 0, 4, .inl (upd (fun _ => 0) (2 : Int32).toNatClampNeg zic))), (zy27, .inl (cy 0, 96, .inl (upd zf0 v_27.toNatClampNeg 0)))] := hD
      obtain ⟨x_28, ex_28⟩ : ∃ y : Int32, y = zix + 1 := ⟨_, rfl⟩
      have tx_28 : x_28.toInt = zix.toInt + 1 := by rw [ex_28]; exact tadd rfl (show (1 : Int32).toInt = 1 by decide) (by omega) (by omega)
      refine lv_iinc (v := x_28) (lv' := [(4, .int x_28), (0, .ref zy), (1, .int 2), (2, .int zib), (3, .int zic)]) hx hb dX11_sheet_60 hl (k := 4) rfl (by rw [ex_28]; rfl) (by decide) rfl (fun ls hl => ?_)
      refine lv_goto (tgt := 40) hx hb dX11_sheet_63 (by decide) ?_
      exact ih x_28 _ _ _ _ (by omega) (by omega) hP hD hS (lv_sub hl [1, 2, 3, 4, 0] rfl)
set_option maxHeartbeats 4000000 in
set_option maxRecDepth 100000 in
theorem lp_c_X11_sheet_40_126 {p : Program} {l : Launch} {e : Env} {R : Room} {s : State} {m : MethodId} {args : Array Value} {below : List Frame} {meth : Method} {c : Code} {cells slots : Nat} {Q : State → Prop} {A : Nat → Prop} {H0 : Heap} (dC : Nat → ClassId) (dI : Nat → Nat → Nat) (cy : Nat → ClassId) (zy : Nat) (zy0 : Nat) (zy1 : Nat) (zy5 : Nat) (zy8 : Nat) (zy9 : Nat) (zy10 : Nat) (zy11 : Nat) (zy12 : Nat) (zy13 : Nat) (zy14 : Nat) (zy16 : Nat) (zy17 : Nat) (zy18 : Nat) (zy21 : Nat) (zy22 : Nat) (zy24 : Nat) (zy25 : Nat) (zy26 : Nat) (zy27 : Nat) (zib : Int32) (zic : Int32) (hx : p.tables.exec = Jvm.exec) (hb : c.code = cX11_sheet) (hts : ∀ w ∈ wsX11_sheet, w.before args s = true) (hown : s.vm.findClass RX11 = some m.cls) (hK : va_K (dC, dI) vwCl (TY cy) s) (hA : ∀ q : Nat, H0.size ≤ q → A q)
    (kx : ∀ (zf0 : Nat → Int32) (H : Heap) (locs : List Loc) (ls : Array Slot), va_P (dC, dI) vwCl [(zy, .inr (11, [.ref zy0, .ref zy1, .int 0, .int 0, .int 0, .ref zy5, .int 0, .int 0, .ref zy8, .ref zy9, .ref zy10, .ref zy11, .ref zy12, .ref zy13, .ref zy14, .long 0, .ref zy16, .ref zy17, .ref zy18, .int 0, .long 0, .ref zy21, .ref zy22, .int 0, .ref zy24, .ref zy25, .ref zy26, .ref zy27])), (zy25, .inl (cy 0, 4, .inl (upd ll (3 : Int32).toNatClampNeg zib))), (zy26, .inl (cy 0, 4, .inl (upd (fun _ => 0) (3 : Int32).toNatClampNeg zic))), (zy27, .inl (cy 0, 96, .inl zf0))] H → va_D A [(zy, .inr (11, [.ref zy0, .ref zy1, .int 0, .int 0, .int 0, .ref zy5, .int 0, .int 0, .ref zy8, .ref zy9, .ref zy10, .ref zy11, .ref zy12, .ref zy13, .ref zy14, .long 0, .ref zy16, .ref zy17, .ref zy18, .int 0, .long 0, .ref zy21, .ref zy22, .int 0, .ref zy24, .ref zy25, .ref zy26, .ref zy27])), (zy25, .inl (cy 0, 4, .inl (upd ll (3 : Int32).toNatClampNeg zib))), (zy26, .inl (cy 0, 4, .inl (upd (fun _ => 0) (3 : Int32).toNatClampNeg zic))), (zy27, .inl (cy 0, 96, .inl zf0))] → va_S A H0 H locs → lv_has ls 5 [(0, .ref zy), (1, .int 3), (2, .int zib), (3, .int zic), (4, .int 24)] → W p l e R s m args below meth c H locs cells slots Q (F0 m 66 ls [])) :
    ∀ (n : Nat) (zix : Int32) (zf0 : Nat → Int32) (H : Heap) (locs : List Loc) (ls : Array Slot), zix.toInt + n = 24 → 0 ≤ zix.toInt → va_P (dC, dI) vwCl [(zy, .inr (11, [.ref zy0, .ref zy1, .int 0, .int 0, .int 0, .ref zy5, .int 0, .int 0, .ref zy8, .ref zy9, .ref zy10, .ref zy11, .ref zy12, .ref zy13, .ref zy14, .long 0, .ref zy16, .ref zy17, .ref zy18, .int 0, .long 0, .ref zy21, .ref zy22, .int 0, .ref zy24, .ref zy25, .ref zy26, .ref zy27])), (zy25, .inl (cy 0, 4, .inl (upd ll (3 : Int32).toNatClampNeg zib))), (zy26, .inl (cy 0, 4, .inl (upd (fun _ => 0) (3 : Int32).toNatClampNeg zic))), (zy27, .inl (cy 0, 96, .inl zf0))] H → va_D A [(zy, .inr (11, [.ref zy0, .ref zy1, .int 0, .int 0, .int 0, .ref zy5, .int 0, .int 0, .ref zy8, .ref zy9, .ref zy10, .ref zy11, .ref zy12, .ref zy13, .ref zy14, .long 0, .ref zy16, .ref zy17, .ref zy18, .int 0, .long 0, .ref zy21, .ref zy22, .int 0, .ref zy24, .ref zy25, .ref zy26, .ref zy27])), (zy25, .inl (cy 0, 4, .inl (upd ll (3 : Int32).toNatClampNeg zib))), (zy26, .inl (cy 0, 4, .inl (upd (fun _ => 0) (3 : Int32).toNatClampNeg zic))), (zy27, .inl (cy 0, 96, .inl zf0))] → va_S A H0 H locs → lv_has ls 5 [(0, .ref zy), (1, .int 3), (2, .int zib), (3, .int zic), (4, .int zix)] → W p l e R s m args below meth c H locs cells slots Q (F0 m 40 ls []) := by
  intro n
  induction n with
  | zero =>
    intro zix zf0 H locs ls hn h0 hP hD hS hl
    obtain rfl : zix = 24 := i32_eq 24 (show zix.toInt = 24 by omega) (by decide)
    refine lv_iload hx hb dX11_sheet_40 (lv_at hl 4 rfl) ?_
    refine lv_bipush (v := 24) hx hb dX11_sheet_42 (by decide) ?_
    refine lv_icmp_ge (tgt := 66) hx hb dX11_sheet_44 (by decide) (fun c_29 => ?_) (fun c_29 => absurd (by decide) c_29)
    exact kx _ _ _ _ hP hD hS (lv_sub hl [0, 1, 2, 3, 4] rfl)
  | succ n ih =>
    intro zix zf0 H locs ls hn h0 hP hD hS hl
    refine lv_iload hx hb dX11_sheet_40 (lv_at hl 4 rfl) ?_
    refine lv_bipush (v := 24) hx hb dX11_sheet_42 (by decide) ?_
    refine lv_icmp_ge (tgt := 66) hx hb dX11_sheet_44 (by decide) (fun c_30 => ?_) (fun c_30 => ?_)
    · have f_31 : zix.toInt ≥ (24 : Int) := ic_ge (rfl) (show (24 : Int32).toInt = 24 by decide) c_30
      exfalso; omega
    · have f_31 : ¬ (zix.toInt ≥ (24 : Int)) := ic_nge (rfl) (show (24 : Int32).toInt = 24 by decide) c_30
      refine lv_aload_n hx hb dX11_sheet_47 rfl (lv_at hl 0 rfl) ?_
      refine va_get (D := (dC, dI)) (ci := 11) (v := .ref zy27) (C := RX11) (T := TX11) (N := 28) hx hb hts (by decide +kernel) hown hK hP 0 rfl rfl 27 (by decide) (hts (.fieldLink RX11 65 "DripStoneModel" "items" "[I") (by decide +kernel)) (fun _ h9 => h9) rfl dX11_sheet_48 ?_
      refine lv_bipush (v := 24) hx hb dX11_sheet_51 (by decide) ?_
      refine lv_iload_n hx hb dX11_sheet_53 rfl (lv_at hl 1 rfl) ?_
      refine lv_imul hx hb dX11_sheet_54 ?_
      refine lv_topi (fun v_32 ev_32 => ?_)
      obtain rfl : v_32 = (72 : Int32) := ev_32.trans (by decide)
      refine lv_iload hx hb dX11_sheet_55 (lv_at hl 4 rfl) ?_
      refine lv_iadd hx hb dX11_sheet_57 ?_
      refine lv_topi (fun v_33 ev_33 => ?_)
      have tv_33 : v_33.toInt = (72 : Int) + zix.toInt := by rw [ev_33]; exact tadd (show (72 : Int32).toInt = 72 by decide) (rfl) (by omega) (by omega)
      refine lv_iconst (v := 0) hx hb dX11_sheet_58 (by decide) ?_
      refine va_iast hx hb hK hP hD hS 3 0 rfl rfl (vp_in_iff.mpr ⟨by omega, by omega⟩) dX11_sheet_59 (fun H locs hP hD hS => ?_)
      have hP : va_P (dC, dI) vwCl [(zy, .inr (11, [.ref zy0, .ref zy1, .int 0, .int 0, .int 0, .ref zy5, .int 0, .int 0, .ref zy8, .ref zy9, .ref zy10, .ref zy11, .ref zy12, .ref zy13, .ref zy14, .long 0, .ref zy16, .ref zy17, .ref zy18, .int 0, .long 0, .ref zy21, .ref zy22, .int 0, .ref zy24, .ref zy25, .ref zy26, .ref zy27])), (zy25, .inl (cy 0, 4, .inl (upd ll (3 : Int32).toNatClampNeg zib))), (zy26, .inl (cy 0, 4, .inl (upd (fun _ => 0) (3 : Int32).toNatClampNeg zic))), (zy27, .inl (cy 0, 96, .inl (upd zf0 v_33.toNatClampNeg 0)))] H := hP
      have hD : va_D A [(zy, .inr (11, [.ref zy0, .ref zy1, .int 0, .int 0, .int 0, .ref zy5, .int 0, .int 0, .ref zy8, .ref zy9, .ref zy10, .ref zy11, .ref zy12, .ref zy13, .ref zy14, .long 0, .ref zy16, .ref zy17, .ref zy18, .int 0, .long 0, .ref zy21, .ref zy22, .int 0, .ref zy24, .ref zy25, .ref zy26, .ref zy27])), (zy25, .inl (cy 0, 4, .inl (upd ll (3 : Int32).toNatClampNeg zib))), (zy26, .inl (cy 0, 4, .inl (upd (fun _ => 0) (3 : Int32).toNatClampNeg zic))), (zy27, .inl (cy 0, 96, .inl (upd zf0 v_33.toNatClampNeg 0)))] := hD
      obtain ⟨x_34, ex_34⟩ : ∃ y : Int32, y = zix + 1 := ⟨_, rfl⟩
      have tx_34 : x_34.toInt = zix.toInt + 1 := by rw [ex_34]; exact tadd rfl (show (1 : Int32).toInt = 1 by decide) (by omega) (by omega)
      refine lv_iinc (v := x_34) (lv' := [(4, .int x_34), (0, .ref zy), (1, .int 3), (2, .int zib), (3, .int zic)]) hx hb dX11_sheet_60 hl (k := 4) rfl (by rw [ex_34]; rfl) (by decide) rfl (fun ls hl => ?_)
      refine lv_goto (tgt := 40) hx hb dX11_sheet_63 (by decide) ?_
      exact ih x_34 _ _ _ _ (by omega) (by omega) hP hD hS (lv_sub hl [1, 2, 3, 4, 0] rfl)
set_option maxHeartbeats 4000000 in
set_option maxRecDepth 100000 in
theorem c_X11_sheet (l : Launch) (dC : Nat → ClassId) (dI : Nat → Nat → Nat) (cy : Nat → ClassId) (sz : Nat) (zy : Nat) (zia : Int32) (zib : Int32) (zic : Int32) (zy0 : Nat) (zy1 : Nat) (zy5 : Nat) (zy8 : Nat) (zy9 : Nat) (zy10 : Nat) (zy11 : Nat) (zy12 : Nat) (zy13 : Nat) (zy14 : Nat) (zy16 : Nat) (zy17 : Nat) (zy18 : Nat) (zy21 : Nat) (zy22 : Nat) (zy24 : Nat) (zy25 : Nat) (zy26 : Nat) (zy27 : Nat)  : Met l yX11_sheet wsX11_sheet ({ frames := 2, cells := 0, slots := 0, locals := 46 }) (va_Pc [.ref zy, .int zia, .int zib, .int zic] (PRE dC dI cy [(zy, .inr (11, [.ref zy0, .ref zy1, .int 0, .int 0, .int 0, .ref zy5, .int 0, .int 0, .ref zy8, .ref zy9, .ref zy10, .ref zy11, .ref zy12, .ref zy13, .ref zy14, .long 0, .ref zy16, .ref zy17, .ref zy18, .int 0, .long 0, .ref zy21, .ref zy22, .int 0, .ref zy24, .ref zy25, .ref zy26, .ref zy27])), (zy25, .inl (cy 0, 4, .inl ll)), (zy26, .inl (cy 0, 4, .inl (fun _ => 0))), (zy27, .inl (cy 0, 96, .inl (fun _ => 0)))] sz)) (va_Qi (fun (r : Int32) (_ : Unit) => r = an_sheet zia zib zic) (fun u t => POST dC dI cy (va_A [(zy, .inr (11, [.ref zy0, .ref zy1, .int 0, .int 0, .int 0, .ref zy5, .int 0, .int 0, .ref zy8, .ref zy9, .ref zy10, .ref zy11, .ref zy12, .ref zy13, .ref zy14, .long 0, .ref zy16, .ref zy17, .ref zy18, .int 0, .long 0, .ref zy21, .ref zy22, .int 0, .ref zy24, .ref zy25, .ref zy26, .ref zy27])), (zy25, .inl (cy 0, 4, .inl ll)), (zy26, .inl (cy 0, 4, .inl (fun _ => 0))), (zy27, .inl (cy 0, 96, .inl (fun _ => 0)))] sz) [] t) (va_A [(zy, .inr (11, [.ref zy0, .ref zy1, .int 0, .int 0, .int 0, .ref zy5, .int 0, .int 0, .ref zy8, .ref zy9, .ref zy10, .ref zy11, .ref zy12, .ref zy13, .ref zy14, .long 0, .ref zy16, .ref zy17, .ref zy18, .int 0, .long 0, .ref zy21, .ref zy22, .int 0, .ref zy24, .ref zy25, .ref zy26, .ref zy27])), (zy25, .inl (cy 0, 4, .inl ll)), (zy26, .inl (cy 0, 4, .inl (fun _ => 0))), (zy27, .inl (cy 0, 96, .inl (fun _ => 0)))] sz)) 0 0 (va_A [(zy, .inr (11, [.ref zy0, .ref zy1, .int 0, .int 0, .int 0, .ref zy5, .int 0, .int 0, .ref zy8, .ref zy9, .ref zy10, .ref zy11, .ref zy12, .ref zy13, .ref zy14, .long 0, .ref zy16, .ref zy17, .ref zy18, .int 0, .long 0, .ref zy21, .ref zy22, .int 0, .ref zy24, .ref zy25, .ref zy26, .ref zy27])), (zy25, .inl (cy 0, 4, .inl ll)), (zy26, .inl (cy 0, 4, .inl (fun _ => 0))), (zy27, .inl (cy 0, 96, .inl (fun _ => 0)))] sz) := by
  refine Met.ofW (cc := cX11_sheet) (maxL := 5) (ret := (some .int)) (by decide) rfl ?_
  intro p e s m args below meth c s₁ B hml hv
  obtain ⟨rfl, hsz, hP, hK, hD0, hN⟩ := hv
  have hx := B.exec
  have hb := B.bytes
  have hr := B.returns
  have hts := atoms_spec (ws := wsX11_sheet) B.pre
  have hown : s.vm.findClass RX11 = some m.cls := findClass_of_methodNamed B.named
  have hlocks := B.notSynchronized
  subst hsz
  have hD := hD0.self (sz := s.heap.size)
  generalize hAe : va_A [(zy, .inr (11, [.ref zy0, .ref zy1, .int 0, .int 0, .int 0, .ref zy5, .int 0, .int 0, .ref zy8, .ref zy9, .ref zy10, .ref zy11, .ref zy12, .ref zy13, .ref zy14, .long 0, .ref zy16, .ref zy17, .ref zy18, .int 0, .long 0, .ref zy21, .ref zy22, .int 0, .ref zy24, .ref zy25, .ref zy26, .ref zy27])), (zy25, .inl (cy 0, 4, .inl ll)), (zy26, .inl (cy 0, 4, .inl (fun _ => 0))), (zy27, .inl (cy 0, 96, .inl (fun _ => 0)))] s.heap.size = A at hD ⊢
  have hA : ∀ q : Nat, s.heap.size ≤ q → A q := fun q h => by rw [← hAe]; exact Or.inr h
  have hS : va_S A s.heap s.heap [] := va_S.rf
  have hP : va_P (dC, dI) vwCl [(zy, .inr (11, [.ref zy0, .ref zy1, .int 0, .int 0, .int 0, .ref zy5, .int 0, .int 0, .ref zy8, .ref zy9, .ref zy10, .ref zy11, .ref zy12, .ref zy13, .ref zy14, .long 0, .ref zy16, .ref zy17, .ref zy18, .int 0, .long 0, .ref zy21, .ref zy22, .int 0, .ref zy24, .ref zy25, .ref zy26, .ref zy27])), (zy25, .inl (cy 0, 4, .inl ll)), (zy26, .inl (cy 0, 4, .inl (fun _ => 0))), (zy27, .inl (cy 0, 96, .inl (fun _ => 0)))] s.heap := hP
  have hl := lv_entry ([.ref zy, .int zia, .int zib, .int zic] : List Value) (n := 5) (Nat.le_of_ble_eq_true rfl)
  rw [lg_entry_eq]
  generalize (lg_sl ([.ref zy, .int zia, .int zib, .int zic] : List Value) ++ List.replicate (5 - (lg_sl ([.ref zy, .int zia, .int zib, .int zic] : List Value)).length) Slot.unset).toArray = ls at hl ⊢
  have hl : lv_has ls 5 [(0, .ref zy), (1, .int zia), (2, .int zib), (3, .int zic)] := hl
  refine lv_iload_n hx hb dX11_sheet_0 rfl (lv_at hl 1 rfl) ?_
  refine lv_iload_n hx hb dX11_sheet_1 rfl (lv_at hl 2 rfl) ?_
  refine cj_i (wc := []) (wr := [(zy, .inr (11, [.ref zy0, .ref zy1, .int 0, .int 0, .int 0, .ref zy5, .int 0, .int 0, .ref zy8, .ref zy9, .ref zy10, .ref zy11, .ref zy12, .ref zy13, .ref zy14, .long 0, .ref zy16, .ref zy17, .ref zy18, .int 0, .long 0, .ref zy21, .ref zy22, .int 0, .ref zy24, .ref zy25, .ref zy26, .ref zy27])), (zy25, .inl (cy 0, 4, .inl ll)), (zy26, .inl (cy 0, 4, .inl (fun _ => 0))), (zy27, .inl (cy 0, 96, .inl (fun _ => 0)))]) (w1 := fun (_ : Unit) => []) (va_runS (As := [.int zia, .int zib]) (rest := []) ⟨hx, hb, hml, hown, hts⟩ (c_X11_isSheet l dC dI cy s.heap.size zia zib) (va_cwS 2 hts gX11_sheet_X11_isSheet rfl rfl rfl (by decide +kernel) ⟨(Nat.le_of_ble_eq_true rfl), (Nat.le_of_ble_eq_true rfl)⟩) (PRE.s (hP.sub [] rfl) hK (hD.sub [] (by decide) rfl) hN) rfl rfl hl.1 rfl (lv_room (Nat.le_of_ble_eq_true rfl)) dX11_sheet_2 ⟨(Nat.le_of_ble_eq_true rfl), (Nat.le_of_ble_eq_true rfl)⟩) hP hD hS hA [] [0, 1, 2, 3] rfl rfl rfl (by decide) (fun r_2 u_1 H locs hw_3 hP hD hS => ?_)
  have hP : va_P (dC, dI) vwCl [(zy, .inr (11, [.ref zy0, .ref zy1, .int 0, .int 0, .int 0, .ref zy5, .int 0, .int 0, .ref zy8, .ref zy9, .ref zy10, .ref zy11, .ref zy12, .ref zy13, .ref zy14, .long 0, .ref zy16, .ref zy17, .ref zy18, .int 0, .long 0, .ref zy21, .ref zy22, .int 0, .ref zy24, .ref zy25, .ref zy26, .ref zy27])), (zy25, .inl (cy 0, 4, .inl ll)), (zy26, .inl (cy 0, 4, .inl (fun _ => 0))), (zy27, .inl (cy 0, 96, .inl (fun _ => 0)))] H := hP
  have hD : va_D A [(zy, .inr (11, [.ref zy0, .ref zy1, .int 0, .int 0, .int 0, .ref zy5, .int 0, .int 0, .ref zy8, .ref zy9, .ref zy10, .ref zy11, .ref zy12, .ref zy13, .ref zy14, .long 0, .ref zy16, .ref zy17, .ref zy18, .int 0, .long 0, .ref zy21, .ref zy22, .int 0, .ref zy24, .ref zy25, .ref zy26, .ref zy27])), (zy25, .inl (cy 0, 4, .inl ll)), (zy26, .inl (cy 0, 4, .inl (fun _ => 0))), (zy27, .inl (cy 0, 96, .inl (fun _ => 0)))] := hD
  have hw_3 : r_2 = if (0 ≤ zia.toInt ∧ zia.toInt ≤ 3) ∧ 0 ≤ zib.toInt ∧ zib.toInt ≤ 2 then 1 else 0 := hw_3
  refine lv_if_eq (tgt := 14) hx hb dX11_sheet_5 (by decide) (fun c_4 => ?_) (fun c_4 => ?_)
  · have f_5 : ¬ ((0 ≤ zia.toInt ∧ zia.toInt ≤ 3) ∧ 0 ≤ zib.toInt ∧ zib.toInt ≤ 2) := bz_0 hw_3 c_4
    refine lv_iconst (v := (-1)) hx hb dX11_sheet_14 (by decide) ?_
    have hP9 := hP.sub (ws' := []) [] rfl
    have hD9 := hD.sub (ws' := []) [] (by decide) rfl
    exact W.iret (v := (-1)) hx hb hr (fun t ht hW => ⟨⟨(-1), (), rfl, (by unfold an_sheet; (repeat' split) <;> first | rfl | (exfalso; omega)), ⟨by rw [ht]; exact hP9, va_K.moved hW.alike hK, hD9⟩⟩, hS.F ht⟩) hS.2.2 dX11_sheet_15
  · have f_5 : (0 ≤ zia.toInt ∧ zia.toInt ≤ 3) ∧ 0 ≤ zib.toInt ∧ zib.toInt ≤ 2 := bz_1 hw_3 c_4
    refine lv_iload_n hx hb dX11_sheet_8 rfl (lv_at hl 3 rfl) ?_
    refine lv_bipush (v := 24) hx hb dX11_sheet_9 (by decide) ?_
    refine lv_icmp_le (tgt := 16) hx hb dX11_sheet_11 (by decide) (fun c_6 => ?_) (fun c_6 => ?_)
    · have f_7 : zic.toInt ≤ (24 : Int) := ic_le (rfl) (show (24 : Int32).toInt = 24 by decide) c_6
      refine lv_iload_n hx hb dX11_sheet_16 rfl (lv_at hl 3 rfl) ?_
      refine lv_if_ge (tgt := 23) hx hb dX11_sheet_17 (by decide) (fun c_8 => ?_) (fun c_8 => ?_)
      · have f_9 : zic.toInt ≥ 0 := ic_ge (rfl) (by decide) c_8
        have k_10 : zia = 0 ∨ zia = 1 ∨ zia = 2 ∨ zia = 3 := ix_4 (by omega) (by omega)
        rcases k_10 with rfl | rfl | rfl | rfl
        · have zk_10_0 : (0 : Int32).toInt = 0 := by decide
          refine lv_aload_n hx hb dX11_sheet_23 rfl (lv_at hl 0 rfl) ?_
          refine va_get (D := (dC, dI)) (ci := 11) (v := .ref zy25) (C := RX11) (T := TX11) (N := 28) hx hb hts (by decide +kernel) hown hK hP 0 rfl rfl 25 (by decide) (hts (.fieldLink RX11 59 "DripStoneModel" "lanes" "[I") (by decide +kernel)) (fun _ h9 => h9) rfl dX11_sheet_24 ?_
          refine lv_iload_n hx hb dX11_sheet_27 rfl (lv_at hl 1 rfl) ?_
          refine lv_iload_n hx hb dX11_sheet_28 rfl (lv_at hl 2 rfl) ?_
          refine va_iast hx hb hK hP hD hS 1 0 rfl rfl (vp_in_iff.mpr ⟨by decide, by decide⟩) dX11_sheet_29 (fun H locs hP hD hS => ?_)
          have hP : va_P (dC, dI) vwCl [(zy, .inr (11, [.ref zy0, .ref zy1, .int 0, .int 0, .int 0, .ref zy5, .int 0, .int 0, .ref zy8, .ref zy9, .ref zy10, .ref zy11, .ref zy12, .ref zy13, .ref zy14, .long 0, .ref zy16, .ref zy17, .ref zy18, .int 0, .long 0, .ref zy21, .ref zy22, .int 0, .ref zy24, .ref zy25, .ref zy26, .ref zy27])), (zy25, .inl (cy 0, 4, .inl (upd ll (0 : Int32).toNatClampNeg zib))), (zy26, .inl (cy 0, 4, .inl (fun _ => 0))), (zy27, .inl (cy 0, 96, .inl (fun _ => 0)))] H := hP
          have hD : va_D A [(zy, .inr (11, [.ref zy0, .ref zy1, .int 0, .int 0, .int 0, .ref zy5, .int 0, .int 0, .ref zy8, .ref zy9, .ref zy10, .ref zy11, .ref zy12, .ref zy13, .ref zy14, .long 0, .ref zy16, .ref zy17, .ref zy18, .int 0, .long 0, .ref zy21, .ref zy22, .int 0, .ref zy24, .ref zy25, .ref zy26, .ref zy27])), (zy25, .inl (cy 0, 4, .inl (upd ll (0 : Int32).toNatClampNeg zib))), (zy26, .inl (cy 0, 4, .inl (fun _ => 0))), (zy27, .inl (cy 0, 96, .inl (fun _ => 0)))] := hD
          refine lv_aload_n hx hb dX11_sheet_30 rfl (lv_at hl 0 rfl) ?_
          refine va_get (D := (dC, dI)) (ci := 11) (v := .ref zy26) (C := RX11) (T := TX11) (N := 28) hx hb hts (by decide +kernel) hown hK hP 0 rfl rfl 26 (by decide) (hts (.fieldLink RX11 62 "DripStoneModel" "rowSizes" "[I") (by decide +kernel)) (fun _ h9 => h9) rfl dX11_sheet_31 ?_
          refine lv_iload_n hx hb dX11_sheet_34 rfl (lv_at hl 1 rfl) ?_
          refine lv_iload_n hx hb dX11_sheet_35 rfl (lv_at hl 3 rfl) ?_
          refine va_iast hx hb hK hP hD hS 2 0 rfl rfl (vp_in_iff.mpr ⟨by decide, by decide⟩) dX11_sheet_36 (fun H locs hP hD hS => ?_)
          have hP : va_P (dC, dI) vwCl [(zy, .inr (11, [.ref zy0, .ref zy1, .int 0, .int 0, .int 0, .ref zy5, .int 0, .int 0, .ref zy8, .ref zy9, .ref zy10, .ref zy11, .ref zy12, .ref zy13, .ref zy14, .long 0, .ref zy16, .ref zy17, .ref zy18, .int 0, .long 0, .ref zy21, .ref zy22, .int 0, .ref zy24, .ref zy25, .ref zy26, .ref zy27])), (zy25, .inl (cy 0, 4, .inl (upd ll (0 : Int32).toNatClampNeg zib))), (zy26, .inl (cy 0, 4, .inl (upd (fun _ => 0) (0 : Int32).toNatClampNeg zic))), (zy27, .inl (cy 0, 96, .inl (fun _ => 0)))] H := hP
          have hD : va_D A [(zy, .inr (11, [.ref zy0, .ref zy1, .int 0, .int 0, .int 0, .ref zy5, .int 0, .int 0, .ref zy8, .ref zy9, .ref zy10, .ref zy11, .ref zy12, .ref zy13, .ref zy14, .long 0, .ref zy16, .ref zy17, .ref zy18, .int 0, .long 0, .ref zy21, .ref zy22, .int 0, .ref zy24, .ref zy25, .ref zy26, .ref zy27])), (zy25, .inl (cy 0, 4, .inl (upd ll (0 : Int32).toNatClampNeg zib))), (zy26, .inl (cy 0, 4, .inl (upd (fun _ => 0) (0 : Int32).toNatClampNeg zic))), (zy27, .inl (cy 0, 96, .inl (fun _ => 0)))] := hD
          refine lv_iconst (v := 0) hx hb dX11_sheet_37 (by decide) ?_
          refine lv_istore (lv' := [(4, .int 0), (0, .ref zy), (1, .int 0), (2, .int zib), (3, .int zic)]) hx hb dX11_sheet_38 hl (by decide) rfl (fun ls hl => ?_)
          refine lp_c_X11_sheet_40_0 dC dI cy zy zy0 zy1 zy5 zy8 zy9 zy10 zy11 zy12 zy13 zy14 zy16 zy17 zy18 zy21 zy22 zy24 zy25 zy26 zy27 zib zic hx hb hts hown hK hA (fun zf0 H locs ls hP hD hS hl => ?_) 24 0 _ _ _ _ (by decide) (by decide) hP hD hS (lv_sub hl [1, 2, 3, 4, 0] rfl)
          refine lv_iload_n hx hb dX11_sheet_66 rfl (lv_at hl 3 rfl) ?_
          have hP9 := hP.sub (ws' := []) [] rfl
          have hD9 := hD.sub (ws' := []) [] (by decide) rfl
          exact W.iret (v := zic) hx hb hr (fun t ht hW => ⟨⟨zic, (), rfl, (by unfold an_sheet; (repeat' split) <;> first | rfl | (exfalso; omega)), ⟨by rw [ht]; exact hP9, va_K.moved hW.alike hK, hD9⟩⟩, hS.F ht⟩) hS.2.2 dX11_sheet_67
        · have zk_10_1 : (1 : Int32).toInt = 1 := by decide
          refine lv_aload_n hx hb dX11_sheet_23 rfl (lv_at hl 0 rfl) ?_
          refine va_get (D := (dC, dI)) (ci := 11) (v := .ref zy25) (C := RX11) (T := TX11) (N := 28) hx hb hts (by decide +kernel) hown hK hP 0 rfl rfl 25 (by decide) (hts (.fieldLink RX11 59 "DripStoneModel" "lanes" "[I") (by decide +kernel)) (fun _ h9 => h9) rfl dX11_sheet_24 ?_
          refine lv_iload_n hx hb dX11_sheet_27 rfl (lv_at hl 1 rfl) ?_
          refine lv_iload_n hx hb dX11_sheet_28 rfl (lv_at hl 2 rfl) ?_
          refine va_iast hx hb hK hP hD hS 1 0 rfl rfl (vp_in_iff.mpr ⟨by decide, by decide⟩) dX11_sheet_29 (fun H locs hP hD hS => ?_)
          have hP : va_P (dC, dI) vwCl [(zy, .inr (11, [.ref zy0, .ref zy1, .int 0, .int 0, .int 0, .ref zy5, .int 0, .int 0, .ref zy8, .ref zy9, .ref zy10, .ref zy11, .ref zy12, .ref zy13, .ref zy14, .long 0, .ref zy16, .ref zy17, .ref zy18, .int 0, .long 0, .ref zy21, .ref zy22, .int 0, .ref zy24, .ref zy25, .ref zy26, .ref zy27])), (zy25, .inl (cy 0, 4, .inl (upd ll (1 : Int32).toNatClampNeg zib))), (zy26, .inl (cy 0, 4, .inl (fun _ => 0))), (zy27, .inl (cy 0, 96, .inl (fun _ => 0)))] H := hP
          have hD : va_D A [(zy, .inr (11, [.ref zy0, .ref zy1, .int 0, .int 0, .int 0, .ref zy5, .int 0, .int 0, .ref zy8, .ref zy9, .ref zy10, .ref zy11, .ref zy12, .ref zy13, .ref zy14, .long 0, .ref zy16, .ref zy17, .ref zy18, .int 0, .long 0, .ref zy21, .ref zy22, .int 0, .ref zy24, .ref zy25, .ref zy26, .ref zy27])), (zy25, .inl (cy 0, 4, .inl (upd ll (1 : Int32).toNatClampNeg zib))), (zy26, .inl (cy 0, 4, .inl (fun _ => 0))), (zy27, .inl (cy 0, 96, .inl (fun _ => 0)))] := hD
          refine lv_aload_n hx hb dX11_sheet_30 rfl (lv_at hl 0 rfl) ?_
          refine va_get (D := (dC, dI)) (ci := 11) (v := .ref zy26) (C := RX11) (T := TX11) (N := 28) hx hb hts (by decide +kernel) hown hK hP 0 rfl rfl 26 (by decide) (hts (.fieldLink RX11 62 "DripStoneModel" "rowSizes" "[I") (by decide +kernel)) (fun _ h9 => h9) rfl dX11_sheet_31 ?_
          refine lv_iload_n hx hb dX11_sheet_34 rfl (lv_at hl 1 rfl) ?_
          refine lv_iload_n hx hb dX11_sheet_35 rfl (lv_at hl 3 rfl) ?_
          refine va_iast hx hb hK hP hD hS 2 0 rfl rfl (vp_in_iff.mpr ⟨by decide, by decide⟩) dX11_sheet_36 (fun H locs hP hD hS => ?_)
          have hP : va_P (dC, dI) vwCl [(zy, .inr (11, [.ref zy0, .ref zy1, .int 0, .int 0, .int 0, .ref zy5, .int 0, .int 0, .ref zy8, .ref zy9, .ref zy10, .ref zy11, .ref zy12, .ref zy13, .ref zy14, .long 0, .ref zy16, .ref zy17, .ref zy18, .int 0, .long 0, .ref zy21, .ref zy22, .int 0, .ref zy24, .ref zy25, .ref zy26, .ref zy27])), (zy25, .inl (cy 0, 4, .inl (upd ll (1 : Int32).toNatClampNeg zib))), (zy26, .inl (cy 0, 4, .inl (upd (fun _ => 0) (1 : Int32).toNatClampNeg zic))), (zy27, .inl (cy 0, 96, .inl (fun _ => 0)))] H := hP
          have hD : va_D A [(zy, .inr (11, [.ref zy0, .ref zy1, .int 0, .int 0, .int 0, .ref zy5, .int 0, .int 0, .ref zy8, .ref zy9, .ref zy10, .ref zy11, .ref zy12, .ref zy13, .ref zy14, .long 0, .ref zy16, .ref zy17, .ref zy18, .int 0, .long 0, .ref zy21, .ref zy22, .int 0, .ref zy24, .ref zy25, .ref zy26, .ref zy27])), (zy25, .inl (cy 0, 4, .inl (upd ll (1 : Int32).toNatClampNeg zib))), (zy26, .inl (cy 0, 4, .inl (upd (fun _ => 0) (1 : Int32).toNatClampNeg zic))), (zy27, .inl (cy 0, 96, .inl (fun _ => 0)))] := hD
          refine lv_iconst (v := 0) hx hb dX11_sheet_37 (by decide) ?_
          refine lv_istore (lv' := [(4, .int 0), (0, .ref zy), (1, .int 1), (2, .int zib), (3, .int zic)]) hx hb dX11_sheet_38 hl (by decide) rfl (fun ls hl => ?_)
          refine lp_c_X11_sheet_40_42 dC dI cy zy zy0 zy1 zy5 zy8 zy9 zy10 zy11 zy12 zy13 zy14 zy16 zy17 zy18 zy21 zy22 zy24 zy25 zy26 zy27 zib zic hx hb hts hown hK hA (fun zf0 H locs ls hP hD hS hl => ?_) 24 0 _ _ _ _ (by decide) (by decide) hP hD hS (lv_sub hl [1, 2, 3, 4, 0] rfl)
          refine lv_iload_n hx hb dX11_sheet_66 rfl (lv_at hl 3 rfl) ?_
          have hP9 := hP.sub (ws' := []) [] rfl
          have hD9 := hD.sub (ws' := []) [] (by decide) rfl
          exact W.iret (v := zic) hx hb hr (fun t ht hW => ⟨⟨zic, (), rfl, (by unfold an_sheet; (repeat' split) <;> first | rfl | (exfalso; omega)), ⟨by rw [ht]; exact hP9, va_K.moved hW.alike hK, hD9⟩⟩, hS.F ht⟩) hS.2.2 dX11_sheet_67
        · have zk_10_2 : (2 : Int32).toInt = 2 := by decide
          refine lv_aload_n hx hb dX11_sheet_23 rfl (lv_at hl 0 rfl) ?_
          refine va_get (D := (dC, dI)) (ci := 11) (v := .ref zy25) (C := RX11) (T := TX11) (N := 28) hx hb hts (by decide +kernel) hown hK hP 0 rfl rfl 25 (by decide) (hts (.fieldLink RX11 59 "DripStoneModel" "lanes" "[I") (by decide +kernel)) (fun _ h9 => h9) rfl dX11_sheet_24 ?_
          refine lv_iload_n hx hb dX11_sheet_27 rfl (lv_at hl 1 rfl) ?_
          refine lv_iload_n hx hb dX11_sheet_28 rfl (lv_at hl 2 rfl) ?_
          refine va_iast hx hb hK hP hD hS 1 0 rfl rfl (vp_in_iff.mpr ⟨by decide, by decide⟩) dX11_sheet_29 (fun H locs hP hD hS => ?_)
          have hP : va_P (dC, dI) vwCl [(zy, .inr (11, [.ref zy0, .ref zy1, .int 0, .int 0, .int 0, .ref zy5, .int 0, .int 0, .ref zy8, .ref zy9, .ref zy10, .ref zy11, .ref zy12, .ref zy13, .ref zy14, .long 0, .ref zy16, .ref zy17, .ref zy18, .int 0, .long 0, .ref zy21, .ref zy22, .int 0, .ref zy24, .ref zy25, .ref zy26, .ref zy27])), (zy25, .inl (cy 0, 4, .inl (upd ll (2 : Int32).toNatClampNeg zib))), (zy26, .inl (cy 0, 4, .inl (fun _ => 0))), (zy27, .inl (cy 0, 96, .inl (fun _ => 0)))] H := hP
          have hD : va_D A [(zy, .inr (11, [.ref zy0, .ref zy1, .int 0, .int 0, .int 0, .ref zy5, .int 0, .int 0, .ref zy8, .ref zy9, .ref zy10, .ref zy11, .ref zy12, .ref zy13, .ref zy14, .long 0, .ref zy16, .ref zy17, .ref zy18, .int 0, .long 0, .ref zy21, .ref zy22, .int 0, .ref zy24, .ref zy25, .ref zy26, .ref zy27])), (zy25, .inl (cy 0, 4, .inl (upd ll (2 : Int32).toNatClampNeg zib))), (zy26, .inl (cy 0, 4, .inl (fun _ => 0))), (zy27, .inl (cy 0, 96, .inl (fun _ => 0)))] := hD
          refine lv_aload_n hx hb dX11_sheet_30 rfl (lv_at hl 0 rfl) ?_
          refine va_get (D := (dC, dI)) (ci := 11) (v := .ref zy26) (C := RX11) (T := TX11) (N := 28) hx hb hts (by decide +kernel) hown hK hP 0 rfl rfl 26 (by decide) (hts (.fieldLink RX11 62 "DripStoneModel" "rowSizes" "[I") (by decide +kernel)) (fun _ h9 => h9) rfl dX11_sheet_31 ?_
          refine lv_iload_n hx hb dX11_sheet_34 rfl (lv_at hl 1 rfl) ?_
          refine lv_iload_n hx hb dX11_sheet_35 rfl (lv_at hl 3 rfl) ?_
          refine va_iast hx hb hK hP hD hS 2 0 rfl rfl (vp_in_iff.mpr ⟨by decide, by decide⟩) dX11_sheet_36 (fun H locs hP hD hS => ?_)
          have hP : va_P (dC, dI) vwCl [(zy, .inr (11, [.ref zy0, .ref zy1, .int 0, .int 0, .int 0, .ref zy5, .int 0, .int 0, .ref zy8, .ref zy9, .ref zy10, .ref zy11, .ref zy12, .ref zy13, .ref zy14, .long 0, .ref zy16, .ref zy17, .ref zy18, .int 0, .long 0, .ref zy21, .ref zy22, .int 0, .ref zy24, .ref zy25, .ref zy26, .ref zy27])), (zy25, .inl (cy 0, 4, .inl (upd ll (2 : Int32).toNatClampNeg zib))), (zy26, .inl (cy 0, 4, .inl (upd (fun _ => 0) (2 : Int32).toNatClampNeg zic))), (zy27, .inl (cy 0, 96, .inl (fun _ => 0)))] H := hP
          have hD : va_D A [(zy, .inr (11, [.ref zy0, .ref zy1, .int 0, .int 0, .int 0, .ref zy5, .int 0, .int 0, .ref zy8, .ref zy9, .ref zy10, .ref zy11, .ref zy12, .ref zy13, .ref zy14, .long 0, .ref zy16, .ref zy17, .ref zy18, .int 0, .long 0, .ref zy21, .ref zy22, .int 0, .ref zy24, .ref zy25, .ref zy26, .ref zy27])), (zy25, .inl (cy 0, 4, .inl (upd ll (2 : Int32).toNatClampNeg zib))), (zy26, .inl (cy 0, 4, .inl (upd (fun _ => 0) (2 : Int32).toNatClampNeg zic))), (zy27, .inl (cy 0, 96, .inl (fun _ => 0)))] := hD
          refine lv_iconst (v := 0) hx hb dX11_sheet_37 (by decide) ?_
          refine lv_istore (lv' := [(4, .int 0), (0, .ref zy), (1, .int 2), (2, .int zib), (3, .int zic)]) hx hb dX11_sheet_38 hl (by decide) rfl (fun ls hl => ?_)
          refine lp_c_X11_sheet_40_84 dC dI cy zy zy0 zy1 zy5 zy8 zy9 zy10 zy11 zy12 zy13 zy14 zy16 zy17 zy18 zy21 zy22 zy24 zy25 zy26 zy27 zib zic hx hb hts hown hK hA (fun zf0 H locs ls hP hD hS hl => ?_) 24 0 _ _ _ _ (by decide) (by decide) hP hD hS (lv_sub hl [1, 2, 3, 4, 0] rfl)
          refine lv_iload_n hx hb dX11_sheet_66 rfl (lv_at hl 3 rfl) ?_
          have hP9 := hP.sub (ws' := []) [] rfl
          have hD9 := hD.sub (ws' := []) [] (by decide) rfl
          exact W.iret (v := zic) hx hb hr (fun t ht hW => ⟨⟨zic, (), rfl, (by unfold an_sheet; (repeat' split) <;> first | rfl | (exfalso; omega)), ⟨by rw [ht]; exact hP9, va_K.moved hW.alike hK, hD9⟩⟩, hS.F ht⟩) hS.2.2 dX11_sheet_67
        · have zk_10_3 : (3 : Int32).toInt = 3 := by decide
          refine lv_aload_n hx hb dX11_sheet_23 rfl (lv_at hl 0 rfl) ?_
          refine va_get (D := (dC, dI)) (ci := 11) (v := .ref zy25) (C := RX11) (T := TX11) (N := 28) hx hb hts (by decide +kernel) hown hK hP 0 rfl rfl 25 (by decide) (hts (.fieldLink RX11 59 "DripStoneModel" "lanes" "[I") (by decide +kernel)) (fun _ h9 => h9) rfl dX11_sheet_24 ?_
          refine lv_iload_n hx hb dX11_sheet_27 rfl (lv_at hl 1 rfl) ?_
          refine lv_iload_n hx hb dX11_sheet_28 rfl (lv_at hl 2 rfl) ?_
          refine va_iast hx hb hK hP hD hS 1 0 rfl rfl (vp_in_iff.mpr ⟨by decide, by decide⟩) dX11_sheet_29 (fun H locs hP hD hS => ?_)
          have hP : va_P (dC, dI) vwCl [(zy, .inr (11, [.ref zy0, .ref zy1, .int 0, .int 0, .int 0, .ref zy5, .int 0, .int 0, .ref zy8, .ref zy9, .ref zy10, .ref zy11, .ref zy12, .ref zy13, .ref zy14, .long 0, .ref zy16, .ref zy17, .ref zy18, .int 0, .long 0, .ref zy21, .ref zy22, .int 0, .ref zy24, .ref zy25, .ref zy26, .ref zy27])), (zy25, .inl (cy 0, 4, .inl (upd ll (3 : Int32).toNatClampNeg zib))), (zy26, .inl (cy 0, 4, .inl (fun _ => 0))), (zy27, .inl (cy 0, 96, .inl (fun _ => 0)))] H := hP
          have hD : va_D A [(zy, .inr (11, [.ref zy0, .ref zy1, .int 0, .int 0, .int 0, .ref zy5, .int 0, .int 0, .ref zy8, .ref zy9, .ref zy10, .ref zy11, .ref zy12, .ref zy13, .ref zy14, .long 0, .ref zy16, .ref zy17, .ref zy18, .int 0, .long 0, .ref zy21, .ref zy22, .int 0, .ref zy24, .ref zy25, .ref zy26, .ref zy27])), (zy25, .inl (cy 0, 4, .inl (upd ll (3 : Int32).toNatClampNeg zib))), (zy26, .inl (cy 0, 4, .inl (fun _ => 0))), (zy27, .inl (cy 0, 96, .inl (fun _ => 0)))] := hD
          refine lv_aload_n hx hb dX11_sheet_30 rfl (lv_at hl 0 rfl) ?_
          refine va_get (D := (dC, dI)) (ci := 11) (v := .ref zy26) (C := RX11) (T := TX11) (N := 28) hx hb hts (by decide +kernel) hown hK hP 0 rfl rfl 26 (by decide) (hts (.fieldLink RX11 62 "DripStoneModel" "rowSizes" "[I") (by decide +kernel)) (fun _ h9 => h9) rfl dX11_sheet_31 ?_
          refine lv_iload_n hx hb dX11_sheet_34 rfl (lv_at hl 1 rfl) ?_
          refine lv_iload_n hx hb dX11_sheet_35 rfl (lv_at hl 3 rfl) ?_
          refine va_iast hx hb hK hP hD hS 2 0 rfl rfl (vp_in_iff.mpr ⟨by decide, by decide⟩) dX11_sheet_36 (fun H locs hP hD hS => ?_)
          have hP : va_P (dC, dI) vwCl [(zy, .inr (11, [.ref zy0, .ref zy1, .int 0, .int 0, .int 0, .ref zy5, .int 0, .int 0, .ref zy8, .ref zy9, .ref zy10, .ref zy11, .ref zy12, .ref zy13, .ref zy14, .long 0, .ref zy16, .ref zy17, .ref zy18, .int 0, .long 0, .ref zy21, .ref zy22, .int 0, .ref zy24, .ref zy25, .ref zy26, .ref zy27])), (zy25, .inl (cy 0, 4, .inl (upd ll (3 : Int32).toNatClampNeg zib))), (zy26, .inl (cy 0, 4, .inl (upd (fun _ => 0) (3 : Int32).toNatClampNeg zic))), (zy27, .inl (cy 0, 96, .inl (fun _ => 0)))] H := hP
          have hD : va_D A [(zy, .inr (11, [.ref zy0, .ref zy1, .int 0, .int 0, .int 0, .ref zy5, .int 0, .int 0, .ref zy8, .ref zy9, .ref zy10, .ref zy11, .ref zy12, .ref zy13, .ref zy14, .long 0, .ref zy16, .ref zy17, .ref zy18, .int 0, .long 0, .ref zy21, .ref zy22, .int 0, .ref zy24, .ref zy25, .ref zy26, .ref zy27])), (zy25, .inl (cy 0, 4, .inl (upd ll (3 : Int32).toNatClampNeg zib))), (zy26, .inl (cy 0, 4, .inl (upd (fun _ => 0) (3 : Int32).toNatClampNeg zic))), (zy27, .inl (cy 0, 96, .inl (fun _ => 0)))] := hD
          refine lv_iconst (v := 0) hx hb dX11_sheet_37 (by decide) ?_
          refine lv_istore (lv' := [(4, .int 0), (0, .ref zy), (1, .int 3), (2, .int zib), (3, .int zic)]) hx hb dX11_sheet_38 hl (by decide) rfl (fun ls hl => ?_)
          refine lp_c_X11_sheet_40_126 dC dI cy zy zy0 zy1 zy5 zy8 zy9 zy10 zy11 zy12 zy13 zy14 zy16 zy17 zy18 zy21 zy22 zy24 zy25 zy26 zy27 zib zic hx hb hts hown hK hA (fun zf0 H locs ls hP hD hS hl => ?_) 24 0 _ _ _ _ (by decide) (by decide) hP hD hS (lv_sub hl [1, 2, 3, 4, 0] rfl)
          refine lv_iload_n hx hb dX11_sheet_66 rfl (lv_at hl 3 rfl) ?_
          have hP9 := hP.sub (ws' := []) [] rfl
          have hD9 := hD.sub (ws' := []) [] (by decide) rfl
          exact W.iret (v := zic) hx hb hr (fun t ht hW => ⟨⟨zic, (), rfl, (by unfold an_sheet; (repeat' split) <;> first | rfl | (exfalso; omega)), ⟨by rw [ht]; exact hP9, va_K.moved hW.alike hK, hD9⟩⟩, hS.F ht⟩) hS.2.2 dX11_sheet_67
      · have f_9 : ¬ (zic.toInt ≥ 0) := ic_nge (rfl) (by decide) c_8
        refine lv_bipush (v := (-14)) hx hb dX11_sheet_20 (by decide) ?_
        have hP9 := hP.sub (ws' := []) [] rfl
        have hD9 := hD.sub (ws' := []) [] (by decide) rfl
        exact W.iret (v := (-14)) hx hb hr (fun t ht hW => ⟨⟨(-14), (), rfl, (by unfold an_sheet; (repeat' split) <;> first | rfl | (exfalso; omega)), ⟨by rw [ht]; exact hP9, va_K.moved hW.alike hK, hD9⟩⟩, hS.F ht⟩) hS.2.2 dX11_sheet_22
    · have f_7 : ¬ (zic.toInt ≤ (24 : Int)) := ic_nle (rfl) (show (24 : Int32).toInt = 24 by decide) c_6
      refine lv_iconst (v := (-1)) hx hb dX11_sheet_14 (by decide) ?_
      have hP9 := hP.sub (ws' := []) [] rfl
      have hD9 := hD.sub (ws' := []) [] (by decide) rfl
      exact W.iret (v := (-1)) hx hb hr (fun t ht hW => ⟨⟨(-1), (), rfl, (by unfold an_sheet; (repeat' split) <;> first | rfl | (exfalso; omega)), ⟨by rw [ht]; exact hP9, va_K.moved hW.alike hK, hD9⟩⟩, hS.F ht⟩) hS.2.2 dX11_sheet_15
set_option maxHeartbeats 4000000 in
set_option maxRecDepth 100000 in
theorem lp_c_X11_image_2_0 {p : Program} {l : Launch} {e : Env} {R : Room} {s : State} {m : MethodId} {args : Array Value} {below : List Frame} {meth : Method} {c : Code} {cells slots : Nat} {Q : State → Prop} {A : Nat → Prop} {H0 : Heap} (dC : Nat → ClassId) (dI : Nat → Nat → Nat) (cy : Nat → ClassId) (zy : Nat) (zy0 : Nat) (zy1 : Nat) (zy5 : Nat) (zy8 : Nat) (zy9 : Nat) (zy10 : Nat) (zy11 : Nat) (zy12 : Nat) (zy13 : Nat) (zy14 : Nat) (zy16 : Nat) (zy17 : Nat) (zy18 : Nat) (zy21 : Nat) (zy22 : Nat) (zy24 : Nat) (zy25 : Nat) (zy26 : Nat) (zy27 : Nat) (hx : p.tables.exec = Jvm.exec) (hb : c.code = cX11_image) (hts : ∀ w ∈ wsX11_image, w.before args s = true) (hown : s.vm.findClass RX11 = some m.cls) (hK : va_K (dC, dI) vwCl (TY cy) s) (hA : ∀ q : Nat, H0.size ≤ q → A q)
    (kx : ∀ (zf0 : Nat → Int32) (H : Heap) (locs : List Loc) (ls : Array Slot), va_P (dC, dI) vwCl [(zy, .inr (11, [.ref zy0, .ref zy1, .int 0, .int 0, .int 0, .ref zy5, .int 0, .int 0, .ref zy8, .ref zy9, .ref zy10, .ref zy11, .ref zy12, .ref zy13, .ref zy14, .long 0, .ref zy16, .ref zy17, .ref zy18, .int 0, .long 0, .ref zy21, .ref zy22, .int 0, .ref zy24, .ref zy25, .ref zy26, .ref zy27])), (zy0, .inl (cy 0, 392, .inl zz)), (zy24, .inl (cy 0, 392, .inl zf0))] H → va_D A [(zy, .inr (11, [.ref zy0, .ref zy1, .int 0, .int 0, .int 0, .ref zy5, .int 0, .int 0, .ref zy8, .ref zy9, .ref zy10, .ref zy11, .ref zy12, .ref zy13, .ref zy14, .long 0, .ref zy16, .ref zy17, .ref zy18, .int 0, .long 0, .ref zy21, .ref zy22, .int 0, .ref zy24, .ref zy25, .ref zy26, .ref zy27])), (zy0, .inl (cy 0, 392, .inl zz)), (zy24, .inl (cy 0, 392, .inl zf0))] → va_S A H0 H locs → lv_has ls 2 [(0, .ref zy), (1, .int 392)] → W p l e R s m args below meth c H locs cells slots Q (F0 m 27 ls [])) :
    ∀ (n : Nat) (zix : Int32) (zf0 : Nat → Int32) (H : Heap) (locs : List Loc) (ls : Array Slot), zix.toInt + n = 392 → 0 ≤ zix.toInt → va_P (dC, dI) vwCl [(zy, .inr (11, [.ref zy0, .ref zy1, .int 0, .int 0, .int 0, .ref zy5, .int 0, .int 0, .ref zy8, .ref zy9, .ref zy10, .ref zy11, .ref zy12, .ref zy13, .ref zy14, .long 0, .ref zy16, .ref zy17, .ref zy18, .int 0, .long 0, .ref zy21, .ref zy22, .int 0, .ref zy24, .ref zy25, .ref zy26, .ref zy27])), (zy0, .inl (cy 0, 392, .inl zz)), (zy24, .inl (cy 0, 392, .inl zf0))] H → va_D A [(zy, .inr (11, [.ref zy0, .ref zy1, .int 0, .int 0, .int 0, .ref zy5, .int 0, .int 0, .ref zy8, .ref zy9, .ref zy10, .ref zy11, .ref zy12, .ref zy13, .ref zy14, .long 0, .ref zy16, .ref zy17, .ref zy18, .int 0, .long 0, .ref zy21, .ref zy22, .int 0, .ref zy24, .ref zy25, .ref zy26, .ref zy27])), (zy0, .inl (cy 0, 392, .inl zz)), (zy24, .inl (cy 0, 392, .inl zf0))] → va_S A H0 H locs → lv_has ls 2 [(0, .ref zy), (1, .int zix)] → W p l e R s m args below meth c H locs cells slots Q (F0 m 2 ls []) := by
  intro n
  induction n with
  | zero =>
    intro zix zf0 H locs ls hn h0 hP hD hS hl
    obtain rfl : zix = 392 := i32_eq 392 (show zix.toInt = 392 by omega) (by decide)
    refine lv_iload_n hx hb dX11_image_2 rfl (lv_at hl 1 rfl) ?_
    refine lv_sipush (v := 392) hx hb dX11_image_3 (by decide) ?_
    refine lv_icmp_ge (tgt := 27) hx hb dX11_image_6 (by decide) (fun c_1 => ?_) (fun c_1 => absurd (by decide) c_1)
    exact kx _ _ _ _ hP hD hS (lv_sub hl [0, 1] rfl)
  | succ n ih =>
    intro zix zf0 H locs ls hn h0 hP hD hS hl
    refine lv_iload_n hx hb dX11_image_2 rfl (lv_at hl 1 rfl) ?_
    refine lv_sipush (v := 392) hx hb dX11_image_3 (by decide) ?_
    refine lv_icmp_ge (tgt := 27) hx hb dX11_image_6 (by decide) (fun c_2 => ?_) (fun c_2 => ?_)
    · have f_3 : zix.toInt ≥ (392 : Int) := ic_ge (rfl) (show (392 : Int32).toInt = 392 by decide) c_2
      exfalso; omega
    · have f_3 : ¬ (zix.toInt ≥ (392 : Int)) := ic_nge (rfl) (show (392 : Int32).toInt = 392 by decide) c_2
      refine lv_aload_n hx hb dX11_image_9 rfl (lv_at hl 0 rfl) ?_
      refine va_get (D := (dC, dI)) (ci := 11) (v := .ref zy24) (C := RX11) (T := TX11) (N := 28) hx hb hts (by decide +kernel) hown hK hP 0 rfl rfl 24 (by decide) (hts (.fieldLink RX11 56 "DripStoneModel" "kept" "[I") (by decide +kernel)) (fun _ h9 => h9) rfl dX11_image_10 ?_
      refine lv_iload_n hx hb dX11_image_13 rfl (lv_at hl 1 rfl) ?_
      refine lv_aload_n hx hb dX11_image_14 rfl (lv_at hl 0 rfl) ?_
      refine va_get (D := (dC, dI)) (ci := 11) (v := .ref zy0) (C := RX11) (T := TX11) (N := 28) hx hb hts (by decide +kernel) hown hK hP 0 rfl rfl 0 (by decide) (hts (.fieldLink RX11 7 "DripStoneModel" "z" "[I") (by decide +kernel)) (fun _ h9 => h9) rfl dX11_image_15 ?_
      refine lv_iload_n hx hb dX11_image_18 rfl (lv_at hl 1 rfl) ?_
      refine va_iald hx hb hK hP 1 0 rfl rfl (vp_in_iff.mpr ⟨by omega, by omega⟩) dX11_image_19 ?_
      refine lv_topi (fun v_4 ev_4 => ?_)
      refine va_iast hx hb hK hP hD hS 2 0 rfl rfl (vp_in_iff.mpr ⟨by omega, by omega⟩) dX11_image_20 (fun H locs hP hD hS => ?_)
      have hP : va_P (dC, dI) vwCl [(zy, .inr (11, [.ref zy0, .ref zy1, .int 0, .int 0, .int 0, .ref zy5, .int 0, .int 0, .ref zy8, .ref zy9, .ref zy10, .ref zy11, .ref zy12, .ref zy13, .ref zy14, .long 0, .ref zy16, .ref zy17, .ref zy18, .int 0, .long 0, .ref zy21, .ref zy22, .int 0, .ref zy24, .ref zy25, .ref zy26, .ref zy27])), (zy0, .inl (cy 0, 392, .inl zz)), (zy24, .inl (cy 0, 392, .inl (upd zf0 zix.toNatClampNeg v_4)))] H := hP
      have hD : va_D A [(zy, .inr (11, [.ref zy0, .ref zy1, .int 0, .int 0, .int 0, .ref zy5, .int 0, .int 0, .ref zy8, .ref zy9, .ref zy10, .ref zy11, .ref zy12, .ref zy13, .ref zy14, .long 0, .ref zy16, .ref zy17, .ref zy18, .int 0, .long 0, .ref zy21, .ref zy22, .int 0, .ref zy24, .ref zy25, .ref zy26, .ref zy27])), (zy0, .inl (cy 0, 392, .inl zz)), (zy24, .inl (cy 0, 392, .inl (upd zf0 zix.toNatClampNeg v_4)))] := hD
      obtain ⟨x_5, ex_5⟩ : ∃ y : Int32, y = zix + 1 := ⟨_, rfl⟩
      have tx_5 : x_5.toInt = zix.toInt + 1 := by rw [ex_5]; exact tadd rfl (show (1 : Int32).toInt = 1 by decide) (by omega) (by omega)
      refine lv_iinc (v := x_5) (lv' := [(1, .int x_5), (0, .ref zy)]) hx hb dX11_image_21 hl (k := 1) rfl (by rw [ex_5]; rfl) (by decide) rfl (fun ls hl => ?_)
      refine lv_goto (tgt := 2) hx hb dX11_image_24 (by decide) ?_
      exact ih x_5 _ _ _ _ (by omega) (by omega) hP hD hS (lv_sub hl [1, 0] rfl)
set_option maxHeartbeats 4000000 in
set_option maxRecDepth 100000 in
theorem c_X11_image (l : Launch) (dC : Nat → ClassId) (dI : Nat → Nat → Nat) (cy : Nat → ClassId) (sz : Nat) (zy : Nat) (zy0 : Nat) (zy1 : Nat) (zy5 : Nat) (zy8 : Nat) (zy9 : Nat) (zy10 : Nat) (zy11 : Nat) (zy12 : Nat) (zy13 : Nat) (zy14 : Nat) (zy16 : Nat) (zy17 : Nat) (zy18 : Nat) (zy21 : Nat) (zy22 : Nat) (zy24 : Nat) (zy25 : Nat) (zy26 : Nat) (zy27 : Nat)  : Met l yX11_image wsX11_image ({ frames := 0, cells := 0, slots := 0, locals := 0 }) (va_Pc [.ref zy] (PRE dC dI cy [(zy, .inr (11, [.ref zy0, .ref zy1, .int 0, .int 0, .int 0, .ref zy5, .int 0, .int 0, .ref zy8, .ref zy9, .ref zy10, .ref zy11, .ref zy12, .ref zy13, .ref zy14, .long 0, .ref zy16, .ref zy17, .ref zy18, .int 0, .long 0, .ref zy21, .ref zy22, .int 0, .ref zy24, .ref zy25, .ref zy26, .ref zy27])), (zy0, .inl (cy 0, 392, .inl zz)), (zy24, .inl (cy 0, 392, .inl (fun _ => 0)))] sz)) (va_Qi (fun (r : Int32) (_ : Unit) => r = 1) (fun u t => POST dC dI cy (va_A [(zy, .inr (11, [.ref zy0, .ref zy1, .int 0, .int 0, .int 0, .ref zy5, .int 0, .int 0, .ref zy8, .ref zy9, .ref zy10, .ref zy11, .ref zy12, .ref zy13, .ref zy14, .long 0, .ref zy16, .ref zy17, .ref zy18, .int 0, .long 0, .ref zy21, .ref zy22, .int 0, .ref zy24, .ref zy25, .ref zy26, .ref zy27])), (zy0, .inl (cy 0, 392, .inl zz)), (zy24, .inl (cy 0, 392, .inl (fun _ => 0)))] sz) [] t) (va_A [(zy, .inr (11, [.ref zy0, .ref zy1, .int 0, .int 0, .int 0, .ref zy5, .int 0, .int 0, .ref zy8, .ref zy9, .ref zy10, .ref zy11, .ref zy12, .ref zy13, .ref zy14, .long 0, .ref zy16, .ref zy17, .ref zy18, .int 0, .long 0, .ref zy21, .ref zy22, .int 0, .ref zy24, .ref zy25, .ref zy26, .ref zy27])), (zy0, .inl (cy 0, 392, .inl zz)), (zy24, .inl (cy 0, 392, .inl (fun _ => 0)))] sz)) 0 0 (va_A [(zy, .inr (11, [.ref zy0, .ref zy1, .int 0, .int 0, .int 0, .ref zy5, .int 0, .int 0, .ref zy8, .ref zy9, .ref zy10, .ref zy11, .ref zy12, .ref zy13, .ref zy14, .long 0, .ref zy16, .ref zy17, .ref zy18, .int 0, .long 0, .ref zy21, .ref zy22, .int 0, .ref zy24, .ref zy25, .ref zy26, .ref zy27])), (zy0, .inl (cy 0, 392, .inl zz)), (zy24, .inl (cy 0, 392, .inl (fun _ => 0)))] sz) := by
  refine Met.ofW (cc := cX11_image) (maxL := 2) (ret := (some .int)) (by decide) rfl ?_
  intro p e s m args below meth c s₁ B hml hv
  obtain ⟨rfl, hsz, hP, hK, hD0, hN⟩ := hv
  have hx := B.exec
  have hb := B.bytes
  have hr := B.returns
  have hts := atoms_spec (ws := wsX11_image) B.pre
  have hown : s.vm.findClass RX11 = some m.cls := findClass_of_methodNamed B.named
  have hlocks := B.notSynchronized
  subst hsz
  have hD := hD0.self (sz := s.heap.size)
  generalize hAe : va_A [(zy, .inr (11, [.ref zy0, .ref zy1, .int 0, .int 0, .int 0, .ref zy5, .int 0, .int 0, .ref zy8, .ref zy9, .ref zy10, .ref zy11, .ref zy12, .ref zy13, .ref zy14, .long 0, .ref zy16, .ref zy17, .ref zy18, .int 0, .long 0, .ref zy21, .ref zy22, .int 0, .ref zy24, .ref zy25, .ref zy26, .ref zy27])), (zy0, .inl (cy 0, 392, .inl zz)), (zy24, .inl (cy 0, 392, .inl (fun _ => 0)))] s.heap.size = A at hD ⊢
  have hA : ∀ q : Nat, s.heap.size ≤ q → A q := fun q h => by rw [← hAe]; exact Or.inr h
  have hS : va_S A s.heap s.heap [] := va_S.rf
  have hP : va_P (dC, dI) vwCl [(zy, .inr (11, [.ref zy0, .ref zy1, .int 0, .int 0, .int 0, .ref zy5, .int 0, .int 0, .ref zy8, .ref zy9, .ref zy10, .ref zy11, .ref zy12, .ref zy13, .ref zy14, .long 0, .ref zy16, .ref zy17, .ref zy18, .int 0, .long 0, .ref zy21, .ref zy22, .int 0, .ref zy24, .ref zy25, .ref zy26, .ref zy27])), (zy0, .inl (cy 0, 392, .inl zz)), (zy24, .inl (cy 0, 392, .inl (fun _ => 0)))] s.heap := hP
  have hl := lv_entry ([.ref zy] : List Value) (n := 2) (Nat.le_of_ble_eq_true rfl)
  rw [lg_entry_eq]
  generalize (lg_sl ([.ref zy] : List Value) ++ List.replicate (2 - (lg_sl ([.ref zy] : List Value)).length) Slot.unset).toArray = ls at hl ⊢
  have hl : lv_has ls 2 [(0, .ref zy)] := hl
  refine lv_iconst (v := 0) hx hb dX11_image_0 (by decide) ?_
  refine lv_istore_n (lv' := [(1, .int 0), (0, .ref zy)]) hx hb dX11_image_1 rfl hl (by decide) rfl (fun ls hl => ?_)
  refine lp_c_X11_image_2_0 dC dI cy zy zy0 zy1 zy5 zy8 zy9 zy10 zy11 zy12 zy13 zy14 zy16 zy17 zy18 zy21 zy22 zy24 zy25 zy26 zy27 hx hb hts hown hK hA (fun zf0 H locs ls hP hD hS hl => ?_) 392 0 _ _ _ _ (by decide) (by decide) hP hD hS (lv_sub hl [1, 0] rfl)
  refine lv_aload_n hx hb dX11_image_27 rfl (lv_at hl 0 rfl) ?_
  refine lv_iconst (v := 1) hx hb dX11_image_28 (by decide) ?_
  refine va_put (D := (dC, dI)) (ci := 11) (v := .int 1) (ty := .boolean) (C := RX11) (T := TX11) (N := 28) hx hb hts (by decide +kernel) tyX11 tyX11_ok nmX11 hown hK hP hD hS 0 rfl rfl 23 (by decide) (hts (.fieldLink RX11 342 "DripStoneModel" "isKept" "Z") (by decide +kernel)) (fun _ h9 => h9) rfl (by decide +kernel) rfl rfl (Nat.le_of_ble_eq_true rfl) dX11_image_29 (fun H locs hP hD hS => ?_)
  have hP : va_P (dC, dI) vwCl [(zy, .inr (11, [.ref zy0, .ref zy1, .int 0, .int 0, .int 0, .ref zy5, .int 0, .int 0, .ref zy8, .ref zy9, .ref zy10, .ref zy11, .ref zy12, .ref zy13, .ref zy14, .long 0, .ref zy16, .ref zy17, .ref zy18, .int 0, .long 0, .ref zy21, .ref zy22, .int 1, .ref zy24, .ref zy25, .ref zy26, .ref zy27])), (zy0, .inl (cy 0, 392, .inl zz)), (zy24, .inl (cy 0, 392, .inl zf0))] H := hP
  have hD : va_D A [(zy, .inr (11, [.ref zy0, .ref zy1, .int 0, .int 0, .int 0, .ref zy5, .int 0, .int 0, .ref zy8, .ref zy9, .ref zy10, .ref zy11, .ref zy12, .ref zy13, .ref zy14, .long 0, .ref zy16, .ref zy17, .ref zy18, .int 0, .long 0, .ref zy21, .ref zy22, .int 1, .ref zy24, .ref zy25, .ref zy26, .ref zy27])), (zy0, .inl (cy 0, 392, .inl zz)), (zy24, .inl (cy 0, 392, .inl zf0))] := hD
  refine lv_iconst (v := 1) hx hb dX11_image_32 (by decide) ?_
  have hP9 := hP.sub (ws' := []) [] rfl
  have hD9 := hD.sub (ws' := []) [] (by decide) rfl
  exact W.iret (v := 1) hx hb hr (fun t ht hW => ⟨⟨1, (), rfl, rfl, ⟨by rw [ht]; exact hP9, va_K.moved hW.alike hK, hD9⟩⟩, hS.F ht⟩) hS.2.2 dX11_image_33
