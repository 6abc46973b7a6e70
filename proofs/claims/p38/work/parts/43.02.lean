set_option maxHeartbeats 8000000 in
set_option maxRecDepth 100000 in
theorem c_X8_canSay (l : Launch) (dC : Nat → ClassId) (dI : Nat → Nat → Nat) (cy : Nat → ClassId) (sz : Nat) (zn : Nat) (zia : Int32) (zib : Int32) (znh : Nat) (znl : Nat) (znc : Nat) (znd : Nat) (znm : Nat) (zno : Nat) (zni : Nat) (zinC : Int32) (zinU : Int32) (zfno : Nat → Int32) (zfni : Nat → Int32) (b_zinC : 0 ≤ zinC.toInt ∧ zinC.toInt ≤ 4) (b_zinU : 0 ≤ zinU.toInt ∧ zinU.toInt ≤ 5) : Met l yX8_canSay wsX8_canSay ({ frames := 1, cells := 0, slots := 0, locals := 22 } : Room) (va_Pc [.ref zn, .int zia, .int zib] (PRE dC dI cy [(zn, .inr (8, [.ref znh, .ref znl, .ref znc, .ref znd, .ref znm, .ref zno, .ref zni, .int zinC, .int zinU])), (zno, .inl (cy 0, 5, .inl zfno)), (zni, .inl (cy 0, 5, .inl zfni))] sz)) (va_Qi (fun (r : Int32) (u : Unit) => (0 ≤ r.toInt ∧ r.toInt ≤ 1)) (fun u t => POST dC dI cy (va_A [(zn, .inr (8, [.ref znh, .ref znl, .ref znc, .ref znd, .ref znm, .ref zno, .ref zni, .int zinC, .int zinU])), (zno, .inl (cy 0, 5, .inl zfno)), (zni, .inl (cy 0, 5, .inl zfni))] sz) [(zn, .inr (8, [.ref znh, .ref znl, .ref znc, .ref znd, .ref znm, .ref zno, .ref zni, .int zinC, .int zinU])), (zno, .inl (cy 0, 5, .inl zfno)), (zni, .inl (cy 0, 5, .inl zfni))] t) (va_A [(zn, .inr (8, [.ref znh, .ref znl, .ref znc, .ref znd, .ref znm, .ref zno, .ref zni, .int zinC, .int zinU])), (zno, .inl (cy 0, 5, .inl zfno)), (zni, .inl (cy 0, 5, .inl zfni))] sz)) 0 0 (va_A [(zn, .inr (8, [.ref znh, .ref znl, .ref znc, .ref znd, .ref znm, .ref zno, .ref zni, .int zinC, .int zinU])), (zno, .inl (cy 0, 5, .inl zfno)), (zni, .inl (cy 0, 5, .inl zfni))] sz) := by
  refine Met.ofW (cc := cX8_canSay) (maxL := 6) (ret := (some .boolean)) (by decide) rfl ?_
  intro p e s m args below meth c s₁ B hml hv
  obtain ⟨rfl, hsz, hP, hK, hD0, hN⟩ := hv
  have hx := B.exec
  have hb := B.bytes
  have hr := B.returns
  have hts := atoms_spec (ws := wsX8_canSay) B.pre
  have hown : s.vm.findClass RX8 = some m.cls := findClass_of_methodNamed B.named
  have hlocks := B.notSynchronized
  subst hsz
  have hD := hD0.self (sz := s.heap.size)
  generalize hAe : va_A [(zn, .inr (8, [.ref znh, .ref znl, .ref znc, .ref znd, .ref znm, .ref zno, .ref zni, .int zinC, .int zinU])), (zno, .inl (cy 0, 5, .inl zfno)), (zni, .inl (cy 0, 5, .inl zfni))] s.heap.size = A at hD ⊢
  have hA : ∀ q : Nat, s.heap.size ≤ q → A q := fun q h => by rw [← hAe]; exact Or.inr h
  have hS : va_S A s.heap s.heap [] := va_S.rf
  have hP : va_P (dC, dI) vwCl [(zn, .inr (8, [.ref znh, .ref znl, .ref znc, .ref znd, .ref znm, .ref zno, .ref zni, .int zinC, .int zinU])), (zno, .inl (cy 0, 5, .inl zfno)), (zni, .inl (cy 0, 5, .inl zfni))] s.heap := hP
  have hl := lv_entry ([.ref zn, .int zia, .int zib] : List Value) (n := 6) (Nat.le_of_ble_eq_true rfl)
  rw [lg_entry_eq]
  generalize (lg_sl ([.ref zn, .int zia, .int zib] : List Value) ++ List.replicate (6 - (lg_sl ([.ref zn, .int zia, .int zib] : List Value)).length) Slot.unset).toArray = ls at hl ⊢
  have hl : lv_has ls 6 [(0, .ref zn), (1, .int zia), (2, .int zib)] := hl
  refine w_q (fun Q hQ => ?_)
  refine lv_iconst (v := 0) hx hb dX8_canSay_0 (by decide) ?_
  refine lv_istore_n (lv' := [(3, .int 0), (0, .ref zn), (1, .int zia), (2, .int zib)]) hx hb dX8_canSay_1 rfl hl (by decide) rfl (fun ls hl => ?_)
  refine lv_iconst (v := 0) hx hb dX8_canSay_2 (by decide) ?_
  refine lv_istore (lv' := [(4, .int 0), (3, .int 0), (0, .ref zn), (1, .int zia), (2, .int zib)]) hx hb dX8_canSay_3 hl (by decide) rfl (fun ls hl => ?_)
  refine lv_iconst (v := 0) hx hb dX8_canSay_5 (by decide) ?_
  refine lv_istore (lv' := [(5, .int 0), (4, .int 0), (3, .int 0), (0, .ref zn), (1, .int zia), (2, .int zib)]) hx hb dX8_canSay_6 hl (by decide) rfl (fun ls hl => ?_)
  have lp_808 : ∀ (n : Nat) (zi_82 : Int32) (zi_83 : Int32) (zi_84 : Int32) (H : Heap) (locs : List Loc) (ls : Array Slot), (5 - zi_84.toInt).toNat = n → (0 ≤ zi_84.toInt ∧ zi_84.toInt ≤ 5) → va_P (dC, dI) vwCl [(zn, .inr (8, [.ref znh, .ref znl, .ref znc, .ref znd, .ref znm, .ref zno, .ref zni, .int zinC, .int zinU])), (zno, .inl (cy 0, 5, .inl zfno)), (zni, .inl (cy 0, 5, .inl zfni))] H → va_D A [(zn, .inr (8, [.ref znh, .ref znl, .ref znc, .ref znd, .ref znm, .ref zno, .ref zni, .int zinC, .int zinU])), (zno, .inl (cy 0, 5, .inl zfno)), (zni, .inl (cy 0, 5, .inl zfni))] → va_S A s.heap H locs → lv_has ls 6 [(0, .ref zn), (1, .int zia), (2, .int zib), (3, .int zi_82), (4, .int zi_83), (5, .int zi_84)] → W p l e ({ frames := 1, cells := 0, slots := 0, locals := 22 } : Room) s m ([.ref zn, .int zia, .int zib] : List Value).toArray below meth c H locs 0 0 Q (F0 m 8 ls []) := by
    intro n
    induction n using Nat.strongRecOn with
    | _ n ih =>
      intro zi_82 zi_83 zi_84 H locs ls hn b_zi_84 hP hD hS hl
      refine lv_iload hx hb dX8_canSay_8 (lv_at hl 5 rfl) ?_
      refine lv_aload_n hx hb dX8_canSay_10 rfl (lv_at hl 0 rfl) ?_
      refine va_get (D := (dC, dI)) (ci := 8) (v := .int zinU) (C := RX8) (T := TX8) (N := 9) hx hb hts (by decide +kernel) hown hK hP 0 rfl rfl 8 (by decide) (hts (.fieldLink RX8 77 "DripStone$State" "caused" "I") (by decide +kernel)) (fun _ h9 => h9) rfl dX8_canSay_11 ?_
      refine lv_icmp_ge (tgt := 55) hx hb dX8_canSay_14 (by decide) (fun c_809 => ?_) (fun c_809 => ?_)
      · have f_810 : zi_84.toInt ≥ zinU.toInt := ic_ge (rfl) (rfl) c_809
        refine lv_iload_n hx hb dX8_canSay_55 rfl (lv_at hl 2 rfl) ?_
        refine lv_iload_n hx hb dX8_canSay_56 rfl (lv_at hl 3 rfl) ?_
        refine lv_iload hx hb dX8_canSay_57 (lv_at hl 4 rfl) ?_
        refine cj_i (wc := []) (wr := [(zn, .inr (8, [.ref znh, .ref znl, .ref znc, .ref znd, .ref znm, .ref zno, .ref zni, .int zinC, .int zinU])), (zno, .inl (cy 0, 5, .inl zfno)), (zni, .inl (cy 0, 5, .inl zfni))]) (w1 := fun (_ : Unit) => []) (va_runSN (As := [.int zib, .int zi_82, .int zi_83]) (rest := []) ⟨hx, hb, hml, hown, hts⟩ (c_X10_isWithin l dC dI cy H.size zib zi_82 zi_83 zi_82.toInt zi_83.toInt (by first | rfl | decide | omega | exact Int32.toInt_toInt64 _) (by first | rfl | decide | omega | exact Int32.toInt_toInt64 _)) ⟨va_cnB 3 hts ggX8_canSay_X10_isWithin rfl rfl rfl (n0_13 hN) (hts (.initialized RX10) (by decide +kernel)) (by decide +kernel) ⟨(Nat.le_of_ble_eq_true rfl), (Nat.le_of_ble_eq_true rfl)⟩, hts (.static yX10_isWithin) (by decide +kernel), trivial⟩ (PRE.s (hP.sub [] rfl) hK (hD.sub [] (by decide) rfl) hN) rfl rfl hl.1 rfl (lv_room (Nat.le_of_ble_eq_true rfl)) dX8_canSay_59 ⟨(Nat.le_of_ble_eq_true rfl), (Nat.le_of_ble_eq_true rfl)⟩) hP hD hS hA [] [0, 1, 2] rfl rfl rfl (by decide) (fun zi_812 u_811 H locs hw_813 hP hD hS => ?_)
        have hP : va_P (dC, dI) vwCl [(zn, .inr (8, [.ref znh, .ref znl, .ref znc, .ref znd, .ref znm, .ref zno, .ref zni, .int zinC, .int zinU])), (zno, .inl (cy 0, 5, .inl zfno)), (zni, .inl (cy 0, 5, .inl zfni))] H := hP
        have hD : va_D A [(zn, .inr (8, [.ref znh, .ref znl, .ref znc, .ref znd, .ref znm, .ref zno, .ref zni, .int zinC, .int zinU])), (zno, .inl (cy 0, 5, .inl zfno)), (zni, .inl (cy 0, 5, .inl zfni))] := hD
        have hw_813 : zi_812 = if zi_82.toInt ≤ zib.toInt ∧ zib.toInt ≤ zi_83.toInt then 1 else 0 := hw_813
        have b_zi_812 : 0 ≤ zi_812.toInt ∧ zi_812.toInt ≤ 1 := bz_b hw_813
        subst hQ
        have hP9 := hP.sub (ws' := [(zn, .inr (8, [.ref znh, .ref znl, .ref znc, .ref znd, .ref znm, .ref zno, .ref zni, .int zinC, .int zinU])), (zno, .inl (cy 0, 5, .inl zfno)), (zni, .inl (cy 0, 5, .inl zfni))]) [0, 1, 2] rfl
        have hD9 := hD.sub (ws' := [(zn, .inr (8, [.ref znh, .ref znl, .ref znc, .ref znd, .ref znm, .ref zno, .ref zni, .int zinC, .int zinU])), (zno, .inl (cy 0, 5, .inl zfno)), (zni, .inl (cy 0, 5, .inl zfni))]) [0, 1, 2] (by decide) rfl
        exact W.zret (v := zi_812) hx hb hr (zb_n2 (by omega)) (fun t ht hW => ⟨⟨zi_812, (), rfl, (show 0 ≤ zi_812.toInt ∧ zi_812.toInt ≤ 1 from by omega), ⟨by rw [ht]; exact hP9, va_K.moved hW.alike hK, hD9⟩⟩, hS.F ht⟩) hS.2.2 dX8_canSay_62
      · have f_810 : ¬ (zi_84.toInt ≥ zinU.toInt) := ic_nge (rfl) (rfl) c_809
        refine lv_iload_n hx hb dX8_canSay_17 rfl (lv_at hl 1 rfl) ?_
        refine lv_iload hx hb dX8_canSay_18 (lv_at hl 5 rfl) ?_
        refine lv_ishr hx hb dX8_canSay_20 ?_
        refine lv_topi (fun zi_814 ezi_814 => ?_)
        have rzi_814 := rng zi_814
        refine lv_iconst (v := 1) hx hb dX8_canSay_21 (by decide) ?_
        refine lv_iand hx hb dX8_canSay_22 ?_
        refine lv_topi (fun zi_815 ezi_815 => ?_)
        have tzi_815 : 0 ≤ zi_815.toInt ∧ zi_815.toInt ≤ 1 := by rw [ezi_815]; exact andb (k := 1) (by decide) (by decide) (by decide)
        refine lv_iconst (v := 1) hx hb dX8_canSay_23 (by decide) ?_
        have jn_824 : ∀ (zi_822 : Int32) (zi_823 : Int32) (H : Heap) (locs : List Loc) (ls : Array Slot), va_P (dC, dI) vwCl [(zn, .inr (8, [.ref znh, .ref znl, .ref znc, .ref znd, .ref znm, .ref zno, .ref zni, .int zinC, .int zinU])), (zno, .inl (cy 0, 5, .inl zfno)), (zni, .inl (cy 0, 5, .inl zfni))] H → va_D A [(zn, .inr (8, [.ref znh, .ref znl, .ref znc, .ref znd, .ref znm, .ref zno, .ref zni, .int zinC, .int zinU])), (zno, .inl (cy 0, 5, .inl zfno)), (zni, .inl (cy 0, 5, .inl zfni))] → va_S A s.heap H locs → lv_has ls 6 [(0, .ref zn), (1, .int zia), (2, .int zib), (3, .int zi_822), (4, .int zi_823), (5, .int zi_84)] → W p l e ({ frames := 1, cells := 0, slots := 0, locals := 22 } : Room) s m ([.ref zn, .int zia, .int zib] : List Value).toArray below meth c H locs 0 0 Q (F0 m 49 ls []) := by
          intro zi_822 zi_823 H locs ls  hP hD hS hl
          obtain ⟨zi_825, ezi_825⟩ : ∃ y : Int32, y = zi_84 + 1 := ⟨_, rfl⟩
          have tzi_825 : zi_825.toInt = zi_84.toInt + 1 := by rw [ezi_825]; exact tadd rfl (show (1 : Int32).toInt = 1 by decide) (by omega) (by omega)
          refine lv_iinc (v := zi_825) (lv' := [(5, .int zi_825), (0, .ref zn), (1, .int zia), (2, .int zib), (3, .int zi_822), (4, .int zi_823)]) hx hb dX8_canSay_49 hl (k := 5) rfl (by rw [ezi_825]; rfl) (by decide) rfl (fun ls hl => ?_)
          refine lv_goto (tgt := 8) hx hb dX8_canSay_52 (by decide) ?_
          exact ih (5 - zi_825.toInt).toNat (by omega) zi_822 zi_823 zi_825 _ _ _ rfl (by omega) hP hD hS (lv_sub hl [1, 2, 3, 4, 5, 0] rfl)
        refine lv_icmp_ne (tgt := 49) hx hb dX8_canSay_24 (by decide) (fun c_826 => ?_) (fun c_826 => ?_)
        · have f_827 : zi_815.toInt ≠ (1 : Int) := ic_ne (rfl) (show (1 : Int32).toInt = 1 by decide) c_826
          exact jn_824 zi_82 zi_83 _ _ _  hP hD hS (lv_sub hl [0, 1, 2, 3, 4, 5] rfl)
        · have f_827 : ¬ (zi_815.toInt ≠ (1 : Int)) := ic_nne (rfl) (show (1 : Int32).toInt = 1 by decide) c_826
          refine lv_iload_n hx hb dX8_canSay_27 rfl (lv_at hl 3 rfl) ?_
          refine lv_aload_n hx hb dX8_canSay_28 rfl (lv_at hl 0 rfl) ?_
          refine va_get (D := (dC, dI)) (ci := 8) (v := .ref zno) (C := RX8) (T := TX8) (N := 9) hx hb hts (by decide +kernel) hown hK hP 0 rfl rfl 5 (by decide) (hts (.fieldLink RX8 46 "DripStone$State" "lows" "[I") (by decide +kernel)) (fun _ h9 => h9) rfl dX8_canSay_29 ?_
          refine lv_iload hx hb dX8_canSay_32 (lv_at hl 5 rfl) ?_
          refine va_iald hx hb hK hP 1 0 rfl rfl (vp_in_iff.mpr ⟨by omega, by omega⟩) dX8_canSay_34 ?_
          refine lv_topi (fun zi_828 ezi_828 => ?_)
          refine lv_iadd hx hb dX8_canSay_35 ?_
          refine lv_topi (fun zi_829 ezi_829 => ?_)
          refine lv_istore_n (lv' := [(3, .int zi_829), (0, .ref zn), (1, .int zia), (2, .int zib), (4, .int zi_83), (5, .int zi_84)]) hx hb dX8_canSay_36 rfl hl (by decide) rfl (fun ls hl => ?_)
          refine lv_iload hx hb dX8_canSay_37 (lv_at hl 4 rfl) ?_
          refine lv_aload_n hx hb dX8_canSay_39 rfl (lv_at hl 1 rfl) ?_
          refine va_get (D := (dC, dI)) (ci := 8) (v := .ref zni) (C := RX8) (T := TX8) (N := 9) hx hb hts (by decide +kernel) hown hK hP 0 rfl rfl 6 (by decide) (hts (.fieldLink RX8 50 "DripStone$State" "highs" "[I") (by decide +kernel)) (fun _ h9 => h9) rfl dX8_canSay_40 ?_
          refine lv_iload hx hb dX8_canSay_43 (lv_at hl 5 rfl) ?_
          refine va_iald hx hb hK hP 2 0 rfl rfl (vp_in_iff.mpr ⟨by omega, by omega⟩) dX8_canSay_45 ?_
          refine lv_topi (fun zi_830 ezi_830 => ?_)
          refine lv_iadd hx hb dX8_canSay_46 ?_
          refine lv_topi (fun zi_831 ezi_831 => ?_)
          refine lv_istore (lv' := [(4, .int zi_831), (3, .int zi_829), (0, .ref zn), (1, .int zia), (2, .int zib), (5, .int zi_84)]) hx hb dX8_canSay_47 hl (by decide) rfl (fun ls hl => ?_)
          exact jn_824 zi_829 zi_831 _ _ _  hP hD hS (lv_sub hl [2, 3, 4, 1, 0, 5] rfl)
  exact lp_808 _ (0 : Int32) (0 : Int32) (0 : Int32) _ _ _ rfl (by decide) hP hD hS (lv_sub hl [3, 4, 5, 2, 1, 0] rfl)
