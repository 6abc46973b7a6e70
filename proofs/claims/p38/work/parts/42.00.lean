set_option maxHeartbeats 8000000 in
set_option maxRecDepth 100000 in
theorem c_X3_wetBy (l : Launch) (dC : Nat → ClassId) (dI : Nat → Nat → Nat) (cy : Nat → ClassId) (sz : Nat) (zh : Nat) (ziy : Int32) (zik : Int32) (zhr : Nat) (zihk : Int32) (zihs : Int32) (zqh : Nat → Nat) (zfhr0 : Nat → Int32) (b_ziy : 0 ≤ ziy.toInt ∧ ziy.toInt ≤ 23) (b_zik : 1 ≤ zik.toInt ∧ zik.toInt ≤ 5) (b_zihk : 1 ≤ zihk.toInt ∧ zihk.toInt ≤ 5) (b_zihs : 1 ≤ zihs.toInt ∧ zihs.toInt ≤ 9) (h_zfhr0 : RG zfhr0 24 0 9) : Met l yX3_wetBy wsX3_wetBy ({ frames := 1, cells := 0, slots := 0, locals := 30 } : Room) (va_Pc [.ref zh, .int ziy, .int zik] (PRE dC dI cy [(zh, .inr (3, [.ref zhr, .int zihk, .int zihs])), (zhr, .inl (cy 7, 3, .inr (.inr (.inr (.inr (fun i => if i < 3 then some (zqh i) else none)))))), ((zqh 0), .inl (cy 0, 24, .inl zfhr0))] sz)) (va_Qi (fun (r : Int32) (u : Unit) => True) (fun u t => POST dC dI cy (va_A [(zh, .inr (3, [.ref zhr, .int zihk, .int zihs])), (zhr, .inl (cy 7, 3, .inr (.inr (.inr (.inr (fun i => if i < 3 then some (zqh i) else none)))))), ((zqh 0), .inl (cy 0, 24, .inl zfhr0))] sz) [(zh, .inr (3, [.ref zhr, .int zihk, .int zihs])), (zhr, .inl (cy 7, 3, .inr (.inr (.inr (.inr (fun i => if i < 3 then some (zqh i) else none)))))), ((zqh 0), .inl (cy 0, 24, .inl zfhr0))] t) (va_A [(zh, .inr (3, [.ref zhr, .int zihk, .int zihs])), (zhr, .inl (cy 7, 3, .inr (.inr (.inr (.inr (fun i => if i < 3 then some (zqh i) else none)))))), ((zqh 0), .inl (cy 0, 24, .inl zfhr0))] sz)) 0 0 (va_A [(zh, .inr (3, [.ref zhr, .int zihk, .int zihs])), (zhr, .inl (cy 7, 3, .inr (.inr (.inr (.inr (fun i => if i < 3 then some (zqh i) else none)))))), ((zqh 0), .inl (cy 0, 24, .inl zfhr0))] sz) := by
  refine Met.ofW (cc := cX3_wetBy) (maxL := 5) (ret := (some .int)) (by decide) rfl ?_
  intro p e s m args below meth c s₁ B hml hv
  obtain ⟨rfl, hsz, hP, hK, hD0, hN⟩ := hv
  have hx := B.exec
  have hb := B.bytes
  have hr := B.returns
  have hts := atoms_spec (ws := wsX3_wetBy) B.pre
  have hown : s.vm.findClass RX3 = some m.cls := findClass_of_methodNamed B.named
  have hlocks := B.notSynchronized
  subst hsz
  have hD := hD0.self (sz := s.heap.size)
  generalize hAe : va_A [(zh, .inr (3, [.ref zhr, .int zihk, .int zihs])), (zhr, .inl (cy 7, 3, .inr (.inr (.inr (.inr (fun i => if i < 3 then some (zqh i) else none)))))), ((zqh 0), .inl (cy 0, 24, .inl zfhr0))] s.heap.size = A at hD ⊢
  have hA : ∀ q : Nat, s.heap.size ≤ q → A q := fun q h => by rw [← hAe]; exact Or.inr h
  have hS : va_S A s.heap s.heap [] := va_S.rf
  have hP : va_P (dC, dI) vwCl [(zh, .inr (3, [.ref zhr, .int zihk, .int zihs])), (zhr, .inl (cy 7, 3, .inr (.inr (.inr (.inr (fun i => if i < 3 then some (zqh i) else none)))))), ((zqh 0), .inl (cy 0, 24, .inl zfhr0))] s.heap := hP
  have hl := lv_entry ([.ref zh, .int ziy, .int zik] : List Value) (n := 5) (Nat.le_of_ble_eq_true rfl)
  rw [lg_entry_eq]
  generalize (lg_sl ([.ref zh, .int ziy, .int zik] : List Value) ++ List.replicate (5 - (lg_sl ([.ref zh, .int ziy, .int zik] : List Value)).length) Slot.unset).toArray = ls at hl ⊢
  have hl : lv_has ls 5 [(0, .ref zh), (1, .int ziy), (2, .int zik)] := hl
  refine w_q (fun Q hQ => ?_)
  refine lv_iconst (v := 0) hx hb dX3_wetBy_0 (by decide) ?_
  refine lv_istore_n (lv' := [(3, .int 0), (0, .ref zh), (1, .int ziy), (2, .int zik)]) hx hb dX3_wetBy_1 rfl hl (by decide) rfl (fun ls hl => ?_)
  refine lv_iconst (v := 0) hx hb dX3_wetBy_2 (by decide) ?_
  refine lv_iload_n hx hb dX3_wetBy_3 rfl (lv_at hl 2 rfl) ?_
  refine lv_iload_n hx hb dX3_wetBy_4 rfl (lv_at hl 3 rfl) ?_
  refine lv_isub hx hb dX3_wetBy_5 ?_
  refine lv_topi (fun zi_1 ezi_1 => ?_)
  have tzi_1 : zi_1.toInt = ziy.toInt - zik.toInt := by rw [ezi_1]; exact tisub (rfl) (rfl) (by omega) (by omega)
  refine lv_iconst (v := 1) hx hb dX3_wetBy_6 (by decide) ?_
  refine lv_iadd hx hb dX3_wetBy_7 ?_
  refine lv_topi (fun zi_2 ezi_2 => ?_)
  have tzi_2 : zi_2.toInt = zi_1.toInt + (1 : Int) := by rw [ezi_2]; exact tiadd (rfl) (show (1 : Int32).toInt = 1 by decide) (by omega) (by omega)
  refine va_mmax hx hb (by rw [hml]; exact hl.1.symm) hown (hts (.methodLink RX3 27 Lib.Math.max.name) (by decide +kernel)) (hts (.static Lib.Math.max.name) (by decide +kernel)) (hts (.initialized "java/lang/Math") (by decide +kernel)) (hts (.code Lib.Math.max.name Lib.Math.max.code 2 (some .int)) (by decide +kernel)) (Nat.le_of_ble_eq_true rfl) (Nat.le_of_ble_eq_true rfl) (Nat.le_of_ble_eq_true rfl) (Nat.le_of_ble_eq_true rfl) dX3_wetBy_8 ?_
  refine lv_topi (fun zi_3 ezi_3 => ?_)
  have tzi_3 : ((0 : Int) < zi_2.toInt → zi_3.toInt = zi_2.toInt) ∧ (¬ (0 : Int) < zi_2.toInt → zi_3.toInt = (0 : Int)) := mx_s ezi_3 (show (0 : Int32).toInt = 0 by decide) (rfl)
  refine lv_istore (lv' := [(4, .int zi_3), (3, .int 0), (0, .ref zh), (1, .int ziy), (2, .int zik)]) hx hb dX3_wetBy_11 hl (by decide) rfl (fun ls hl => ?_)
  have lp_147 : ∀ (n : Nat) (zi_23 : Int32) (zi_24 : Int32) (H : Heap) (locs : List Loc) (ls : Array Slot), (ziy.toInt - zi_24.toInt + 1).toNat = n → (0 ≤ zi_24.toInt ∧ zi_24.toInt ≤ 24) → va_P (dC, dI) vwCl [(zh, .inr (3, [.ref zhr, .int zihk, .int zihs])), (zhr, .inl (cy 7, 3, .inr (.inr (.inr (.inr (fun i => if i < 3 then some (zqh i) else none)))))), ((zqh 0), .inl (cy 0, 24, .inl zfhr0))] H → va_D A [(zh, .inr (3, [.ref zhr, .int zihk, .int zihs])), (zhr, .inl (cy 7, 3, .inr (.inr (.inr (.inr (fun i => if i < 3 then some (zqh i) else none)))))), ((zqh 0), .inl (cy 0, 24, .inl zfhr0))] → va_S A s.heap H locs → lv_has ls 5 [(0, .ref zh), (1, .int ziy), (2, .int zik), (3, .int zi_23), (4, .int zi_24)] → W p l e ({ frames := 1, cells := 0, slots := 0, locals := 30 } : Room) s m ([.ref zh, .int ziy, .int zik] : List Value).toArray below meth c H locs 0 0 Q (F0 m 13 ls []) := by
    intro n
    induction n using Nat.strongRecOn with
    | _ n ih =>
      intro zi_23 zi_24 H locs ls hn b_zi_24 hP hD hS hl
      refine lv_iload hx hb dX3_wetBy_13 (lv_at hl 4 rfl) ?_
      refine lv_iload_n hx hb dX3_wetBy_15 rfl (lv_at hl 1 rfl) ?_
      refine lv_icmp_gt (tgt := 37) hx hb dX3_wetBy_16 (by decide) (fun c_148 => ?_) (fun c_148 => ?_)
      · have f_149 : zi_24.toInt > ziy.toInt := ic_gt (rfl) (rfl) c_148
        refine lv_iload_n hx hb dX3_wetBy_37 rfl (lv_at hl 3 rfl) ?_
        subst hQ
        have hP9 := hP.sub (ws' := [(zh, .inr (3, [.ref zhr, .int zihk, .int zihs])), (zhr, .inl (cy 7, 3, .inr (.inr (.inr (.inr (fun i => if i < 3 then some (zqh i) else none)))))), ((zqh 0), .inl (cy 0, 24, .inl zfhr0))]) [0, 1, 2] rfl
        have hD9 := hD.sub (ws' := [(zh, .inr (3, [.ref zhr, .int zihk, .int zihs])), (zhr, .inl (cy 7, 3, .inr (.inr (.inr (.inr (fun i => if i < 3 then some (zqh i) else none)))))), ((zqh 0), .inl (cy 0, 24, .inl zfhr0))]) [0, 1, 2] (by decide) rfl
        exact W.iret (v := zi_23) hx hb hr (fun t ht hW => ⟨⟨zi_23, (), rfl, trivial, ⟨by rw [ht]; exact hP9, va_K.moved hW.alike hK, hD9⟩⟩, hS.F ht⟩) hS.2.2 dX3_wetBy_38
      · have f_149 : ¬ (zi_24.toInt > ziy.toInt) := ic_ngt (rfl) (rfl) c_148
        refine lv_iload_n hx hb dX3_wetBy_19 rfl (lv_at hl 3 rfl) ?_
        refine lv_aload_n hx hb dX3_wetBy_20 rfl (lv_at hl 0 rfl) ?_
        refine va_get (D := (dC, dI)) (ci := 3) (v := .ref zhr) (C := RX3) (T := TX3) (N := 3) hx hb hts (by decide +kernel) hown hK hP 0 rfl rfl 0 (by decide) (hts (.fieldLink RX3 11 "DripStone$Hill" "rain" "[[I") (by decide +kernel)) (fun _ h9 => h9) rfl dX3_wetBy_21 ?_
        refine lv_iconst (v := 0) hx hb dX3_wetBy_24 (by decide) ?_
        refine va_aldA hx hb hK hP 1 7 rfl rfl (vp_in_iff.mpr ⟨by decide, by decide⟩) dX3_wetBy_25 ?_
        refine W.eq (g2 := F0 m 26 ls [.ref (zqh 0), .int zi_23]) rfl ?_
        refine lv_iload hx hb dX3_wetBy_26 (lv_at hl 4 rfl) ?_
        refine va_iald hx hb hK hP 2 0 rfl rfl (vp_in_iff.mpr ⟨by omega, by omega⟩) dX3_wetBy_28 ?_
        refine lv_topi (fun zi_150 ezi_150 => ?_)
        have tzi_150 : 0 ≤ zi_150.toInt ∧ zi_150.toInt ≤ 9 := by rw [ezi_150]; exact RG.at h_zfhr0 (by omega) (by omega)
        refine lv_iadd hx hb dX3_wetBy_29 ?_
        refine lv_topi (fun zi_151 ezi_151 => ?_)
        refine lv_istore_n (lv' := [(3, .int zi_151), (0, .ref zh), (1, .int ziy), (2, .int zik), (4, .int zi_24)]) hx hb dX3_wetBy_30 rfl hl (by decide) rfl (fun ls hl => ?_)
        obtain ⟨zi_152, ezi_152⟩ : ∃ y : Int32, y = zi_24 + 1 := ⟨_, rfl⟩
        have tzi_152 : zi_152.toInt = zi_24.toInt + 1 := by rw [ezi_152]; exact tadd rfl (show (1 : Int32).toInt = 1 by decide) (by omega) (by omega)
        refine lv_iinc (v := zi_152) (lv' := [(4, .int zi_152), (3, .int zi_151), (0, .ref zh), (1, .int ziy), (2, .int zik)]) hx hb dX3_wetBy_31 hl (k := 4) rfl (by rw [ezi_152]; rfl) (by decide) rfl (fun ls hl => ?_)
        refine lv_goto (tgt := 13) hx hb dX3_wetBy_34 (by decide) ?_
        exact ih (ziy.toInt - zi_152.toInt + 1).toNat (by omega) zi_151 zi_152 _ _ _ rfl (by omega) hP hD hS (lv_sub hl [2, 3, 4, 1, 0] rfl)
  exact lp_147 _ (0 : Int32) zi_3 _ _ _ rfl (by omega) hP hD hS (lv_sub hl [2, 3, 4, 1, 0] rfl)
set_option maxHeartbeats 8000000 in
set_option maxRecDepth 100000 in
theorem c_X3_waterBy (l : Launch) (dC : Nat → ClassId) (dI : Nat → Nat → Nat) (cy : Nat → ClassId) (sz : Nat) (zh : Nat) (ziy : Int32) (zik : Int32) (zhr : Nat) (zihk : Int32) (zihs : Int32) (zqh : Nat → Nat) (zfhr0 : Nat → Int32) (zfhr1 : Nat → Int32) (b_ziy : 0 ≤ ziy.toInt ∧ ziy.toInt ≤ 23) (b_zik : 1 ≤ zik.toInt ∧ zik.toInt ≤ 5) (b_zihk : 1 ≤ zihk.toInt ∧ zihk.toInt ≤ 5) (b_zihs : 1 ≤ zihs.toInt ∧ zihs.toInt ≤ 9) (h_zfhr0 : RG zfhr0 24 0 9) (h_zfhr1 : RG zfhr1 24 (-20) 20) : Met l yX3_waterBy wsX3_waterBy ({ frames := 2, cells := 0, slots := 0, locals := 54 } : Room) (va_Pc [.ref zh, .int ziy, .int zik] (PRE dC dI cy [(zh, .inr (3, [.ref zhr, .int zihk, .int zihs])), (zhr, .inl (cy 7, 3, .inr (.inr (.inr (.inr (fun i => if i < 3 then some (zqh i) else none)))))), ((zqh 0), .inl (cy 0, 24, .inl zfhr0)), ((zqh 1), .inl (cy 0, 24, .inl zfhr1))] sz)) (va_Qi (fun (r : Int32) (u : Unit) => True) (fun u t => POST dC dI cy (va_A [(zh, .inr (3, [.ref zhr, .int zihk, .int zihs])), (zhr, .inl (cy 7, 3, .inr (.inr (.inr (.inr (fun i => if i < 3 then some (zqh i) else none)))))), ((zqh 0), .inl (cy 0, 24, .inl zfhr0)), ((zqh 1), .inl (cy 0, 24, .inl zfhr1))] sz) [(zh, .inr (3, [.ref zhr, .int zihk, .int zihs])), (zhr, .inl (cy 7, 3, .inr (.inr (.inr (.inr (fun i => if i < 3 then some (zqh i) else none)))))), ((zqh 0), .inl (cy 0, 24, .inl zfhr0)), ((zqh 1), .inl (cy 0, 24, .inl zfhr1))] t) (va_A [(zh, .inr (3, [.ref zhr, .int zihk, .int zihs])), (zhr, .inl (cy 7, 3, .inr (.inr (.inr (.inr (fun i => if i < 3 then some (zqh i) else none)))))), ((zqh 0), .inl (cy 0, 24, .inl zfhr0)), ((zqh 1), .inl (cy 0, 24, .inl zfhr1))] sz)) 0 0 (va_A [(zh, .inr (3, [.ref zhr, .int zihk, .int zihs])), (zhr, .inl (cy 7, 3, .inr (.inr (.inr (.inr (fun i => if i < 3 then some (zqh i) else none)))))), ((zqh 0), .inl (cy 0, 24, .inl zfhr0)), ((zqh 1), .inl (cy 0, 24, .inl zfhr1))] sz) := by
  refine Met.ofW (cc := cX3_waterBy) (maxL := 6) (ret := (some .int)) (by decide) rfl ?_
  intro p e s m args below meth c s₁ B hml hv
  obtain ⟨rfl, hsz, hP, hK, hD0, hN⟩ := hv
  have hx := B.exec
  have hb := B.bytes
  have hr := B.returns
  have hts := atoms_spec (ws := wsX3_waterBy) B.pre
  have hown : s.vm.findClass RX3 = some m.cls := findClass_of_methodNamed B.named
  have hlocks := B.notSynchronized
  subst hsz
  have hD := hD0.self (sz := s.heap.size)
  generalize hAe : va_A [(zh, .inr (3, [.ref zhr, .int zihk, .int zihs])), (zhr, .inl (cy 7, 3, .inr (.inr (.inr (.inr (fun i => if i < 3 then some (zqh i) else none)))))), ((zqh 0), .inl (cy 0, 24, .inl zfhr0)), ((zqh 1), .inl (cy 0, 24, .inl zfhr1))] s.heap.size = A at hD ⊢
  have hA : ∀ q : Nat, s.heap.size ≤ q → A q := fun q h => by rw [← hAe]; exact Or.inr h
  have hS : va_S A s.heap s.heap [] := va_S.rf
  have hP : va_P (dC, dI) vwCl [(zh, .inr (3, [.ref zhr, .int zihk, .int zihs])), (zhr, .inl (cy 7, 3, .inr (.inr (.inr (.inr (fun i => if i < 3 then some (zqh i) else none)))))), ((zqh 0), .inl (cy 0, 24, .inl zfhr0)), ((zqh 1), .inl (cy 0, 24, .inl zfhr1))] s.heap := hP
  have hl := lv_entry ([.ref zh, .int ziy, .int zik] : List Value) (n := 6) (Nat.le_of_ble_eq_true rfl)
  rw [lg_entry_eq]
  generalize (lg_sl ([.ref zh, .int ziy, .int zik] : List Value) ++ List.replicate (6 - (lg_sl ([.ref zh, .int ziy, .int zik] : List Value)).length) Slot.unset).toArray = ls at hl ⊢
  have hl : lv_has ls 6 [(0, .ref zh), (1, .int ziy), (2, .int zik)] := hl
  refine w_q (fun Q hQ => ?_)
  refine lv_aload_n hx hb dX3_waterBy_0 rfl (lv_at hl 0 rfl) ?_
  refine lv_iload_n hx hb dX3_waterBy_1 rfl (lv_at hl 1 rfl) ?_
  refine lv_iload_n hx hb dX3_waterBy_2 rfl (lv_at hl 2 rfl) ?_
  refine cj_i (wc := [(zh, .inr (3, [.ref zhr, .int zihk, .int zihs])), (zhr, .inl (cy 7, 3, .inr (.inr (.inr (.inr (fun i => if i < 3 then some (zqh i) else none)))))), ((zqh 0), .inl (cy 0, 24, .inl zfhr0))]) (wr := [((zqh 1), .inl (cy 0, 24, .inl zfhr1))]) (w1 := fun (u : Unit) => [(zh, .inr (3, [.ref zhr, .int zihk, .int zihs])), (zhr, .inl (cy 7, 3, .inr (.inr (.inr (.inr (fun i => if i < 3 then some (zqh i) else none)))))), ((zqh 0), .inl (cy 0, 24, .inl zfhr0))]) (va_runV (As := [.int ziy, .int zik]) (rest := []) ⟨hx, hb, hml, hown, hts⟩ (c_X3_wetBy l dC dI cy s.heap.size zh ziy zik zhr zihk zihs zqh zfhr0 (by omega) (by omega) (by omega) (by omega) h_zfhr0) (cwV 2 hts gX3_waterBy_X3_wetBy rfl rfl rfl (by decide +kernel) ⟨(Nat.le_of_ble_eq_true rfl), (Nat.le_of_ble_eq_true rfl)⟩) (PRE.v (hP.sub [0, 1, 2] rfl) hK (hD.sub [0, 1, 2] (by decide) rfl) hN (va_recv hK hP (ci := 3) (q0 := 0) rfl rfl)) rfl rfl hl.1 rfl (lv_room (Nat.le_of_ble_eq_true rfl)) dX3_waterBy_3 ⟨(Nat.le_of_ble_eq_true rfl), (Nat.le_of_ble_eq_true rfl)⟩) hP hD hS hA [0, 1, 2] [3] rfl rfl rfl (by decide) (fun zi_2 u_1 H locs hw_3 hP hD hS => ?_)
  have hP : va_P (dC, dI) vwCl [((zqh 1), .inl (cy 0, 24, .inl zfhr1)), (zh, .inr (3, [.ref zhr, .int zihk, .int zihs])), (zhr, .inl (cy 7, 3, .inr (.inr (.inr (.inr (fun i => if i < 3 then some (zqh i) else none)))))), ((zqh 0), .inl (cy 0, 24, .inl zfhr0))] H := hP
  have hD : va_D A [((zqh 1), .inl (cy 0, 24, .inl zfhr1)), (zh, .inr (3, [.ref zhr, .int zihk, .int zihs])), (zhr, .inl (cy 7, 3, .inr (.inr (.inr (.inr (fun i => if i < 3 then some (zqh i) else none)))))), ((zqh 0), .inl (cy 0, 24, .inl zfhr0))] := hD
  have rzi_2 := rng zi_2
  refine lv_istore_n (lv' := [(3, .int zi_2), (0, .ref zh), (1, .int ziy), (2, .int zik)]) hx hb dX3_waterBy_6 rfl hl (by decide) rfl (fun ls hl => ?_)
  refine lv_iload_n hx hb dX3_waterBy_7 rfl (lv_at hl 0 rfl) ?_
  refine lv_if_ne (tgt := 15) hx hb dX3_waterBy_8 (by decide) (fun c_4 => ?_) (fun c_4 => ?_)
  · have f_5 : zi_2.toInt ≠ 0 := ic_ne (rfl) (by decide) c_4
    refine lv_iconst (v := 0) hx hb dX3_waterBy_15 (by decide) ?_
    refine lv_istore (lv' := [(4, .int 0), (3, .int zi_2), (0, .ref zh), (1, .int ziy), (2, .int zik)]) hx hb dX3_waterBy_16 hl (by decide) rfl (fun ls hl => ?_)
    refine lv_iconst (v := 0) hx hb dX3_waterBy_18 (by decide) ?_
    refine lv_iload_n hx hb dX3_waterBy_19 rfl (lv_at hl 3 rfl) ?_
    refine lv_iload_n hx hb dX3_waterBy_20 rfl (lv_at hl 4 rfl) ?_
    refine lv_isub hx hb dX3_waterBy_21 ?_
    refine lv_topi (fun zi_6 ezi_6 => ?_)
    have tzi_6 : zi_6.toInt = ziy.toInt - zik.toInt := by rw [ezi_6]; exact tisub (rfl) (rfl) (by omega) (by omega)
    refine lv_iconst (v := 1) hx hb dX3_waterBy_22 (by decide) ?_
    refine lv_iadd hx hb dX3_waterBy_23 ?_
    refine lv_topi (fun zi_7 ezi_7 => ?_)
    have tzi_7 : zi_7.toInt = zi_6.toInt + (1 : Int) := by rw [ezi_7]; exact tiadd (rfl) (show (1 : Int32).toInt = 1 by decide) (by omega) (by omega)
    refine va_mmax hx hb (by rw [hml]; exact hl.1.symm) hown (hts (.methodLink RX3 27 Lib.Math.max.name) (by decide +kernel)) (hts (.static Lib.Math.max.name) (by decide +kernel)) (hts (.initialized "java/lang/Math") (by decide +kernel)) (hts (.code Lib.Math.max.name Lib.Math.max.code 2 (some .int)) (by decide +kernel)) (Nat.le_of_ble_eq_true rfl) (Nat.le_of_ble_eq_true rfl) (Nat.le_of_ble_eq_true rfl) (Nat.le_of_ble_eq_true rfl) dX3_waterBy_24 ?_
    refine lv_topi (fun zi_8 ezi_8 => ?_)
    have tzi_8 : ((0 : Int) < zi_7.toInt → zi_8.toInt = zi_7.toInt) ∧ (¬ (0 : Int) < zi_7.toInt → zi_8.toInt = (0 : Int)) := mx_s ezi_8 (show (0 : Int32).toInt = 0 by decide) (rfl)
    refine lv_istore (lv' := [(5, .int zi_8), (4, .int 0), (3, .int zi_2), (0, .ref zh), (1, .int ziy), (2, .int zik)]) hx hb dX3_waterBy_27 hl (by decide) rfl (fun ls hl => ?_)
    have lp_176 : ∀ (n : Nat) (zi_16 : Int32) (zi_17 : Int32) (H : Heap) (locs : List Loc) (ls : Array Slot), (ziy.toInt - zi_17.toInt + 1).toNat = n → (0 ≤ zi_17.toInt ∧ zi_17.toInt ≤ 24) → va_P (dC, dI) vwCl [((zqh 1), .inl (cy 0, 24, .inl zfhr1)), (zh, .inr (3, [.ref zhr, .int zihk, .int zihs])), (zhr, .inl (cy 7, 3, .inr (.inr (.inr (.inr (fun i => if i < 3 then some (zqh i) else none)))))), ((zqh 0), .inl (cy 0, 24, .inl zfhr0))] H → va_D A [((zqh 1), .inl (cy 0, 24, .inl zfhr1)), (zh, .inr (3, [.ref zhr, .int zihk, .int zihs])), (zhr, .inl (cy 7, 3, .inr (.inr (.inr (.inr (fun i => if i < 3 then some (zqh i) else none)))))), ((zqh 0), .inl (cy 0, 24, .inl zfhr0))] → va_S A s.heap H locs → lv_has ls 6 [(0, .ref zh), (1, .int ziy), (2, .int zik), (3, .int zi_2), (4, .int zi_16), (5, .int zi_17)] → W p l e ({ frames := 2, cells := 0, slots := 0, locals := 54 } : Room) s m ([.ref zh, .int ziy, .int zik] : List Value).toArray below meth c H locs 0 0 Q (F0 m 29 ls []) := by
      intro n
      induction n using Nat.strongRecOn with
      | _ n ih =>
        intro zi_16 zi_17 H locs ls hn b_zi_17 hP hD hS hl
        refine lv_iload hx hb dX3_waterBy_29 (lv_at hl 5 rfl) ?_
        refine lv_iload_n hx hb dX3_waterBy_31 rfl (lv_at hl 1 rfl) ?_
        refine lv_icmp_gt (tgt := 65) hx hb dX3_waterBy_32 (by decide) (fun c_177 => ?_) (fun c_177 => ?_)
        · have f_178 : zi_17.toInt > ziy.toInt := ic_gt (rfl) (rfl) c_177
          refine lv_iload hx hb dX3_waterBy_65 (lv_at hl 4 rfl) ?_
          refine lv_iload_n hx hb dX3_waterBy_67 rfl (lv_at hl 3 rfl) ?_
          refine lv_idiv hx hb dX3_waterBy_68 (ne_z (by omega)) ?_
          refine lv_topi (fun zi_179 ezi_179 => ?_)
          subst hQ
          have hP9 := hP.sub (ws' := [(zh, .inr (3, [.ref zhr, .int zihk, .int zihs])), (zhr, .inl (cy 7, 3, .inr (.inr (.inr (.inr (fun i => if i < 3 then some (zqh i) else none)))))), ((zqh 0), .inl (cy 0, 24, .inl zfhr0)), ((zqh 1), .inl (cy 0, 24, .inl zfhr1))]) [1, 2, 3, 0] rfl
          have hD9 := hD.sub (ws' := [(zh, .inr (3, [.ref zhr, .int zihk, .int zihs])), (zhr, .inl (cy 7, 3, .inr (.inr (.inr (.inr (fun i => if i < 3 then some (zqh i) else none)))))), ((zqh 0), .inl (cy 0, 24, .inl zfhr0)), ((zqh 1), .inl (cy 0, 24, .inl zfhr1))]) [1, 2, 3, 0] (by decide) rfl
          exact W.iret (v := zi_179) hx hb hr (fun t ht hW => ⟨⟨zi_179, (), rfl, trivial, ⟨by rw [ht]; exact hP9, va_K.moved hW.alike hK, hD9⟩⟩, hS.F ht⟩) hS.2.2 dX3_waterBy_69
        · have f_178 : ¬ (zi_17.toInt > ziy.toInt) := ic_ngt (rfl) (rfl) c_177
          refine lv_iload hx hb dX3_waterBy_35 (lv_at hl 4 rfl) ?_
          refine lv_aload_n hx hb dX3_waterBy_37 rfl (lv_at hl 0 rfl) ?_
          refine va_get (D := (dC, dI)) (ci := 3) (v := .ref zhr) (C := RX3) (T := TX3) (N := 3) hx hb hts (by decide +kernel) hown hK hP 1 rfl rfl 0 (by decide) (hts (.fieldLink RX3 11 "DripStone$Hill" "rain" "[[I") (by decide +kernel)) (fun _ h9 => h9) rfl dX3_waterBy_38 ?_
          refine lv_iconst (v := 0) hx hb dX3_waterBy_41 (by decide) ?_
          refine va_aldA hx hb hK hP 2 7 rfl rfl (vp_in_iff.mpr ⟨by decide, by decide⟩) dX3_waterBy_42 ?_
          refine W.eq (g2 := F0 m 43 ls [.ref (zqh 0), .int zi_16]) rfl ?_
          refine lv_iload hx hb dX3_waterBy_43 (lv_at hl 5 rfl) ?_
          refine va_iald hx hb hK hP 3 0 rfl rfl (vp_in_iff.mpr ⟨by omega, by omega⟩) dX3_waterBy_45 ?_
          refine lv_topi (fun zi_180 ezi_180 => ?_)
          have tzi_180 : 0 ≤ zi_180.toInt ∧ zi_180.toInt ≤ 9 := by rw [ezi_180]; exact RG.at h_zfhr0 (by omega) (by omega)
          refine lv_aload_n hx hb dX3_waterBy_46 rfl (lv_at hl 0 rfl) ?_
          refine va_get (D := (dC, dI)) (ci := 3) (v := .ref zhr) (C := RX3) (T := TX3) (N := 3) hx hb hts (by decide +kernel) hown hK hP 1 rfl rfl 0 (by decide) (hts (.fieldLink RX3 11 "DripStone$Hill" "rain" "[[I") (by decide +kernel)) (fun _ h9 => h9) rfl dX3_waterBy_47 ?_
          refine lv_iconst (v := 1) hx hb dX3_waterBy_50 (by decide) ?_
          refine va_aldA hx hb hK hP 2 7 rfl rfl (vp_in_iff.mpr ⟨by decide, by decide⟩) dX3_waterBy_51 ?_
          refine W.eq (g2 := F0 m 52 ls [.ref (zqh 1), .int zi_180, .int zi_16]) rfl ?_
          refine lv_iload hx hb dX3_waterBy_52 (lv_at hl 5 rfl) ?_
          refine va_iald hx hb hK hP 0 0 rfl rfl (vp_in_iff.mpr ⟨by omega, by omega⟩) dX3_waterBy_54 ?_
          refine lv_topi (fun zi_181 ezi_181 => ?_)
          have tzi_181 : (-20) ≤ zi_181.toInt ∧ zi_181.toInt ≤ 20 := by rw [ezi_181]; exact RG.at h_zfhr1 (by omega) (by omega)
          refine lv_imul hx hb dX3_waterBy_55 ?_
          refine lv_topi (fun zi_182 ezi_182 => ?_)
          refine lv_iadd hx hb dX3_waterBy_56 ?_
          refine lv_topi (fun zi_183 ezi_183 => ?_)
          refine lv_istore (lv' := [(4, .int zi_183), (0, .ref zh), (1, .int ziy), (2, .int zik), (3, .int zi_2), (5, .int zi_17)]) hx hb dX3_waterBy_57 hl (by decide) rfl (fun ls hl => ?_)
          obtain ⟨zi_184, ezi_184⟩ : ∃ y : Int32, y = zi_17 + 1 := ⟨_, rfl⟩
          have tzi_184 : zi_184.toInt = zi_17.toInt + 1 := by rw [ezi_184]; exact tadd rfl (show (1 : Int32).toInt = 1 by decide) (by omega) (by omega)
          refine lv_iinc (v := zi_184) (lv' := [(5, .int zi_184), (4, .int zi_183), (0, .ref zh), (1, .int ziy), (2, .int zik), (3, .int zi_2)]) hx hb dX3_waterBy_59 hl (k := 5) rfl (by rw [ezi_184]; rfl) (by decide) rfl (fun ls hl => ?_)
          refine lv_goto (tgt := 29) hx hb dX3_waterBy_62 (by decide) ?_
          exact ih (ziy.toInt - zi_184.toInt + 1).toNat (by omega) zi_183 zi_184 _ _ _ rfl (by omega) hP hD hS (lv_sub hl [2, 3, 4, 5, 1, 0] rfl)
    exact lp_176 _ (0 : Int32) zi_8 _ _ _ rfl (by omega) hP hD hS (lv_sub hl [3, 4, 5, 2, 1, 0] rfl)
  · have f_5 : ¬ (zi_2.toInt ≠ 0) := ic_nne (rfl) (by decide) c_4
    refine lv_sipush (v := (-1004)) hx hb dX3_waterBy_11 (by decide) ?_
    subst hQ
    have hP9 := hP.sub (ws' := [(zh, .inr (3, [.ref zhr, .int zihk, .int zihs])), (zhr, .inl (cy 7, 3, .inr (.inr (.inr (.inr (fun i => if i < 3 then some (zqh i) else none)))))), ((zqh 0), .inl (cy 0, 24, .inl zfhr0)), ((zqh 1), .inl (cy 0, 24, .inl zfhr1))]) [1, 2, 3, 0] rfl
    have hD9 := hD.sub (ws' := [(zh, .inr (3, [.ref zhr, .int zihk, .int zihs])), (zhr, .inl (cy 7, 3, .inr (.inr (.inr (.inr (fun i => if i < 3 then some (zqh i) else none)))))), ((zqh 0), .inl (cy 0, 24, .inl zfhr0)), ((zqh 1), .inl (cy 0, 24, .inl zfhr1))]) [1, 2, 3, 0] (by decide) rfl
    exact W.iret (v := (-1004 : Int32)) hx hb hr (fun t ht hW => ⟨⟨(-1004 : Int32), (), rfl, trivial, ⟨by rw [ht]; exact hP9, va_K.moved hW.alike hK, hD9⟩⟩, hS.F ht⟩) hS.2.2 dX3_waterBy_14
set_option maxHeartbeats 8000000 in
set_option maxRecDepth 100000 in
theorem c_X4_isMet (l : Launch) (dC : Nat → ClassId) (dI : Nat → Nat → Nat) (cy : Nat → ClassId) (sz : Nat) (zl : Nat) (zic0 : Int32) (zia : Int32) (zib : Int32) (ziw : Int32) (zld : Nat) (zlc : Nat) (zls : Nat) (zlg : Nat) (zln : Nat) (zil : Int32) (zflc : Nat → Int32) (zfls : Nat → Int32) (zflg : Nat → Int32) (zfln : Nat → Int32) (b_zic0 : 0 ≤ zic0.toInt ∧ zic0.toInt ≤ 5) (b_zil : 0 ≤ zil.toInt ∧ zil.toInt ≤ 6) (h_zflc : RG zflc 6 0 3) : Met l yX4_isMet wsX4_isMet ({ frames := 1, cells := 0, slots := 0, locals := 21 } : Room) (va_Pc [.ref zl, .int zic0, .int zia, .int zib, .int ziw] (PRE dC dI cy [(zl, .inr (4, [.ref zld, .ref zlc, .ref zls, .ref zlg, .ref zln, .int zil])), (zlc, .inl (cy 0, 6, .inl zflc)), (zls, .inl (cy 0, 18, .inl zfls)), (zlg, .inl (cy 0, 18, .inl zflg)), (zln, .inl (cy 0, 18, .inl zfln))] sz)) (va_Qi (fun (r : Int32) (u : Unit) => (0 ≤ r.toInt ∧ r.toInt ≤ 1)) (fun u t => POST dC dI cy (va_A [(zl, .inr (4, [.ref zld, .ref zlc, .ref zls, .ref zlg, .ref zln, .int zil])), (zlc, .inl (cy 0, 6, .inl zflc)), (zls, .inl (cy 0, 18, .inl zfls)), (zlg, .inl (cy 0, 18, .inl zflg)), (zln, .inl (cy 0, 18, .inl zfln))] sz) [(zl, .inr (4, [.ref zld, .ref zlc, .ref zls, .ref zlg, .ref zln, .int zil])), (zlc, .inl (cy 0, 6, .inl zflc)), (zls, .inl (cy 0, 18, .inl zfls)), (zlg, .inl (cy 0, 18, .inl zflg)), (zln, .inl (cy 0, 18, .inl zfln))] t) (va_A [(zl, .inr (4, [.ref zld, .ref zlc, .ref zls, .ref zlg, .ref zln, .int zil])), (zlc, .inl (cy 0, 6, .inl zflc)), (zls, .inl (cy 0, 18, .inl zfls)), (zlg, .inl (cy 0, 18, .inl zflg)), (zln, .inl (cy 0, 18, .inl zfln))] sz)) 0 0 (va_A [(zl, .inr (4, [.ref zld, .ref zlc, .ref zls, .ref zlg, .ref zln, .int zil])), (zlc, .inl (cy 0, 6, .inl zflc)), (zls, .inl (cy 0, 18, .inl zfls)), (zlg, .inl (cy 0, 18, .inl zflg)), (zln, .inl (cy 0, 18, .inl zfln))] sz) := by
  refine Met.ofW (cc := cX4_isMet) (maxL := 10) (ret := (some .boolean)) (by decide) rfl ?_
  intro p e s m args below meth c s₁ B hml hv
  obtain ⟨rfl, hsz, hP, hK, hD0, hN⟩ := hv
  have hx := B.exec
  have hb := B.bytes
  have hr := B.returns
  have hts := atoms_spec (ws := wsX4_isMet) B.pre
  have hown : s.vm.findClass RX4 = some m.cls := findClass_of_methodNamed B.named
  have hlocks := B.notSynchronized
  subst hsz
  have hD := hD0.self (sz := s.heap.size)
  generalize hAe : va_A [(zl, .inr (4, [.ref zld, .ref zlc, .ref zls, .ref zlg, .ref zln, .int zil])), (zlc, .inl (cy 0, 6, .inl zflc)), (zls, .inl (cy 0, 18, .inl zfls)), (zlg, .inl (cy 0, 18, .inl zflg)), (zln, .inl (cy 0, 18, .inl zfln))] s.heap.size = A at hD ⊢
  have hA : ∀ q : Nat, s.heap.size ≤ q → A q := fun q h => by rw [← hAe]; exact Or.inr h
  have hS : va_S A s.heap s.heap [] := va_S.rf
  have hP : va_P (dC, dI) vwCl [(zl, .inr (4, [.ref zld, .ref zlc, .ref zls, .ref zlg, .ref zln, .int zil])), (zlc, .inl (cy 0, 6, .inl zflc)), (zls, .inl (cy 0, 18, .inl zfls)), (zlg, .inl (cy 0, 18, .inl zflg)), (zln, .inl (cy 0, 18, .inl zfln))] s.heap := hP
  have hl := lv_entry ([.ref zl, .int zic0, .int zia, .int zib, .int ziw] : List Value) (n := 10) (Nat.le_of_ble_eq_true rfl)
  rw [lg_entry_eq]
  generalize (lg_sl ([.ref zl, .int zic0, .int zia, .int zib, .int ziw] : List Value) ++ List.replicate (10 - (lg_sl ([.ref zl, .int zic0, .int zia, .int zib, .int ziw] : List Value)).length) Slot.unset).toArray = ls at hl ⊢
  have hl : lv_has ls 10 [(0, .ref zl), (1, .int zic0), (2, .int zia), (3, .int zib), (4, .int ziw)] := hl
  refine w_q (fun Q hQ => ?_)
  refine lv_iconst (v := 0) hx hb dX4_isMet_0 (by decide) ?_
  refine lv_istore (lv' := [(5, .int 0), (0, .ref zl), (1, .int zic0), (2, .int zia), (3, .int zib), (4, .int ziw)]) hx hb dX4_isMet_1 hl (by decide) rfl (fun ls hl => ?_)
  have lp_183 : ∀ (n : Nat) (zi_146 : Int32) (H : Heap) (locs : List Loc) (ls : Array Slot), (3 - zi_146.toInt).toNat = n → (0 ≤ zi_146.toInt ∧ zi_146.toInt ≤ 3) → va_P (dC, dI) vwCl [(zl, .inr (4, [.ref zld, .ref zlc, .ref zls, .ref zlg, .ref zln, .int zil])), (zlc, .inl (cy 0, 6, .inl zflc)), (zls, .inl (cy 0, 18, .inl zfls)), (zlg, .inl (cy 0, 18, .inl zflg)), (zln, .inl (cy 0, 18, .inl zfln))] H → va_D A [(zl, .inr (4, [.ref zld, .ref zlc, .ref zls, .ref zlg, .ref zln, .int zil])), (zlc, .inl (cy 0, 6, .inl zflc)), (zls, .inl (cy 0, 18, .inl zfls)), (zlg, .inl (cy 0, 18, .inl zflg)), (zln, .inl (cy 0, 18, .inl zfln))] → va_S A s.heap H locs → lv_has ls 10 [(0, .ref zl), (1, .int zic0), (2, .int zia), (3, .int zib), (4, .int ziw), (5, .int zi_146)] → W p l e ({ frames := 1, cells := 0, slots := 0, locals := 21 } : Room) s m ([.ref zl, .int zic0, .int zia, .int zib, .int ziw] : List Value).toArray below meth c H locs 0 0 Q (F0 m 3 ls []) := by
    intro n
    induction n using Nat.strongRecOn with
    | _ n ih =>
      intro zi_146 H locs ls hn b_zi_146 hP hD hS hl
      refine lv_iload hx hb dX4_isMet_3 (lv_at hl 5 rfl) ?_
      refine lv_aload_n hx hb dX4_isMet_5 rfl (lv_at hl 0 rfl) ?_
      refine va_get (D := (dC, dI)) (ci := 4) (v := .ref zlc) (C := RX4) (T := TX4) (N := 6) hx hb hts (by decide +kernel) hown hK hP 0 rfl rfl 1 (by decide) (hts (.fieldLink RX4 15 "DripStone$Law" "conditions" "[I") (by decide +kernel)) (fun _ h9 => h9) rfl dX4_isMet_6 ?_
      refine lv_iload_n hx hb dX4_isMet_9 rfl (lv_at hl 1 rfl) ?_
      refine va_iald hx hb hK hP 1 0 rfl rfl (vp_in_iff.mpr ⟨by omega, by omega⟩) dX4_isMet_10 ?_
      refine lv_topi (fun zi_184 ezi_184 => ?_)
      have tzi_184 : 0 ≤ zi_184.toInt ∧ zi_184.toInt ≤ 3 := by rw [ezi_184]; exact RG.at h_zflc (by omega) (by omega)
      refine lv_icmp_ge (tgt := 122) hx hb dX4_isMet_11 (by decide) (fun c_185 => ?_) (fun c_185 => ?_)
      · have f_186 : zi_146.toInt ≥ zi_184.toInt := ic_ge (rfl) (rfl) c_185
        refine lv_iconst (v := 1) hx hb dX4_isMet_122 (by decide) ?_
        subst hQ
        have qc_1 : (1 : Int32).toInt = 1 := by decide
        have hP9 := hP.sub (ws' := [(zl, .inr (4, [.ref zld, .ref zlc, .ref zls, .ref zlg, .ref zln, .int zil])), (zlc, .inl (cy 0, 6, .inl zflc)), (zls, .inl (cy 0, 18, .inl zfls)), (zlg, .inl (cy 0, 18, .inl zflg)), (zln, .inl (cy 0, 18, .inl zfln))]) [0, 1, 2, 3, 4] rfl
        have hD9 := hD.sub (ws' := [(zl, .inr (4, [.ref zld, .ref zlc, .ref zls, .ref zlg, .ref zln, .int zil])), (zlc, .inl (cy 0, 6, .inl zflc)), (zls, .inl (cy 0, 18, .inl zfls)), (zlg, .inl (cy 0, 18, .inl zflg)), (zln, .inl (cy 0, 18, .inl zfln))]) [0, 1, 2, 3, 4] (by decide) rfl
        exact W.zret (v := (1 : Int32)) hx hb hr rfl (fun t ht hW => ⟨⟨(1 : Int32), (), rfl, (show 0 ≤ (1 : Int32).toInt ∧ (1 : Int32).toInt ≤ 1 from by omega), ⟨by rw [ht]; exact hP9, va_K.moved hW.alike hK, hD9⟩⟩, hS.F ht⟩) hS.2.2 dX4_isMet_123
      · have f_186 : ¬ (zi_146.toInt ≥ zi_184.toInt) := ic_nge (rfl) (rfl) c_185
        refine lv_iload_n hx hb dX4_isMet_14 rfl (lv_at hl 1 rfl) ?_
        refine lv_iconst (v := 3) hx hb dX4_isMet_15 (by decide) ?_
        refine lv_imul hx hb dX4_isMet_16 ?_
        refine lv_topi (fun zi_187 ezi_187 => ?_)
        have tzi_187 : zi_187.toInt = zic0.toInt * (3 : Int) := by rw [ezi_187]; exact timul (rfl) (show (3 : Int32).toInt = 3 by decide) (by omega) (by omega)
        refine lv_iload hx hb dX4_isMet_17 (lv_at hl 5 rfl) ?_
        refine lv_iadd hx hb dX4_isMet_19 ?_
        refine lv_topi (fun zi_188 ezi_188 => ?_)
        have tzi_188 : zi_188.toInt = zi_187.toInt + zi_146.toInt := by rw [ezi_188]; exact tiadd (rfl) (rfl) (by omega) (by omega)
        refine lv_istore (lv' := [(6, .int zi_188), (0, .ref zl), (1, .int zic0), (2, .int zia), (3, .int zib), (4, .int ziw), (5, .int zi_146)]) hx hb dX4_isMet_20 hl (by decide) rfl (fun ls hl => ?_)
        refine lv_aload_n hx hb dX4_isMet_22 rfl (lv_at hl 1 rfl) ?_
        refine va_get (D := (dC, dI)) (ci := 4) (v := .ref zls) (C := RX4) (T := TX4) (N := 6) hx hb hts (by decide +kernel) hown hK hP 0 rfl rfl 2 (by decide) (hts (.fieldLink RX4 18 "DripStone$Law" "subjects" "[I") (by decide +kernel)) (fun _ h9 => h9) rfl dX4_isMet_23 ?_
        refine lv_iload hx hb dX4_isMet_26 (lv_at hl 0 rfl) ?_
        refine va_iald hx hb hK hP 2 0 rfl rfl (vp_in_iff.mpr ⟨by omega, by omega⟩) dX4_isMet_28 ?_
        refine lv_topi (fun zi_189 ezi_189 => ?_)
        refine lv_bipush (v := 97) hx hb dX4_isMet_29 (by decide) ?_
        have jn_196 : ∀ (zi_195 : Int32) (H : Heap) (locs : List Loc) (ls : Array Slot), va_P (dC, dI) vwCl [(zl, .inr (4, [.ref zld, .ref zlc, .ref zls, .ref zlg, .ref zln, .int zil])), (zlc, .inl (cy 0, 6, .inl zflc)), (zls, .inl (cy 0, 18, .inl zfls)), (zlg, .inl (cy 0, 18, .inl zflg)), (zln, .inl (cy 0, 18, .inl zfln))] H → va_D A [(zl, .inr (4, [.ref zld, .ref zlc, .ref zls, .ref zlg, .ref zln, .int zil])), (zlc, .inl (cy 0, 6, .inl zflc)), (zls, .inl (cy 0, 18, .inl zfls)), (zlg, .inl (cy 0, 18, .inl zflg)), (zln, .inl (cy 0, 18, .inl zfln))] → va_S A s.heap H locs → lv_has ls 10 [(0, .ref zl), (1, .int zic0), (2, .int zia), (3, .int zib), (4, .int ziw), (5, .int zi_146), (6, .int zi_188)] → W p l e ({ frames := 1, cells := 0, slots := 0, locals := 21 } : Room) s m ([.ref zl, .int zic0, .int zia, .int zib, .int ziw] : List Value).toArray below meth c H locs 0 0 Q (F0 m 56 ls [.int zi_195]) := by
          intro zi_195 H locs ls  hP hD hS hl
          refine lv_istore (lv' := [(7, .int zi_195), (0, .ref zl), (1, .int zic0), (2, .int zia), (3, .int zib), (4, .int ziw), (5, .int zi_146), (6, .int zi_188)]) hx hb dX4_isMet_56 hl (by decide) rfl (fun ls hl => ?_)
          refine lv_iload hx hb dX4_isMet_58 (lv_at hl 0 rfl) ?_
          refine lv_aload_n hx hb dX4_isMet_60 rfl (lv_at hl 1 rfl) ?_
          refine va_get (D := (dC, dI)) (ci := 4) (v := .ref zln) (C := RX4) (T := TX4) (N := 6) hx hb hts (by decide +kernel) hown hK hP 0 rfl rfl 4 (by decide) (hts (.fieldLink RX4 24 "DripStone$Law" "numbers" "[I") (by decide +kernel)) (fun _ h9 => h9) rfl dX4_isMet_61 ?_
          refine lv_iload hx hb dX4_isMet_64 (lv_at hl 7 rfl) ?_
          refine va_iald hx hb hK hP 4 0 rfl rfl (vp_in_iff.mpr ⟨by omega, by omega⟩) dX4_isMet_66 ?_
          refine lv_topi (fun zi_197 ezi_197 => ?_)
          refine cj_i (wc := []) (wr := [(zl, .inr (4, [.ref zld, .ref zlc, .ref zls, .ref zlg, .ref zln, .int zil])), (zlc, .inl (cy 0, 6, .inl zflc)), (zls, .inl (cy 0, 18, .inl zfls)), (zlg, .inl (cy 0, 18, .inl zflg)), (zln, .inl (cy 0, 18, .inl zfln))]) (w1 := fun (u : Unit) => []) (va_runS (As := [.int zi_195, .int zi_197]) (rest := []) ⟨hx, hb, hml, hown, hts⟩ (c_J6_compare_7cf53 l dC dI cy H.size zi_195 zi_197) (va_cwS 2 hts gX4_isMet_J6_compare_7cf53 rfl rfl rfl (by decide +kernel) ⟨(Nat.le_of_ble_eq_true rfl), (Nat.le_of_ble_eq_true rfl)⟩) (PRE.s (hP.sub [] rfl) hK (hD.sub [] (by decide) rfl) hN) rfl rfl hl.1 rfl (lv_room (Nat.le_of_ble_eq_true rfl)) dX4_isMet_67 ⟨(Nat.le_of_ble_eq_true rfl), (Nat.le_of_ble_eq_true rfl)⟩) hP hD hS hA [] [0, 1, 2, 3, 4] rfl rfl rfl (by decide) (fun zi_199 u_198 H locs hw_200 hP hD hS => ?_)
          have hP : va_P (dC, dI) vwCl [(zl, .inr (4, [.ref zld, .ref zlc, .ref zls, .ref zlg, .ref zln, .int zil])), (zlc, .inl (cy 0, 6, .inl zflc)), (zls, .inl (cy 0, 18, .inl zfls)), (zlg, .inl (cy 0, 18, .inl zflg)), (zln, .inl (cy 0, 18, .inl zfln))] H := hP
          have hD : va_D A [(zl, .inr (4, [.ref zld, .ref zlc, .ref zls, .ref zlg, .ref zln, .int zil])), (zlc, .inl (cy 0, 6, .inl zflc)), (zls, .inl (cy 0, 18, .inl zfls)), (zlg, .inl (cy 0, 18, .inl zflg)), (zln, .inl (cy 0, 18, .inl zfln))] := hD
          have b_zi_199 : (-1) ≤ zi_199.toInt ∧ zi_199.toInt ≤ 1 := hw_200
          refine lv_istore (lv' := [(8, .int zi_199), (7, .int zi_195), (0, .ref zl), (1, .int zic0), (2, .int zia), (3, .int zib), (4, .int ziw), (5, .int zi_146), (6, .int zi_188)]) hx hb dX4_isMet_70 hl (by decide) rfl (fun ls hl => ?_)
          refine lv_aload_n hx hb dX4_isMet_72 rfl (lv_at hl 2 rfl) ?_
          refine va_get (D := (dC, dI)) (ci := 4) (v := .ref zlg) (C := RX4) (T := TX4) (N := 6) hx hb hts (by decide +kernel) hown hK hP 0 rfl rfl 3 (by decide) (hts (.fieldLink RX4 21 "DripStone$Law" "signs" "[I") (by decide +kernel)) (fun _ h9 => h9) rfl dX4_isMet_73 ?_
          refine lv_iload hx hb dX4_isMet_76 (lv_at hl 8 rfl) ?_
          refine va_iald hx hb hK hP 3 0 rfl rfl (vp_in_iff.mpr ⟨by omega, by omega⟩) dX4_isMet_78 ?_
          refine lv_topi (fun zi_201 ezi_201 => ?_)
          refine lv_bipush (v := 60) hx hb dX4_isMet_79 (by decide) ?_
          have jn_208 : ∀ (zi_207 : Int32) (H : Heap) (locs : List Loc) (ls : Array Slot), ((-1) ≤ zi_207.toInt ∧ zi_207.toInt ≤ 1) → va_P (dC, dI) vwCl [(zl, .inr (4, [.ref zld, .ref zlc, .ref zls, .ref zlg, .ref zln, .int zil])), (zlc, .inl (cy 0, 6, .inl zflc)), (zls, .inl (cy 0, 18, .inl zfls)), (zlg, .inl (cy 0, 18, .inl zflg)), (zln, .inl (cy 0, 18, .inl zfln))] H → va_D A [(zl, .inr (4, [.ref zld, .ref zlc, .ref zls, .ref zlg, .ref zln, .int zil])), (zlc, .inl (cy 0, 6, .inl zflc)), (zls, .inl (cy 0, 18, .inl zfls)), (zlg, .inl (cy 0, 18, .inl zflg)), (zln, .inl (cy 0, 18, .inl zfln))] → va_S A s.heap H locs → lv_has ls 10 [(0, .ref zl), (1, .int zic0), (2, .int zia), (3, .int zib), (4, .int ziw), (5, .int zi_146), (6, .int zi_188), (7, .int zi_195), (8, .int zi_199)] → W p l e ({ frames := 1, cells := 0, slots := 0, locals := 21 } : Room) s m ([.ref zl, .int zic0, .int zia, .int zib, .int ziw] : List Value).toArray below meth c H locs 0 0 Q (F0 m 105 ls [.int zi_207]) := by
            intro zi_207 H locs ls b_zi_207 hP hD hS hl
            refine lv_istore (lv' := [(9, .int zi_207), (0, .ref zl), (1, .int zic0), (2, .int zia), (3, .int zib), (4, .int ziw), (5, .int zi_146), (6, .int zi_188), (7, .int zi_195), (8, .int zi_199)]) hx hb dX4_isMet_105 hl (by decide) rfl (fun ls hl => ?_)
            refine lv_iload hx hb dX4_isMet_107 (lv_at hl 9 rfl) ?_
            refine lv_iload hx hb dX4_isMet_109 (lv_at hl 0 rfl) ?_
            refine lv_icmp_eq (tgt := 116) hx hb dX4_isMet_111 (by decide) (fun c_209 => ?_) (fun c_209 => ?_)
            · have f_210 : zi_199.toInt = zi_207.toInt := ic_eq (rfl) (rfl) c_209
              obtain ⟨zi_211, ezi_211⟩ : ∃ y : Int32, y = zi_146 + 1 := ⟨_, rfl⟩
              have tzi_211 : zi_211.toInt = zi_146.toInt + 1 := by rw [ezi_211]; exact tadd rfl (show (1 : Int32).toInt = 1 by decide) (by omega) (by omega)
              refine lv_iinc (v := zi_211) (lv' := [(5, .int zi_211), (9, .int zi_207), (0, .ref zl), (1, .int zic0), (2, .int zia), (3, .int zib), (4, .int ziw), (6, .int zi_188), (7, .int zi_195), (8, .int zi_199)]) hx hb dX4_isMet_116 hl (k := 6) rfl (by rw [ezi_211]; rfl) (by decide) rfl (fun ls hl => ?_)
              refine lv_goto (tgt := 3) hx hb dX4_isMet_119 (by decide) ?_
              exact ih (3 - zi_211.toInt).toNat (by omega) zi_211 _ _ _ rfl (by omega) hP hD hS (lv_sub hl [2, 3, 4, 5, 6, 0] rfl)
            · have f_210 : ¬ (zi_199.toInt = zi_207.toInt) := ic_neq (rfl) (rfl) c_209
              refine lv_iconst (v := 0) hx hb dX4_isMet_114 (by decide) ?_
              subst hQ
              have qc_0 : (0 : Int32).toInt = 0 := by decide
              have hP9 := hP.sub (ws' := [(zl, .inr (4, [.ref zld, .ref zlc, .ref zls, .ref zlg, .ref zln, .int zil])), (zlc, .inl (cy 0, 6, .inl zflc)), (zls, .inl (cy 0, 18, .inl zfls)), (zlg, .inl (cy 0, 18, .inl zflg)), (zln, .inl (cy 0, 18, .inl zfln))]) [0, 1, 2, 3, 4] rfl
              have hD9 := hD.sub (ws' := [(zl, .inr (4, [.ref zld, .ref zlc, .ref zls, .ref zlg, .ref zln, .int zil])), (zlc, .inl (cy 0, 6, .inl zflc)), (zls, .inl (cy 0, 18, .inl zfls)), (zlg, .inl (cy 0, 18, .inl zflg)), (zln, .inl (cy 0, 18, .inl zfln))]) [0, 1, 2, 3, 4] (by decide) rfl
              exact W.zret (v := (0 : Int32)) hx hb hr rfl (fun t ht hW => ⟨⟨(0 : Int32), (), rfl, (show 0 ≤ (0 : Int32).toInt ∧ (0 : Int32).toInt ≤ 1 from by omega), ⟨by rw [ht]; exact hP9, va_K.moved hW.alike hK, hD9⟩⟩, hS.F ht⟩) hS.2.2 dX4_isMet_115
          refine lv_icmp_ne (tgt := 88) hx hb dX4_isMet_81 (by decide) (fun c_212 => ?_) (fun c_212 => ?_)
          · have f_213 : zi_201.toInt ≠ (60 : Int) := ic_ne (rfl) (show (60 : Int32).toInt = 60 by decide) c_212
            refine lv_aload_n hx hb dX4_isMet_88 rfl (lv_at hl 2 rfl) ?_
            refine va_get (D := (dC, dI)) (ci := 4) (v := .ref zlg) (C := RX4) (T := TX4) (N := 6) hx hb hts (by decide +kernel) hown hK hP 0 rfl rfl 3 (by decide) (hts (.fieldLink RX4 21 "DripStone$Law" "signs" "[I") (by decide +kernel)) (fun _ h9 => h9) rfl dX4_isMet_89 ?_
            refine lv_iload hx hb dX4_isMet_92 (lv_at hl 8 rfl) ?_
            refine va_iald hx hb hK hP 3 0 rfl rfl (vp_in_iff.mpr ⟨by omega, by omega⟩) dX4_isMet_94 ?_
            refine lv_topi (fun zi_214 ezi_214 => ?_)
            obtain rfl : zi_201 = zi_214 := (ezi_214.trans ezi_201.symm).symm
            refine lv_bipush (v := 62) hx hb dX4_isMet_95 (by decide) ?_
            refine lv_icmp_ne (tgt := 104) hx hb dX4_isMet_97 (by decide) (fun c_215 => ?_) (fun c_215 => ?_)
            · have f_216 : zi_201.toInt ≠ (62 : Int) := ic_ne (rfl) (show (62 : Int32).toInt = 62 by decide) c_215
              refine lv_iconst (v := 0) hx hb dX4_isMet_104 (by decide) ?_
              exact jn_208 (0 : Int32) _ _ _ (by decide) hP hD hS (lv_sub hl [2, 3, 4, 5, 6, 7, 8, 1, 0] rfl)
            · have f_216 : ¬ (zi_201.toInt ≠ (62 : Int)) := ic_nne (rfl) (show (62 : Int32).toInt = 62 by decide) c_215
              refine lv_iconst (v := 1) hx hb dX4_isMet_100 (by decide) ?_
              refine lv_goto (tgt := 105) hx hb dX4_isMet_101 (by decide) ?_
              exact jn_208 (1 : Int32) _ _ _ (by decide) hP hD hS (lv_sub hl [2, 3, 4, 5, 6, 7, 8, 1, 0] rfl)
          · have f_213 : ¬ (zi_201.toInt ≠ (60 : Int)) := ic_nne (rfl) (show (60 : Int32).toInt = 60 by decide) c_212
            refine lv_iconst (v := (-1)) hx hb dX4_isMet_84 (by decide) ?_
            refine lv_goto (tgt := 105) hx hb dX4_isMet_85 (by decide) ?_
            exact jn_208 (-1 : Int32) _ _ _ (by decide) hP hD hS (lv_sub hl [2, 3, 4, 5, 6, 7, 8, 1, 0] rfl)
        refine lv_icmp_ne (tgt := 38) hx hb dX4_isMet_31 (by decide) (fun c_217 => ?_) (fun c_217 => ?_)
        · have f_218 : zi_189.toInt ≠ (97 : Int) := ic_ne (rfl) (show (97 : Int32).toInt = 97 by decide) c_217
          refine lv_aload_n hx hb dX4_isMet_38 rfl (lv_at hl 1 rfl) ?_
          refine va_get (D := (dC, dI)) (ci := 4) (v := .ref zls) (C := RX4) (T := TX4) (N := 6) hx hb hts (by decide +kernel) hown hK hP 0 rfl rfl 2 (by decide) (hts (.fieldLink RX4 18 "DripStone$Law" "subjects" "[I") (by decide +kernel)) (fun _ h9 => h9) rfl dX4_isMet_39 ?_
          refine lv_iload hx hb dX4_isMet_42 (lv_at hl 0 rfl) ?_
          refine va_iald hx hb hK hP 2 0 rfl rfl (vp_in_iff.mpr ⟨by omega, by omega⟩) dX4_isMet_44 ?_
          refine lv_topi (fun zi_219 ezi_219 => ?_)
          obtain rfl : zi_189 = zi_219 := (ezi_219.trans ezi_189.symm).symm
          refine lv_bipush (v := 104) hx hb dX4_isMet_45 (by decide) ?_
          refine lv_icmp_ne (tgt := 54) hx hb dX4_isMet_47 (by decide) (fun c_220 => ?_) (fun c_220 => ?_)
          · have f_221 : zi_189.toInt ≠ (104 : Int) := ic_ne (rfl) (show (104 : Int32).toInt = 104 by decide) c_220
            refine lv_iload hx hb dX4_isMet_54 (lv_at hl 5 rfl) ?_
            exact jn_196 ziw _ _ _  hP hD hS (lv_sub hl [1, 2, 3, 4, 5, 6, 0] rfl)
          · have f_221 : ¬ (zi_189.toInt ≠ (104 : Int)) := ic_nne (rfl) (show (104 : Int32).toInt = 104 by decide) c_220
            refine lv_iload_n hx hb dX4_isMet_50 rfl (lv_at hl 4 rfl) ?_
            refine lv_goto (tgt := 56) hx hb dX4_isMet_51 (by decide) ?_
            exact jn_196 zib _ _ _  hP hD hS (lv_sub hl [1, 2, 3, 4, 5, 6, 0] rfl)
        · have f_218 : ¬ (zi_189.toInt ≠ (97 : Int)) := ic_nne (rfl) (show (97 : Int32).toInt = 97 by decide) c_217
          refine lv_iload_n hx hb dX4_isMet_34 rfl (lv_at hl 3 rfl) ?_
          refine lv_goto (tgt := 56) hx hb dX4_isMet_35 (by decide) ?_
          exact jn_196 zia _ _ _  hP hD hS (lv_sub hl [1, 2, 3, 4, 5, 6, 0] rfl)
  exact lp_183 _ (0 : Int32) _ _ _ rfl (by decide) hP hD hS (lv_sub hl [1, 2, 3, 4, 5, 0] rfl)
set_option maxHeartbeats 8000000 in
set_option maxRecDepth 100000 in
theorem c_X4_growth (l : Launch) (dC : Nat → ClassId) (dI : Nat → Nat → Nat) (cy : Nat → ClassId) (sz : Nat) (zl : Nat) (zh : Nat) (ziy : Int32) (zld : Nat) (zlc : Nat) (zls : Nat) (zlg : Nat) (zln : Nat) (zil : Int32) (zfld : Nat → Int32) (zflc : Nat → Int32) (zfls : Nat → Int32) (zflg : Nat → Int32) (zfln : Nat → Int32) (zhr : Nat) (zihk : Int32) (zihs : Int32) (zqh : Nat → Nat) (zfhr0 : Nat → Int32) (zfhr2 : Nat → Int32) (b_ziy : 0 ≤ ziy.toInt ∧ ziy.toInt ≤ 23) (b_zil : 0 ≤ zil.toInt ∧ zil.toInt ≤ 6) (h_zflc : RG zflc 6 0 3) (b_zihk : 1 ≤ zihk.toInt ∧ zihk.toInt ≤ 5) (b_zihs : 1 ≤ zihs.toInt ∧ zihs.toInt ≤ 9) (h_zfhr0 : RG zfhr0 24 0 9) (h_zfhr2 : RG zfhr2 24 0 9) : Met l yX4_growth wsX4_growth ({ frames := 2, cells := 0, slots := 0, locals := 54 } : Room) (va_Pc [.ref zl, .ref zh, .int ziy] (PRE dC dI cy [(zl, .inr (4, [.ref zld, .ref zlc, .ref zls, .ref zlg, .ref zln, .int zil])), (zld, .inl (cy 0, 6, .inl zfld)), (zlc, .inl (cy 0, 6, .inl zflc)), (zls, .inl (cy 0, 18, .inl zfls)), (zlg, .inl (cy 0, 18, .inl zflg)), (zln, .inl (cy 0, 18, .inl zfln)), (zh, .inr (3, [.ref zhr, .int zihk, .int zihs])), (zhr, .inl (cy 7, 3, .inr (.inr (.inr (.inr (fun i => if i < 3 then some (zqh i) else none)))))), ((zqh 0), .inl (cy 0, 24, .inl zfhr0)), ((zqh 2), .inl (cy 0, 24, .inl zfhr2))] sz)) (va_Qi (fun (r : Int32) (u : Unit) => True) (fun u t => POST dC dI cy (va_A [(zl, .inr (4, [.ref zld, .ref zlc, .ref zls, .ref zlg, .ref zln, .int zil])), (zld, .inl (cy 0, 6, .inl zfld)), (zlc, .inl (cy 0, 6, .inl zflc)), (zls, .inl (cy 0, 18, .inl zfls)), (zlg, .inl (cy 0, 18, .inl zflg)), (zln, .inl (cy 0, 18, .inl zfln)), (zh, .inr (3, [.ref zhr, .int zihk, .int zihs])), (zhr, .inl (cy 7, 3, .inr (.inr (.inr (.inr (fun i => if i < 3 then some (zqh i) else none)))))), ((zqh 0), .inl (cy 0, 24, .inl zfhr0)), ((zqh 2), .inl (cy 0, 24, .inl zfhr2))] sz) [(zl, .inr (4, [.ref zld, .ref zlc, .ref zls, .ref zlg, .ref zln, .int zil])), (zld, .inl (cy 0, 6, .inl zfld)), (zlc, .inl (cy 0, 6, .inl zflc)), (zls, .inl (cy 0, 18, .inl zfls)), (zlg, .inl (cy 0, 18, .inl zflg)), (zln, .inl (cy 0, 18, .inl zfln)), (zh, .inr (3, [.ref zhr, .int zihk, .int zihs])), (zhr, .inl (cy 7, 3, .inr (.inr (.inr (.inr (fun i => if i < 3 then some (zqh i) else none)))))), ((zqh 0), .inl (cy 0, 24, .inl zfhr0)), ((zqh 2), .inl (cy 0, 24, .inl zfhr2))] t) (va_A [(zl, .inr (4, [.ref zld, .ref zlc, .ref zls, .ref zlg, .ref zln, .int zil])), (zld, .inl (cy 0, 6, .inl zfld)), (zlc, .inl (cy 0, 6, .inl zflc)), (zls, .inl (cy 0, 18, .inl zfls)), (zlg, .inl (cy 0, 18, .inl zflg)), (zln, .inl (cy 0, 18, .inl zfln)), (zh, .inr (3, [.ref zhr, .int zihk, .int zihs])), (zhr, .inl (cy 7, 3, .inr (.inr (.inr (.inr (fun i => if i < 3 then some (zqh i) else none)))))), ((zqh 0), .inl (cy 0, 24, .inl zfhr0)), ((zqh 2), .inl (cy 0, 24, .inl zfhr2))] sz)) 0 0 (va_A [(zl, .inr (4, [.ref zld, .ref zlc, .ref zls, .ref zlg, .ref zln, .int zil])), (zld, .inl (cy 0, 6, .inl zfld)), (zlc, .inl (cy 0, 6, .inl zflc)), (zls, .inl (cy 0, 18, .inl zfls)), (zlg, .inl (cy 0, 18, .inl zflg)), (zln, .inl (cy 0, 18, .inl zfln)), (zh, .inr (3, [.ref zhr, .int zihk, .int zihs])), (zhr, .inl (cy 7, 3, .inr (.inr (.inr (.inr (fun i => if i < 3 then some (zqh i) else none)))))), ((zqh 0), .inl (cy 0, 24, .inl zfhr0)), ((zqh 2), .inl (cy 0, 24, .inl zfhr2))] sz) := by
  refine Met.ofW (cc := cX4_growth) (maxL := 5) (ret := (some .int)) (by decide) rfl ?_
  intro p e s m args below meth c s₁ B hml hv
  obtain ⟨rfl, hsz, hP, hK, hD0, hN⟩ := hv
  have hx := B.exec
  have hb := B.bytes
  have hr := B.returns
  have hts := atoms_spec (ws := wsX4_growth) B.pre
  have hown : s.vm.findClass RX4 = some m.cls := findClass_of_methodNamed B.named
  have hlocks := B.notSynchronized
  subst hsz
  have hD := hD0.self (sz := s.heap.size)
  generalize hAe : va_A [(zl, .inr (4, [.ref zld, .ref zlc, .ref zls, .ref zlg, .ref zln, .int zil])), (zld, .inl (cy 0, 6, .inl zfld)), (zlc, .inl (cy 0, 6, .inl zflc)), (zls, .inl (cy 0, 18, .inl zfls)), (zlg, .inl (cy 0, 18, .inl zflg)), (zln, .inl (cy 0, 18, .inl zfln)), (zh, .inr (3, [.ref zhr, .int zihk, .int zihs])), (zhr, .inl (cy 7, 3, .inr (.inr (.inr (.inr (fun i => if i < 3 then some (zqh i) else none)))))), ((zqh 0), .inl (cy 0, 24, .inl zfhr0)), ((zqh 2), .inl (cy 0, 24, .inl zfhr2))] s.heap.size = A at hD ⊢
  have hA : ∀ q : Nat, s.heap.size ≤ q → A q := fun q h => by rw [← hAe]; exact Or.inr h
  have hS : va_S A s.heap s.heap [] := va_S.rf
  have hP : va_P (dC, dI) vwCl [(zl, .inr (4, [.ref zld, .ref zlc, .ref zls, .ref zlg, .ref zln, .int zil])), (zld, .inl (cy 0, 6, .inl zfld)), (zlc, .inl (cy 0, 6, .inl zflc)), (zls, .inl (cy 0, 18, .inl zfls)), (zlg, .inl (cy 0, 18, .inl zflg)), (zln, .inl (cy 0, 18, .inl zfln)), (zh, .inr (3, [.ref zhr, .int zihk, .int zihs])), (zhr, .inl (cy 7, 3, .inr (.inr (.inr (.inr (fun i => if i < 3 then some (zqh i) else none)))))), ((zqh 0), .inl (cy 0, 24, .inl zfhr0)), ((zqh 2), .inl (cy 0, 24, .inl zfhr2))] s.heap := hP
  have hl := lv_entry ([.ref zl, .ref zh, .int ziy] : List Value) (n := 5) (Nat.le_of_ble_eq_true rfl)
  rw [lg_entry_eq]
  generalize (lg_sl ([.ref zl, .ref zh, .int ziy] : List Value) ++ List.replicate (5 - (lg_sl ([.ref zl, .ref zh, .int ziy] : List Value)).length) Slot.unset).toArray = ls at hl ⊢
  have hl : lv_has ls 5 [(0, .ref zl), (1, .ref zh), (2, .int ziy)] := hl
  refine w_q (fun Q hQ => ?_)
  refine lv_aload_n hx hb dX4_growth_0 rfl (lv_at hl 1 rfl) ?_
  refine lv_iload_n hx hb dX4_growth_1 rfl (lv_at hl 2 rfl) ?_
  refine lv_aload_n hx hb dX4_growth_2 rfl (lv_at hl 1 rfl) ?_
  refine va_get (D := (dC, dI)) (ci := 3) (v := .int zihk) (C := RX3) (T := TX3) (N := 3) hx hb hts (by decide +kernel) hown hK hP 6 rfl rfl 1 (by decide) (hts (.fieldLink RX4 27 "DripStone$Hill" "keeps" "I") (by decide +kernel)) (fun _ h9 => h9) rfl dX4_growth_3 ?_
  refine cj_i (wc := [(zh, .inr (3, [.ref zhr, .int zihk, .int zihs])), (zhr, .inl (cy 7, 3, .inr (.inr (.inr (.inr (fun i => if i < 3 then some (zqh i) else none)))))), ((zqh 0), .inl (cy 0, 24, .inl zfhr0))]) (wr := [(zl, .inr (4, [.ref zld, .ref zlc, .ref zls, .ref zlg, .ref zln, .int zil])), (zld, .inl (cy 0, 6, .inl zfld)), (zlc, .inl (cy 0, 6, .inl zflc)), (zls, .inl (cy 0, 18, .inl zfls)), (zlg, .inl (cy 0, 18, .inl zflg)), (zln, .inl (cy 0, 18, .inl zfln)), ((zqh 2), .inl (cy 0, 24, .inl zfhr2))]) (w1 := fun (u : Unit) => [(zh, .inr (3, [.ref zhr, .int zihk, .int zihs])), (zhr, .inl (cy 7, 3, .inr (.inr (.inr (.inr (fun i => if i < 3 then some (zqh i) else none)))))), ((zqh 0), .inl (cy 0, 24, .inl zfhr0))]) (va_runV (As := [.int ziy, .int zihk]) (rest := []) ⟨hx, hb, hml, hown, hts⟩ (c_X3_wetBy l dC dI cy s.heap.size zh ziy zihk zhr zihk zihs zqh zfhr0 (by omega) (by omega) (by omega) (by omega) h_zfhr0) (cwV 2 hts gX4_growth_X3_wetBy rfl rfl rfl (by decide +kernel) ⟨(Nat.le_of_ble_eq_true rfl), (Nat.le_of_ble_eq_true rfl)⟩) (PRE.v (hP.sub [6, 7, 8] rfl) hK (hD.sub [6, 7, 8] (by decide) rfl) hN (va_recv hK hP (ci := 3) (q0 := 6) rfl rfl)) rfl rfl hl.1 rfl (lv_room (Nat.le_of_ble_eq_true rfl)) dX4_growth_6 ⟨(Nat.le_of_ble_eq_true rfl), (Nat.le_of_ble_eq_true rfl)⟩) hP hD hS hA [6, 7, 8] [0, 1, 2, 3, 4, 5, 9] rfl rfl rfl (by decide) (fun zi_2 u_1 H locs hw_3 hP hD hS => ?_)
  have hP : va_P (dC, dI) vwCl [(zl, .inr (4, [.ref zld, .ref zlc, .ref zls, .ref zlg, .ref zln, .int zil])), (zld, .inl (cy 0, 6, .inl zfld)), (zlc, .inl (cy 0, 6, .inl zflc)), (zls, .inl (cy 0, 18, .inl zfls)), (zlg, .inl (cy 0, 18, .inl zflg)), (zln, .inl (cy 0, 18, .inl zfln)), ((zqh 2), .inl (cy 0, 24, .inl zfhr2)), (zh, .inr (3, [.ref zhr, .int zihk, .int zihs])), (zhr, .inl (cy 7, 3, .inr (.inr (.inr (.inr (fun i => if i < 3 then some (zqh i) else none)))))), ((zqh 0), .inl (cy 0, 24, .inl zfhr0))] H := hP
  have hD : va_D A [(zl, .inr (4, [.ref zld, .ref zlc, .ref zls, .ref zlg, .ref zln, .int zil])), (zld, .inl (cy 0, 6, .inl zfld)), (zlc, .inl (cy 0, 6, .inl zflc)), (zls, .inl (cy 0, 18, .inl zfls)), (zlg, .inl (cy 0, 18, .inl zflg)), (zln, .inl (cy 0, 18, .inl zfln)), ((zqh 2), .inl (cy 0, 24, .inl zfhr2)), (zh, .inr (3, [.ref zhr, .int zihk, .int zihs])), (zhr, .inl (cy 7, 3, .inr (.inr (.inr (.inr (fun i => if i < 3 then some (zqh i) else none)))))), ((zqh 0), .inl (cy 0, 24, .inl zfhr0))] := hD
  have rzi_2 := rng zi_2
  refine lv_istore_n (lv' := [(3, .int zi_2), (0, .ref zl), (1, .ref zh), (2, .int ziy)]) hx hb dX4_growth_9 rfl hl (by decide) rfl (fun ls hl => ?_)
  refine lv_iload_n hx hb dX4_growth_10 rfl (lv_at hl 0 rfl) ?_
  refine lv_if_ne (tgt := 16) hx hb dX4_growth_11 (by decide) (fun c_4 => ?_) (fun c_4 => ?_)
  · have f_5 : zi_2.toInt ≠ 0 := ic_ne (rfl) (by decide) c_4
    refine lv_iconst (v := 0) hx hb dX4_growth_16 (by decide) ?_
    refine lv_istore (lv' := [(4, .int 0), (3, .int zi_2), (0, .ref zl), (1, .ref zh), (2, .int ziy)]) hx hb dX4_growth_17 hl (by decide) rfl (fun ls hl => ?_)
    have lp_58 : ∀ (n : Nat) (zi_47 : Int32) (H : Heap) (locs : List Loc) (ls : Array Slot), (6 - zi_47.toInt).toNat = n → (0 ≤ zi_47.toInt ∧ zi_47.toInt ≤ 6) → va_P (dC, dI) vwCl [(zl, .inr (4, [.ref zld, .ref zlc, .ref zls, .ref zlg, .ref zln, .int zil])), (zld, .inl (cy 0, 6, .inl zfld)), (zlc, .inl (cy 0, 6, .inl zflc)), (zls, .inl (cy 0, 18, .inl zfls)), (zlg, .inl (cy 0, 18, .inl zflg)), (zln, .inl (cy 0, 18, .inl zfln)), ((zqh 2), .inl (cy 0, 24, .inl zfhr2)), (zh, .inr (3, [.ref zhr, .int zihk, .int zihs])), (zhr, .inl (cy 7, 3, .inr (.inr (.inr (.inr (fun i => if i < 3 then some (zqh i) else none)))))), ((zqh 0), .inl (cy 0, 24, .inl zfhr0))] H → va_D A [(zl, .inr (4, [.ref zld, .ref zlc, .ref zls, .ref zlg, .ref zln, .int zil])), (zld, .inl (cy 0, 6, .inl zfld)), (zlc, .inl (cy 0, 6, .inl zflc)), (zls, .inl (cy 0, 18, .inl zfls)), (zlg, .inl (cy 0, 18, .inl zflg)), (zln, .inl (cy 0, 18, .inl zfln)), ((zqh 2), .inl (cy 0, 24, .inl zfhr2)), (zh, .inr (3, [.ref zhr, .int zihk, .int zihs])), (zhr, .inl (cy 7, 3, .inr (.inr (.inr (.inr (fun i => if i < 3 then some (zqh i) else none)))))), ((zqh 0), .inl (cy 0, 24, .inl zfhr0))] → va_S A s.heap H locs → lv_has ls 5 [(0, .ref zl), (1, .ref zh), (2, .int ziy), (3, .int zi_2), (4, .int zi_47)] → W p l e ({ frames := 2, cells := 0, slots := 0, locals := 54 } : Room) s m ([.ref zl, .ref zh, .int ziy] : List Value).toArray below meth c H locs 0 0 Q (F0 m 19 ls []) := by
      intro n
      induction n using Nat.strongRecOn with
      | _ n ih =>
        intro zi_47 H locs ls hn b_zi_47 hP hD hS hl
        refine lv_iload hx hb dX4_growth_19 (lv_at hl 4 rfl) ?_
        refine lv_aload_n hx hb dX4_growth_21 rfl (lv_at hl 0 rfl) ?_
        refine va_get (D := (dC, dI)) (ci := 4) (v := .int zil) (C := RX4) (T := TX4) (N := 6) hx hb hts (by decide +kernel) hown hK hP 0 rfl rfl 5 (by decide) (hts (.fieldLink RX4 37 "DripStone$Law" "clauses" "I") (by decide +kernel)) (fun _ h9 => h9) rfl dX4_growth_22 ?_
        refine lv_icmp_ge (tgt := 68) hx hb dX4_growth_25 (by decide) (fun c_59 => ?_) (fun c_59 => ?_)
        · have f_60 : zi_47.toInt ≥ zil.toInt := ic_ge (rfl) (rfl) c_59
          refine lv_iconst (v := 0) hx hb dX4_growth_68 (by decide) ?_
          subst hQ
          have hP9 := hP.sub (ws' := [(zl, .inr (4, [.ref zld, .ref zlc, .ref zls, .ref zlg, .ref zln, .int zil])), (zld, .inl (cy 0, 6, .inl zfld)), (zlc, .inl (cy 0, 6, .inl zflc)), (zls, .inl (cy 0, 18, .inl zfls)), (zlg, .inl (cy 0, 18, .inl zflg)), (zln, .inl (cy 0, 18, .inl zfln)), (zh, .inr (3, [.ref zhr, .int zihk, .int zihs])), (zhr, .inl (cy 7, 3, .inr (.inr (.inr (.inr (fun i => if i < 3 then some (zqh i) else none)))))), ((zqh 0), .inl (cy 0, 24, .inl zfhr0)), ((zqh 2), .inl (cy 0, 24, .inl zfhr2))]) [0, 1, 2, 3, 4, 5, 7, 8, 9, 6] rfl
          have hD9 := hD.sub (ws' := [(zl, .inr (4, [.ref zld, .ref zlc, .ref zls, .ref zlg, .ref zln, .int zil])), (zld, .inl (cy 0, 6, .inl zfld)), (zlc, .inl (cy 0, 6, .inl zflc)), (zls, .inl (cy 0, 18, .inl zfls)), (zlg, .inl (cy 0, 18, .inl zflg)), (zln, .inl (cy 0, 18, .inl zfln)), (zh, .inr (3, [.ref zhr, .int zihk, .int zihs])), (zhr, .inl (cy 7, 3, .inr (.inr (.inr (.inr (fun i => if i < 3 then some (zqh i) else none)))))), ((zqh 0), .inl (cy 0, 24, .inl zfhr0)), ((zqh 2), .inl (cy 0, 24, .inl zfhr2))]) [0, 1, 2, 3, 4, 5, 7, 8, 9, 6] (by decide) rfl
          exact W.iret (v := (0 : Int32)) hx hb hr (fun t ht hW => ⟨⟨(0 : Int32), (), rfl, trivial, ⟨by rw [ht]; exact hP9, va_K.moved hW.alike hK, hD9⟩⟩, hS.F ht⟩) hS.2.2 dX4_growth_69
        · have f_60 : ¬ (zi_47.toInt ≥ zil.toInt) := ic_nge (rfl) (rfl) c_59
          refine lv_aload_n hx hb dX4_growth_28 rfl (lv_at hl 0 rfl) ?_
          refine lv_iload hx hb dX4_growth_29 (lv_at hl 4 rfl) ?_
          refine lv_aload_n hx hb dX4_growth_31 rfl (lv_at hl 1 rfl) ?_
          refine va_get (D := (dC, dI)) (ci := 3) (v := .ref zhr) (C := RX3) (T := TX3) (N := 3) hx hb hts (by decide +kernel) hown hK hP 7 rfl rfl 0 (by decide) (hts (.fieldLink RX4 40 "DripStone$Hill" "rain" "[[I") (by decide +kernel)) (fun _ h9 => h9) rfl dX4_growth_32 ?_
          refine lv_iconst (v := 0) hx hb dX4_growth_35 (by decide) ?_
          refine va_aldA hx hb hK hP 8 7 rfl rfl (vp_in_iff.mpr ⟨by decide, by decide⟩) dX4_growth_36 ?_
          refine W.eq (g2 := F0 m 37 ls [.ref (zqh 0), .int zi_47, .ref zl]) rfl ?_
          refine lv_iload_n hx hb dX4_growth_37 rfl (lv_at hl 2 rfl) ?_
          refine va_iald hx hb hK hP 9 0 rfl rfl (vp_in_iff.mpr ⟨by omega, by omega⟩) dX4_growth_38 ?_
          refine lv_topi (fun zi_61 ezi_61 => ?_)
          have tzi_61 : 0 ≤ zi_61.toInt ∧ zi_61.toInt ≤ 9 := by rw [ezi_61]; exact RG.at h_zfhr0 (by omega) (by omega)
          refine lv_aload_n hx hb dX4_growth_39 rfl (lv_at hl 1 rfl) ?_
          refine va_get (D := (dC, dI)) (ci := 3) (v := .ref zhr) (C := RX3) (T := TX3) (N := 3) hx hb hts (by decide +kernel) hown hK hP 7 rfl rfl 0 (by decide) (hts (.fieldLink RX4 40 "DripStone$Hill" "rain" "[[I") (by decide +kernel)) (fun _ h9 => h9) rfl dX4_growth_40 ?_
          refine lv_iconst (v := 2) hx hb dX4_growth_43 (by decide) ?_
          refine va_aldA hx hb hK hP 8 7 rfl rfl (vp_in_iff.mpr ⟨by decide, by decide⟩) dX4_growth_44 ?_
          refine W.eq (g2 := F0 m 45 ls [.ref (zqh 2), .int zi_61, .int zi_47, .ref zl]) rfl ?_
          refine lv_iload_n hx hb dX4_growth_45 rfl (lv_at hl 2 rfl) ?_
          refine va_iald hx hb hK hP 6 0 rfl rfl (vp_in_iff.mpr ⟨by omega, by omega⟩) dX4_growth_46 ?_
          refine lv_topi (fun zi_62 ezi_62 => ?_)
          have tzi_62 : 0 ≤ zi_62.toInt ∧ zi_62.toInt ≤ 9 := by rw [ezi_62]; exact RG.at h_zfhr2 (by omega) (by omega)
          refine lv_iload_n hx hb dX4_growth_47 rfl (lv_at hl 3 rfl) ?_
          refine cj_i (wc := [(zl, .inr (4, [.ref zld, .ref zlc, .ref zls, .ref zlg, .ref zln, .int zil])), (zlc, .inl (cy 0, 6, .inl zflc)), (zls, .inl (cy 0, 18, .inl zfls)), (zlg, .inl (cy 0, 18, .inl zflg)), (zln, .inl (cy 0, 18, .inl zfln))]) (wr := [(zld, .inl (cy 0, 6, .inl zfld)), ((zqh 2), .inl (cy 0, 24, .inl zfhr2)), (zh, .inr (3, [.ref zhr, .int zihk, .int zihs])), (zhr, .inl (cy 7, 3, .inr (.inr (.inr (.inr (fun i => if i < 3 then some (zqh i) else none)))))), ((zqh 0), .inl (cy 0, 24, .inl zfhr0))]) (w1 := fun (u : Unit) => [(zl, .inr (4, [.ref zld, .ref zlc, .ref zls, .ref zlg, .ref zln, .int zil])), (zlc, .inl (cy 0, 6, .inl zflc)), (zls, .inl (cy 0, 18, .inl zfls)), (zlg, .inl (cy 0, 18, .inl zflg)), (zln, .inl (cy 0, 18, .inl zfln))]) (va_runV (As := [.int zi_47, .int zi_61, .int zi_62, .int zi_2]) (rest := []) ⟨hx, hb, hml, hown, hts⟩ (c_X4_isMet l dC dI cy H.size zl zi_47 zi_61 zi_62 zi_2 zld zlc zls zlg zln zil zflc zfls zflg zfln (by omega) (by omega) h_zflc) (cwV 4 hts gX4_growth_X4_isMet rfl rfl rfl (by decide +kernel) ⟨(Nat.le_of_ble_eq_true rfl), (Nat.le_of_ble_eq_true rfl)⟩) (PRE.v (hP.sub [0, 2, 3, 4, 5] rfl) hK (hD.sub [0, 2, 3, 4, 5] (by decide) rfl) hN (va_recv hK hP (ci := 4) (q0 := 0) rfl rfl)) rfl rfl hl.1 rfl (lv_room (Nat.le_of_ble_eq_true rfl)) dX4_growth_48 ⟨(Nat.le_of_ble_eq_true rfl), (Nat.le_of_ble_eq_true rfl)⟩) hP hD hS hA [0, 2, 3, 4, 5] [1, 6, 7, 8, 9] rfl rfl rfl (by decide) (fun zi_64 u_63 H locs hw_65 hP hD hS => ?_)
          have hP : va_P (dC, dI) vwCl [(zld, .inl (cy 0, 6, .inl zfld)), ((zqh 2), .inl (cy 0, 24, .inl zfhr2)), (zh, .inr (3, [.ref zhr, .int zihk, .int zihs])), (zhr, .inl (cy 7, 3, .inr (.inr (.inr (.inr (fun i => if i < 3 then some (zqh i) else none)))))), ((zqh 0), .inl (cy 0, 24, .inl zfhr0)), (zl, .inr (4, [.ref zld, .ref zlc, .ref zls, .ref zlg, .ref zln, .int zil])), (zlc, .inl (cy 0, 6, .inl zflc)), (zls, .inl (cy 0, 18, .inl zfls)), (zlg, .inl (cy 0, 18, .inl zflg)), (zln, .inl (cy 0, 18, .inl zfln))] H := hP
          have hD : va_D A [(zld, .inl (cy 0, 6, .inl zfld)), ((zqh 2), .inl (cy 0, 24, .inl zfhr2)), (zh, .inr (3, [.ref zhr, .int zihk, .int zihs])), (zhr, .inl (cy 7, 3, .inr (.inr (.inr (.inr (fun i => if i < 3 then some (zqh i) else none)))))), ((zqh 0), .inl (cy 0, 24, .inl zfhr0)), (zl, .inr (4, [.ref zld, .ref zlc, .ref zls, .ref zlg, .ref zln, .int zil])), (zlc, .inl (cy 0, 6, .inl zflc)), (zls, .inl (cy 0, 18, .inl zfls)), (zlg, .inl (cy 0, 18, .inl zflg)), (zln, .inl (cy 0, 18, .inl zfln))] := hD
          have b_zi_64 : 0 ≤ zi_64.toInt ∧ zi_64.toInt ≤ 1 := hw_65
          refine lv_if_eq (tgt := 62) hx hb dX4_growth_51 (by decide) (fun c_66 => ?_) (fun c_66 => ?_)
          · have f_67 : zi_64.toInt = 0 := ic_eq (rfl) (by decide) c_66
            obtain ⟨zi_68, ezi_68⟩ : ∃ y : Int32, y = zi_47 + 1 := ⟨_, rfl⟩
            have tzi_68 : zi_68.toInt = zi_47.toInt + 1 := by rw [ezi_68]; exact tadd rfl (show (1 : Int32).toInt = 1 by decide) (by omega) (by omega)
            refine lv_iinc (v := zi_68) (lv' := [(4, .int zi_68), (0, .ref zl), (1, .ref zh), (2, .int ziy), (3, .int zi_2)]) hx hb dX4_growth_62 hl (k := 4) rfl (by rw [ezi_68]; rfl) (by decide) rfl (fun ls hl => ?_)
            refine lv_goto (tgt := 19) hx hb dX4_growth_65 (by decide) ?_
            exact ih (6 - zi_68.toInt).toNat (by omega) zi_68 _ _ _ rfl (by omega) (hP.sub [5, 0, 6, 7, 8, 9, 1, 2, 3, 4] rfl) (hD.sub [5, 0, 6, 7, 8, 9, 1, 2, 3, 4] (by decide) rfl) hS (lv_sub hl [1, 2, 3, 4, 0] rfl)
          · have f_67 : ¬ (zi_64.toInt = 0) := ic_neq (rfl) (by decide) c_66
            refine lv_aload_n hx hb dX4_growth_54 rfl (lv_at hl 0 rfl) ?_
            refine va_get (D := (dC, dI)) (ci := 4) (v := .ref zld) (C := RX4) (T := TX4) (N := 6) hx hb hts (by decide +kernel) hown hK hP 5 rfl rfl 0 (by decide) (hts (.fieldLink RX4 9 "DripStone$Law" "digits" "[I") (by decide +kernel)) (fun _ h9 => h9) rfl dX4_growth_55 ?_
            refine lv_iload hx hb dX4_growth_58 (lv_at hl 4 rfl) ?_
            refine va_iald hx hb hK hP 0 0 rfl rfl (vp_in_iff.mpr ⟨by omega, by omega⟩) dX4_growth_60 ?_
            refine lv_topi (fun zi_69 ezi_69 => ?_)
            subst hQ
            have hP9 := hP.sub (ws' := [(zl, .inr (4, [.ref zld, .ref zlc, .ref zls, .ref zlg, .ref zln, .int zil])), (zld, .inl (cy 0, 6, .inl zfld)), (zlc, .inl (cy 0, 6, .inl zflc)), (zls, .inl (cy 0, 18, .inl zfls)), (zlg, .inl (cy 0, 18, .inl zflg)), (zln, .inl (cy 0, 18, .inl zfln)), (zh, .inr (3, [.ref zhr, .int zihk, .int zihs])), (zhr, .inl (cy 7, 3, .inr (.inr (.inr (.inr (fun i => if i < 3 then some (zqh i) else none)))))), ((zqh 0), .inl (cy 0, 24, .inl zfhr0)), ((zqh 2), .inl (cy 0, 24, .inl zfhr2))]) [5, 0, 6, 7, 8, 9, 2, 3, 4, 1] rfl
            have hD9 := hD.sub (ws' := [(zl, .inr (4, [.ref zld, .ref zlc, .ref zls, .ref zlg, .ref zln, .int zil])), (zld, .inl (cy 0, 6, .inl zfld)), (zlc, .inl (cy 0, 6, .inl zflc)), (zls, .inl (cy 0, 18, .inl zfls)), (zlg, .inl (cy 0, 18, .inl zflg)), (zln, .inl (cy 0, 18, .inl zfln)), (zh, .inr (3, [.ref zhr, .int zihk, .int zihs])), (zhr, .inl (cy 7, 3, .inr (.inr (.inr (.inr (fun i => if i < 3 then some (zqh i) else none)))))), ((zqh 0), .inl (cy 0, 24, .inl zfhr0)), ((zqh 2), .inl (cy 0, 24, .inl zfhr2))]) [5, 0, 6, 7, 8, 9, 2, 3, 4, 1] (by decide) rfl
            exact W.iret (v := zi_69) hx hb hr (fun t ht hW => ⟨⟨zi_69, (), rfl, trivial, ⟨by rw [ht]; exact hP9, va_K.moved hW.alike hK, hD9⟩⟩, hS.F ht⟩) hS.2.2 dX4_growth_61
    exact lp_58 _ (0 : Int32) _ _ _ rfl (by decide) hP hD hS (lv_sub hl [2, 3, 4, 1, 0] rfl)
  · have f_5 : ¬ (zi_2.toInt ≠ 0) := ic_nne (rfl) (by decide) c_4
    refine lv_iconst (v := 0) hx hb dX4_growth_14 (by decide) ?_
    subst hQ
    have hP9 := hP.sub (ws' := [(zl, .inr (4, [.ref zld, .ref zlc, .ref zls, .ref zlg, .ref zln, .int zil])), (zld, .inl (cy 0, 6, .inl zfld)), (zlc, .inl (cy 0, 6, .inl zflc)), (zls, .inl (cy 0, 18, .inl zfls)), (zlg, .inl (cy 0, 18, .inl zflg)), (zln, .inl (cy 0, 18, .inl zfln)), (zh, .inr (3, [.ref zhr, .int zihk, .int zihs])), (zhr, .inl (cy 7, 3, .inr (.inr (.inr (.inr (fun i => if i < 3 then some (zqh i) else none)))))), ((zqh 0), .inl (cy 0, 24, .inl zfhr0)), ((zqh 2), .inl (cy 0, 24, .inl zfhr2))]) [0, 1, 2, 3, 4, 5, 7, 8, 9, 6] rfl
    have hD9 := hD.sub (ws' := [(zl, .inr (4, [.ref zld, .ref zlc, .ref zls, .ref zlg, .ref zln, .int zil])), (zld, .inl (cy 0, 6, .inl zfld)), (zlc, .inl (cy 0, 6, .inl zflc)), (zls, .inl (cy 0, 18, .inl zfls)), (zlg, .inl (cy 0, 18, .inl zflg)), (zln, .inl (cy 0, 18, .inl zfln)), (zh, .inr (3, [.ref zhr, .int zihk, .int zihs])), (zhr, .inl (cy 7, 3, .inr (.inr (.inr (.inr (fun i => if i < 3 then some (zqh i) else none)))))), ((zqh 0), .inl (cy 0, 24, .inl zfhr0)), ((zqh 2), .inl (cy 0, 24, .inl zfhr2))]) [0, 1, 2, 3, 4, 5, 7, 8, 9, 6] (by decide) rfl
    exact W.iret (v := (0 : Int32)) hx hb hr (fun t ht hW => ⟨⟨(0 : Int32), (), rfl, trivial, ⟨by rw [ht]; exact hP9, va_K.moved hW.alike hK, hD9⟩⟩, hS.F ht⟩) hS.2.2 dX4_growth_15
set_option maxHeartbeats 8000000 in
set_option maxRecDepth 100000 in
theorem c_X0_isPlace (l : Launch) (dC : Nat → ClassId) (dI : Nat → Nat → Nat) (cy : Nat → ClassId) (sz : Nat) (zc : Nat) (zit : Int32) (zck : Nat) (zcw : Nat) (zcy : Nat) (zcs : Nat) (zcf : Nat) (zcl : Nat) (zcz : Nat) (zict : Int32) (zics : Int32) (zicm : Int32) (zicd : Int32) (zfck : Nat → Int32) (b_zit : 0 ≤ zit.toInt ∧ zit.toInt ≤ 11) (b_zict : 0 ≤ zict.toInt ∧ zict.toInt ≤ 12) (b_zics : 0 ≤ zics.toInt ∧ zics.toInt ≤ 6) (b_zicm : 1 ≤ zicm.toInt ∧ zicm.toInt ≤ 4) (b_zicd : 0 ≤ zicd.toInt ∧ zicd.toInt ≤ 1) : Met l yX0_isPlace wsX0_isPlace ({ frames := 0, cells := 0, slots := 0, locals := 0 } : Room) (va_Pc [.ref zc, .int zit] (PRE dC dI cy [(zc, .inr (0, [.ref zck, .ref zcw, .ref zcy, .ref zcs, .ref zcf, .ref zcl, .ref zcz, .int zict, .int zics, .int zicm, .int zicd])), (zck, .inl (cy 0, 12, .inl zfck))] sz)) (va_Qi (fun (r : Int32) (u : Unit) => (0 ≤ r.toInt ∧ r.toInt ≤ 1) ∧ ((r.toInt = 0 ∧ (zfck zit.toNatClampNeg).toInt = 2) ∨ (r.toInt = 1 ∧ ¬ (zfck zit.toNatClampNeg).toInt = 2))) (fun u t => POST dC dI cy (va_A [(zc, .inr (0, [.ref zck, .ref zcw, .ref zcy, .ref zcs, .ref zcf, .ref zcl, .ref zcz, .int zict, .int zics, .int zicm, .int zicd])), (zck, .inl (cy 0, 12, .inl zfck))] sz) [(zc, .inr (0, [.ref zck, .ref zcw, .ref zcy, .ref zcs, .ref zcf, .ref zcl, .ref zcz, .int zict, .int zics, .int zicm, .int zicd])), (zck, .inl (cy 0, 12, .inl zfck))] t) (va_A [(zc, .inr (0, [.ref zck, .ref zcw, .ref zcy, .ref zcs, .ref zcf, .ref zcl, .ref zcz, .int zict, .int zics, .int zicm, .int zicd])), (zck, .inl (cy 0, 12, .inl zfck))] sz)) 0 0 (va_A [(zc, .inr (0, [.ref zck, .ref zcw, .ref zcy, .ref zcs, .ref zcf, .ref zcl, .ref zcz, .int zict, .int zics, .int zicm, .int zicd])), (zck, .inl (cy 0, 12, .inl zfck))] sz) := by
  refine Met.ofW (cc := cX0_isPlace) (maxL := 2) (ret := (some .boolean)) (by decide) rfl ?_
  intro p e s m args below meth c s₁ B hml hv
  obtain ⟨rfl, hsz, hP, hK, hD0, hN⟩ := hv
  have hx := B.exec
  have hb := B.bytes
  have hr := B.returns
  have hts := atoms_spec (ws := wsX0_isPlace) B.pre
  have hown : s.vm.findClass RX0 = some m.cls := findClass_of_methodNamed B.named
  have hlocks := B.notSynchronized
  subst hsz
  have hD := hD0.self (sz := s.heap.size)
  generalize hAe : va_A [(zc, .inr (0, [.ref zck, .ref zcw, .ref zcy, .ref zcs, .ref zcf, .ref zcl, .ref zcz, .int zict, .int zics, .int zicm, .int zicd])), (zck, .inl (cy 0, 12, .inl zfck))] s.heap.size = A at hD ⊢
  have hA : ∀ q : Nat, s.heap.size ≤ q → A q := fun q h => by rw [← hAe]; exact Or.inr h
  have hS : va_S A s.heap s.heap [] := va_S.rf
  have hP : va_P (dC, dI) vwCl [(zc, .inr (0, [.ref zck, .ref zcw, .ref zcy, .ref zcs, .ref zcf, .ref zcl, .ref zcz, .int zict, .int zics, .int zicm, .int zicd])), (zck, .inl (cy 0, 12, .inl zfck))] s.heap := hP
  have hl := lv_entry ([.ref zc, .int zit] : List Value) (n := 2) (Nat.le_of_ble_eq_true rfl)
  rw [lg_entry_eq]
  generalize (lg_sl ([.ref zc, .int zit] : List Value) ++ List.replicate (2 - (lg_sl ([.ref zc, .int zit] : List Value)).length) Slot.unset).toArray = ls at hl ⊢
  have hl : lv_has ls 2 [(0, .ref zc), (1, .int zit)] := hl
  refine w_q (fun Q hQ => ?_)
  refine lv_aload_n hx hb dX0_isPlace_0 rfl (lv_at hl 0 rfl) ?_
  refine va_get (D := (dC, dI)) (ci := 0) (v := .ref zck) (C := RX0) (T := TX0) (N := 11) hx hb hts (by decide +kernel) hown hK hP 0 rfl rfl 0 (by decide) (hts (.fieldLink RX0 9 "DripStone$Candle" "kinds" "[I") (by decide +kernel)) (fun _ h9 => h9) rfl dX0_isPlace_1 ?_
  refine lv_iload_n hx hb dX0_isPlace_4 rfl (lv_at hl 1 rfl) ?_
  refine va_iald hx hb hK hP 1 0 rfl rfl (vp_in_iff.mpr ⟨by omega, by omega⟩) dX0_isPlace_5 ?_
  refine lv_topi (fun zi_1 ezi_1 => ?_)
  have lzi_1 : zi_1.toInt = (zfck zit.toNatClampNeg).toInt := by rw [ezi_1]
  refine lv_iconst (v := 2) hx hb dX0_isPlace_6 (by decide) ?_
  refine lv_icmp_eq (tgt := 14) hx hb dX0_isPlace_7 (by decide) (fun c_2 => ?_) (fun c_2 => ?_)
  · have f_3 : zi_1.toInt = (2 : Int) := ic_eq (rfl) (show (2 : Int32).toInt = 2 by decide) c_2
    refine lv_iconst (v := 0) hx hb dX0_isPlace_14 (by decide) ?_
    subst hQ
    have qc_0 : (0 : Int32).toInt = 0 := by decide
    have hP9 := hP.sub (ws' := [(zc, .inr (0, [.ref zck, .ref zcw, .ref zcy, .ref zcs, .ref zcf, .ref zcl, .ref zcz, .int zict, .int zics, .int zicm, .int zicd])), (zck, .inl (cy 0, 12, .inl zfck))]) [0, 1] rfl
    have hD9 := hD.sub (ws' := [(zc, .inr (0, [.ref zck, .ref zcw, .ref zcy, .ref zcs, .ref zcf, .ref zcl, .ref zcz, .int zict, .int zics, .int zicm, .int zicd])), (zck, .inl (cy 0, 12, .inl zfck))]) [0, 1] (by decide) rfl
    exact W.zret (v := (0 : Int32)) hx hb hr rfl (fun t ht hW => ⟨⟨(0 : Int32), (), rfl, ⟨(show 0 ≤ (0 : Int32).toInt ∧ (0 : Int32).toInt ≤ 1 from by omega), (show ((0 : Int32).toInt = 0 ∧ (zfck zit.toNatClampNeg).toInt = 2) ∨ ((0 : Int32).toInt = 1 ∧ ¬ (zfck zit.toNatClampNeg).toInt = 2) from by omega)⟩, ⟨by rw [ht]; exact hP9, va_K.moved hW.alike hK, hD9⟩⟩, hS.F ht⟩) hS.2.2 dX0_isPlace_15
  · have f_3 : ¬ (zi_1.toInt = (2 : Int)) := ic_neq (rfl) (show (2 : Int32).toInt = 2 by decide) c_2
    refine lv_iconst (v := 1) hx hb dX0_isPlace_10 (by decide) ?_
    refine lv_goto (tgt := 15) hx hb dX0_isPlace_11 (by decide) ?_
    subst hQ
    have qc_1 : (1 : Int32).toInt = 1 := by decide
    have hP9 := hP.sub (ws' := [(zc, .inr (0, [.ref zck, .ref zcw, .ref zcy, .ref zcs, .ref zcf, .ref zcl, .ref zcz, .int zict, .int zics, .int zicm, .int zicd])), (zck, .inl (cy 0, 12, .inl zfck))]) [0, 1] rfl
    have hD9 := hD.sub (ws' := [(zc, .inr (0, [.ref zck, .ref zcw, .ref zcy, .ref zcs, .ref zcf, .ref zcl, .ref zcz, .int zict, .int zics, .int zicm, .int zicd])), (zck, .inl (cy 0, 12, .inl zfck))]) [0, 1] (by decide) rfl
    exact W.zret (v := (1 : Int32)) hx hb hr rfl (fun t ht hW => ⟨⟨(1 : Int32), (), rfl, ⟨(show 0 ≤ (1 : Int32).toInt ∧ (1 : Int32).toInt ≤ 1 from by omega), (show ((1 : Int32).toInt = 0 ∧ (zfck zit.toNatClampNeg).toInt = 2) ∨ ((1 : Int32).toInt = 1 ∧ ¬ (zfck zit.toNatClampNeg).toInt = 2) from by omega)⟩, ⟨by rw [ht]; exact hP9, va_K.moved hW.alike hK, hD9⟩⟩, hS.F ht⟩) hS.2.2 dX0_isPlace_15
set_option maxHeartbeats 8000000 in
set_option maxRecDepth 100000 in
theorem c_X0_places (l : Launch) (dC : Nat → ClassId) (dI : Nat → Nat → Nat) (cy : Nat → ClassId) (sz : Nat) (zc : Nat) (zck : Nat) (zcw : Nat) (zcy : Nat) (zcs : Nat) (zcf : Nat) (zcl : Nat) (zcz : Nat) (zict : Int32) (zics : Int32) (zicm : Int32) (zicd : Int32) (zfck : Nat → Int32) (b_zict : 0 ≤ zict.toInt ∧ zict.toInt ≤ 12) (b_zics : 0 ≤ zics.toInt ∧ zics.toInt ≤ 6) (b_zicm : 1 ≤ zicm.toInt ∧ zicm.toInt ≤ 4) (b_zicd : 0 ≤ zicd.toInt ∧ zicd.toInt ≤ 1) : Met l yX0_places wsX0_places ({ frames := 1, cells := 0, slots := 0, locals := 21 } : Room) (va_Pc [.ref zc] (PRE dC dI cy [(zc, .inr (0, [.ref zck, .ref zcw, .ref zcy, .ref zcs, .ref zcf, .ref zcl, .ref zcz, .int zict, .int zics, .int zicm, .int zicd])), (zck, .inl (cy 0, 12, .inl zfck))] sz)) (va_Qi (fun (r : Int32) (u : Unit) => (0 ≤ r.toInt ∧ r.toInt ≤ 12) ∧ (r.toInt = PL zfck (zict.toInt).toNat)) (fun u t => POST dC dI cy (va_A [(zc, .inr (0, [.ref zck, .ref zcw, .ref zcy, .ref zcs, .ref zcf, .ref zcl, .ref zcz, .int zict, .int zics, .int zicm, .int zicd])), (zck, .inl (cy 0, 12, .inl zfck))] sz) [(zc, .inr (0, [.ref zck, .ref zcw, .ref zcy, .ref zcs, .ref zcf, .ref zcl, .ref zcz, .int zict, .int zics, .int zicm, .int zicd])), (zck, .inl (cy 0, 12, .inl zfck))] t) (va_A [(zc, .inr (0, [.ref zck, .ref zcw, .ref zcy, .ref zcs, .ref zcf, .ref zcl, .ref zcz, .int zict, .int zics, .int zicm, .int zicd])), (zck, .inl (cy 0, 12, .inl zfck))] sz)) 0 0 (va_A [(zc, .inr (0, [.ref zck, .ref zcw, .ref zcy, .ref zcs, .ref zcf, .ref zcl, .ref zcz, .int zict, .int zics, .int zicm, .int zicd])), (zck, .inl (cy 0, 12, .inl zfck))] sz) := by
  refine Met.ofW (cc := cX0_places) (maxL := 3) (ret := (some .int)) (by decide) rfl ?_
  intro p e s m args below meth c s₁ B hml hv
  obtain ⟨rfl, hsz, hP, hK, hD0, hN⟩ := hv
  have hx := B.exec
  have hb := B.bytes
  have hr := B.returns
  have hts := atoms_spec (ws := wsX0_places) B.pre
  have hown : s.vm.findClass RX0 = some m.cls := findClass_of_methodNamed B.named
  have hlocks := B.notSynchronized
  subst hsz
  have hD := hD0.self (sz := s.heap.size)
  generalize hAe : va_A [(zc, .inr (0, [.ref zck, .ref zcw, .ref zcy, .ref zcs, .ref zcf, .ref zcl, .ref zcz, .int zict, .int zics, .int zicm, .int zicd])), (zck, .inl (cy 0, 12, .inl zfck))] s.heap.size = A at hD ⊢
  have hA : ∀ q : Nat, s.heap.size ≤ q → A q := fun q h => by rw [← hAe]; exact Or.inr h
  have hS : va_S A s.heap s.heap [] := va_S.rf
  have hP : va_P (dC, dI) vwCl [(zc, .inr (0, [.ref zck, .ref zcw, .ref zcy, .ref zcs, .ref zcf, .ref zcl, .ref zcz, .int zict, .int zics, .int zicm, .int zicd])), (zck, .inl (cy 0, 12, .inl zfck))] s.heap := hP
  have hl := lv_entry ([.ref zc] : List Value) (n := 3) (Nat.le_of_ble_eq_true rfl)
  rw [lg_entry_eq]
  generalize (lg_sl ([.ref zc] : List Value) ++ List.replicate (3 - (lg_sl ([.ref zc] : List Value)).length) Slot.unset).toArray = ls at hl ⊢
  have hl : lv_has ls 3 [(0, .ref zc)] := hl
  refine w_q (fun Q hQ => ?_)
  refine lv_iconst (v := 0) hx hb dX0_places_0 (by decide) ?_
  refine lv_istore_n (lv' := [(1, .int 0), (0, .ref zc)]) hx hb dX0_places_1 rfl hl (by decide) rfl (fun ls hl => ?_)
  refine lv_iconst (v := 0) hx hb dX0_places_2 (by decide) ?_
  refine lv_istore_n (lv' := [(2, .int 0), (1, .int 0), (0, .ref zc)]) hx hb dX0_places_3 rfl hl (by decide) rfl (fun ls hl => ?_)
  have lp_178 : ∀ (n : Nat) (zi_160 : Int32) (zi_161 : Int32) (H : Heap) (locs : List Loc) (ls : Array Slot), (12 - zi_161.toInt).toNat = n → (0 ≤ zi_160.toInt ∧ zi_160.toInt ≤ 12) → (0 ≤ zi_161.toInt ∧ zi_161.toInt ≤ 12) → (zi_160.toInt = PL zfck (zi_161.toInt).toNat) → (zi_160.toInt ≤ zi_161.toInt ∧ zi_161.toInt ≤ zict.toInt) → va_P (dC, dI) vwCl [(zc, .inr (0, [.ref zck, .ref zcw, .ref zcy, .ref zcs, .ref zcf, .ref zcl, .ref zcz, .int zict, .int zics, .int zicm, .int zicd])), (zck, .inl (cy 0, 12, .inl zfck))] H → va_D A [(zc, .inr (0, [.ref zck, .ref zcw, .ref zcy, .ref zcs, .ref zcf, .ref zcl, .ref zcz, .int zict, .int zics, .int zicm, .int zicd])), (zck, .inl (cy 0, 12, .inl zfck))] → va_S A s.heap H locs → lv_has ls 3 [(0, .ref zc), (1, .int zi_160), (2, .int zi_161)] → W p l e ({ frames := 1, cells := 0, slots := 0, locals := 21 } : Room) s m ([.ref zc] : List Value).toArray below meth c H locs 0 0 Q (F0 m 4 ls []) := by
    intro n
    induction n using Nat.strongRecOn with
    | _ n ih =>
      intro zi_160 zi_161 H locs ls hn b_zi_160 b_zi_161 e_lp_178_0 e_lp_178_1 hP hD hS hl
      refine lv_iload_n hx hb dX0_places_4 rfl (lv_at hl 2 rfl) ?_
      refine lv_aload_n hx hb dX0_places_5 rfl (lv_at hl 0 rfl) ?_
      refine va_get (D := (dC, dI)) (ci := 0) (v := .int zict) (C := RX0) (T := TX0) (N := 11) hx hb hts (by decide +kernel) hown hK hP 0 rfl rfl 7 (by decide) (hts (.fieldLink RX0 37 "DripStone$Candle" "things" "I") (by decide +kernel)) (fun _ h9 => h9) rfl dX0_places_6 ?_
      refine lv_icmp_ge (tgt := 34) hx hb dX0_places_9 (by decide) (fun c_179 => ?_) (fun c_179 => ?_)
      · have f_180 : zi_161.toInt ≥ zict.toInt := ic_ge (rfl) (rfl) c_179
        refine lv_iload_n hx hb dX0_places_34 rfl (lv_at hl 1 rfl) ?_
        subst hQ
        have hP9 := hP.sub (ws' := [(zc, .inr (0, [.ref zck, .ref zcw, .ref zcy, .ref zcs, .ref zcf, .ref zcl, .ref zcz, .int zict, .int zics, .int zicm, .int zicd])), (zck, .inl (cy 0, 12, .inl zfck))]) [0, 1] rfl
        have hD9 := hD.sub (ws' := [(zc, .inr (0, [.ref zck, .ref zcw, .ref zcy, .ref zcs, .ref zcf, .ref zcl, .ref zcz, .int zict, .int zics, .int zicm, .int zicd])), (zck, .inl (cy 0, 12, .inl zfck))]) [0, 1] (by decide) rfl
        exact W.iret (v := zi_160) hx hb hr (fun t ht hW => ⟨⟨zi_160, (), rfl, ⟨(show 0 ≤ zi_160.toInt ∧ zi_160.toInt ≤ 12 from by omega), (show zi_160.toInt = PL zfck (zict.toInt).toNat from (PL_e e_lp_178_0 (by omega)))⟩, ⟨by rw [ht]; exact hP9, va_K.moved hW.alike hK, hD9⟩⟩, hS.F ht⟩) hS.2.2 dX0_places_35
      · have f_180 : ¬ (zi_161.toInt ≥ zict.toInt) := ic_nge (rfl) (rfl) c_179
        refine lv_iload_n hx hb dX0_places_12 rfl (lv_at hl 1 rfl) ?_
        refine lv_aload_n hx hb dX0_places_13 rfl (lv_at hl 0 rfl) ?_
        refine lv_iload_n hx hb dX0_places_14 rfl (lv_at hl 2 rfl) ?_
        refine cj_i (wc := [(zc, .inr (0, [.ref zck, .ref zcw, .ref zcy, .ref zcs, .ref zcf, .ref zcl, .ref zcz, .int zict, .int zics, .int zicm, .int zicd])), (zck, .inl (cy 0, 12, .inl zfck))]) (wr := []) (w1 := fun (u : Unit) => [(zc, .inr (0, [.ref zck, .ref zcw, .ref zcy, .ref zcs, .ref zcf, .ref zcl, .ref zcz, .int zict, .int zics, .int zicm, .int zicd])), (zck, .inl (cy 0, 12, .inl zfck))]) (va_runV (As := [.int zi_161]) (rest := [.int zi_160]) ⟨hx, hb, hml, hown, hts⟩ (c_X0_isPlace l dC dI cy H.size zc zi_161 zck zcw zcy zcs zcf zcl zcz zict zics zicm zicd zfck (by omega) (by omega) (by omega) (by omega) (by omega)) (cwV 1 hts gX0_places_X0_isPlace rfl rfl rfl (by decide +kernel) ⟨(Nat.le_of_ble_eq_true rfl), (Nat.le_of_ble_eq_true rfl)⟩) (PRE.v (hP.sub [0, 1] rfl) hK (hD.sub [0, 1] (by decide) rfl) hN (va_recv hK hP (ci := 0) (q0 := 0) rfl rfl)) rfl rfl hl.1 rfl (lv_room (Nat.le_of_ble_eq_true rfl)) dX0_places_15 ⟨(Nat.le_of_ble_eq_true rfl), (Nat.le_of_ble_eq_true rfl)⟩) hP hD hS hA [0, 1] [] rfl rfl rfl (by decide) (fun zi_182 u_181 H locs hw_183 hP hD hS => ?_)
        have hP : va_P (dC, dI) vwCl [(zc, .inr (0, [.ref zck, .ref zcw, .ref zcy, .ref zcs, .ref zcf, .ref zcl, .ref zcz, .int zict, .int zics, .int zicm, .int zicd])), (zck, .inl (cy 0, 12, .inl zfck))] H := hP
        have hD : va_D A [(zc, .inr (0, [.ref zck, .ref zcw, .ref zcy, .ref zcs, .ref zcf, .ref zcl, .ref zcz, .int zict, .int zics, .int zicm, .int zicd])), (zck, .inl (cy 0, 12, .inl zfck))] := hD
        obtain ⟨b_zi_182, ps_184⟩ : (0 ≤ zi_182.toInt ∧ zi_182.toInt ≤ 1) ∧ ((zi_182.toInt = 0 ∧ (zfck zi_161.toNatClampNeg).toInt = 2) ∨ (zi_182.toInt = 1 ∧ ¬ (zfck zi_161.toNatClampNeg).toInt = 2)) := hw_183
        have jn_190 : ∀ (zi_189 : Int32) (H : Heap) (locs : List Loc) (ls : Array Slot), (0 ≤ zi_189.toInt ∧ zi_189.toInt ≤ 13) → va_P (dC, dI) vwCl [(zc, .inr (0, [.ref zck, .ref zcw, .ref zcy, .ref zcs, .ref zcf, .ref zcl, .ref zcz, .int zict, .int zics, .int zicm, .int zicd])), (zck, .inl (cy 0, 12, .inl zfck))] H → va_D A [(zc, .inr (0, [.ref zck, .ref zcw, .ref zcy, .ref zcs, .ref zcf, .ref zcl, .ref zcz, .int zict, .int zics, .int zicm, .int zicd])), (zck, .inl (cy 0, 12, .inl zfck))] → va_S A s.heap H locs → lv_has ls 3 [(0, .ref zc), (1, .int zi_160), (2, .int zi_161)] → W p l e ({ frames := 1, cells := 0, slots := 0, locals := 21 } : Room) s m ([.ref zc] : List Value).toArray below meth c H locs 0 0 Q (F0 m 27 ls [.int zi_189]) := by
          intro zi_189 H locs ls b_zi_189 hP hD hS hl
          refine lv_istore_n (lv' := [(1, .int zi_189), (0, .ref zc), (2, .int zi_161)]) hx hb dX0_places_27 rfl hl (by decide) rfl (fun ls hl => ?_)
          obtain ⟨zi_191, ezi_191⟩ : ∃ y : Int32, y = zi_161 + 1 := ⟨_, rfl⟩
          have tzi_191 : zi_191.toInt = zi_161.toInt + 1 := by rw [ezi_191]; exact tadd rfl (show (1 : Int32).toInt = 1 by decide) (by omega) (by omega)
          refine lv_iinc (v := zi_191) (lv' := [(2, .int zi_191), (1, .int zi_189), (0, .ref zc)]) hx hb dX0_places_28 hl (k := 2) rfl (by rw [ezi_191]; rfl) (by decide) rfl (fun ls hl => ?_)
          refine lv_goto (tgt := 4) hx hb dX0_places_31 (by decide) ?_
          exact ih (12 - zi_191.toInt).toNat (by omega) zi_189 zi_191 _ _ _ rfl (by omega) (by omega) (by have q9 := PL_s (f := zfck) (t := zi_161) (t' := zi_191) (by omega) (by omega); omega) (by omega) hP hD hS (lv_sub hl [2, 1, 0] rfl)
        refine lv_if_eq (tgt := 25) hx hb dX0_places_18 (by decide) (fun c_192 => ?_) (fun c_192 => ?_)
        · have f_193 : zi_182.toInt = 0 := ic_eq (rfl) (by decide) c_192
          refine lv_iconst (v := 0) hx hb dX0_places_25 (by decide) ?_
          refine lv_iadd hx hb dX0_places_26 ?_
          refine lv_topi (fun zi_194 ezi_194 => ?_)
          have tzi_194 : zi_194.toInt = zi_160.toInt + (0 : Int) := by rw [ezi_194]; exact tiadd (rfl) (show (0 : Int32).toInt = 0 by decide) (by omega) (by omega)
          exact jn_190 zi_194 _ _ _ (by omega) hP hD hS (lv_sub hl [0, 1, 2] rfl)
        · have f_193 : ¬ (zi_182.toInt = 0) := ic_neq (rfl) (by decide) c_192
          refine lv_iconst (v := 1) hx hb dX0_places_21 (by decide) ?_
          refine lv_goto (tgt := 26) hx hb dX0_places_22 (by decide) ?_
          refine lv_iadd hx hb dX0_places_26 ?_
          refine lv_topi (fun zi_195 ezi_195 => ?_)
          have tzi_195 : zi_195.toInt = zi_160.toInt + (1 : Int) := by rw [ezi_195]; exact tiadd (rfl) (show (1 : Int32).toInt = 1 by decide) (by omega) (by omega)
          exact jn_190 zi_195 _ _ _ (by omega) hP hD hS (lv_sub hl [0, 1, 2] rfl)
  exact lp_178 _ (0 : Int32) (0 : Int32) _ _ _ rfl (by decide) (by decide) rfl (by omega) hP hD hS (lv_sub hl [2, 1, 0] rfl)
set_option maxHeartbeats 8000000 in
set_option maxRecDepth 100000 in
theorem c_X0_add (l : Launch) (dC : Nat → ClassId) (dI : Nat → Nat → Nat) (cy : Nat → ClassId) (sz : Nat) (zc : Nat) (zia : Int32) (zib : Int32) (ziy : Int32) (zck : Nat) (zcw : Nat) (zcy : Nat) (zcs : Nat) (zcf : Nat) (zcl : Nat) (zcz : Nat) (zict : Int32) (zics : Int32) (zicm : Int32) (zicd : Int32) (zfck : Nat → Int32) (zfcw : Nat → Int32) (zfcy : Nat → Int32) (b_zict : 0 ≤ zict.toInt ∧ zict.toInt ≤ 12) (b_zics : 0 ≤ zics.toInt ∧ zics.toInt ≤ 6) (b_zicm : 1 ≤ zicm.toInt ∧ zicm.toInt ≤ 4) (b_zicd : 0 ≤ zicd.toInt ∧ zicd.toInt ≤ 1) : Met l yX0_add wsX0_add ({ frames := 0, cells := 0, slots := 0, locals := 0 } : Room) (va_Pc [.ref zc, .int zia, .int zib, .int ziy] (PRE dC dI cy [(zc, .inr (0, [.ref zck, .ref zcw, .ref zcy, .ref zcs, .ref zcf, .ref zcl, .ref zcz, .int zict, .int zics, .int zicm, .int zicd])), (zck, .inl (cy 0, 12, .inl zfck)), (zcw, .inl (cy 0, 12, .inl zfcw)), (zcy, .inl (cy 0, 12, .inl zfcy))] sz)) (va_Qv (fun (u : (Int32) × (Nat → Int32) × (Nat → Int32) × (Nat → Int32)) => (1 ≤ u.1.toInt ∧ u.1.toInt ≤ 12)) (fun u t => POST dC dI cy (va_A [(zc, .inr (0, [.ref zck, .ref zcw, .ref zcy, .ref zcs, .ref zcf, .ref zcl, .ref zcz, .int zict, .int zics, .int zicm, .int zicd])), (zck, .inl (cy 0, 12, .inl zfck)), (zcw, .inl (cy 0, 12, .inl zfcw)), (zcy, .inl (cy 0, 12, .inl zfcy))] sz) [(zc, .inr (0, [.ref zck, .ref zcw, .ref zcy, .ref zcs, .ref zcf, .ref zcl, .ref zcz, .int u.1, .int zics, .int zicm, .int zicd])), (zck, .inl (cy 0, 12, .inl u.2.1)), (zcw, .inl (cy 0, 12, .inl u.2.2.1)), (zcy, .inl (cy 0, 12, .inl u.2.2.2))] t) (va_A [(zc, .inr (0, [.ref zck, .ref zcw, .ref zcy, .ref zcs, .ref zcf, .ref zcl, .ref zcz, .int zict, .int zics, .int zicm, .int zicd])), (zck, .inl (cy 0, 12, .inl zfck)), (zcw, .inl (cy 0, 12, .inl zfcw)), (zcy, .inl (cy 0, 12, .inl zfcy))] sz)) 0 0 (va_A [(zc, .inr (0, [.ref zck, .ref zcw, .ref zcy, .ref zcs, .ref zcf, .ref zcl, .ref zcz, .int zict, .int zics, .int zicm, .int zicd])), (zck, .inl (cy 0, 12, .inl zfck)), (zcw, .inl (cy 0, 12, .inl zfcw)), (zcy, .inl (cy 0, 12, .inl zfcy))] sz) := by
  refine Met.ofW (cc := cX0_add) (maxL := 4) (ret := none) (by decide) rfl ?_
  intro p e s m args below meth c s₁ B hml hv
  obtain ⟨rfl, hsz, hP, hK, hD0, hN⟩ := hv
  have hx := B.exec
  have hb := B.bytes
  have hr := B.returns
  have hts := atoms_spec (ws := wsX0_add) B.pre
  have hown : s.vm.findClass RX0 = some m.cls := findClass_of_methodNamed B.named
  have hlocks := B.notSynchronized
  subst hsz
  have hD := hD0.self (sz := s.heap.size)
  generalize hAe : va_A [(zc, .inr (0, [.ref zck, .ref zcw, .ref zcy, .ref zcs, .ref zcf, .ref zcl, .ref zcz, .int zict, .int zics, .int zicm, .int zicd])), (zck, .inl (cy 0, 12, .inl zfck)), (zcw, .inl (cy 0, 12, .inl zfcw)), (zcy, .inl (cy 0, 12, .inl zfcy))] s.heap.size = A at hD ⊢
  have hA : ∀ q : Nat, s.heap.size ≤ q → A q := fun q h => by rw [← hAe]; exact Or.inr h
  have hS : va_S A s.heap s.heap [] := va_S.rf
  have hP : va_P (dC, dI) vwCl [(zc, .inr (0, [.ref zck, .ref zcw, .ref zcy, .ref zcs, .ref zcf, .ref zcl, .ref zcz, .int zict, .int zics, .int zicm, .int zicd])), (zck, .inl (cy 0, 12, .inl zfck)), (zcw, .inl (cy 0, 12, .inl zfcw)), (zcy, .inl (cy 0, 12, .inl zfcy))] s.heap := hP
  have hl := lv_entry ([.ref zc, .int zia, .int zib, .int ziy] : List Value) (n := 4) (Nat.le_of_ble_eq_true rfl)
  rw [lg_entry_eq]
  generalize (lg_sl ([.ref zc, .int zia, .int zib, .int ziy] : List Value) ++ List.replicate (4 - (lg_sl ([.ref zc, .int zia, .int zib, .int ziy] : List Value)).length) Slot.unset).toArray = ls at hl ⊢
  have hl : lv_has ls 4 [(0, .ref zc), (1, .int zia), (2, .int zib), (3, .int ziy)] := hl
  refine w_q (fun Q hQ => ?_)
  refine lv_aload_n hx hb dX0_add_0 rfl (lv_at hl 0 rfl) ?_
  refine va_get (D := (dC, dI)) (ci := 0) (v := .int zict) (C := RX0) (T := TX0) (N := 11) hx hb hts (by decide +kernel) hown hK hP 0 rfl rfl 7 (by decide) (hts (.fieldLink RX0 37 "DripStone$Candle" "things" "I") (by decide +kernel)) (fun _ h9 => h9) rfl dX0_add_1 ?_
  refine lv_bipush (v := 12) hx hb dX0_add_4 (by decide) ?_
  refine lv_icmp_ge (tgt := 49) hx hb dX0_add_6 (by decide) (fun c_1 => ?_) (fun c_1 => ?_)
  · have f_2 : zict.toInt ≥ (12 : Int) := ic_ge (rfl) (show (12 : Int32).toInt = 12 by decide) c_1
    subst hQ
    have hP9 := hP.sub (ws' := [(zc, .inr (0, [.ref zck, .ref zcw, .ref zcy, .ref zcs, .ref zcf, .ref zcl, .ref zcz, .int zict, .int zics, .int zicm, .int zicd])), (zck, .inl (cy 0, 12, .inl zfck)), (zcw, .inl (cy 0, 12, .inl zfcw)), (zcy, .inl (cy 0, 12, .inl zfcy))]) [0, 1, 2, 3] rfl
    have hD9 := hD.sub (ws' := [(zc, .inr (0, [.ref zck, .ref zcw, .ref zcy, .ref zcs, .ref zcf, .ref zcl, .ref zcz, .int zict, .int zics, .int zicm, .int zicd])), (zck, .inl (cy 0, 12, .inl zfck)), (zcw, .inl (cy 0, 12, .inl zfcw)), (zcy, .inl (cy 0, 12, .inl zfcy))]) [0, 1, 2, 3] (by decide) rfl
    exact W.vret hx hb hr (fun t ht hW => ⟨⟨(zict, zfck, zfcw, zfcy), rfl, (show 1 ≤ zict.toInt ∧ zict.toInt ≤ 12 from by omega), ⟨by rw [ht]; exact hP9, va_K.moved hW.alike hK, hD9⟩⟩, hS.F ht⟩) hS.2.2 dX0_add_49
  · have f_2 : ¬ (zict.toInt ≥ (12 : Int)) := ic_nge (rfl) (show (12 : Int32).toInt = 12 by decide) c_1
    refine lv_aload_n hx hb dX0_add_9 rfl (lv_at hl 0 rfl) ?_
    refine va_get (D := (dC, dI)) (ci := 0) (v := .ref zck) (C := RX0) (T := TX0) (N := 11) hx hb hts (by decide +kernel) hown hK hP 0 rfl rfl 0 (by decide) (hts (.fieldLink RX0 9 "DripStone$Candle" "kinds" "[I") (by decide +kernel)) (fun _ h9 => h9) rfl dX0_add_10 ?_
    refine lv_aload_n hx hb dX0_add_13 rfl (lv_at hl 0 rfl) ?_
    refine va_get (D := (dC, dI)) (ci := 0) (v := .int zict) (C := RX0) (T := TX0) (N := 11) hx hb hts (by decide +kernel) hown hK hP 0 rfl rfl 7 (by decide) (hts (.fieldLink RX0 37 "DripStone$Candle" "things" "I") (by decide +kernel)) (fun _ h9 => h9) rfl dX0_add_14 ?_
    refine lv_iload_n hx hb dX0_add_17 rfl (lv_at hl 1 rfl) ?_
    refine va_iast hx hb hK hP hD hS 1 0 rfl rfl (vp_in_iff.mpr ⟨by omega, by omega⟩) dX0_add_18 (fun H locs hP hD hS => ?_)
    have hP : va_P (dC, dI) vwCl [(zc, .inr (0, [.ref zck, .ref zcw, .ref zcy, .ref zcs, .ref zcf, .ref zcl, .ref zcz, .int zict, .int zics, .int zicm, .int zicd])), (zck, .inl (cy 0, 12, .inl (upd zfck zict.toNatClampNeg zia))), (zcw, .inl (cy 0, 12, .inl zfcw)), (zcy, .inl (cy 0, 12, .inl zfcy))] H := hP
    have hD : va_D A [(zc, .inr (0, [.ref zck, .ref zcw, .ref zcy, .ref zcs, .ref zcf, .ref zcl, .ref zcz, .int zict, .int zics, .int zicm, .int zicd])), (zck, .inl (cy 0, 12, .inl (upd zfck zict.toNatClampNeg zia))), (zcw, .inl (cy 0, 12, .inl zfcw)), (zcy, .inl (cy 0, 12, .inl zfcy))] := hD
    generalize uzf_3 : upd zfck zict.toNatClampNeg zia = zf_3 at hP hD
    refine lv_aload_n hx hb dX0_add_19 rfl (lv_at hl 0 rfl) ?_
    refine va_get (D := (dC, dI)) (ci := 0) (v := .ref zcw) (C := RX0) (T := TX0) (N := 11) hx hb hts (by decide +kernel) hown hK hP 0 rfl rfl 1 (by decide) (hts (.fieldLink RX0 15 "DripStone$Candle" "weights" "[I") (by decide +kernel)) (fun _ h9 => h9) rfl dX0_add_20 ?_
    refine lv_aload_n hx hb dX0_add_23 rfl (lv_at hl 0 rfl) ?_
    refine va_get (D := (dC, dI)) (ci := 0) (v := .int zict) (C := RX0) (T := TX0) (N := 11) hx hb hts (by decide +kernel) hown hK hP 0 rfl rfl 7 (by decide) (hts (.fieldLink RX0 37 "DripStone$Candle" "things" "I") (by decide +kernel)) (fun _ h9 => h9) rfl dX0_add_24 ?_
    refine lv_iload_n hx hb dX0_add_27 rfl (lv_at hl 2 rfl) ?_
    refine va_iast hx hb hK hP hD hS 2 0 rfl rfl (vp_in_iff.mpr ⟨by omega, by omega⟩) dX0_add_28 (fun H locs hP hD hS => ?_)
    have hP : va_P (dC, dI) vwCl [(zc, .inr (0, [.ref zck, .ref zcw, .ref zcy, .ref zcs, .ref zcf, .ref zcl, .ref zcz, .int zict, .int zics, .int zicm, .int zicd])), (zck, .inl (cy 0, 12, .inl zf_3)), (zcw, .inl (cy 0, 12, .inl (upd zfcw zict.toNatClampNeg zib))), (zcy, .inl (cy 0, 12, .inl zfcy))] H := hP
    have hD : va_D A [(zc, .inr (0, [.ref zck, .ref zcw, .ref zcy, .ref zcs, .ref zcf, .ref zcl, .ref zcz, .int zict, .int zics, .int zicm, .int zicd])), (zck, .inl (cy 0, 12, .inl zf_3)), (zcw, .inl (cy 0, 12, .inl (upd zfcw zict.toNatClampNeg zib))), (zcy, .inl (cy 0, 12, .inl zfcy))] := hD
    generalize uzf_4 : upd zfcw zict.toNatClampNeg zib = zf_4 at hP hD
    refine lv_aload_n hx hb dX0_add_29 rfl (lv_at hl 0 rfl) ?_
    refine va_get (D := (dC, dI)) (ci := 0) (v := .ref zcy) (C := RX0) (T := TX0) (N := 11) hx hb hts (by decide +kernel) hown hK hP 0 rfl rfl 2 (by decide) (hts (.fieldLink RX0 18 "DripStone$Candle" "years" "[I") (by decide +kernel)) (fun _ h9 => h9) rfl dX0_add_30 ?_
    refine lv_aload_n hx hb dX0_add_33 rfl (lv_at hl 0 rfl) ?_
    refine va_get (D := (dC, dI)) (ci := 0) (v := .int zict) (C := RX0) (T := TX0) (N := 11) hx hb hts (by decide +kernel) hown hK hP 0 rfl rfl 7 (by decide) (hts (.fieldLink RX0 37 "DripStone$Candle" "things" "I") (by decide +kernel)) (fun _ h9 => h9) rfl dX0_add_34 ?_
    refine lv_iload_n hx hb dX0_add_37 rfl (lv_at hl 3 rfl) ?_
    refine va_iast hx hb hK hP hD hS 3 0 rfl rfl (vp_in_iff.mpr ⟨by omega, by omega⟩) dX0_add_38 (fun H locs hP hD hS => ?_)
    have hP : va_P (dC, dI) vwCl [(zc, .inr (0, [.ref zck, .ref zcw, .ref zcy, .ref zcs, .ref zcf, .ref zcl, .ref zcz, .int zict, .int zics, .int zicm, .int zicd])), (zck, .inl (cy 0, 12, .inl zf_3)), (zcw, .inl (cy 0, 12, .inl zf_4)), (zcy, .inl (cy 0, 12, .inl (upd zfcy zict.toNatClampNeg ziy)))] H := hP
    have hD : va_D A [(zc, .inr (0, [.ref zck, .ref zcw, .ref zcy, .ref zcs, .ref zcf, .ref zcl, .ref zcz, .int zict, .int zics, .int zicm, .int zicd])), (zck, .inl (cy 0, 12, .inl zf_3)), (zcw, .inl (cy 0, 12, .inl zf_4)), (zcy, .inl (cy 0, 12, .inl (upd zfcy zict.toNatClampNeg ziy)))] := hD
    generalize uzf_5 : upd zfcy zict.toNatClampNeg ziy = zf_5 at hP hD
    refine lv_aload_n hx hb dX0_add_39 rfl (lv_at hl 0 rfl) ?_
    refine lv_dup hx hb dX0_add_40 rfl ?_
    refine va_get (D := (dC, dI)) (ci := 0) (v := .int zict) (C := RX0) (T := TX0) (N := 11) hx hb hts (by decide +kernel) hown hK hP 0 rfl rfl 7 (by decide) (hts (.fieldLink RX0 37 "DripStone$Candle" "things" "I") (by decide +kernel)) (fun _ h9 => h9) rfl dX0_add_41 ?_
    refine lv_iconst (v := 1) hx hb dX0_add_44 (by decide) ?_
    refine lv_iadd hx hb dX0_add_45 ?_
    refine lv_topi (fun zi_6 ezi_6 => ?_)
    have tzi_6 : zi_6.toInt = zict.toInt + (1 : Int) := by rw [ezi_6]; exact tiadd (rfl) (show (1 : Int32).toInt = 1 by decide) (by omega) (by omega)
    refine va_put (D := (dC, dI)) (ci := 0) (v := .int zi_6) (ty := .int) (C := RX0) (T := TX0) (N := 11) hx hb hts (by decide +kernel) tyX0 tyX0_ok nmX0 hown hK hP hD hS 0 rfl rfl 7 (by decide) (hts (.fieldLink RX0 37 "DripStone$Candle" "things" "I") (by decide +kernel)) (fun _ h9 => h9) rfl (by decide +kernel) rfl rfl (Nat.le_of_ble_eq_true rfl) dX0_add_46 (fun H locs hP hD hS => ?_)
    have hP : va_P (dC, dI) vwCl [(zc, .inr (0, [.ref zck, .ref zcw, .ref zcy, .ref zcs, .ref zcf, .ref zcl, .ref zcz, .int zi_6, .int zics, .int zicm, .int zicd])), (zck, .inl (cy 0, 12, .inl zf_3)), (zcw, .inl (cy 0, 12, .inl zf_4)), (zcy, .inl (cy 0, 12, .inl zf_5))] H := hP
    have hD : va_D A [(zc, .inr (0, [.ref zck, .ref zcw, .ref zcy, .ref zcs, .ref zcf, .ref zcl, .ref zcz, .int zi_6, .int zics, .int zicm, .int zicd])), (zck, .inl (cy 0, 12, .inl zf_3)), (zcw, .inl (cy 0, 12, .inl zf_4)), (zcy, .inl (cy 0, 12, .inl zf_5))] := hD
    subst hQ
    have hP9 := hP.sub (ws' := [(zc, .inr (0, [.ref zck, .ref zcw, .ref zcy, .ref zcs, .ref zcf, .ref zcl, .ref zcz, .int zi_6, .int zics, .int zicm, .int zicd])), (zck, .inl (cy 0, 12, .inl zf_3)), (zcw, .inl (cy 0, 12, .inl zf_4)), (zcy, .inl (cy 0, 12, .inl zf_5))]) [0, 1, 2, 3] rfl
    have hD9 := hD.sub (ws' := [(zc, .inr (0, [.ref zck, .ref zcw, .ref zcy, .ref zcs, .ref zcf, .ref zcl, .ref zcz, .int zi_6, .int zics, .int zicm, .int zicd])), (zck, .inl (cy 0, 12, .inl zf_3)), (zcw, .inl (cy 0, 12, .inl zf_4)), (zcy, .inl (cy 0, 12, .inl zf_5))]) [0, 1, 2, 3] (by decide) rfl
    exact W.vret hx hb hr (fun t ht hW => ⟨⟨(zi_6, zf_3, zf_4, zf_5), rfl, (show 1 ≤ zi_6.toInt ∧ zi_6.toInt ≤ 12 from by omega), ⟨by rw [ht]; exact hP9, va_K.moved hW.alike hK, hD9⟩⟩, hS.F ht⟩) hS.2.2 dX0_add_49
set_option maxHeartbeats 8000000 in
set_option maxRecDepth 100000 in
theorem c_X0_grow (l : Launch) (dC : Nat → ClassId) (dI : Nat → Nat → Nat) (cy : Nat → ClassId) (sz : Nat) (zc : Nat) (zh : Nat) (zl : Nat) (zck : Nat) (zcw : Nat) (zcy : Nat) (zcs : Nat) (zcf : Nat) (zcl : Nat) (zcz : Nat) (zict : Int32) (zics : Int32) (zicm : Int32) (zicd : Int32) (zfck : Nat → Int32) (zfcw : Nat → Int32) (zfcy : Nat → Int32) (zhr : Nat) (zihk : Int32) (zihs : Int32) (zqh : Nat → Nat) (zfhr0 : Nat → Int32) (zfhr1 : Nat → Int32) (zfhr2 : Nat → Int32) (zld : Nat) (zlc : Nat) (zls : Nat) (zlg : Nat) (zln : Nat) (zil : Int32) (zfld : Nat → Int32) (zflc : Nat → Int32) (zfls : Nat → Int32) (zflg : Nat → Int32) (zfln : Nat → Int32) (b_zict : 0 ≤ zict.toInt ∧ zict.toInt ≤ 12) (b_zics : 0 ≤ zics.toInt ∧ zics.toInt ≤ 6) (b_zicm : 1 ≤ zicm.toInt ∧ zicm.toInt ≤ 4) (b_zicd : 0 ≤ zicd.toInt ∧ zicd.toInt ≤ 1) (b_zihk : 1 ≤ zihk.toInt ∧ zihk.toInt ≤ 5) (b_zihs : 1 ≤ zihs.toInt ∧ zihs.toInt ≤ 9) (h_zfhr0 : RG zfhr0 24 0 9) (h_zfhr1 : RG zfhr1 24 (-20) 20) (h_zfhr2 : RG zfhr2 24 0 9) (b_zil : 0 ≤ zil.toInt ∧ zil.toInt ≤ 6) (h_zflc : RG zflc 6 0 3) : Met l yX0_grow wsX0_grow ({ frames := 3, cells := 0, slots := 0, locals := 79 } : Room) (va_Pc [.ref zc, .ref zh, .ref zl] (PRE dC dI cy [(zc, .inr (0, [.ref zck, .ref zcw, .ref zcy, .ref zcs, .ref zcf, .ref zcl, .ref zcz, .int zict, .int zics, .int zicm, .int zicd])), (zck, .inl (cy 0, 12, .inl zfck)), (zcw, .inl (cy 0, 12, .inl zfcw)), (zcy, .inl (cy 0, 12, .inl zfcy)), (zh, .inr (3, [.ref zhr, .int zihk, .int zihs])), (zhr, .inl (cy 7, 3, .inr (.inr (.inr (.inr (fun i => if i < 3 then some (zqh i) else none)))))), ((zqh 0), .inl (cy 0, 24, .inl zfhr0)), ((zqh 1), .inl (cy 0, 24, .inl zfhr1)), ((zqh 2), .inl (cy 0, 24, .inl zfhr2)), (zl, .inr (4, [.ref zld, .ref zlc, .ref zls, .ref zlg, .ref zln, .int zil])), (zld, .inl (cy 0, 6, .inl zfld)), (zlc, .inl (cy 0, 6, .inl zflc)), (zls, .inl (cy 0, 18, .inl zfls)), (zlg, .inl (cy 0, 18, .inl zflg)), (zln, .inl (cy 0, 18, .inl zfln))] sz)) (va_Qv (fun (u : (Int32) × (Nat → Int32) × (Nat → Int32) × (Nat → Int32)) => (0 ≤ u.1.toInt ∧ u.1.toInt ≤ 12)) (fun u t => POST dC dI cy (va_A [(zc, .inr (0, [.ref zck, .ref zcw, .ref zcy, .ref zcs, .ref zcf, .ref zcl, .ref zcz, .int zict, .int zics, .int zicm, .int zicd])), (zck, .inl (cy 0, 12, .inl zfck)), (zcw, .inl (cy 0, 12, .inl zfcw)), (zcy, .inl (cy 0, 12, .inl zfcy)), (zh, .inr (3, [.ref zhr, .int zihk, .int zihs])), (zhr, .inl (cy 7, 3, .inr (.inr (.inr (.inr (fun i => if i < 3 then some (zqh i) else none)))))), ((zqh 0), .inl (cy 0, 24, .inl zfhr0)), ((zqh 1), .inl (cy 0, 24, .inl zfhr1)), ((zqh 2), .inl (cy 0, 24, .inl zfhr2)), (zl, .inr (4, [.ref zld, .ref zlc, .ref zls, .ref zlg, .ref zln, .int zil])), (zld, .inl (cy 0, 6, .inl zfld)), (zlc, .inl (cy 0, 6, .inl zflc)), (zls, .inl (cy 0, 18, .inl zfls)), (zlg, .inl (cy 0, 18, .inl zflg)), (zln, .inl (cy 0, 18, .inl zfln))] sz) [(zc, .inr (0, [.ref zck, .ref zcw, .ref zcy, .ref zcs, .ref zcf, .ref zcl, .ref zcz, .int u.1, .int 0, .int zicm, .int 1])), (zck, .inl (cy 0, 12, .inl u.2.1)), (zcw, .inl (cy 0, 12, .inl u.2.2.1)), (zcy, .inl (cy 0, 12, .inl u.2.2.2)), (zh, .inr (3, [.ref zhr, .int zihk, .int zihs])), (zhr, .inl (cy 7, 3, .inr (.inr (.inr (.inr (fun i => if i < 3 then some (zqh i) else none)))))), ((zqh 0), .inl (cy 0, 24, .inl zfhr0)), ((zqh 1), .inl (cy 0, 24, .inl zfhr1)), ((zqh 2), .inl (cy 0, 24, .inl zfhr2)), (zl, .inr (4, [.ref zld, .ref zlc, .ref zls, .ref zlg, .ref zln, .int zil])), (zld, .inl (cy 0, 6, .inl zfld)), (zlc, .inl (cy 0, 6, .inl zflc)), (zls, .inl (cy 0, 18, .inl zfls)), (zlg, .inl (cy 0, 18, .inl zflg)), (zln, .inl (cy 0, 18, .inl zfln))] t) (va_A [(zc, .inr (0, [.ref zck, .ref zcw, .ref zcy, .ref zcs, .ref zcf, .ref zcl, .ref zcz, .int zict, .int zics, .int zicm, .int zicd])), (zck, .inl (cy 0, 12, .inl zfck)), (zcw, .inl (cy 0, 12, .inl zfcw)), (zcy, .inl (cy 0, 12, .inl zfcy)), (zh, .inr (3, [.ref zhr, .int zihk, .int zihs])), (zhr, .inl (cy 7, 3, .inr (.inr (.inr (.inr (fun i => if i < 3 then some (zqh i) else none)))))), ((zqh 0), .inl (cy 0, 24, .inl zfhr0)), ((zqh 1), .inl (cy 0, 24, .inl zfhr1)), ((zqh 2), .inl (cy 0, 24, .inl zfhr2)), (zl, .inr (4, [.ref zld, .ref zlc, .ref zls, .ref zlg, .ref zln, .int zil])), (zld, .inl (cy 0, 6, .inl zfld)), (zlc, .inl (cy 0, 6, .inl zflc)), (zls, .inl (cy 0, 18, .inl zfls)), (zlg, .inl (cy 0, 18, .inl zflg)), (zln, .inl (cy 0, 18, .inl zfln))] sz)) 0 0 (va_A [(zc, .inr (0, [.ref zck, .ref zcw, .ref zcy, .ref zcs, .ref zcf, .ref zcl, .ref zcz, .int zict, .int zics, .int zicm, .int zicd])), (zck, .inl (cy 0, 12, .inl zfck)), (zcw, .inl (cy 0, 12, .inl zfcw)), (zcy, .inl (cy 0, 12, .inl zfcy)), (zh, .inr (3, [.ref zhr, .int zihk, .int zihs])), (zhr, .inl (cy 7, 3, .inr (.inr (.inr (.inr (fun i => if i < 3 then some (zqh i) else none)))))), ((zqh 0), .inl (cy 0, 24, .inl zfhr0)), ((zqh 1), .inl (cy 0, 24, .inl zfhr1)), ((zqh 2), .inl (cy 0, 24, .inl zfhr2)), (zl, .inr (4, [.ref zld, .ref zlc, .ref zls, .ref zlg, .ref zln, .int zil])), (zld, .inl (cy 0, 6, .inl zfld)), (zlc, .inl (cy 0, 6, .inl zflc)), (zls, .inl (cy 0, 18, .inl zfls)), (zlg, .inl (cy 0, 18, .inl zflg)), (zln, .inl (cy 0, 18, .inl zfln))] sz) := by
  refine Met.ofW (cc := cX0_grow) (maxL := 7) (ret := none) (by decide) rfl ?_
  intro p e s m args below meth c s₁ B hml hv
  obtain ⟨rfl, hsz, hP, hK, hD0, hN⟩ := hv
  have hx := B.exec
  have hb := B.bytes
  have hr := B.returns
  have hts := atoms_spec (ws := wsX0_grow) B.pre
  have hown : s.vm.findClass RX0 = some m.cls := findClass_of_methodNamed B.named
  have hlocks := B.notSynchronized
  subst hsz
  have hD := hD0.self (sz := s.heap.size)
  generalize hAe : va_A [(zc, .inr (0, [.ref zck, .ref zcw, .ref zcy, .ref zcs, .ref zcf, .ref zcl, .ref zcz, .int zict, .int zics, .int zicm, .int zicd])), (zck, .inl (cy 0, 12, .inl zfck)), (zcw, .inl (cy 0, 12, .inl zfcw)), (zcy, .inl (cy 0, 12, .inl zfcy)), (zh, .inr (3, [.ref zhr, .int zihk, .int zihs])), (zhr, .inl (cy 7, 3, .inr (.inr (.inr (.inr (fun i => if i < 3 then some (zqh i) else none)))))), ((zqh 0), .inl (cy 0, 24, .inl zfhr0)), ((zqh 1), .inl (cy 0, 24, .inl zfhr1)), ((zqh 2), .inl (cy 0, 24, .inl zfhr2)), (zl, .inr (4, [.ref zld, .ref zlc, .ref zls, .ref zlg, .ref zln, .int zil])), (zld, .inl (cy 0, 6, .inl zfld)), (zlc, .inl (cy 0, 6, .inl zflc)), (zls, .inl (cy 0, 18, .inl zfls)), (zlg, .inl (cy 0, 18, .inl zflg)), (zln, .inl (cy 0, 18, .inl zfln))] s.heap.size = A at hD ⊢
  have hA : ∀ q : Nat, s.heap.size ≤ q → A q := fun q h => by rw [← hAe]; exact Or.inr h
  have hS : va_S A s.heap s.heap [] := va_S.rf
  have hP : va_P (dC, dI) vwCl [(zc, .inr (0, [.ref zck, .ref zcw, .ref zcy, .ref zcs, .ref zcf, .ref zcl, .ref zcz, .int zict, .int zics, .int zicm, .int zicd])), (zck, .inl (cy 0, 12, .inl zfck)), (zcw, .inl (cy 0, 12, .inl zfcw)), (zcy, .inl (cy 0, 12, .inl zfcy)), (zh, .inr (3, [.ref zhr, .int zihk, .int zihs])), (zhr, .inl (cy 7, 3, .inr (.inr (.inr (.inr (fun i => if i < 3 then some (zqh i) else none)))))), ((zqh 0), .inl (cy 0, 24, .inl zfhr0)), ((zqh 1), .inl (cy 0, 24, .inl zfhr1)), ((zqh 2), .inl (cy 0, 24, .inl zfhr2)), (zl, .inr (4, [.ref zld, .ref zlc, .ref zls, .ref zlg, .ref zln, .int zil])), (zld, .inl (cy 0, 6, .inl zfld)), (zlc, .inl (cy 0, 6, .inl zflc)), (zls, .inl (cy 0, 18, .inl zfls)), (zlg, .inl (cy 0, 18, .inl zflg)), (zln, .inl (cy 0, 18, .inl zfln))] s.heap := hP
  have hl := lv_entry ([.ref zc, .ref zh, .ref zl] : List Value) (n := 7) (Nat.le_of_ble_eq_true rfl)
  rw [lg_entry_eq]
  generalize (lg_sl ([.ref zc, .ref zh, .ref zl] : List Value) ++ List.replicate (7 - (lg_sl ([.ref zc, .ref zh, .ref zl] : List Value)).length) Slot.unset).toArray = ls at hl ⊢
  have hl : lv_has ls 7 [(0, .ref zc), (1, .ref zh), (2, .ref zl)] := hl
  refine w_q (fun Q hQ => ?_)
  refine lv_aload_n hx hb dX0_grow_0 rfl (lv_at hl 0 rfl) ?_
  refine lv_iconst (v := 0) hx hb dX0_grow_1 (by decide) ?_
  refine va_put (D := (dC, dI)) (ci := 0) (v := .int 0) (ty := .int) (C := RX0) (T := TX0) (N := 11) hx hb hts (by decide +kernel) tyX0 tyX0_ok nmX0 hown hK hP hD hS 0 rfl rfl 7 (by decide) (hts (.fieldLink RX0 37 "DripStone$Candle" "things" "I") (by decide +kernel)) (fun _ h9 => h9) rfl (by decide +kernel) rfl rfl (Nat.le_of_ble_eq_true rfl) dX0_grow_2 (fun H locs hP hD hS => ?_)
  have hP : va_P (dC, dI) vwCl [(zc, .inr (0, [.ref zck, .ref zcw, .ref zcy, .ref zcs, .ref zcf, .ref zcl, .ref zcz, .int 0, .int zics, .int zicm, .int zicd])), (zck, .inl (cy 0, 12, .inl zfck)), (zcw, .inl (cy 0, 12, .inl zfcw)), (zcy, .inl (cy 0, 12, .inl zfcy)), (zh, .inr (3, [.ref zhr, .int zihk, .int zihs])), (zhr, .inl (cy 7, 3, .inr (.inr (.inr (.inr (fun i => if i < 3 then some (zqh i) else none)))))), ((zqh 0), .inl (cy 0, 24, .inl zfhr0)), ((zqh 1), .inl (cy 0, 24, .inl zfhr1)), ((zqh 2), .inl (cy 0, 24, .inl zfhr2)), (zl, .inr (4, [.ref zld, .ref zlc, .ref zls, .ref zlg, .ref zln, .int zil])), (zld, .inl (cy 0, 6, .inl zfld)), (zlc, .inl (cy 0, 6, .inl zflc)), (zls, .inl (cy 0, 18, .inl zfls)), (zlg, .inl (cy 0, 18, .inl zflg)), (zln, .inl (cy 0, 18, .inl zfln))] H := hP
  have hD : va_D A [(zc, .inr (0, [.ref zck, .ref zcw, .ref zcy, .ref zcs, .ref zcf, .ref zcl, .ref zcz, .int 0, .int zics, .int zicm, .int zicd])), (zck, .inl (cy 0, 12, .inl zfck)), (zcw, .inl (cy 0, 12, .inl zfcw)), (zcy, .inl (cy 0, 12, .inl zfcy)), (zh, .inr (3, [.ref zhr, .int zihk, .int zihs])), (zhr, .inl (cy 7, 3, .inr (.inr (.inr (.inr (fun i => if i < 3 then some (zqh i) else none)))))), ((zqh 0), .inl (cy 0, 24, .inl zfhr0)), ((zqh 1), .inl (cy 0, 24, .inl zfhr1)), ((zqh 2), .inl (cy 0, 24, .inl zfhr2)), (zl, .inr (4, [.ref zld, .ref zlc, .ref zls, .ref zlg, .ref zln, .int zil])), (zld, .inl (cy 0, 6, .inl zfld)), (zlc, .inl (cy 0, 6, .inl zflc)), (zls, .inl (cy 0, 18, .inl zfls)), (zlg, .inl (cy 0, 18, .inl zflg)), (zln, .inl (cy 0, 18, .inl zfln))] := hD
  refine lv_aload_n hx hb dX0_grow_5 rfl (lv_at hl 0 rfl) ?_
  refine lv_iconst (v := 0) hx hb dX0_grow_6 (by decide) ?_
  refine va_put (D := (dC, dI)) (ci := 0) (v := .int 0) (ty := .int) (C := RX0) (T := TX0) (N := 11) hx hb hts (by decide +kernel) tyX0 tyX0_ok nmX0 hown hK hP hD hS 0 rfl rfl 8 (by decide) (hts (.fieldLink RX0 44 "DripStone$Candle" "stretches" "I") (by decide +kernel)) (fun _ h9 => h9) rfl (by decide +kernel) rfl rfl (Nat.le_of_ble_eq_true rfl) dX0_grow_7 (fun H locs hP hD hS => ?_)
  have hP : va_P (dC, dI) vwCl [(zc, .inr (0, [.ref zck, .ref zcw, .ref zcy, .ref zcs, .ref zcf, .ref zcl, .ref zcz, .int 0, .int 0, .int zicm, .int zicd])), (zck, .inl (cy 0, 12, .inl zfck)), (zcw, .inl (cy 0, 12, .inl zfcw)), (zcy, .inl (cy 0, 12, .inl zfcy)), (zh, .inr (3, [.ref zhr, .int zihk, .int zihs])), (zhr, .inl (cy 7, 3, .inr (.inr (.inr (.inr (fun i => if i < 3 then some (zqh i) else none)))))), ((zqh 0), .inl (cy 0, 24, .inl zfhr0)), ((zqh 1), .inl (cy 0, 24, .inl zfhr1)), ((zqh 2), .inl (cy 0, 24, .inl zfhr2)), (zl, .inr (4, [.ref zld, .ref zlc, .ref zls, .ref zlg, .ref zln, .int zil])), (zld, .inl (cy 0, 6, .inl zfld)), (zlc, .inl (cy 0, 6, .inl zflc)), (zls, .inl (cy 0, 18, .inl zfls)), (zlg, .inl (cy 0, 18, .inl zflg)), (zln, .inl (cy 0, 18, .inl zfln))] H := hP
  have hD : va_D A [(zc, .inr (0, [.ref zck, .ref zcw, .ref zcy, .ref zcs, .ref zcf, .ref zcl, .ref zcz, .int 0, .int 0, .int zicm, .int zicd])), (zck, .inl (cy 0, 12, .inl zfck)), (zcw, .inl (cy 0, 12, .inl zfcw)), (zcy, .inl (cy 0, 12, .inl zfcy)), (zh, .inr (3, [.ref zhr, .int zihk, .int zihs])), (zhr, .inl (cy 7, 3, .inr (.inr (.inr (.inr (fun i => if i < 3 then some (zqh i) else none)))))), ((zqh 0), .inl (cy 0, 24, .inl zfhr0)), ((zqh 1), .inl (cy 0, 24, .inl zfhr1)), ((zqh 2), .inl (cy 0, 24, .inl zfhr2)), (zl, .inr (4, [.ref zld, .ref zlc, .ref zls, .ref zlg, .ref zln, .int zil])), (zld, .inl (cy 0, 6, .inl zfld)), (zlc, .inl (cy 0, 6, .inl zflc)), (zls, .inl (cy 0, 18, .inl zfls)), (zlg, .inl (cy 0, 18, .inl zflg)), (zln, .inl (cy 0, 18, .inl zfln))] := hD
  refine lv_aload_n hx hb dX0_grow_10 rfl (lv_at hl 0 rfl) ?_
  refine lv_iconst (v := 1) hx hb dX0_grow_11 (by decide) ?_
  refine va_put (D := (dC, dI)) (ci := 0) (v := .int 1) (ty := .boolean) (C := RX0) (T := TX0) (N := 11) hx hb hts (by decide +kernel) tyX0 tyX0_ok nmX0 hown hK hP hD hS 0 rfl rfl 10 (by decide) (hts (.fieldLink RX0 47 "DripStone$Candle" "made" "Z") (by decide +kernel)) (fun _ h9 => h9) rfl (by decide +kernel) rfl rfl (Nat.le_of_ble_eq_true rfl) dX0_grow_12 (fun H locs hP hD hS => ?_)
  have hP : va_P (dC, dI) vwCl [(zc, .inr (0, [.ref zck, .ref zcw, .ref zcy, .ref zcs, .ref zcf, .ref zcl, .ref zcz, .int 0, .int 0, .int zicm, .int 1])), (zck, .inl (cy 0, 12, .inl zfck)), (zcw, .inl (cy 0, 12, .inl zfcw)), (zcy, .inl (cy 0, 12, .inl zfcy)), (zh, .inr (3, [.ref zhr, .int zihk, .int zihs])), (zhr, .inl (cy 7, 3, .inr (.inr (.inr (.inr (fun i => if i < 3 then some (zqh i) else none)))))), ((zqh 0), .inl (cy 0, 24, .inl zfhr0)), ((zqh 1), .inl (cy 0, 24, .inl zfhr1)), ((zqh 2), .inl (cy 0, 24, .inl zfhr2)), (zl, .inr (4, [.ref zld, .ref zlc, .ref zls, .ref zlg, .ref zln, .int zil])), (zld, .inl (cy 0, 6, .inl zfld)), (zlc, .inl (cy 0, 6, .inl zflc)), (zls, .inl (cy 0, 18, .inl zfls)), (zlg, .inl (cy 0, 18, .inl zflg)), (zln, .inl (cy 0, 18, .inl zfln))] H := hP
  have hD : va_D A [(zc, .inr (0, [.ref zck, .ref zcw, .ref zcy, .ref zcs, .ref zcf, .ref zcl, .ref zcz, .int 0, .int 0, .int zicm, .int 1])), (zck, .inl (cy 0, 12, .inl zfck)), (zcw, .inl (cy 0, 12, .inl zfcw)), (zcy, .inl (cy 0, 12, .inl zfcy)), (zh, .inr (3, [.ref zhr, .int zihk, .int zihs])), (zhr, .inl (cy 7, 3, .inr (.inr (.inr (.inr (fun i => if i < 3 then some (zqh i) else none)))))), ((zqh 0), .inl (cy 0, 24, .inl zfhr0)), ((zqh 1), .inl (cy 0, 24, .inl zfhr1)), ((zqh 2), .inl (cy 0, 24, .inl zfhr2)), (zl, .inr (4, [.ref zld, .ref zlc, .ref zls, .ref zlg, .ref zln, .int zil])), (zld, .inl (cy 0, 6, .inl zfld)), (zlc, .inl (cy 0, 6, .inl zflc)), (zls, .inl (cy 0, 18, .inl zfls)), (zlg, .inl (cy 0, 18, .inl zflg)), (zln, .inl (cy 0, 18, .inl zfln))] := hD
  refine lv_iconst (v := (-1)) hx hb dX0_grow_15 (by decide) ?_
  refine lv_istore_n (lv' := [(3, .int (-1)), (0, .ref zc), (1, .ref zh), (2, .ref zl)]) hx hb dX0_grow_16 rfl hl (by decide) rfl (fun ls hl => ?_)
  refine lv_iconst (v := 0) hx hb dX0_grow_17 (by decide) ?_
  refine lv_istore (lv' := [(4, .int 0), (3, .int (-1)), (0, .ref zc), (1, .ref zh), (2, .ref zl)]) hx hb dX0_grow_18 hl (by decide) rfl (fun ls hl => ?_)
  have lp_2145 : ∀ (n : Nat) (zi_1994 : Int32) (zi_1995 : Int32) (zi_1996 : Int32) (zf_1997 : Nat → Int32) (zf_1998 : Nat → Int32) (zf_1999 : Nat → Int32) (H : Heap) (locs : List Loc) (ls : Array Slot), (24 - zi_1995.toInt).toNat = n → ((-1) ≤ zi_1994.toInt ∧ zi_1994.toInt ≤ 23) → (0 ≤ zi_1995.toInt ∧ zi_1995.toInt ≤ 24) → (0 ≤ zi_1996.toInt ∧ zi_1996.toInt ≤ 12) → va_P (dC, dI) vwCl [(zc, .inr (0, [.ref zck, .ref zcw, .ref zcy, .ref zcs, .ref zcf, .ref zcl, .ref zcz, .int zi_1996, .int 0, .int zicm, .int 1])), (zck, .inl (cy 0, 12, .inl zf_1997)), (zcw, .inl (cy 0, 12, .inl zf_1998)), (zcy, .inl (cy 0, 12, .inl zf_1999)), (zh, .inr (3, [.ref zhr, .int zihk, .int zihs])), (zhr, .inl (cy 7, 3, .inr (.inr (.inr (.inr (fun i => if i < 3 then some (zqh i) else none)))))), ((zqh 0), .inl (cy 0, 24, .inl zfhr0)), ((zqh 1), .inl (cy 0, 24, .inl zfhr1)), ((zqh 2), .inl (cy 0, 24, .inl zfhr2)), (zl, .inr (4, [.ref zld, .ref zlc, .ref zls, .ref zlg, .ref zln, .int zil])), (zld, .inl (cy 0, 6, .inl zfld)), (zlc, .inl (cy 0, 6, .inl zflc)), (zls, .inl (cy 0, 18, .inl zfls)), (zlg, .inl (cy 0, 18, .inl zflg)), (zln, .inl (cy 0, 18, .inl zfln))] H → va_D A [(zc, .inr (0, [.ref zck, .ref zcw, .ref zcy, .ref zcs, .ref zcf, .ref zcl, .ref zcz, .int zi_1996, .int 0, .int zicm, .int 1])), (zck, .inl (cy 0, 12, .inl zf_1997)), (zcw, .inl (cy 0, 12, .inl zf_1998)), (zcy, .inl (cy 0, 12, .inl zf_1999)), (zh, .inr (3, [.ref zhr, .int zihk, .int zihs])), (zhr, .inl (cy 7, 3, .inr (.inr (.inr (.inr (fun i => if i < 3 then some (zqh i) else none)))))), ((zqh 0), .inl (cy 0, 24, .inl zfhr0)), ((zqh 1), .inl (cy 0, 24, .inl zfhr1)), ((zqh 2), .inl (cy 0, 24, .inl zfhr2)), (zl, .inr (4, [.ref zld, .ref zlc, .ref zls, .ref zlg, .ref zln, .int zil])), (zld, .inl (cy 0, 6, .inl zfld)), (zlc, .inl (cy 0, 6, .inl zflc)), (zls, .inl (cy 0, 18, .inl zfls)), (zlg, .inl (cy 0, 18, .inl zflg)), (zln, .inl (cy 0, 18, .inl zfln))] → va_S A s.heap H locs → lv_has ls 7 [(0, .ref zc), (1, .ref zh), (2, .ref zl), (3, .int zi_1994), (4, .int zi_1995)] → W p l e ({ frames := 3, cells := 0, slots := 0, locals := 79 } : Room) s m ([.ref zc, .ref zh, .ref zl] : List Value).toArray below meth c H locs 0 0 Q (F0 m 20 ls []) := by
    intro n
    induction n using Nat.strongRecOn with
    | _ n ih =>
      intro zi_1994 zi_1995 zi_1996 zf_1997 zf_1998 zf_1999 H locs ls hn b_zi_1994 b_zi_1995 b_zi_1996 hP hD hS hl
      refine lv_iload hx hb dX0_grow_20 (lv_at hl 4 rfl) ?_
      refine lv_bipush (v := 24) hx hb dX0_grow_22 (by decide) ?_
      refine lv_icmp_ge (tgt := 118) hx hb dX0_grow_24 (by decide) (fun c_2146 => ?_) (fun c_2146 => ?_)
      · have f_2147 : zi_1995.toInt ≥ (24 : Int) := ic_ge (rfl) (show (24 : Int32).toInt = 24 by decide) c_2146
        subst hQ
        have hP9 := hP.sub (ws' := [(zc, .inr (0, [.ref zck, .ref zcw, .ref zcy, .ref zcs, .ref zcf, .ref zcl, .ref zcz, .int zi_1996, .int 0, .int zicm, .int 1])), (zck, .inl (cy 0, 12, .inl zf_1997)), (zcw, .inl (cy 0, 12, .inl zf_1998)), (zcy, .inl (cy 0, 12, .inl zf_1999)), (zh, .inr (3, [.ref zhr, .int zihk, .int zihs])), (zhr, .inl (cy 7, 3, .inr (.inr (.inr (.inr (fun i => if i < 3 then some (zqh i) else none)))))), ((zqh 0), .inl (cy 0, 24, .inl zfhr0)), ((zqh 1), .inl (cy 0, 24, .inl zfhr1)), ((zqh 2), .inl (cy 0, 24, .inl zfhr2)), (zl, .inr (4, [.ref zld, .ref zlc, .ref zls, .ref zlg, .ref zln, .int zil])), (zld, .inl (cy 0, 6, .inl zfld)), (zlc, .inl (cy 0, 6, .inl zflc)), (zls, .inl (cy 0, 18, .inl zfls)), (zlg, .inl (cy 0, 18, .inl zflg)), (zln, .inl (cy 0, 18, .inl zfln))]) [0, 1, 2, 3, 4, 5, 6, 7, 8, 9, 10, 11, 12, 13, 14] rfl
        have hD9 := hD.sub (ws' := [(zc, .inr (0, [.ref zck, .ref zcw, .ref zcy, .ref zcs, .ref zcf, .ref zcl, .ref zcz, .int zi_1996, .int 0, .int zicm, .int 1])), (zck, .inl (cy 0, 12, .inl zf_1997)), (zcw, .inl (cy 0, 12, .inl zf_1998)), (zcy, .inl (cy 0, 12, .inl zf_1999)), (zh, .inr (3, [.ref zhr, .int zihk, .int zihs])), (zhr, .inl (cy 7, 3, .inr (.inr (.inr (.inr (fun i => if i < 3 then some (zqh i) else none)))))), ((zqh 0), .inl (cy 0, 24, .inl zfhr0)), ((zqh 1), .inl (cy 0, 24, .inl zfhr1)), ((zqh 2), .inl (cy 0, 24, .inl zfhr2)), (zl, .inr (4, [.ref zld, .ref zlc, .ref zls, .ref zlg, .ref zln, .int zil])), (zld, .inl (cy 0, 6, .inl zfld)), (zlc, .inl (cy 0, 6, .inl zflc)), (zls, .inl (cy 0, 18, .inl zfls)), (zlg, .inl (cy 0, 18, .inl zflg)), (zln, .inl (cy 0, 18, .inl zfln))]) [0, 1, 2, 3, 4, 5, 6, 7, 8, 9, 10, 11, 12, 13, 14] (by decide) rfl
        exact W.vret hx hb hr (fun t ht hW => ⟨⟨(zi_1996, zf_1997, zf_1998, zf_1999), rfl, (show 0 ≤ zi_1996.toInt ∧ zi_1996.toInt ≤ 12 from by omega), ⟨by rw [ht]; exact hP9, va_K.moved hW.alike hK, hD9⟩⟩, hS.F ht⟩) hS.2.2 dX0_grow_118
      · have f_2147 : ¬ (zi_1995.toInt ≥ (24 : Int)) := ic_nge (rfl) (show (24 : Int32).toInt = 24 by decide) c_2146
        refine lv_aload_n hx hb dX0_grow_27 rfl (lv_at hl 2 rfl) ?_
        refine lv_aload_n hx hb dX0_grow_28 rfl (lv_at hl 1 rfl) ?_
        refine lv_iload hx hb dX0_grow_29 (lv_at hl 4 rfl) ?_
        refine cj_i (wc := [(zl, .inr (4, [.ref zld, .ref zlc, .ref zls, .ref zlg, .ref zln, .int zil])), (zld, .inl (cy 0, 6, .inl zfld)), (zlc, .inl (cy 0, 6, .inl zflc)), (zls, .inl (cy 0, 18, .inl zfls)), (zlg, .inl (cy 0, 18, .inl zflg)), (zln, .inl (cy 0, 18, .inl zfln)), (zh, .inr (3, [.ref zhr, .int zihk, .int zihs])), (zhr, .inl (cy 7, 3, .inr (.inr (.inr (.inr (fun i => if i < 3 then some (zqh i) else none)))))), ((zqh 0), .inl (cy 0, 24, .inl zfhr0)), ((zqh 2), .inl (cy 0, 24, .inl zfhr2))]) (wr := [(zc, .inr (0, [.ref zck, .ref zcw, .ref zcy, .ref zcs, .ref zcf, .ref zcl, .ref zcz, .int zi_1996, .int 0, .int zicm, .int 1])), (zck, .inl (cy 0, 12, .inl zf_1997)), (zcw, .inl (cy 0, 12, .inl zf_1998)), (zcy, .inl (cy 0, 12, .inl zf_1999)), ((zqh 1), .inl (cy 0, 24, .inl zfhr1))]) (w1 := fun (u : Unit) => [(zl, .inr (4, [.ref zld, .ref zlc, .ref zls, .ref zlg, .ref zln, .int zil])), (zld, .inl (cy 0, 6, .inl zfld)), (zlc, .inl (cy 0, 6, .inl zflc)), (zls, .inl (cy 0, 18, .inl zfls)), (zlg, .inl (cy 0, 18, .inl zflg)), (zln, .inl (cy 0, 18, .inl zfln)), (zh, .inr (3, [.ref zhr, .int zihk, .int zihs])), (zhr, .inl (cy 7, 3, .inr (.inr (.inr (.inr (fun i => if i < 3 then some (zqh i) else none)))))), ((zqh 0), .inl (cy 0, 24, .inl zfhr0)), ((zqh 2), .inl (cy 0, 24, .inl zfhr2))]) (va_runV (As := [.ref zh, .int zi_1995]) (rest := []) ⟨hx, hb, hml, hown, hts⟩ (c_X4_growth l dC dI cy H.size zl zh zi_1995 zld zlc zls zlg zln zil zfld zflc zfls zflg zfln zhr zihk zihs zqh zfhr0 zfhr2 (by omega) (by omega) h_zflc (by omega) (by omega) h_zfhr0 h_zfhr2) (cwV 2 hts gX0_grow_X4_growth rfl rfl rfl (by decide +kernel) ⟨(Nat.le_of_ble_eq_true rfl), (Nat.le_of_ble_eq_true rfl)⟩) (PRE.v (hP.sub [9, 10, 11, 12, 13, 14, 4, 5, 6, 8] rfl) hK (hD.sub [9, 10, 11, 12, 13, 14, 4, 5, 6, 8] (by decide) rfl) hN (va_recv hK hP (ci := 4) (q0 := 9) rfl rfl)) rfl rfl hl.1 rfl (lv_room (Nat.le_of_ble_eq_true rfl)) dX0_grow_31 ⟨(Nat.le_of_ble_eq_true rfl), (Nat.le_of_ble_eq_true rfl)⟩) hP hD hS hA [9, 10, 11, 12, 13, 14, 4, 5, 6, 8] [0, 1, 2, 3, 7] rfl rfl rfl (by decide) (fun zi_2149 u_2148 H locs hw_2150 hP hD hS => ?_)
        have hP : va_P (dC, dI) vwCl [(zc, .inr (0, [.ref zck, .ref zcw, .ref zcy, .ref zcs, .ref zcf, .ref zcl, .ref zcz, .int zi_1996, .int 0, .int zicm, .int 1])), (zck, .inl (cy 0, 12, .inl zf_1997)), (zcw, .inl (cy 0, 12, .inl zf_1998)), (zcy, .inl (cy 0, 12, .inl zf_1999)), ((zqh 1), .inl (cy 0, 24, .inl zfhr1)), (zl, .inr (4, [.ref zld, .ref zlc, .ref zls, .ref zlg, .ref zln, .int zil])), (zld, .inl (cy 0, 6, .inl zfld)), (zlc, .inl (cy 0, 6, .inl zflc)), (zls, .inl (cy 0, 18, .inl zfls)), (zlg, .inl (cy 0, 18, .inl zflg)), (zln, .inl (cy 0, 18, .inl zfln)), (zh, .inr (3, [.ref zhr, .int zihk, .int zihs])), (zhr, .inl (cy 7, 3, .inr (.inr (.inr (.inr (fun i => if i < 3 then some (zqh i) else none)))))), ((zqh 0), .inl (cy 0, 24, .inl zfhr0)), ((zqh 2), .inl (cy 0, 24, .inl zfhr2))] H := hP
        have hD : va_D A [(zc, .inr (0, [.ref zck, .ref zcw, .ref zcy, .ref zcs, .ref zcf, .ref zcl, .ref zcz, .int zi_1996, .int 0, .int zicm, .int 1])), (zck, .inl (cy 0, 12, .inl zf_1997)), (zcw, .inl (cy 0, 12, .inl zf_1998)), (zcy, .inl (cy 0, 12, .inl zf_1999)), ((zqh 1), .inl (cy 0, 24, .inl zfhr1)), (zl, .inr (4, [.ref zld, .ref zlc, .ref zls, .ref zlg, .ref zln, .int zil])), (zld, .inl (cy 0, 6, .inl zfld)), (zlc, .inl (cy 0, 6, .inl zflc)), (zls, .inl (cy 0, 18, .inl zfls)), (zlg, .inl (cy 0, 18, .inl zflg)), (zln, .inl (cy 0, 18, .inl zfln)), (zh, .inr (3, [.ref zhr, .int zihk, .int zihs])), (zhr, .inl (cy 7, 3, .inr (.inr (.inr (.inr (fun i => if i < 3 then some (zqh i) else none)))))), ((zqh 0), .inl (cy 0, 24, .inl zfhr0)), ((zqh 2), .inl (cy 0, 24, .inl zfhr2))] := hD
        have rzi_2149 := rng zi_2149
        refine lv_istore (lv' := [(5, .int zi_2149), (0, .ref zc), (1, .ref zh), (2, .ref zl), (3, .int zi_1994), (4, .int zi_1995)]) hx hb dX0_grow_34 hl (by decide) rfl (fun ls hl => ?_)
        refine lv_iload hx hb dX0_grow_36 (lv_at hl 0 rfl) ?_
        have jn_2223 : ∀ (zi_2218 : Int32) (zi_2219 : Int32) (zf_2220 : Nat → Int32) (zf_2221 : Nat → Int32) (zf_2222 : Nat → Int32) (H : Heap) (locs : List Loc) (ls : Array Slot), ((-1) ≤ zi_2218.toInt ∧ zi_2218.toInt ≤ 23) → (0 ≤ zi_2219.toInt ∧ zi_2219.toInt ≤ 12) → va_P (dC, dI) vwCl [(zc, .inr (0, [.ref zck, .ref zcw, .ref zcy, .ref zcs, .ref zcf, .ref zcl, .ref zcz, .int zi_2219, .int 0, .int zicm, .int 1])), (zck, .inl (cy 0, 12, .inl zf_2220)), (zcw, .inl (cy 0, 12, .inl zf_2221)), (zcy, .inl (cy 0, 12, .inl zf_2222)), ((zqh 1), .inl (cy 0, 24, .inl zfhr1)), (zl, .inr (4, [.ref zld, .ref zlc, .ref zls, .ref zlg, .ref zln, .int zil])), (zld, .inl (cy 0, 6, .inl zfld)), (zlc, .inl (cy 0, 6, .inl zflc)), (zls, .inl (cy 0, 18, .inl zfls)), (zlg, .inl (cy 0, 18, .inl zflg)), (zln, .inl (cy 0, 18, .inl zfln)), (zh, .inr (3, [.ref zhr, .int zihk, .int zihs])), (zhr, .inl (cy 7, 3, .inr (.inr (.inr (.inr (fun i => if i < 3 then some (zqh i) else none)))))), ((zqh 0), .inl (cy 0, 24, .inl zfhr0)), ((zqh 2), .inl (cy 0, 24, .inl zfhr2))] H → va_D A [(zc, .inr (0, [.ref zck, .ref zcw, .ref zcy, .ref zcs, .ref zcf, .ref zcl, .ref zcz, .int zi_2219, .int 0, .int zicm, .int 1])), (zck, .inl (cy 0, 12, .inl zf_2220)), (zcw, .inl (cy 0, 12, .inl zf_2221)), (zcy, .inl (cy 0, 12, .inl zf_2222)), ((zqh 1), .inl (cy 0, 24, .inl zfhr1)), (zl, .inr (4, [.ref zld, .ref zlc, .ref zls, .ref zlg, .ref zln, .int zil])), (zld, .inl (cy 0, 6, .inl zfld)), (zlc, .inl (cy 0, 6, .inl zflc)), (zls, .inl (cy 0, 18, .inl zfls)), (zlg, .inl (cy 0, 18, .inl zflg)), (zln, .inl (cy 0, 18, .inl zfln)), (zh, .inr (3, [.ref zhr, .int zihk, .int zihs])), (zhr, .inl (cy 7, 3, .inr (.inr (.inr (.inr (fun i => if i < 3 then some (zqh i) else none)))))), ((zqh 0), .inl (cy 0, 24, .inl zfhr0)), ((zqh 2), .inl (cy 0, 24, .inl zfhr2))] → va_S A s.heap H locs → lv_has ls 7 [(0, .ref zc), (1, .ref zh), (2, .ref zl), (3, .int zi_2218), (4, .int zi_1995), (5, .int zi_2149)] → W p l e ({ frames := 3, cells := 0, slots := 0, locals := 79 } : Room) s m ([.ref zc, .ref zh, .ref zl] : List Value).toArray below meth c H locs 0 0 Q (F0 m 112 ls []) := by
          intro zi_2218 zi_2219 zf_2220 zf_2221 zf_2222 H locs ls b_zi_2218 b_zi_2219 hP hD hS hl
          obtain ⟨zi_2224, ezi_2224⟩ : ∃ y : Int32, y = zi_1995 + 1 := ⟨_, rfl⟩
          have tzi_2224 : zi_2224.toInt = zi_1995.toInt + 1 := by rw [ezi_2224]; exact tadd rfl (show (1 : Int32).toInt = 1 by decide) (by omega) (by omega)
          refine lv_iinc (v := zi_2224) (lv' := [(4, .int zi_2224), (0, .ref zc), (1, .ref zh), (2, .ref zl), (3, .int zi_2218), (5, .int zi_2149)]) hx hb dX0_grow_112 hl (k := 4) rfl (by rw [ezi_2224]; rfl) (by decide) rfl (fun ls hl => ?_)
          refine lv_goto (tgt := 20) hx hb dX0_grow_115 (by decide) ?_
          exact ih (24 - zi_2224.toInt).toNat (by omega) zi_2218 zi_2224 zi_2219 zf_2220 zf_2221 zf_2222 _ _ _ rfl (by omega) (by omega) (by omega) (hP.sub [0, 1, 2, 3, 11, 12, 13, 4, 14, 5, 6, 7, 8, 9, 10] rfl) (hD.sub [0, 1, 2, 3, 11, 12, 13, 4, 14, 5, 6, 7, 8, 9, 10] (by decide) rfl) hS (lv_sub hl [1, 2, 3, 4, 0] rfl)
        refine lv_if_le (tgt := 112) hx hb dX0_grow_38 (by decide) (fun c_2225 => ?_) (fun c_2225 => ?_)
        · have f_2226 : zi_2149.toInt ≤ 0 := ic_le (rfl) (by decide) c_2225
          exact jn_2223 zi_1994 zi_1996 zf_1997 zf_1998 zf_1999 _ _ _ (by omega) (by omega) hP hD hS (lv_sub hl [1, 2, 3, 4, 5, 0] rfl)
        · have f_2226 : ¬ (zi_2149.toInt ≤ 0) := ic_nle (rfl) (by decide) c_2225
          refine lv_iload_n hx hb dX0_grow_41 rfl (lv_at hl 4 rfl) ?_
          have jn_2244 : ∀ (zi_2240 : Int32) (zf_2241 : Nat → Int32) (zf_2242 : Nat → Int32) (zf_2243 : Nat → Int32) (H : Heap) (locs : List Loc) (ls : Array Slot), (0 ≤ zi_2240.toInt ∧ zi_2240.toInt ≤ 12) → va_P (dC, dI) vwCl [(zc, .inr (0, [.ref zck, .ref zcw, .ref zcy, .ref zcs, .ref zcf, .ref zcl, .ref zcz, .int zi_2240, .int 0, .int zicm, .int 1])), (zck, .inl (cy 0, 12, .inl zf_2241)), (zcw, .inl (cy 0, 12, .inl zf_2242)), (zcy, .inl (cy 0, 12, .inl zf_2243)), ((zqh 1), .inl (cy 0, 24, .inl zfhr1)), (zl, .inr (4, [.ref zld, .ref zlc, .ref zls, .ref zlg, .ref zln, .int zil])), (zld, .inl (cy 0, 6, .inl zfld)), (zlc, .inl (cy 0, 6, .inl zflc)), (zls, .inl (cy 0, 18, .inl zfls)), (zlg, .inl (cy 0, 18, .inl zflg)), (zln, .inl (cy 0, 18, .inl zfln)), (zh, .inr (3, [.ref zhr, .int zihk, .int zihs])), (zhr, .inl (cy 7, 3, .inr (.inr (.inr (.inr (fun i => if i < 3 then some (zqh i) else none)))))), ((zqh 0), .inl (cy 0, 24, .inl zfhr0)), ((zqh 2), .inl (cy 0, 24, .inl zfhr2))] H → va_D A [(zc, .inr (0, [.ref zck, .ref zcw, .ref zcy, .ref zcs, .ref zcf, .ref zcl, .ref zcz, .int zi_2240, .int 0, .int zicm, .int 1])), (zck, .inl (cy 0, 12, .inl zf_2241)), (zcw, .inl (cy 0, 12, .inl zf_2242)), (zcy, .inl (cy 0, 12, .inl zf_2243)), ((zqh 1), .inl (cy 0, 24, .inl zfhr1)), (zl, .inr (4, [.ref zld, .ref zlc, .ref zls, .ref zlg, .ref zln, .int zil])), (zld, .inl (cy 0, 6, .inl zfld)), (zlc, .inl (cy 0, 6, .inl zflc)), (zls, .inl (cy 0, 18, .inl zfls)), (zlg, .inl (cy 0, 18, .inl zflg)), (zln, .inl (cy 0, 18, .inl zfln)), (zh, .inr (3, [.ref zhr, .int zihk, .int zihs])), (zhr, .inl (cy 7, 3, .inr (.inr (.inr (.inr (fun i => if i < 3 then some (zqh i) else none)))))), ((zqh 0), .inl (cy 0, 24, .inl zfhr0)), ((zqh 2), .inl (cy 0, 24, .inl zfhr2))] → va_S A s.heap H locs → lv_has ls 7 [(0, .ref zc), (1, .ref zh), (2, .ref zl), (3, .int zi_1994), (4, .int zi_1995), (5, .int zi_2149)] → W p l e ({ frames := 3, cells := 0, slots := 0, locals := 79 } : Room) s m ([.ref zc, .ref zh, .ref zl] : List Value).toArray below meth c H locs 0 0 Q (F0 m 66 ls []) := by
            intro zi_2240 zf_2241 zf_2242 zf_2243 H locs ls b_zi_2240 hP hD hS hl
            refine lv_iconst (v := 0) hx hb dX0_grow_66 (by decide) ?_
            refine lv_istore (lv' := [(6, .int 0), (0, .ref zc), (1, .ref zh), (2, .ref zl), (3, .int zi_1994), (4, .int zi_1995), (5, .int zi_2149)]) hx hb dX0_grow_67 hl (by decide) rfl (fun ls hl => ?_)
            have lp_2265 : ∀ (n : Nat) (zi_2245 : Int32) (zi_2246 : Int32) (zf_2247 : Nat → Int32) (zf_2248 : Nat → Int32) (zf_2249 : Nat → Int32) (H : Heap) (locs : List Loc) (ls : Array Slot), (zi_2149.toInt - zi_2245.toInt).toNat = n → (0 ≤ zi_2245.toInt) → (0 ≤ zi_2246.toInt ∧ zi_2246.toInt ≤ 12) → va_P (dC, dI) vwCl [(zc, .inr (0, [.ref zck, .ref zcw, .ref zcy, .ref zcs, .ref zcf, .ref zcl, .ref zcz, .int zi_2246, .int 0, .int zicm, .int 1])), (zck, .inl (cy 0, 12, .inl zf_2247)), (zcw, .inl (cy 0, 12, .inl zf_2248)), (zcy, .inl (cy 0, 12, .inl zf_2249)), ((zqh 1), .inl (cy 0, 24, .inl zfhr1)), (zl, .inr (4, [.ref zld, .ref zlc, .ref zls, .ref zlg, .ref zln, .int zil])), (zld, .inl (cy 0, 6, .inl zfld)), (zlc, .inl (cy 0, 6, .inl zflc)), (zls, .inl (cy 0, 18, .inl zfls)), (zlg, .inl (cy 0, 18, .inl zflg)), (zln, .inl (cy 0, 18, .inl zfln)), (zh, .inr (3, [.ref zhr, .int zihk, .int zihs])), (zhr, .inl (cy 7, 3, .inr (.inr (.inr (.inr (fun i => if i < 3 then some (zqh i) else none)))))), ((zqh 0), .inl (cy 0, 24, .inl zfhr0)), ((zqh 2), .inl (cy 0, 24, .inl zfhr2))] H → va_D A [(zc, .inr (0, [.ref zck, .ref zcw, .ref zcy, .ref zcs, .ref zcf, .ref zcl, .ref zcz, .int zi_2246, .int 0, .int zicm, .int 1])), (zck, .inl (cy 0, 12, .inl zf_2247)), (zcw, .inl (cy 0, 12, .inl zf_2248)), (zcy, .inl (cy 0, 12, .inl zf_2249)), ((zqh 1), .inl (cy 0, 24, .inl zfhr1)), (zl, .inr (4, [.ref zld, .ref zlc, .ref zls, .ref zlg, .ref zln, .int zil])), (zld, .inl (cy 0, 6, .inl zfld)), (zlc, .inl (cy 0, 6, .inl zflc)), (zls, .inl (cy 0, 18, .inl zfls)), (zlg, .inl (cy 0, 18, .inl zflg)), (zln, .inl (cy 0, 18, .inl zfln)), (zh, .inr (3, [.ref zhr, .int zihk, .int zihs])), (zhr, .inl (cy 7, 3, .inr (.inr (.inr (.inr (fun i => if i < 3 then some (zqh i) else none)))))), ((zqh 0), .inl (cy 0, 24, .inl zfhr0)), ((zqh 2), .inl (cy 0, 24, .inl zfhr2))] → va_S A s.heap H locs → lv_has ls 7 [(0, .ref zc), (1, .ref zh), (2, .ref zl), (3, .int zi_1994), (4, .int zi_1995), (5, .int zi_2149), (6, .int zi_2245)] → W p l e ({ frames := 3, cells := 0, slots := 0, locals := 79 } : Room) s m ([.ref zc, .ref zh, .ref zl] : List Value).toArray below meth c H locs 0 0 Q (F0 m 69 ls []) := by
              intro n
              induction n using Nat.strongRecOn with
              | _ n ih =>
                intro zi_2245 zi_2246 zf_2247 zf_2248 zf_2249 H locs ls hn b_zi_2245 b_zi_2246 hP hD hS hl
                refine lv_iload hx hb dX0_grow_69 (lv_at hl 6 rfl) ?_
                refine lv_iload hx hb dX0_grow_71 (lv_at hl 5 rfl) ?_
                refine lv_icmp_ge (tgt := 109) hx hb dX0_grow_73 (by decide) (fun c_2266 => ?_) (fun c_2266 => ?_)
                · have f_2267 : zi_2245.toInt ≥ zi_2149.toInt := ic_ge (rfl) (rfl) c_2266
                  refine lv_iload hx hb dX0_grow_109 (lv_at hl 4 rfl) ?_
                  refine lv_istore_n (lv' := [(3, .int zi_1995), (0, .ref zc), (1, .ref zh), (2, .ref zl), (4, .int zi_1995), (5, .int zi_2149), (6, .int zi_2245)]) hx hb dX0_grow_111 rfl hl (by decide) rfl (fun ls hl => ?_)
                  exact jn_2223 zi_1995 zi_2246 zf_2247 zf_2248 zf_2249 _ _ _ (by omega) (by omega) hP hD hS (lv_sub hl [1, 2, 3, 0, 4, 5] rfl)
                · have f_2267 : ¬ (zi_2245.toInt ≥ zi_2149.toInt) := ic_nge (rfl) (rfl) c_2266
                  refine lv_aload_n hx hb dX0_grow_76 rfl (lv_at hl 0 rfl) ?_
                  refine lv_iconst (v := 0) hx hb dX0_grow_77 (by decide) ?_
                  refine lv_aload_n hx hb dX0_grow_78 rfl (lv_at hl 1 rfl) ?_
                  refine lv_iload hx hb dX0_grow_79 (lv_at hl 4 rfl) ?_
                  refine lv_aload_n hx hb dX0_grow_81 rfl (lv_at hl 1 rfl) ?_
                  refine va_get (D := (dC, dI)) (ci := 3) (v := .int zihk) (C := RX3) (T := TX3) (N := 3) hx hb hts (by decide +kernel) hown hK hP 11 rfl rfl 1 (by decide) (hts (.fieldLink RX0 66 "DripStone$Hill" "keeps" "I") (by decide +kernel)) (fun _ h9 => h9) rfl dX0_grow_82 ?_
                  refine cj_i (wc := [(zh, .inr (3, [.ref zhr, .int zihk, .int zihs])), (zhr, .inl (cy 7, 3, .inr (.inr (.inr (.inr (fun i => if i < 3 then some (zqh i) else none)))))), ((zqh 0), .inl (cy 0, 24, .inl zfhr0)), ((zqh 1), .inl (cy 0, 24, .inl zfhr1))]) (wr := [(zc, .inr (0, [.ref zck, .ref zcw, .ref zcy, .ref zcs, .ref zcf, .ref zcl, .ref zcz, .int zi_2246, .int 0, .int zicm, .int 1])), (zck, .inl (cy 0, 12, .inl zf_2247)), (zcw, .inl (cy 0, 12, .inl zf_2248)), (zcy, .inl (cy 0, 12, .inl zf_2249)), (zl, .inr (4, [.ref zld, .ref zlc, .ref zls, .ref zlg, .ref zln, .int zil])), (zld, .inl (cy 0, 6, .inl zfld)), (zlc, .inl (cy 0, 6, .inl zflc)), (zls, .inl (cy 0, 18, .inl zfls)), (zlg, .inl (cy 0, 18, .inl zflg)), (zln, .inl (cy 0, 18, .inl zfln)), ((zqh 2), .inl (cy 0, 24, .inl zfhr2))]) (w1 := fun (u : Unit) => [(zh, .inr (3, [.ref zhr, .int zihk, .int zihs])), (zhr, .inl (cy 7, 3, .inr (.inr (.inr (.inr (fun i => if i < 3 then some (zqh i) else none)))))), ((zqh 0), .inl (cy 0, 24, .inl zfhr0)), ((zqh 1), .inl (cy 0, 24, .inl zfhr1))]) (va_runV (As := [.int zi_1995, .int zihk]) (rest := [.int 0, .ref zc]) ⟨hx, hb, hml, hown, hts⟩ (c_X3_waterBy l dC dI cy H.size zh zi_1995 zihk zhr zihk zihs zqh zfhr0 zfhr1 (by omega) (by omega) (by omega) (by omega) h_zfhr0 h_zfhr1) (cwV 2 hts gX0_grow_X3_waterBy rfl rfl rfl (by decide +kernel) ⟨(Nat.le_of_ble_eq_true rfl), (Nat.le_of_ble_eq_true rfl)⟩) (PRE.v (hP.sub [11, 12, 13, 4] rfl) hK (hD.sub [11, 12, 13, 4] (by decide) rfl) hN (va_recv hK hP (ci := 3) (q0 := 11) rfl rfl)) rfl rfl hl.1 rfl (lv_room (Nat.le_of_ble_eq_true rfl)) dX0_grow_85 ⟨(Nat.le_of_ble_eq_true rfl), (Nat.le_of_ble_eq_true rfl)⟩) hP hD hS hA [11, 12, 13, 4] [0, 1, 2, 3, 5, 6, 7, 8, 9, 10, 14] rfl rfl rfl (by decide) (fun zi_2269 u_2268 H locs hw_2270 hP hD hS => ?_)
                  have hP : va_P (dC, dI) vwCl [(zc, .inr (0, [.ref zck, .ref zcw, .ref zcy, .ref zcs, .ref zcf, .ref zcl, .ref zcz, .int zi_2246, .int 0, .int zicm, .int 1])), (zck, .inl (cy 0, 12, .inl zf_2247)), (zcw, .inl (cy 0, 12, .inl zf_2248)), (zcy, .inl (cy 0, 12, .inl zf_2249)), (zl, .inr (4, [.ref zld, .ref zlc, .ref zls, .ref zlg, .ref zln, .int zil])), (zld, .inl (cy 0, 6, .inl zfld)), (zlc, .inl (cy 0, 6, .inl zflc)), (zls, .inl (cy 0, 18, .inl zfls)), (zlg, .inl (cy 0, 18, .inl zflg)), (zln, .inl (cy 0, 18, .inl zfln)), ((zqh 2), .inl (cy 0, 24, .inl zfhr2)), (zh, .inr (3, [.ref zhr, .int zihk, .int zihs])), (zhr, .inl (cy 7, 3, .inr (.inr (.inr (.inr (fun i => if i < 3 then some (zqh i) else none)))))), ((zqh 0), .inl (cy 0, 24, .inl zfhr0)), ((zqh 1), .inl (cy 0, 24, .inl zfhr1))] H := hP
                  have hD : va_D A [(zc, .inr (0, [.ref zck, .ref zcw, .ref zcy, .ref zcs, .ref zcf, .ref zcl, .ref zcz, .int zi_2246, .int 0, .int zicm, .int 1])), (zck, .inl (cy 0, 12, .inl zf_2247)), (zcw, .inl (cy 0, 12, .inl zf_2248)), (zcy, .inl (cy 0, 12, .inl zf_2249)), (zl, .inr (4, [.ref zld, .ref zlc, .ref zls, .ref zlg, .ref zln, .int zil])), (zld, .inl (cy 0, 6, .inl zfld)), (zlc, .inl (cy 0, 6, .inl zflc)), (zls, .inl (cy 0, 18, .inl zfls)), (zlg, .inl (cy 0, 18, .inl zflg)), (zln, .inl (cy 0, 18, .inl zfln)), ((zqh 2), .inl (cy 0, 24, .inl zfhr2)), (zh, .inr (3, [.ref zhr, .int zihk, .int zihs])), (zhr, .inl (cy 7, 3, .inr (.inr (.inr (.inr (fun i => if i < 3 then some (zqh i) else none)))))), ((zqh 0), .inl (cy 0, 24, .inl zfhr0)), ((zqh 1), .inl (cy 0, 24, .inl zfhr1))] := hD
                  have rzi_2269 := rng zi_2269
                  refine lv_aload_n hx hb dX0_grow_88 rfl (lv_at hl 1 rfl) ?_
                  refine va_get (D := (dC, dI)) (ci := 3) (v := .ref zhr) (C := RX3) (T := TX3) (N := 3) hx hb hts (by decide +kernel) hown hK hP 11 rfl rfl 0 (by decide) (hts (.fieldLink RX0 73 "DripStone$Hill" "rain" "[[I") (by decide +kernel)) (fun _ h9 => h9) rfl dX0_grow_89 ?_
                  refine lv_iconst (v := 2) hx hb dX0_grow_92 (by decide) ?_
                  refine va_aldA hx hb hK hP 12 7 rfl rfl (vp_in_iff.mpr ⟨by decide, by decide⟩) dX0_grow_93 ?_
                  refine W.eq (g2 := F0 m 94 ls [.ref (zqh 2), .int zi_2269, .int 0, .ref zc]) rfl ?_
                  refine lv_iload hx hb dX0_grow_94 (lv_at hl 4 rfl) ?_
                  refine va_iald hx hb hK hP 10 0 rfl rfl (vp_in_iff.mpr ⟨by omega, by omega⟩) dX0_grow_96 ?_
                  refine lv_topi (fun zi_2271 ezi_2271 => ?_)
                  have tzi_2271 : 0 ≤ zi_2271.toInt ∧ zi_2271.toInt ≤ 9 := by rw [ezi_2271]; exact RG.at h_zfhr2 (by omega) (by omega)
                  refine lv_isub hx hb dX0_grow_97 ?_
                  refine lv_topi (fun zi_2272 ezi_2272 => ?_)
                  refine lv_iload hx hb dX0_grow_98 (lv_at hl 4 rfl) ?_
                  have qc_0 : (0 : Int32).toInt = 0 := by decide
                  have qc_1 : (1 : Int32).toInt = 1 := by decide
                  refine cj_v (wc := [(zc, .inr (0, [.ref zck, .ref zcw, .ref zcy, .ref zcs, .ref zcf, .ref zcl, .ref zcz, .int zi_2246, .int 0, .int zicm, .int 1])), (zck, .inl (cy 0, 12, .inl zf_2247)), (zcw, .inl (cy 0, 12, .inl zf_2248)), (zcy, .inl (cy 0, 12, .inl zf_2249))]) (wr := [(zl, .inr (4, [.ref zld, .ref zlc, .ref zls, .ref zlg, .ref zln, .int zil])), (zld, .inl (cy 0, 6, .inl zfld)), (zlc, .inl (cy 0, 6, .inl zflc)), (zls, .inl (cy 0, 18, .inl zfls)), (zlg, .inl (cy 0, 18, .inl zflg)), (zln, .inl (cy 0, 18, .inl zfln)), ((zqh 2), .inl (cy 0, 24, .inl zfhr2)), (zh, .inr (3, [.ref zhr, .int zihk, .int zihs])), (zhr, .inl (cy 7, 3, .inr (.inr (.inr (.inr (fun i => if i < 3 then some (zqh i) else none)))))), ((zqh 0), .inl (cy 0, 24, .inl zfhr0)), ((zqh 1), .inl (cy 0, 24, .inl zfhr1))]) (w1 := fun (u : (Int32) × (Nat → Int32) × (Nat → Int32) × (Nat → Int32)) => [(zc, .inr (0, [.ref zck, .ref zcw, .ref zcy, .ref zcs, .ref zcf, .ref zcl, .ref zcz, .int u.1, .int 0, .int zicm, .int 1])), (zck, .inl (cy 0, 12, .inl u.2.1)), (zcw, .inl (cy 0, 12, .inl u.2.2.1)), (zcy, .inl (cy 0, 12, .inl u.2.2.2))]) (va_runV (As := [.int 0, .int zi_2272, .int zi_1995]) (rest := []) ⟨hx, hb, hml, hown, hts⟩ (c_X0_add l dC dI cy H.size zc (0 : Int32) zi_2272 zi_1995 zck zcw zcy zcs zcf zcl zcz zi_2246 (0 : Int32) zicm (1 : Int32) zf_2247 zf_2248 zf_2249 (by omega) (by decide) (by omega) (by decide)) (cwV 3 hts gX0_grow_X0_add rfl rfl rfl (by decide +kernel) ⟨(Nat.le_of_ble_eq_true rfl), (Nat.le_of_ble_eq_true rfl)⟩) (PRE.v (hP.sub [0, 1, 2, 3] rfl) hK (hD.sub [0, 1, 2, 3] (by decide) rfl) hN (va_recv hK hP (ci := 0) (q0 := 0) rfl rfl)) rfl rfl hl.1 rfl (lv_room (Nat.le_of_ble_eq_true rfl)) dX0_grow_100 ⟨(Nat.le_of_ble_eq_true rfl), (Nat.le_of_ble_eq_true rfl)⟩) hP hD hS hA [0, 1, 2, 3] [4, 5, 6, 7, 8, 9, 10, 11, 12, 13, 14] rfl rfl rfl (by decide) (fun u_2273 H locs hw_2275 hP hD hS => ?_)
                  obtain ⟨zi_2276, zf_2277, zf_2278, zf_2279⟩ := u_2273
                  have hP : va_P (dC, dI) vwCl [(zl, .inr (4, [.ref zld, .ref zlc, .ref zls, .ref zlg, .ref zln, .int zil])), (zld, .inl (cy 0, 6, .inl zfld)), (zlc, .inl (cy 0, 6, .inl zflc)), (zls, .inl (cy 0, 18, .inl zfls)), (zlg, .inl (cy 0, 18, .inl zflg)), (zln, .inl (cy 0, 18, .inl zfln)), ((zqh 2), .inl (cy 0, 24, .inl zfhr2)), (zh, .inr (3, [.ref zhr, .int zihk, .int zihs])), (zhr, .inl (cy 7, 3, .inr (.inr (.inr (.inr (fun i => if i < 3 then some (zqh i) else none)))))), ((zqh 0), .inl (cy 0, 24, .inl zfhr0)), ((zqh 1), .inl (cy 0, 24, .inl zfhr1)), (zc, .inr (0, [.ref zck, .ref zcw, .ref zcy, .ref zcs, .ref zcf, .ref zcl, .ref zcz, .int zi_2276, .int 0, .int zicm, .int 1])), (zck, .inl (cy 0, 12, .inl zf_2277)), (zcw, .inl (cy 0, 12, .inl zf_2278)), (zcy, .inl (cy 0, 12, .inl zf_2279))] H := hP
                  have hD : va_D A [(zl, .inr (4, [.ref zld, .ref zlc, .ref zls, .ref zlg, .ref zln, .int zil])), (zld, .inl (cy 0, 6, .inl zfld)), (zlc, .inl (cy 0, 6, .inl zflc)), (zls, .inl (cy 0, 18, .inl zfls)), (zlg, .inl (cy 0, 18, .inl zflg)), (zln, .inl (cy 0, 18, .inl zfln)), ((zqh 2), .inl (cy 0, 24, .inl zfhr2)), (zh, .inr (3, [.ref zhr, .int zihk, .int zihs])), (zhr, .inl (cy 7, 3, .inr (.inr (.inr (.inr (fun i => if i < 3 then some (zqh i) else none)))))), ((zqh 0), .inl (cy 0, 24, .inl zfhr0)), ((zqh 1), .inl (cy 0, 24, .inl zfhr1)), (zc, .inr (0, [.ref zck, .ref zcw, .ref zcy, .ref zcs, .ref zcf, .ref zcl, .ref zcz, .int zi_2276, .int 0, .int zicm, .int 1])), (zck, .inl (cy 0, 12, .inl zf_2277)), (zcw, .inl (cy 0, 12, .inl zf_2278)), (zcy, .inl (cy 0, 12, .inl zf_2279))] := hD
                  have b_zi_2276 : 1 ≤ zi_2276.toInt ∧ zi_2276.toInt ≤ 12 := hw_2275
                  obtain ⟨zi_2280, ezi_2280⟩ : ∃ y : Int32, y = zi_2245 + 1 := ⟨_, rfl⟩
                  have tzi_2280 : zi_2280.toInt = zi_2245.toInt + 1 := by rw [ezi_2280]; exact tadd rfl (show (1 : Int32).toInt = 1 by decide) (by omega) (by omega)
                  refine lv_iinc (v := zi_2280) (lv' := [(6, .int zi_2280), (0, .ref zc), (1, .ref zh), (2, .ref zl), (3, .int zi_1994), (4, .int zi_1995), (5, .int zi_2149)]) hx hb dX0_grow_103 hl (k := 6) rfl (by rw [ezi_2280]; rfl) (by decide) rfl (fun ls hl => ?_)
                  refine lv_goto (tgt := 69) hx hb dX0_grow_106 (by decide) ?_
                  exact ih (zi_2149.toInt - zi_2280.toInt).toNat (by omega) zi_2280 zi_2276 zf_2277 zf_2278 zf_2279 _ _ _ rfl (by omega) (by omega) (hP.sub [11, 12, 13, 14, 10, 0, 1, 2, 3, 4, 5, 7, 8, 9, 6] rfl) (hD.sub [11, 12, 13, 14, 10, 0, 1, 2, 3, 4, 5, 7, 8, 9, 6] (by decide) rfl) hS (lv_sub hl [1, 2, 3, 4, 5, 6, 0] rfl)
            exact lp_2265 _ (0 : Int32) zi_2240 zf_2241 zf_2242 zf_2243 _ _ _ rfl (by decide) (by omega) hP hD hS (lv_sub hl [1, 2, 3, 4, 5, 6, 0] rfl)
          refine lv_if_lt (tgt := 66) hx hb dX0_grow_42 (by decide) (fun c_2281 => ?_) (fun c_2281 => ?_)
          · have f_2282 : zi_1994.toInt < 0 := ic_lt (rfl) (by decide) c_2281
            exact jn_2244 zi_1996 zf_1997 zf_1998 zf_1999 _ _ _ (by omega) hP hD hS (lv_sub hl [1, 2, 3, 4, 5, 0] rfl)
          · have f_2282 : ¬ (zi_1994.toInt < 0) := ic_nlt (rfl) (by decide) c_2281
            refine lv_iload hx hb dX0_grow_45 (lv_at hl 5 rfl) ?_
            refine lv_iload_n hx hb dX0_grow_47 rfl (lv_at hl 4 rfl) ?_
            refine lv_isub hx hb dX0_grow_48 ?_
            refine lv_topi (fun zi_2283 ezi_2283 => ?_)
            have tzi_2283 : zi_2283.toInt = zi_1995.toInt - zi_1994.toInt := by rw [ezi_2283]; exact tisub (rfl) (rfl) (by omega) (by omega)
            refine lv_iconst (v := 1) hx hb dX0_grow_49 (by decide) ?_
            refine lv_isub hx hb dX0_grow_50 ?_
            refine lv_topi (fun zi_2284 ezi_2284 => ?_)
            have tzi_2284 : zi_2284.toInt = zi_2283.toInt - (1 : Int) := by rw [ezi_2284]; exact tisub (rfl) (show (1 : Int32).toInt = 1 by decide) (by omega) (by omega)
            refine lv_aload_n hx hb dX0_grow_51 rfl (lv_at hl 2 rfl) ?_
            refine va_get (D := (dC, dI)) (ci := 3) (v := .int zihs) (C := RX3) (T := TX3) (N := 3) hx hb hts (by decide +kernel) hown hK hP 11 rfl rfl 2 (by decide) (hts (.fieldLink RX0 57 "DripStone$Hill" "seen" "I") (by decide +kernel)) (fun _ h9 => h9) rfl dX0_grow_52 ?_
            refine lv_icmp_lt (tgt := 66) hx hb dX0_grow_55 (by decide) (fun c_2285 => ?_) (fun c_2285 => ?_)
            · have f_2286 : zi_2284.toInt < zihs.toInt := ic_lt (rfl) (rfl) c_2285
              exact jn_2244 zi_1996 zf_1997 zf_1998 zf_1999 _ _ _ (by omega) hP hD hS (lv_sub hl [1, 2, 3, 4, 5, 0] rfl)
            · have f_2286 : ¬ (zi_2284.toInt < zihs.toInt) := ic_nlt (rfl) (rfl) c_2285
              refine lv_aload_n hx hb dX0_grow_58 rfl (lv_at hl 1 rfl) ?_
              refine lv_iconst (v := 2) hx hb dX0_grow_59 (by decide) ?_
              refine lv_iconst (v := 0) hx hb dX0_grow_60 (by decide) ?_
              refine lv_iload hx hb dX0_grow_61 (lv_at hl 5 rfl) ?_
              have qc_0 : (0 : Int32).toInt = 0 := by decide
              have qc_1 : (1 : Int32).toInt = 1 := by decide
              have qc_2 : (2 : Int32).toInt = 2 := by decide
              refine cj_v (wc := [(zc, .inr (0, [.ref zck, .ref zcw, .ref zcy, .ref zcs, .ref zcf, .ref zcl, .ref zcz, .int zi_1996, .int 0, .int zicm, .int 1])), (zck, .inl (cy 0, 12, .inl zf_1997)), (zcw, .inl (cy 0, 12, .inl zf_1998)), (zcy, .inl (cy 0, 12, .inl zf_1999))]) (wr := [((zqh 1), .inl (cy 0, 24, .inl zfhr1)), (zl, .inr (4, [.ref zld, .ref zlc, .ref zls, .ref zlg, .ref zln, .int zil])), (zld, .inl (cy 0, 6, .inl zfld)), (zlc, .inl (cy 0, 6, .inl zflc)), (zls, .inl (cy 0, 18, .inl zfls)), (zlg, .inl (cy 0, 18, .inl zflg)), (zln, .inl (cy 0, 18, .inl zfln)), (zh, .inr (3, [.ref zhr, .int zihk, .int zihs])), (zhr, .inl (cy 7, 3, .inr (.inr (.inr (.inr (fun i => if i < 3 then some (zqh i) else none)))))), ((zqh 0), .inl (cy 0, 24, .inl zfhr0)), ((zqh 2), .inl (cy 0, 24, .inl zfhr2))]) (w1 := fun (u : (Int32) × (Nat → Int32) × (Nat → Int32) × (Nat → Int32)) => [(zc, .inr (0, [.ref zck, .ref zcw, .ref zcy, .ref zcs, .ref zcf, .ref zcl, .ref zcz, .int u.1, .int 0, .int zicm, .int 1])), (zck, .inl (cy 0, 12, .inl u.2.1)), (zcw, .inl (cy 0, 12, .inl u.2.2.1)), (zcy, .inl (cy 0, 12, .inl u.2.2.2))]) (va_runV (As := [.int 2, .int 0, .int zi_1995]) (rest := []) ⟨hx, hb, hml, hown, hts⟩ (c_X0_add l dC dI cy H.size zc (2 : Int32) (0 : Int32) zi_1995 zck zcw zcy zcs zcf zcl zcz zi_1996 (0 : Int32) zicm (1 : Int32) zf_1997 zf_1998 zf_1999 (by omega) (by decide) (by omega) (by decide)) (cwV 3 hts gX0_grow_X0_add rfl rfl rfl (by decide +kernel) ⟨(Nat.le_of_ble_eq_true rfl), (Nat.le_of_ble_eq_true rfl)⟩) (PRE.v (hP.sub [0, 1, 2, 3] rfl) hK (hD.sub [0, 1, 2, 3] (by decide) rfl) hN (va_recv hK hP (ci := 0) (q0 := 0) rfl rfl)) rfl rfl hl.1 rfl (lv_room (Nat.le_of_ble_eq_true rfl)) dX0_grow_63 ⟨(Nat.le_of_ble_eq_true rfl), (Nat.le_of_ble_eq_true rfl)⟩) hP hD hS hA [0, 1, 2, 3] [4, 5, 6, 7, 8, 9, 10, 11, 12, 13, 14] rfl rfl rfl (by decide) (fun u_2287 H locs hw_2289 hP hD hS => ?_)
              obtain ⟨zi_2290, zf_2291, zf_2292, zf_2293⟩ := u_2287
              have hP : va_P (dC, dI) vwCl [((zqh 1), .inl (cy 0, 24, .inl zfhr1)), (zl, .inr (4, [.ref zld, .ref zlc, .ref zls, .ref zlg, .ref zln, .int zil])), (zld, .inl (cy 0, 6, .inl zfld)), (zlc, .inl (cy 0, 6, .inl zflc)), (zls, .inl (cy 0, 18, .inl zfls)), (zlg, .inl (cy 0, 18, .inl zflg)), (zln, .inl (cy 0, 18, .inl zfln)), (zh, .inr (3, [.ref zhr, .int zihk, .int zihs])), (zhr, .inl (cy 7, 3, .inr (.inr (.inr (.inr (fun i => if i < 3 then some (zqh i) else none)))))), ((zqh 0), .inl (cy 0, 24, .inl zfhr0)), ((zqh 2), .inl (cy 0, 24, .inl zfhr2)), (zc, .inr (0, [.ref zck, .ref zcw, .ref zcy, .ref zcs, .ref zcf, .ref zcl, .ref zcz, .int zi_2290, .int 0, .int zicm, .int 1])), (zck, .inl (cy 0, 12, .inl zf_2291)), (zcw, .inl (cy 0, 12, .inl zf_2292)), (zcy, .inl (cy 0, 12, .inl zf_2293))] H := hP
              have hD : va_D A [((zqh 1), .inl (cy 0, 24, .inl zfhr1)), (zl, .inr (4, [.ref zld, .ref zlc, .ref zls, .ref zlg, .ref zln, .int zil])), (zld, .inl (cy 0, 6, .inl zfld)), (zlc, .inl (cy 0, 6, .inl zflc)), (zls, .inl (cy 0, 18, .inl zfls)), (zlg, .inl (cy 0, 18, .inl zflg)), (zln, .inl (cy 0, 18, .inl zfln)), (zh, .inr (3, [.ref zhr, .int zihk, .int zihs])), (zhr, .inl (cy 7, 3, .inr (.inr (.inr (.inr (fun i => if i < 3 then some (zqh i) else none)))))), ((zqh 0), .inl (cy 0, 24, .inl zfhr0)), ((zqh 2), .inl (cy 0, 24, .inl zfhr2)), (zc, .inr (0, [.ref zck, .ref zcw, .ref zcy, .ref zcs, .ref zcf, .ref zcl, .ref zcz, .int zi_2290, .int 0, .int zicm, .int 1])), (zck, .inl (cy 0, 12, .inl zf_2291)), (zcw, .inl (cy 0, 12, .inl zf_2292)), (zcy, .inl (cy 0, 12, .inl zf_2293))] := hD
              have b_zi_2290 : 1 ≤ zi_2290.toInt ∧ zi_2290.toInt ≤ 12 := hw_2289
              exact jn_2244 zi_2290 zf_2291 zf_2292 zf_2293 _ _ _ (by omega) (hP.sub [11, 12, 13, 14, 0, 1, 2, 3, 4, 5, 6, 7, 8, 9, 10] rfl) (hD.sub [11, 12, 13, 14, 0, 1, 2, 3, 4, 5, 6, 7, 8, 9, 10] (by decide) rfl) hS (lv_sub hl [1, 2, 3, 4, 5, 0] rfl)
  exact lp_2145 _ (-1 : Int32) (0 : Int32) (0 : Int32) zfck zfcw zfcy _ _ _ rfl (by decide) (by decide) (by decide) hP hD hS (lv_sub hl [2, 3, 4, 1, 0] rfl)
set_option maxHeartbeats 8000000 in
set_option maxRecDepth 100000 in
theorem c_X0_addStretch (l : Launch) (dC : Nat → ClassId) (dI : Nat → Nat → Nat) (cy : Nat → ClassId) (sz : Nat) (zc : Nat) (zia : Int32) (zib : Int32) (ziy : Int32) (zin : Int32) (zck : Nat) (zcw : Nat) (zcy : Nat) (zcs : Nat) (zcf : Nat) (zcl : Nat) (zcz : Nat) (zict : Int32) (zics : Int32) (zicm : Int32) (zicd : Int32) (zfcs : Nat → Int32) (zfcf : Nat → Int32) (zfcl : Nat → Int32) (zfcz : Nat → Int32) (b_zin : 0 ≤ zin.toInt ∧ zin.toInt ≤ 20) (b_zict : 0 ≤ zict.toInt ∧ zict.toInt ≤ 12) (b_zics : 0 ≤ zics.toInt ∧ zics.toInt ≤ 5) (b_zicm : 1 ≤ zicm.toInt ∧ zicm.toInt ≤ 4) (b_zicd : 0 ≤ zicd.toInt ∧ zicd.toInt ≤ 1) (h_zfcz : RG zfcz 6 0 20) : Met l yX0_addStretch wsX0_addStretch ({ frames := 0, cells := 0, slots := 0, locals := 0 } : Room) (va_Pc [.ref zc, .int zia, .int zib, .int ziy, .int zin] (PRE dC dI cy [(zc, .inr (0, [.ref zck, .ref zcw, .ref zcy, .ref zcs, .ref zcf, .ref zcl, .ref zcz, .int zict, .int zics, .int zicm, .int zicd])), (zcs, .inl (cy 0, 6, .inl zfcs)), (zcf, .inl (cy 0, 6, .inl zfcf)), (zcl, .inl (cy 0, 6, .inl zfcl)), (zcz, .inl (cy 0, 6, .inl zfcz))] sz)) (va_Qv (fun (u : (Int32) × (Nat → Int32) × (Nat → Int32) × (Nat → Int32) × (Nat → Int32)) => (1 ≤ u.1.toInt ∧ u.1.toInt ≤ 6) ∧ (RG u.2.2.2.2 6 0 20)) (fun u t => POST dC dI cy (va_A [(zc, .inr (0, [.ref zck, .ref zcw, .ref zcy, .ref zcs, .ref zcf, .ref zcl, .ref zcz, .int zict, .int zics, .int zicm, .int zicd])), (zcs, .inl (cy 0, 6, .inl zfcs)), (zcf, .inl (cy 0, 6, .inl zfcf)), (zcl, .inl (cy 0, 6, .inl zfcl)), (zcz, .inl (cy 0, 6, .inl zfcz))] sz) [(zc, .inr (0, [.ref zck, .ref zcw, .ref zcy, .ref zcs, .ref zcf, .ref zcl, .ref zcz, .int zict, .int u.1, .int zicm, .int zicd])), (zcs, .inl (cy 0, 6, .inl u.2.1)), (zcf, .inl (cy 0, 6, .inl u.2.2.1)), (zcl, .inl (cy 0, 6, .inl u.2.2.2.1)), (zcz, .inl (cy 0, 6, .inl u.2.2.2.2))] t) (va_A [(zc, .inr (0, [.ref zck, .ref zcw, .ref zcy, .ref zcs, .ref zcf, .ref zcl, .ref zcz, .int zict, .int zics, .int zicm, .int zicd])), (zcs, .inl (cy 0, 6, .inl zfcs)), (zcf, .inl (cy 0, 6, .inl zfcf)), (zcl, .inl (cy 0, 6, .inl zfcl)), (zcz, .inl (cy 0, 6, .inl zfcz))] sz)) 0 0 (va_A [(zc, .inr (0, [.ref zck, .ref zcw, .ref zcy, .ref zcs, .ref zcf, .ref zcl, .ref zcz, .int zict, .int zics, .int zicm, .int zicd])), (zcs, .inl (cy 0, 6, .inl zfcs)), (zcf, .inl (cy 0, 6, .inl zfcf)), (zcl, .inl (cy 0, 6, .inl zfcl)), (zcz, .inl (cy 0, 6, .inl zfcz))] sz) := by
  refine Met.ofW (cc := cX0_addStretch) (maxL := 5) (ret := none) (by decide) rfl ?_
  intro p e s m args below meth c s₁ B hml hv
  obtain ⟨rfl, hsz, hP, hK, hD0, hN⟩ := hv
  have hx := B.exec
  have hb := B.bytes
  have hr := B.returns
  have hts := atoms_spec (ws := wsX0_addStretch) B.pre
  have hown : s.vm.findClass RX0 = some m.cls := findClass_of_methodNamed B.named
  have hlocks := B.notSynchronized
  subst hsz
  have hD := hD0.self (sz := s.heap.size)
  generalize hAe : va_A [(zc, .inr (0, [.ref zck, .ref zcw, .ref zcy, .ref zcs, .ref zcf, .ref zcl, .ref zcz, .int zict, .int zics, .int zicm, .int zicd])), (zcs, .inl (cy 0, 6, .inl zfcs)), (zcf, .inl (cy 0, 6, .inl zfcf)), (zcl, .inl (cy 0, 6, .inl zfcl)), (zcz, .inl (cy 0, 6, .inl zfcz))] s.heap.size = A at hD ⊢
  have hA : ∀ q : Nat, s.heap.size ≤ q → A q := fun q h => by rw [← hAe]; exact Or.inr h
  have hS : va_S A s.heap s.heap [] := va_S.rf
  have hP : va_P (dC, dI) vwCl [(zc, .inr (0, [.ref zck, .ref zcw, .ref zcy, .ref zcs, .ref zcf, .ref zcl, .ref zcz, .int zict, .int zics, .int zicm, .int zicd])), (zcs, .inl (cy 0, 6, .inl zfcs)), (zcf, .inl (cy 0, 6, .inl zfcf)), (zcl, .inl (cy 0, 6, .inl zfcl)), (zcz, .inl (cy 0, 6, .inl zfcz))] s.heap := hP
  have hl := lv_entry ([.ref zc, .int zia, .int zib, .int ziy, .int zin] : List Value) (n := 5) (Nat.le_of_ble_eq_true rfl)
  rw [lg_entry_eq]
  generalize (lg_sl ([.ref zc, .int zia, .int zib, .int ziy, .int zin] : List Value) ++ List.replicate (5 - (lg_sl ([.ref zc, .int zia, .int zib, .int ziy, .int zin] : List Value)).length) Slot.unset).toArray = ls at hl ⊢
  have hl : lv_has ls 5 [(0, .ref zc), (1, .int zia), (2, .int zib), (3, .int ziy), (4, .int zin)] := hl
  refine w_q (fun Q hQ => ?_)
  refine lv_aload_n hx hb dX0_addStretch_0 rfl (lv_at hl 0 rfl) ?_
  refine va_get (D := (dC, dI)) (ci := 0) (v := .ref zcs) (C := RX0) (T := TX0) (N := 11) hx hb hts (by decide +kernel) hown hK hP 0 rfl rfl 3 (by decide) (hts (.fieldLink RX0 21 "DripStone$Candle" "stretchKinds" "[I") (by decide +kernel)) (fun _ h9 => h9) rfl dX0_addStretch_1 ?_
  refine lv_aload_n hx hb dX0_addStretch_4 rfl (lv_at hl 0 rfl) ?_
  refine va_get (D := (dC, dI)) (ci := 0) (v := .int zics) (C := RX0) (T := TX0) (N := 11) hx hb hts (by decide +kernel) hown hK hP 0 rfl rfl 8 (by decide) (hts (.fieldLink RX0 44 "DripStone$Candle" "stretches" "I") (by decide +kernel)) (fun _ h9 => h9) rfl dX0_addStretch_5 ?_
  refine lv_iload_n hx hb dX0_addStretch_8 rfl (lv_at hl 1 rfl) ?_
  refine va_iast hx hb hK hP hD hS 1 0 rfl rfl (vp_in_iff.mpr ⟨by omega, by omega⟩) dX0_addStretch_9 (fun H locs hP hD hS => ?_)
  have hP : va_P (dC, dI) vwCl [(zc, .inr (0, [.ref zck, .ref zcw, .ref zcy, .ref zcs, .ref zcf, .ref zcl, .ref zcz, .int zict, .int zics, .int zicm, .int zicd])), (zcs, .inl (cy 0, 6, .inl (upd zfcs zics.toNatClampNeg zia))), (zcf, .inl (cy 0, 6, .inl zfcf)), (zcl, .inl (cy 0, 6, .inl zfcl)), (zcz, .inl (cy 0, 6, .inl zfcz))] H := hP
  have hD : va_D A [(zc, .inr (0, [.ref zck, .ref zcw, .ref zcy, .ref zcs, .ref zcf, .ref zcl, .ref zcz, .int zict, .int zics, .int zicm, .int zicd])), (zcs, .inl (cy 0, 6, .inl (upd zfcs zics.toNatClampNeg zia))), (zcf, .inl (cy 0, 6, .inl zfcf)), (zcl, .inl (cy 0, 6, .inl zfcl)), (zcz, .inl (cy 0, 6, .inl zfcz))] := hD
  generalize uzf_1 : upd zfcs zics.toNatClampNeg zia = zf_1 at hP hD
  refine lv_aload_n hx hb dX0_addStretch_10 rfl (lv_at hl 0 rfl) ?_
  refine va_get (D := (dC, dI)) (ci := 0) (v := .ref zcf) (C := RX0) (T := TX0) (N := 11) hx hb hts (by decide +kernel) hown hK hP 0 rfl rfl 4 (by decide) (hts (.fieldLink RX0 24 "DripStone$Candle" "firsts" "[I") (by decide +kernel)) (fun _ h9 => h9) rfl dX0_addStretch_11 ?_
  refine lv_aload_n hx hb dX0_addStretch_14 rfl (lv_at hl 0 rfl) ?_
  refine va_get (D := (dC, dI)) (ci := 0) (v := .int zics) (C := RX0) (T := TX0) (N := 11) hx hb hts (by decide +kernel) hown hK hP 0 rfl rfl 8 (by decide) (hts (.fieldLink RX0 44 "DripStone$Candle" "stretches" "I") (by decide +kernel)) (fun _ h9 => h9) rfl dX0_addStretch_15 ?_
  refine lv_iload_n hx hb dX0_addStretch_18 rfl (lv_at hl 2 rfl) ?_
  refine va_iast hx hb hK hP hD hS 2 0 rfl rfl (vp_in_iff.mpr ⟨by omega, by omega⟩) dX0_addStretch_19 (fun H locs hP hD hS => ?_)
  have hP : va_P (dC, dI) vwCl [(zc, .inr (0, [.ref zck, .ref zcw, .ref zcy, .ref zcs, .ref zcf, .ref zcl, .ref zcz, .int zict, .int zics, .int zicm, .int zicd])), (zcs, .inl (cy 0, 6, .inl zf_1)), (zcf, .inl (cy 0, 6, .inl (upd zfcf zics.toNatClampNeg zib))), (zcl, .inl (cy 0, 6, .inl zfcl)), (zcz, .inl (cy 0, 6, .inl zfcz))] H := hP
  have hD : va_D A [(zc, .inr (0, [.ref zck, .ref zcw, .ref zcy, .ref zcs, .ref zcf, .ref zcl, .ref zcz, .int zict, .int zics, .int zicm, .int zicd])), (zcs, .inl (cy 0, 6, .inl zf_1)), (zcf, .inl (cy 0, 6, .inl (upd zfcf zics.toNatClampNeg zib))), (zcl, .inl (cy 0, 6, .inl zfcl)), (zcz, .inl (cy 0, 6, .inl zfcz))] := hD
  generalize uzf_2 : upd zfcf zics.toNatClampNeg zib = zf_2 at hP hD
  refine lv_aload_n hx hb dX0_addStretch_20 rfl (lv_at hl 0 rfl) ?_
  refine va_get (D := (dC, dI)) (ci := 0) (v := .ref zcl) (C := RX0) (T := TX0) (N := 11) hx hb hts (by decide +kernel) hown hK hP 0 rfl rfl 5 (by decide) (hts (.fieldLink RX0 27 "DripStone$Candle" "lasts" "[I") (by decide +kernel)) (fun _ h9 => h9) rfl dX0_addStretch_21 ?_
  refine lv_aload_n hx hb dX0_addStretch_24 rfl (lv_at hl 0 rfl) ?_
  refine va_get (D := (dC, dI)) (ci := 0) (v := .int zics) (C := RX0) (T := TX0) (N := 11) hx hb hts (by decide +kernel) hown hK hP 0 rfl rfl 8 (by decide) (hts (.fieldLink RX0 44 "DripStone$Candle" "stretches" "I") (by decide +kernel)) (fun _ h9 => h9) rfl dX0_addStretch_25 ?_
  refine lv_iload_n hx hb dX0_addStretch_28 rfl (lv_at hl 3 rfl) ?_
  refine va_iast hx hb hK hP hD hS 3 0 rfl rfl (vp_in_iff.mpr ⟨by omega, by omega⟩) dX0_addStretch_29 (fun H locs hP hD hS => ?_)
  have hP : va_P (dC, dI) vwCl [(zc, .inr (0, [.ref zck, .ref zcw, .ref zcy, .ref zcs, .ref zcf, .ref zcl, .ref zcz, .int zict, .int zics, .int zicm, .int zicd])), (zcs, .inl (cy 0, 6, .inl zf_1)), (zcf, .inl (cy 0, 6, .inl zf_2)), (zcl, .inl (cy 0, 6, .inl (upd zfcl zics.toNatClampNeg ziy))), (zcz, .inl (cy 0, 6, .inl zfcz))] H := hP
  have hD : va_D A [(zc, .inr (0, [.ref zck, .ref zcw, .ref zcy, .ref zcs, .ref zcf, .ref zcl, .ref zcz, .int zict, .int zics, .int zicm, .int zicd])), (zcs, .inl (cy 0, 6, .inl zf_1)), (zcf, .inl (cy 0, 6, .inl zf_2)), (zcl, .inl (cy 0, 6, .inl (upd zfcl zics.toNatClampNeg ziy))), (zcz, .inl (cy 0, 6, .inl zfcz))] := hD
  generalize uzf_3 : upd zfcl zics.toNatClampNeg ziy = zf_3 at hP hD
  refine lv_aload_n hx hb dX0_addStretch_30 rfl (lv_at hl 0 rfl) ?_
  refine va_get (D := (dC, dI)) (ci := 0) (v := .ref zcz) (C := RX0) (T := TX0) (N := 11) hx hb hts (by decide +kernel) hown hK hP 0 rfl rfl 6 (by decide) (hts (.fieldLink RX0 30 "DripStone$Candle" "sizes" "[I") (by decide +kernel)) (fun _ h9 => h9) rfl dX0_addStretch_31 ?_
  refine lv_aload_n hx hb dX0_addStretch_34 rfl (lv_at hl 0 rfl) ?_
  refine va_get (D := (dC, dI)) (ci := 0) (v := .int zics) (C := RX0) (T := TX0) (N := 11) hx hb hts (by decide +kernel) hown hK hP 0 rfl rfl 8 (by decide) (hts (.fieldLink RX0 44 "DripStone$Candle" "stretches" "I") (by decide +kernel)) (fun _ h9 => h9) rfl dX0_addStretch_35 ?_
  refine lv_iload hx hb dX0_addStretch_38 (lv_at hl 4 rfl) ?_
  refine va_iast hx hb hK hP hD hS 4 0 rfl rfl (vp_in_iff.mpr ⟨by omega, by omega⟩) dX0_addStretch_40 (fun H locs hP hD hS => ?_)
  have hP : va_P (dC, dI) vwCl [(zc, .inr (0, [.ref zck, .ref zcw, .ref zcy, .ref zcs, .ref zcf, .ref zcl, .ref zcz, .int zict, .int zics, .int zicm, .int zicd])), (zcs, .inl (cy 0, 6, .inl zf_1)), (zcf, .inl (cy 0, 6, .inl zf_2)), (zcl, .inl (cy 0, 6, .inl zf_3)), (zcz, .inl (cy 0, 6, .inl (upd zfcz zics.toNatClampNeg zin)))] H := hP
  have hD : va_D A [(zc, .inr (0, [.ref zck, .ref zcw, .ref zcy, .ref zcs, .ref zcf, .ref zcl, .ref zcz, .int zict, .int zics, .int zicm, .int zicd])), (zcs, .inl (cy 0, 6, .inl zf_1)), (zcf, .inl (cy 0, 6, .inl zf_2)), (zcl, .inl (cy 0, 6, .inl zf_3)), (zcz, .inl (cy 0, 6, .inl (upd zfcz zics.toNatClampNeg zin)))] := hD
  have h_zf_4 : RG (upd zfcz zics.toNatClampNeg zin) 6 0 20 := RG.upd h_zfcz (by omega)
  generalize uzf_4 : upd zfcz zics.toNatClampNeg zin = zf_4 at hP hD h_zf_4
  refine lv_aload_n hx hb dX0_addStretch_41 rfl (lv_at hl 0 rfl) ?_
  refine lv_dup hx hb dX0_addStretch_42 rfl ?_
  refine va_get (D := (dC, dI)) (ci := 0) (v := .int zics) (C := RX0) (T := TX0) (N := 11) hx hb hts (by decide +kernel) hown hK hP 0 rfl rfl 8 (by decide) (hts (.fieldLink RX0 44 "DripStone$Candle" "stretches" "I") (by decide +kernel)) (fun _ h9 => h9) rfl dX0_addStretch_43 ?_
  refine lv_iconst (v := 1) hx hb dX0_addStretch_46 (by decide) ?_
  refine lv_iadd hx hb dX0_addStretch_47 ?_
  refine lv_topi (fun zi_5 ezi_5 => ?_)
  have tzi_5 : zi_5.toInt = zics.toInt + (1 : Int) := by rw [ezi_5]; exact tiadd (rfl) (show (1 : Int32).toInt = 1 by decide) (by omega) (by omega)
  refine va_put (D := (dC, dI)) (ci := 0) (v := .int zi_5) (ty := .int) (C := RX0) (T := TX0) (N := 11) hx hb hts (by decide +kernel) tyX0 tyX0_ok nmX0 hown hK hP hD hS 0 rfl rfl 8 (by decide) (hts (.fieldLink RX0 44 "DripStone$Candle" "stretches" "I") (by decide +kernel)) (fun _ h9 => h9) rfl (by decide +kernel) rfl rfl (Nat.le_of_ble_eq_true rfl) dX0_addStretch_48 (fun H locs hP hD hS => ?_)
  have hP : va_P (dC, dI) vwCl [(zc, .inr (0, [.ref zck, .ref zcw, .ref zcy, .ref zcs, .ref zcf, .ref zcl, .ref zcz, .int zict, .int zi_5, .int zicm, .int zicd])), (zcs, .inl (cy 0, 6, .inl zf_1)), (zcf, .inl (cy 0, 6, .inl zf_2)), (zcl, .inl (cy 0, 6, .inl zf_3)), (zcz, .inl (cy 0, 6, .inl zf_4))] H := hP
  have hD : va_D A [(zc, .inr (0, [.ref zck, .ref zcw, .ref zcy, .ref zcs, .ref zcf, .ref zcl, .ref zcz, .int zict, .int zi_5, .int zicm, .int zicd])), (zcs, .inl (cy 0, 6, .inl zf_1)), (zcf, .inl (cy 0, 6, .inl zf_2)), (zcl, .inl (cy 0, 6, .inl zf_3)), (zcz, .inl (cy 0, 6, .inl zf_4))] := hD
  subst hQ
  have hP9 := hP.sub (ws' := [(zc, .inr (0, [.ref zck, .ref zcw, .ref zcy, .ref zcs, .ref zcf, .ref zcl, .ref zcz, .int zict, .int zi_5, .int zicm, .int zicd])), (zcs, .inl (cy 0, 6, .inl zf_1)), (zcf, .inl (cy 0, 6, .inl zf_2)), (zcl, .inl (cy 0, 6, .inl zf_3)), (zcz, .inl (cy 0, 6, .inl zf_4))]) [0, 1, 2, 3, 4] rfl
  have hD9 := hD.sub (ws' := [(zc, .inr (0, [.ref zck, .ref zcw, .ref zcy, .ref zcs, .ref zcf, .ref zcl, .ref zcz, .int zict, .int zi_5, .int zicm, .int zicd])), (zcs, .inl (cy 0, 6, .inl zf_1)), (zcf, .inl (cy 0, 6, .inl zf_2)), (zcl, .inl (cy 0, 6, .inl zf_3)), (zcz, .inl (cy 0, 6, .inl zf_4))]) [0, 1, 2, 3, 4] (by decide) rfl
  exact W.vret hx hb hr (fun t ht hW => ⟨⟨(zi_5, zf_1, zf_2, zf_3, zf_4), rfl, ⟨(show 1 ≤ zi_5.toInt ∧ zi_5.toInt ≤ 6 from by omega), h_zf_4⟩, ⟨by rw [ht]; exact hP9, va_K.moved hW.alike hK, hD9⟩⟩, hS.F ht⟩) hS.2.2 dX0_addStretch_51
set_option maxHeartbeats 8000000 in
set_option maxRecDepth 100000 in
theorem c_X0_cutFrom (l : Launch) (dC : Nat → ClassId) (dI : Nat → Nat → Nat) (cy : Nat → ClassId) (sz : Nat) (zc : Nat) (zit : Int32) (zck : Nat) (zcw : Nat) (zcy : Nat) (zcs : Nat) (zcf : Nat) (zcl : Nat) (zcz : Nat) (zict : Int32) (zics : Int32) (zicm : Int32) (zicd : Int32) (zfcs : Nat → Int32) (zfcf : Nat → Int32) (zfcl : Nat → Int32) (zfcz : Nat → Int32) (b_zit : 0 ≤ zit.toInt ∧ zit.toInt ≤ 11) (b_zict : 0 ≤ zict.toInt ∧ zict.toInt ≤ 12) (b_zics : 0 ≤ zics.toInt ∧ zics.toInt ≤ 6) (b_zicm : 1 ≤ zicm.toInt ∧ zicm.toInt ≤ 4) (b_zicd : 0 ≤ zicd.toInt ∧ zicd.toInt ≤ 1) (h_zfcz : RG zfcz 6 0 20) : Met l yX0_cutFrom wsX0_cutFrom ({ frames := 1, cells := 0, slots := 0, locals := 24 } : Room) (va_Pc [.ref zc, .int zit] (PRE dC dI cy [(zc, .inr (0, [.ref zck, .ref zcw, .ref zcy, .ref zcs, .ref zcf, .ref zcl, .ref zcz, .int zict, .int zics, .int zicm, .int zicd])), (zcs, .inl (cy 0, 6, .inl zfcs)), (zcf, .inl (cy 0, 6, .inl zfcf)), (zcl, .inl (cy 0, 6, .inl zfcl)), (zcz, .inl (cy 0, 6, .inl zfcz))] sz)) (va_Qv (fun (u : (Int32) × (Nat → Int32) × (Nat → Int32) × (Nat → Int32) × (Nat → Int32)) => (0 ≤ u.1.toInt ∧ u.1.toInt ≤ 6) ∧ (RG u.2.2.2.2 6 0 20)) (fun u t => POST dC dI cy (va_A [(zc, .inr (0, [.ref zck, .ref zcw, .ref zcy, .ref zcs, .ref zcf, .ref zcl, .ref zcz, .int zict, .int zics, .int zicm, .int zicd])), (zcs, .inl (cy 0, 6, .inl zfcs)), (zcf, .inl (cy 0, 6, .inl zfcf)), (zcl, .inl (cy 0, 6, .inl zfcl)), (zcz, .inl (cy 0, 6, .inl zfcz))] sz) [(zc, .inr (0, [.ref zck, .ref zcw, .ref zcy, .ref zcs, .ref zcf, .ref zcl, .ref zcz, .int zit, .int u.1, .int zicm, .int 0])), (zcs, .inl (cy 0, 6, .inl u.2.1)), (zcf, .inl (cy 0, 6, .inl u.2.2.1)), (zcl, .inl (cy 0, 6, .inl u.2.2.2.1)), (zcz, .inl (cy 0, 6, .inl u.2.2.2.2))] t) (va_A [(zc, .inr (0, [.ref zck, .ref zcw, .ref zcy, .ref zcs, .ref zcf, .ref zcl, .ref zcz, .int zict, .int zics, .int zicm, .int zicd])), (zcs, .inl (cy 0, 6, .inl zfcs)), (zcf, .inl (cy 0, 6, .inl zfcf)), (zcl, .inl (cy 0, 6, .inl zfcl)), (zcz, .inl (cy 0, 6, .inl zfcz))] sz)) 0 0 (va_A [(zc, .inr (0, [.ref zck, .ref zcw, .ref zcy, .ref zcs, .ref zcf, .ref zcl, .ref zcz, .int zict, .int zics, .int zicm, .int zicd])), (zcs, .inl (cy 0, 6, .inl zfcs)), (zcf, .inl (cy 0, 6, .inl zfcf)), (zcl, .inl (cy 0, 6, .inl zfcl)), (zcz, .inl (cy 0, 6, .inl zfcz))] sz) := by
  refine Met.ofW (cc := cX0_cutFrom) (maxL := 4) (ret := none) (by decide) rfl ?_
  intro p e s m args below meth c s₁ B hml hv
  obtain ⟨rfl, hsz, hP, hK, hD0, hN⟩ := hv
  have hx := B.exec
  have hb := B.bytes
  have hr := B.returns
  have hts := atoms_spec (ws := wsX0_cutFrom) B.pre
  have hown : s.vm.findClass RX0 = some m.cls := findClass_of_methodNamed B.named
  have hlocks := B.notSynchronized
  subst hsz
  have hD := hD0.self (sz := s.heap.size)
  generalize hAe : va_A [(zc, .inr (0, [.ref zck, .ref zcw, .ref zcy, .ref zcs, .ref zcf, .ref zcl, .ref zcz, .int zict, .int zics, .int zicm, .int zicd])), (zcs, .inl (cy 0, 6, .inl zfcs)), (zcf, .inl (cy 0, 6, .inl zfcf)), (zcl, .inl (cy 0, 6, .inl zfcl)), (zcz, .inl (cy 0, 6, .inl zfcz))] s.heap.size = A at hD ⊢
  have hA : ∀ q : Nat, s.heap.size ≤ q → A q := fun q h => by rw [← hAe]; exact Or.inr h
  have hS : va_S A s.heap s.heap [] := va_S.rf
  have hP : va_P (dC, dI) vwCl [(zc, .inr (0, [.ref zck, .ref zcw, .ref zcy, .ref zcs, .ref zcf, .ref zcl, .ref zcz, .int zict, .int zics, .int zicm, .int zicd])), (zcs, .inl (cy 0, 6, .inl zfcs)), (zcf, .inl (cy 0, 6, .inl zfcf)), (zcl, .inl (cy 0, 6, .inl zfcl)), (zcz, .inl (cy 0, 6, .inl zfcz))] s.heap := hP
  have hl := lv_entry ([.ref zc, .int zit] : List Value) (n := 4) (Nat.le_of_ble_eq_true rfl)
  rw [lg_entry_eq]
  generalize (lg_sl ([.ref zc, .int zit] : List Value) ++ List.replicate (4 - (lg_sl ([.ref zc, .int zit] : List Value)).length) Slot.unset).toArray = ls at hl ⊢
  have hl : lv_has ls 4 [(0, .ref zc), (1, .int zit)] := hl
  refine w_q (fun Q hQ => ?_)
  refine lv_aload_n hx hb dX0_cutFrom_0 rfl (lv_at hl 0 rfl) ?_
  refine va_get (D := (dC, dI)) (ci := 0) (v := .int zics) (C := RX0) (T := TX0) (N := 11) hx hb hts (by decide +kernel) hown hK hP 0 rfl rfl 8 (by decide) (hts (.fieldLink RX0 44 "DripStone$Candle" "stretches" "I") (by decide +kernel)) (fun _ h9 => h9) rfl dX0_cutFrom_1 ?_
  refine lv_istore_n (lv' := [(2, .int zics), (0, .ref zc), (1, .int zit)]) hx hb dX0_cutFrom_4 rfl hl (by decide) rfl (fun ls hl => ?_)
  refine lv_aload_n hx hb dX0_cutFrom_5 rfl (lv_at hl 1 rfl) ?_
  refine lv_iload_n hx hb dX0_cutFrom_6 rfl (lv_at hl 2 rfl) ?_
  refine va_put (D := (dC, dI)) (ci := 0) (v := .int zit) (ty := .int) (C := RX0) (T := TX0) (N := 11) hx hb hts (by decide +kernel) tyX0 tyX0_ok nmX0 hown hK hP hD hS 0 rfl rfl 7 (by decide) (hts (.fieldLink RX0 37 "DripStone$Candle" "things" "I") (by decide +kernel)) (fun _ h9 => h9) rfl (by decide +kernel) rfl rfl (Nat.le_of_ble_eq_true rfl) dX0_cutFrom_7 (fun H locs hP hD hS => ?_)
  have hP : va_P (dC, dI) vwCl [(zc, .inr (0, [.ref zck, .ref zcw, .ref zcy, .ref zcs, .ref zcf, .ref zcl, .ref zcz, .int zit, .int zics, .int zicm, .int zicd])), (zcs, .inl (cy 0, 6, .inl zfcs)), (zcf, .inl (cy 0, 6, .inl zfcf)), (zcl, .inl (cy 0, 6, .inl zfcl)), (zcz, .inl (cy 0, 6, .inl zfcz))] H := hP
  have hD : va_D A [(zc, .inr (0, [.ref zck, .ref zcw, .ref zcy, .ref zcs, .ref zcf, .ref zcl, .ref zcz, .int zit, .int zics, .int zicm, .int zicd])), (zcs, .inl (cy 0, 6, .inl zfcs)), (zcf, .inl (cy 0, 6, .inl zfcf)), (zcl, .inl (cy 0, 6, .inl zfcl)), (zcz, .inl (cy 0, 6, .inl zfcz))] := hD
  refine lv_aload_n hx hb dX0_cutFrom_10 rfl (lv_at hl 1 rfl) ?_
  refine lv_iconst (v := 0) hx hb dX0_cutFrom_11 (by decide) ?_
  refine va_put (D := (dC, dI)) (ci := 0) (v := .int 0) (ty := .boolean) (C := RX0) (T := TX0) (N := 11) hx hb hts (by decide +kernel) tyX0 tyX0_ok nmX0 hown hK hP hD hS 0 rfl rfl 10 (by decide) (hts (.fieldLink RX0 47 "DripStone$Candle" "made" "Z") (by decide +kernel)) (fun _ h9 => h9) rfl (by decide +kernel) rfl rfl (Nat.le_of_ble_eq_true rfl) dX0_cutFrom_12 (fun H locs hP hD hS => ?_)
  have hP : va_P (dC, dI) vwCl [(zc, .inr (0, [.ref zck, .ref zcw, .ref zcy, .ref zcs, .ref zcf, .ref zcl, .ref zcz, .int zit, .int zics, .int zicm, .int 0])), (zcs, .inl (cy 0, 6, .inl zfcs)), (zcf, .inl (cy 0, 6, .inl zfcf)), (zcl, .inl (cy 0, 6, .inl zfcl)), (zcz, .inl (cy 0, 6, .inl zfcz))] H := hP
  have hD : va_D A [(zc, .inr (0, [.ref zck, .ref zcw, .ref zcy, .ref zcs, .ref zcf, .ref zcl, .ref zcz, .int zit, .int zics, .int zicm, .int 0])), (zcs, .inl (cy 0, 6, .inl zfcs)), (zcf, .inl (cy 0, 6, .inl zfcf)), (zcl, .inl (cy 0, 6, .inl zfcl)), (zcz, .inl (cy 0, 6, .inl zfcz))] := hD
  refine lv_aload_n hx hb dX0_cutFrom_15 rfl (lv_at hl 1 rfl) ?_
  refine lv_iconst (v := 0) hx hb dX0_cutFrom_16 (by decide) ?_
  refine va_put (D := (dC, dI)) (ci := 0) (v := .int 0) (ty := .int) (C := RX0) (T := TX0) (N := 11) hx hb hts (by decide +kernel) tyX0 tyX0_ok nmX0 hown hK hP hD hS 0 rfl rfl 8 (by decide) (hts (.fieldLink RX0 44 "DripStone$Candle" "stretches" "I") (by decide +kernel)) (fun _ h9 => h9) rfl (by decide +kernel) rfl rfl (Nat.le_of_ble_eq_true rfl) dX0_cutFrom_17 (fun H locs hP hD hS => ?_)
  have hP : va_P (dC, dI) vwCl [(zc, .inr (0, [.ref zck, .ref zcw, .ref zcy, .ref zcs, .ref zcf, .ref zcl, .ref zcz, .int zit, .int 0, .int zicm, .int 0])), (zcs, .inl (cy 0, 6, .inl zfcs)), (zcf, .inl (cy 0, 6, .inl zfcf)), (zcl, .inl (cy 0, 6, .inl zfcl)), (zcz, .inl (cy 0, 6, .inl zfcz))] H := hP
  have hD : va_D A [(zc, .inr (0, [.ref zck, .ref zcw, .ref zcy, .ref zcs, .ref zcf, .ref zcl, .ref zcz, .int zit, .int 0, .int zicm, .int 0])), (zcs, .inl (cy 0, 6, .inl zfcs)), (zcf, .inl (cy 0, 6, .inl zfcf)), (zcl, .inl (cy 0, 6, .inl zfcl)), (zcz, .inl (cy 0, 6, .inl zfcz))] := hD
  refine lv_iconst (v := 0) hx hb dX0_cutFrom_20 (by decide) ?_
  refine lv_istore_n (lv' := [(3, .int 0), (2, .int zics), (0, .ref zc), (1, .int zit)]) hx hb dX0_cutFrom_21 rfl hl (by decide) rfl (fun ls hl => ?_)
  have lp_203 : ∀ (n : Nat) (zi_160 : Int32) (zi_161 : Int32) (zf_162 : Nat → Int32) (zf_163 : Nat → Int32) (zf_164 : Nat → Int32) (zf_165 : Nat → Int32) (H : Heap) (locs : List Loc) (ls : Array Slot), (zics.toInt - zi_160.toInt).toNat = n → (0 ≤ zi_160.toInt ∧ zi_160.toInt ≤ 6) → (0 ≤ zi_161.toInt ∧ zi_161.toInt ≤ 6) → (RG zf_165 6 0 20) → (zi_161.toInt ≤ zi_160.toInt) → va_P (dC, dI) vwCl [(zc, .inr (0, [.ref zck, .ref zcw, .ref zcy, .ref zcs, .ref zcf, .ref zcl, .ref zcz, .int zit, .int zi_161, .int zicm, .int 0])), (zcs, .inl (cy 0, 6, .inl zf_162)), (zcf, .inl (cy 0, 6, .inl zf_163)), (zcl, .inl (cy 0, 6, .inl zf_164)), (zcz, .inl (cy 0, 6, .inl zf_165))] H → va_D A [(zc, .inr (0, [.ref zck, .ref zcw, .ref zcy, .ref zcs, .ref zcf, .ref zcl, .ref zcz, .int zit, .int zi_161, .int zicm, .int 0])), (zcs, .inl (cy 0, 6, .inl zf_162)), (zcf, .inl (cy 0, 6, .inl zf_163)), (zcl, .inl (cy 0, 6, .inl zf_164)), (zcz, .inl (cy 0, 6, .inl zf_165))] → va_S A s.heap H locs → lv_has ls 4 [(0, .ref zc), (1, .int zit), (2, .int zics), (3, .int zi_160)] → W p l e ({ frames := 1, cells := 0, slots := 0, locals := 24 } : Room) s m ([.ref zc, .int zit] : List Value).toArray below meth c H locs 0 0 Q (F0 m 22 ls []) := by
    intro n
    induction n using Nat.strongRecOn with
    | _ n ih =>
      intro zi_160 zi_161 zf_162 zf_163 zf_164 zf_165 H locs ls hn b_zi_160 b_zi_161 h_zf_165 e_lp_203_0 hP hD hS hl
      refine lv_iload_n hx hb dX0_cutFrom_22 rfl (lv_at hl 3 rfl) ?_
      refine lv_iload_n hx hb dX0_cutFrom_23 rfl (lv_at hl 2 rfl) ?_
      refine lv_icmp_ge (tgt := 71) hx hb dX0_cutFrom_24 (by decide) (fun c_204 => ?_) (fun c_204 => ?_)
      · have f_205 : zi_160.toInt ≥ zics.toInt := ic_ge (rfl) (rfl) c_204
        subst hQ
        have hP9 := hP.sub (ws' := [(zc, .inr (0, [.ref zck, .ref zcw, .ref zcy, .ref zcs, .ref zcf, .ref zcl, .ref zcz, .int zit, .int zi_161, .int zicm, .int 0])), (zcs, .inl (cy 0, 6, .inl zf_162)), (zcf, .inl (cy 0, 6, .inl zf_163)), (zcl, .inl (cy 0, 6, .inl zf_164)), (zcz, .inl (cy 0, 6, .inl zf_165))]) [0, 1, 2, 3, 4] rfl
        have hD9 := hD.sub (ws' := [(zc, .inr (0, [.ref zck, .ref zcw, .ref zcy, .ref zcs, .ref zcf, .ref zcl, .ref zcz, .int zit, .int zi_161, .int zicm, .int 0])), (zcs, .inl (cy 0, 6, .inl zf_162)), (zcf, .inl (cy 0, 6, .inl zf_163)), (zcl, .inl (cy 0, 6, .inl zf_164)), (zcz, .inl (cy 0, 6, .inl zf_165))]) [0, 1, 2, 3, 4] (by decide) rfl
        exact W.vret hx hb hr (fun t ht hW => ⟨⟨(zi_161, zf_162, zf_163, zf_164, zf_165), rfl, ⟨(show 0 ≤ zi_161.toInt ∧ zi_161.toInt ≤ 6 from by omega), h_zf_165⟩, ⟨by rw [ht]; exact hP9, va_K.moved hW.alike hK, hD9⟩⟩, hS.F ht⟩) hS.2.2 dX0_cutFrom_71
      · have f_205 : ¬ (zi_160.toInt ≥ zics.toInt) := ic_nge (rfl) (rfl) c_204
        refine lv_aload_n hx hb dX0_cutFrom_27 rfl (lv_at hl 0 rfl) ?_
        refine va_get (D := (dC, dI)) (ci := 0) (v := .ref zcl) (C := RX0) (T := TX0) (N := 11) hx hb hts (by decide +kernel) hown hK hP 0 rfl rfl 5 (by decide) (hts (.fieldLink RX0 27 "DripStone$Candle" "lasts" "[I") (by decide +kernel)) (fun _ h9 => h9) rfl dX0_cutFrom_28 ?_
        refine lv_iload_n hx hb dX0_cutFrom_31 rfl (lv_at hl 3 rfl) ?_
        refine va_iald hx hb hK hP 3 0 rfl rfl (vp_in_iff.mpr ⟨by omega, by omega⟩) dX0_cutFrom_32 ?_
        refine lv_topi (fun zi_206 ezi_206 => ?_)
        refine lv_iload_n hx hb dX0_cutFrom_33 rfl (lv_at hl 1 rfl) ?_
        have jn_226 : ∀ (zi_221 : Int32) (zf_222 : Nat → Int32) (zf_223 : Nat → Int32) (zf_224 : Nat → Int32) (zf_225 : Nat → Int32) (H : Heap) (locs : List Loc) (ls : Array Slot), (0 ≤ zi_221.toInt ∧ zi_221.toInt ≤ 6) → (RG zf_225 6 0 20) → va_P (dC, dI) vwCl [(zc, .inr (0, [.ref zck, .ref zcw, .ref zcy, .ref zcs, .ref zcf, .ref zcl, .ref zcz, .int zit, .int zi_221, .int zicm, .int 0])), (zcs, .inl (cy 0, 6, .inl zf_222)), (zcf, .inl (cy 0, 6, .inl zf_223)), (zcl, .inl (cy 0, 6, .inl zf_224)), (zcz, .inl (cy 0, 6, .inl zf_225))] H → va_D A [(zc, .inr (0, [.ref zck, .ref zcw, .ref zcy, .ref zcs, .ref zcf, .ref zcl, .ref zcz, .int zit, .int zi_221, .int zicm, .int 0])), (zcs, .inl (cy 0, 6, .inl zf_222)), (zcf, .inl (cy 0, 6, .inl zf_223)), (zcl, .inl (cy 0, 6, .inl zf_224)), (zcz, .inl (cy 0, 6, .inl zf_225))] → va_S A s.heap H locs → lv_has ls 4 [(0, .ref zc), (1, .int zit), (2, .int zics), (3, .int zi_160)] → W p l e ({ frames := 1, cells := 0, slots := 0, locals := 24 } : Room) s m ([.ref zc, .int zit] : List Value).toArray below meth c H locs 0 0 Q (F0 m 65 ls []) := by
          intro zi_221 zf_222 zf_223 zf_224 zf_225 H locs ls b_zi_221 h_zf_225 hP hD hS hl
          obtain ⟨zi_227, ezi_227⟩ : ∃ y : Int32, y = zi_160 + 1 := ⟨_, rfl⟩
          have tzi_227 : zi_227.toInt = zi_160.toInt + 1 := by rw [ezi_227]; exact tadd rfl (show (1 : Int32).toInt = 1 by decide) (by omega) (by omega)
          refine lv_iinc (v := zi_227) (lv' := [(3, .int zi_227), (0, .ref zc), (1, .int zit), (2, .int zics)]) hx hb dX0_cutFrom_65 hl (k := 3) rfl (by rw [ezi_227]; rfl) (by decide) rfl (fun ls hl => ?_)
          refine lv_goto (tgt := 22) hx hb dX0_cutFrom_68 (by decide) ?_
          exact ih (zics.toInt - zi_227.toInt).toNat (by omega) zi_227 zi_221 zf_222 zf_223 zf_224 zf_225 _ _ _ rfl (by omega) (by omega) h_zf_225 (by omega) hP hD hS (lv_sub hl [1, 2, 3, 0] rfl)
        refine lv_icmp_ge (tgt := 65) hx hb dX0_cutFrom_34 (by decide) (fun c_228 => ?_) (fun c_228 => ?_)
        · have f_229 : zi_206.toInt ≥ zit.toInt := ic_ge (rfl) (rfl) c_228
          exact jn_226 zi_161 zf_162 zf_163 zf_164 zf_165 _ _ _ (by omega) h_zf_165 hP hD hS (lv_sub hl [0, 1, 2, 3] rfl)
        · have f_229 : ¬ (zi_206.toInt ≥ zit.toInt) := ic_nge (rfl) (rfl) c_228
          refine lv_aload_n hx hb dX0_cutFrom_37 rfl (lv_at hl 0 rfl) ?_
          refine lv_aload_n hx hb dX0_cutFrom_38 rfl (lv_at hl 0 rfl) ?_
          refine va_get (D := (dC, dI)) (ci := 0) (v := .ref zcs) (C := RX0) (T := TX0) (N := 11) hx hb hts (by decide +kernel) hown hK hP 0 rfl rfl 3 (by decide) (hts (.fieldLink RX0 21 "DripStone$Candle" "stretchKinds" "[I") (by decide +kernel)) (fun _ h9 => h9) rfl dX0_cutFrom_39 ?_
          refine lv_iload_n hx hb dX0_cutFrom_42 rfl (lv_at hl 3 rfl) ?_
          refine va_iald hx hb hK hP 1 0 rfl rfl (vp_in_iff.mpr ⟨by omega, by omega⟩) dX0_cutFrom_43 ?_
          refine lv_topi (fun zi_230 ezi_230 => ?_)
          refine lv_aload_n hx hb dX0_cutFrom_44 rfl (lv_at hl 0 rfl) ?_
          refine va_get (D := (dC, dI)) (ci := 0) (v := .ref zcf) (C := RX0) (T := TX0) (N := 11) hx hb hts (by decide +kernel) hown hK hP 0 rfl rfl 4 (by decide) (hts (.fieldLink RX0 24 "DripStone$Candle" "firsts" "[I") (by decide +kernel)) (fun _ h9 => h9) rfl dX0_cutFrom_45 ?_
          refine lv_iload_n hx hb dX0_cutFrom_48 rfl (lv_at hl 3 rfl) ?_
          refine va_iald hx hb hK hP 2 0 rfl rfl (vp_in_iff.mpr ⟨by omega, by omega⟩) dX0_cutFrom_49 ?_
          refine lv_topi (fun zi_231 ezi_231 => ?_)
          refine lv_aload_n hx hb dX0_cutFrom_50 rfl (lv_at hl 0 rfl) ?_
          refine va_get (D := (dC, dI)) (ci := 0) (v := .ref zcl) (C := RX0) (T := TX0) (N := 11) hx hb hts (by decide +kernel) hown hK hP 0 rfl rfl 5 (by decide) (hts (.fieldLink RX0 27 "DripStone$Candle" "lasts" "[I") (by decide +kernel)) (fun _ h9 => h9) rfl dX0_cutFrom_51 ?_
          refine lv_iload_n hx hb dX0_cutFrom_54 rfl (lv_at hl 3 rfl) ?_
          refine va_iald hx hb hK hP 3 0 rfl rfl (vp_in_iff.mpr ⟨by omega, by omega⟩) dX0_cutFrom_55 ?_
          refine lv_topi (fun zi_232 ezi_232 => ?_)
          obtain rfl : zi_206 = zi_232 := (ezi_232.trans ezi_206.symm).symm
          refine lv_aload_n hx hb dX0_cutFrom_56 rfl (lv_at hl 0 rfl) ?_
          refine va_get (D := (dC, dI)) (ci := 0) (v := .ref zcz) (C := RX0) (T := TX0) (N := 11) hx hb hts (by decide +kernel) hown hK hP 0 rfl rfl 6 (by decide) (hts (.fieldLink RX0 30 "DripStone$Candle" "sizes" "[I") (by decide +kernel)) (fun _ h9 => h9) rfl dX0_cutFrom_57 ?_
          refine lv_iload_n hx hb dX0_cutFrom_60 rfl (lv_at hl 3 rfl) ?_
          refine va_iald hx hb hK hP 4 0 rfl rfl (vp_in_iff.mpr ⟨by omega, by omega⟩) dX0_cutFrom_61 ?_
          refine lv_topi (fun zi_233 ezi_233 => ?_)
          have tzi_233 : 0 ≤ zi_233.toInt ∧ zi_233.toInt ≤ 20 := by rw [ezi_233]; exact RG.at h_zf_165 (by omega) (by omega)
          have qc_0 : (0 : Int32).toInt = 0 := by decide
          refine cj_v (wc := [(zc, .inr (0, [.ref zck, .ref zcw, .ref zcy, .ref zcs, .ref zcf, .ref zcl, .ref zcz, .int zit, .int zi_161, .int zicm, .int 0])), (zcs, .inl (cy 0, 6, .inl zf_162)), (zcf, .inl (cy 0, 6, .inl zf_163)), (zcl, .inl (cy 0, 6, .inl zf_164)), (zcz, .inl (cy 0, 6, .inl zf_165))]) (wr := []) (w1 := fun (u : (Int32) × (Nat → Int32) × (Nat → Int32) × (Nat → Int32) × (Nat → Int32)) => [(zc, .inr (0, [.ref zck, .ref zcw, .ref zcy, .ref zcs, .ref zcf, .ref zcl, .ref zcz, .int zit, .int u.1, .int zicm, .int 0])), (zcs, .inl (cy 0, 6, .inl u.2.1)), (zcf, .inl (cy 0, 6, .inl u.2.2.1)), (zcl, .inl (cy 0, 6, .inl u.2.2.2.1)), (zcz, .inl (cy 0, 6, .inl u.2.2.2.2))]) (va_runV (As := [.int zi_230, .int zi_231, .int zi_206, .int zi_233]) (rest := []) ⟨hx, hb, hml, hown, hts⟩ (c_X0_addStretch l dC dI cy H.size zc zi_230 zi_231 zi_206 zi_233 zck zcw zcy zcs zcf zcl zcz zit zi_161 zicm (0 : Int32) zf_162 zf_163 zf_164 zf_165 (by omega) (by omega) (by omega) (by omega) (by decide) h_zf_165) (cwV 4 hts gX0_cutFrom_X0_addStretch rfl rfl rfl (by decide +kernel) ⟨(Nat.le_of_ble_eq_true rfl), (Nat.le_of_ble_eq_true rfl)⟩) (PRE.v (hP.sub [0, 1, 2, 3, 4] rfl) hK (hD.sub [0, 1, 2, 3, 4] (by decide) rfl) hN (va_recv hK hP (ci := 0) (q0 := 0) rfl rfl)) rfl rfl hl.1 rfl (lv_room (Nat.le_of_ble_eq_true rfl)) dX0_cutFrom_62 ⟨(Nat.le_of_ble_eq_true rfl), (Nat.le_of_ble_eq_true rfl)⟩) hP hD hS hA [0, 1, 2, 3, 4] [] rfl rfl rfl (by decide) (fun u_234 H locs hw_236 hP hD hS => ?_)
          obtain ⟨zi_237, zf_238, zf_239, zf_240, zf_241⟩ := u_234
          have hP : va_P (dC, dI) vwCl [(zc, .inr (0, [.ref zck, .ref zcw, .ref zcy, .ref zcs, .ref zcf, .ref zcl, .ref zcz, .int zit, .int zi_237, .int zicm, .int 0])), (zcs, .inl (cy 0, 6, .inl zf_238)), (zcf, .inl (cy 0, 6, .inl zf_239)), (zcl, .inl (cy 0, 6, .inl zf_240)), (zcz, .inl (cy 0, 6, .inl zf_241))] H := hP
          have hD : va_D A [(zc, .inr (0, [.ref zck, .ref zcw, .ref zcy, .ref zcs, .ref zcf, .ref zcl, .ref zcz, .int zit, .int zi_237, .int zicm, .int 0])), (zcs, .inl (cy 0, 6, .inl zf_238)), (zcf, .inl (cy 0, 6, .inl zf_239)), (zcl, .inl (cy 0, 6, .inl zf_240)), (zcz, .inl (cy 0, 6, .inl zf_241))] := hD
          obtain ⟨b_zi_237, h_zf_241⟩ : (1 ≤ zi_237.toInt ∧ zi_237.toInt ≤ 6) ∧ (RG zf_241 6 0 20) := hw_236
          exact jn_226 zi_237 zf_238 zf_239 zf_240 zf_241 _ _ _ (by omega) h_zf_241 hP hD hS (lv_sub hl [0, 1, 2, 3] rfl)
  exact lp_203 _ (0 : Int32) (0 : Int32) zfcs zfcf zfcl zfcz _ _ _ rfl (by decide) (by decide) h_zfcz (by omega) hP hD hS (lv_sub hl [2, 3, 1, 0] rfl)
set_option maxHeartbeats 8000000 in
set_option maxRecDepth 100000 in
theorem c_X2_add (l : Launch) (dC : Nat → ClassId) (dI : Nat → Nat → Nat) (cy : Nat → ClassId) (sz : Nat) (zd : Nat) (zia : Int32) (zib : Int32) (ziy : Int32) (ziz : Int32) (zin : Int32) (zdc : Nat) (zdt : Nat) (zdf : Nat) (zdo : Nat) (zdd : Nat) (zdr : Nat) (zidh : Int32) (zfdc : Nat → Int32) (zfdt : Nat → Int32) (zfdf : Nat → Int32) (zfdo : Nat → Int32) (zfdd : Nat → Int32) (zfdr : Nat → Int32) (b_zia : 0 ≤ zia.toInt ∧ zia.toInt ≤ 1) (b_zib : 0 ≤ zib.toInt ∧ zib.toInt ≤ 11) (b_ziy : 0 ≤ ziy.toInt ∧ ziy.toInt ≤ 23) (b_ziz : 0 ≤ ziz.toInt ∧ ziz.toInt ≤ 23) (b_zidh : 0 ≤ zidh.toInt ∧ zidh.toInt ≤ 7) (h_zfdc : RG zfdc 8 0 1) (h_zfdt : RG zfdt 8 0 11) (h_zfdf : RG zfdf 8 0 23) (h_zfdo : RG zfdo 8 0 23) : Met l yX2_add wsX2_add ({ frames := 0, cells := 0, slots := 0, locals := 0 } : Room) (va_Pc [.ref zd, .int zia, .int zib, .int ziy, .int ziz, .int zin] (PRE dC dI cy [(zd, .inr (2, [.ref zdc, .ref zdt, .ref zdf, .ref zdo, .ref zdd, .ref zdr, .int zidh])), (zdc, .inl (cy 0, 8, .inl zfdc)), (zdt, .inl (cy 0, 8, .inl zfdt)), (zdf, .inl (cy 0, 8, .inl zfdf)), (zdo, .inl (cy 0, 8, .inl zfdo)), (zdd, .inl (cy 0, 8, .inl zfdd)), (zdr, .inl (cy 0, 8, .inl zfdr))] sz)) (va_Qv (fun (u : (Int32) × (Nat → Int32) × (Nat → Int32) × (Nat → Int32) × (Nat → Int32) × (Nat → Int32) × (Nat → Int32)) => (1 ≤ u.1.toInt ∧ u.1.toInt ≤ 8) ∧ (RG u.2.1 8 0 1) ∧ (RG u.2.2.1 8 0 11) ∧ (RG u.2.2.2.1 8 0 23) ∧ (RG u.2.2.2.2.1 8 0 23)) (fun u t => POST dC dI cy (va_A [(zd, .inr (2, [.ref zdc, .ref zdt, .ref zdf, .ref zdo, .ref zdd, .ref zdr, .int zidh])), (zdc, .inl (cy 0, 8, .inl zfdc)), (zdt, .inl (cy 0, 8, .inl zfdt)), (zdf, .inl (cy 0, 8, .inl zfdf)), (zdo, .inl (cy 0, 8, .inl zfdo)), (zdd, .inl (cy 0, 8, .inl zfdd)), (zdr, .inl (cy 0, 8, .inl zfdr))] sz) [(zd, .inr (2, [.ref zdc, .ref zdt, .ref zdf, .ref zdo, .ref zdd, .ref zdr, .int u.1])), (zdc, .inl (cy 0, 8, .inl u.2.1)), (zdt, .inl (cy 0, 8, .inl u.2.2.1)), (zdf, .inl (cy 0, 8, .inl u.2.2.2.1)), (zdo, .inl (cy 0, 8, .inl u.2.2.2.2.1)), (zdd, .inl (cy 0, 8, .inl u.2.2.2.2.2.1)), (zdr, .inl (cy 0, 8, .inl u.2.2.2.2.2.2))] t) (va_A [(zd, .inr (2, [.ref zdc, .ref zdt, .ref zdf, .ref zdo, .ref zdd, .ref zdr, .int zidh])), (zdc, .inl (cy 0, 8, .inl zfdc)), (zdt, .inl (cy 0, 8, .inl zfdt)), (zdf, .inl (cy 0, 8, .inl zfdf)), (zdo, .inl (cy 0, 8, .inl zfdo)), (zdd, .inl (cy 0, 8, .inl zfdd)), (zdr, .inl (cy 0, 8, .inl zfdr))] sz)) 0 0 (va_A [(zd, .inr (2, [.ref zdc, .ref zdt, .ref zdf, .ref zdo, .ref zdd, .ref zdr, .int zidh])), (zdc, .inl (cy 0, 8, .inl zfdc)), (zdt, .inl (cy 0, 8, .inl zfdt)), (zdf, .inl (cy 0, 8, .inl zfdf)), (zdo, .inl (cy 0, 8, .inl zfdo)), (zdd, .inl (cy 0, 8, .inl zfdd)), (zdr, .inl (cy 0, 8, .inl zfdr))] sz) := by
  refine Met.ofW (cc := cX2_add) (maxL := 6) (ret := none) (by decide) rfl ?_
  intro p e s m args below meth c s₁ B hml hv
  obtain ⟨rfl, hsz, hP, hK, hD0, hN⟩ := hv
  have hx := B.exec
  have hb := B.bytes
  have hr := B.returns
  have hts := atoms_spec (ws := wsX2_add) B.pre
  have hown : s.vm.findClass RX2 = some m.cls := findClass_of_methodNamed B.named
  have hlocks := B.notSynchronized
  subst hsz
  have hD := hD0.self (sz := s.heap.size)
  generalize hAe : va_A [(zd, .inr (2, [.ref zdc, .ref zdt, .ref zdf, .ref zdo, .ref zdd, .ref zdr, .int zidh])), (zdc, .inl (cy 0, 8, .inl zfdc)), (zdt, .inl (cy 0, 8, .inl zfdt)), (zdf, .inl (cy 0, 8, .inl zfdf)), (zdo, .inl (cy 0, 8, .inl zfdo)), (zdd, .inl (cy 0, 8, .inl zfdd)), (zdr, .inl (cy 0, 8, .inl zfdr))] s.heap.size = A at hD ⊢
  have hA : ∀ q : Nat, s.heap.size ≤ q → A q := fun q h => by rw [← hAe]; exact Or.inr h
  have hS : va_S A s.heap s.heap [] := va_S.rf
  have hP : va_P (dC, dI) vwCl [(zd, .inr (2, [.ref zdc, .ref zdt, .ref zdf, .ref zdo, .ref zdd, .ref zdr, .int zidh])), (zdc, .inl (cy 0, 8, .inl zfdc)), (zdt, .inl (cy 0, 8, .inl zfdt)), (zdf, .inl (cy 0, 8, .inl zfdf)), (zdo, .inl (cy 0, 8, .inl zfdo)), (zdd, .inl (cy 0, 8, .inl zfdd)), (zdr, .inl (cy 0, 8, .inl zfdr))] s.heap := hP
  have hl := lv_entry ([.ref zd, .int zia, .int zib, .int ziy, .int ziz, .int zin] : List Value) (n := 6) (Nat.le_of_ble_eq_true rfl)
  rw [lg_entry_eq]
  generalize (lg_sl ([.ref zd, .int zia, .int zib, .int ziy, .int ziz, .int zin] : List Value) ++ List.replicate (6 - (lg_sl ([.ref zd, .int zia, .int zib, .int ziy, .int ziz, .int zin] : List Value)).length) Slot.unset).toArray = ls at hl ⊢
  have hl : lv_has ls 6 [(0, .ref zd), (1, .int zia), (2, .int zib), (3, .int ziy), (4, .int ziz), (5, .int zin)] := hl
  refine w_q (fun Q hQ => ?_)
  refine lv_aload_n hx hb dX2_add_0 rfl (lv_at hl 0 rfl) ?_
  refine va_get (D := (dC, dI)) (ci := 2) (v := .ref zdc) (C := RX2) (T := TX2) (N := 7) hx hb hts (by decide +kernel) hown hK hP 0 rfl rfl 0 (by decide) (hts (.fieldLink RX2 9 "DripStone$Dates" "candles" "[I") (by decide +kernel)) (fun _ h9 => h9) rfl dX2_add_1 ?_
  refine lv_aload_n hx hb dX2_add_4 rfl (lv_at hl 0 rfl) ?_
  refine va_get (D := (dC, dI)) (ci := 2) (v := .int zidh) (C := RX2) (T := TX2) (N := 7) hx hb hts (by decide +kernel) hown hK hP 0 rfl rfl 6 (by decide) (hts (.fieldLink RX2 30 "DripStone$Dates" "held" "I") (by decide +kernel)) (fun _ h9 => h9) rfl dX2_add_5 ?_
  refine lv_iload_n hx hb dX2_add_8 rfl (lv_at hl 1 rfl) ?_
  refine va_iast hx hb hK hP hD hS 1 0 rfl rfl (vp_in_iff.mpr ⟨by omega, by omega⟩) dX2_add_9 (fun H locs hP hD hS => ?_)
  have hP : va_P (dC, dI) vwCl [(zd, .inr (2, [.ref zdc, .ref zdt, .ref zdf, .ref zdo, .ref zdd, .ref zdr, .int zidh])), (zdc, .inl (cy 0, 8, .inl (upd zfdc zidh.toNatClampNeg zia))), (zdt, .inl (cy 0, 8, .inl zfdt)), (zdf, .inl (cy 0, 8, .inl zfdf)), (zdo, .inl (cy 0, 8, .inl zfdo)), (zdd, .inl (cy 0, 8, .inl zfdd)), (zdr, .inl (cy 0, 8, .inl zfdr))] H := hP
  have hD : va_D A [(zd, .inr (2, [.ref zdc, .ref zdt, .ref zdf, .ref zdo, .ref zdd, .ref zdr, .int zidh])), (zdc, .inl (cy 0, 8, .inl (upd zfdc zidh.toNatClampNeg zia))), (zdt, .inl (cy 0, 8, .inl zfdt)), (zdf, .inl (cy 0, 8, .inl zfdf)), (zdo, .inl (cy 0, 8, .inl zfdo)), (zdd, .inl (cy 0, 8, .inl zfdd)), (zdr, .inl (cy 0, 8, .inl zfdr))] := hD
  have h_zf_1 : RG (upd zfdc zidh.toNatClampNeg zia) 8 0 1 := RG.upd h_zfdc (by omega)
  generalize uzf_1 : upd zfdc zidh.toNatClampNeg zia = zf_1 at hP hD h_zf_1
  refine lv_aload_n hx hb dX2_add_10 rfl (lv_at hl 0 rfl) ?_
  refine va_get (D := (dC, dI)) (ci := 2) (v := .ref zdt) (C := RX2) (T := TX2) (N := 7) hx hb hts (by decide +kernel) hown hK hP 0 rfl rfl 1 (by decide) (hts (.fieldLink RX2 15 "DripStone$Dates" "things" "[I") (by decide +kernel)) (fun _ h9 => h9) rfl dX2_add_11 ?_
  refine lv_aload_n hx hb dX2_add_14 rfl (lv_at hl 0 rfl) ?_
  refine va_get (D := (dC, dI)) (ci := 2) (v := .int zidh) (C := RX2) (T := TX2) (N := 7) hx hb hts (by decide +kernel) hown hK hP 0 rfl rfl 6 (by decide) (hts (.fieldLink RX2 30 "DripStone$Dates" "held" "I") (by decide +kernel)) (fun _ h9 => h9) rfl dX2_add_15 ?_
  refine lv_iload_n hx hb dX2_add_18 rfl (lv_at hl 2 rfl) ?_
  refine va_iast hx hb hK hP hD hS 2 0 rfl rfl (vp_in_iff.mpr ⟨by omega, by omega⟩) dX2_add_19 (fun H locs hP hD hS => ?_)
  have hP : va_P (dC, dI) vwCl [(zd, .inr (2, [.ref zdc, .ref zdt, .ref zdf, .ref zdo, .ref zdd, .ref zdr, .int zidh])), (zdc, .inl (cy 0, 8, .inl zf_1)), (zdt, .inl (cy 0, 8, .inl (upd zfdt zidh.toNatClampNeg zib))), (zdf, .inl (cy 0, 8, .inl zfdf)), (zdo, .inl (cy 0, 8, .inl zfdo)), (zdd, .inl (cy 0, 8, .inl zfdd)), (zdr, .inl (cy 0, 8, .inl zfdr))] H := hP
  have hD : va_D A [(zd, .inr (2, [.ref zdc, .ref zdt, .ref zdf, .ref zdo, .ref zdd, .ref zdr, .int zidh])), (zdc, .inl (cy 0, 8, .inl zf_1)), (zdt, .inl (cy 0, 8, .inl (upd zfdt zidh.toNatClampNeg zib))), (zdf, .inl (cy 0, 8, .inl zfdf)), (zdo, .inl (cy 0, 8, .inl zfdo)), (zdd, .inl (cy 0, 8, .inl zfdd)), (zdr, .inl (cy 0, 8, .inl zfdr))] := hD
  have h_zf_2 : RG (upd zfdt zidh.toNatClampNeg zib) 8 0 11 := RG.upd h_zfdt (by omega)
  generalize uzf_2 : upd zfdt zidh.toNatClampNeg zib = zf_2 at hP hD h_zf_2
  refine lv_aload_n hx hb dX2_add_20 rfl (lv_at hl 0 rfl) ?_
  refine va_get (D := (dC, dI)) (ci := 2) (v := .ref zdf) (C := RX2) (T := TX2) (N := 7) hx hb hts (by decide +kernel) hown hK hP 0 rfl rfl 2 (by decide) (hts (.fieldLink RX2 18 "DripStone$Dates" "froms" "[I") (by decide +kernel)) (fun _ h9 => h9) rfl dX2_add_21 ?_
  refine lv_aload_n hx hb dX2_add_24 rfl (lv_at hl 0 rfl) ?_
  refine va_get (D := (dC, dI)) (ci := 2) (v := .int zidh) (C := RX2) (T := TX2) (N := 7) hx hb hts (by decide +kernel) hown hK hP 0 rfl rfl 6 (by decide) (hts (.fieldLink RX2 30 "DripStone$Dates" "held" "I") (by decide +kernel)) (fun _ h9 => h9) rfl dX2_add_25 ?_
  refine lv_iload_n hx hb dX2_add_28 rfl (lv_at hl 3 rfl) ?_
  refine va_iast hx hb hK hP hD hS 3 0 rfl rfl (vp_in_iff.mpr ⟨by omega, by omega⟩) dX2_add_29 (fun H locs hP hD hS => ?_)
  have hP : va_P (dC, dI) vwCl [(zd, .inr (2, [.ref zdc, .ref zdt, .ref zdf, .ref zdo, .ref zdd, .ref zdr, .int zidh])), (zdc, .inl (cy 0, 8, .inl zf_1)), (zdt, .inl (cy 0, 8, .inl zf_2)), (zdf, .inl (cy 0, 8, .inl (upd zfdf zidh.toNatClampNeg ziy))), (zdo, .inl (cy 0, 8, .inl zfdo)), (zdd, .inl (cy 0, 8, .inl zfdd)), (zdr, .inl (cy 0, 8, .inl zfdr))] H := hP
  have hD : va_D A [(zd, .inr (2, [.ref zdc, .ref zdt, .ref zdf, .ref zdo, .ref zdd, .ref zdr, .int zidh])), (zdc, .inl (cy 0, 8, .inl zf_1)), (zdt, .inl (cy 0, 8, .inl zf_2)), (zdf, .inl (cy 0, 8, .inl (upd zfdf zidh.toNatClampNeg ziy))), (zdo, .inl (cy 0, 8, .inl zfdo)), (zdd, .inl (cy 0, 8, .inl zfdd)), (zdr, .inl (cy 0, 8, .inl zfdr))] := hD
  have h_zf_3 : RG (upd zfdf zidh.toNatClampNeg ziy) 8 0 23 := RG.upd h_zfdf (by omega)
  generalize uzf_3 : upd zfdf zidh.toNatClampNeg ziy = zf_3 at hP hD h_zf_3
  refine lv_aload_n hx hb dX2_add_30 rfl (lv_at hl 0 rfl) ?_
  refine va_get (D := (dC, dI)) (ci := 2) (v := .ref zdo) (C := RX2) (T := TX2) (N := 7) hx hb hts (by decide +kernel) hown hK hP 0 rfl rfl 3 (by decide) (hts (.fieldLink RX2 21 "DripStone$Dates" "tos" "[I") (by decide +kernel)) (fun _ h9 => h9) rfl dX2_add_31 ?_
  refine lv_aload_n hx hb dX2_add_34 rfl (lv_at hl 0 rfl) ?_
  refine va_get (D := (dC, dI)) (ci := 2) (v := .int zidh) (C := RX2) (T := TX2) (N := 7) hx hb hts (by decide +kernel) hown hK hP 0 rfl rfl 6 (by decide) (hts (.fieldLink RX2 30 "DripStone$Dates" "held" "I") (by decide +kernel)) (fun _ h9 => h9) rfl dX2_add_35 ?_
  refine lv_iload hx hb dX2_add_38 (lv_at hl 4 rfl) ?_
  refine va_iast hx hb hK hP hD hS 4 0 rfl rfl (vp_in_iff.mpr ⟨by omega, by omega⟩) dX2_add_40 (fun H locs hP hD hS => ?_)
  have hP : va_P (dC, dI) vwCl [(zd, .inr (2, [.ref zdc, .ref zdt, .ref zdf, .ref zdo, .ref zdd, .ref zdr, .int zidh])), (zdc, .inl (cy 0, 8, .inl zf_1)), (zdt, .inl (cy 0, 8, .inl zf_2)), (zdf, .inl (cy 0, 8, .inl zf_3)), (zdo, .inl (cy 0, 8, .inl (upd zfdo zidh.toNatClampNeg ziz))), (zdd, .inl (cy 0, 8, .inl zfdd)), (zdr, .inl (cy 0, 8, .inl zfdr))] H := hP
  have hD : va_D A [(zd, .inr (2, [.ref zdc, .ref zdt, .ref zdf, .ref zdo, .ref zdd, .ref zdr, .int zidh])), (zdc, .inl (cy 0, 8, .inl zf_1)), (zdt, .inl (cy 0, 8, .inl zf_2)), (zdf, .inl (cy 0, 8, .inl zf_3)), (zdo, .inl (cy 0, 8, .inl (upd zfdo zidh.toNatClampNeg ziz))), (zdd, .inl (cy 0, 8, .inl zfdd)), (zdr, .inl (cy 0, 8, .inl zfdr))] := hD
  have h_zf_4 : RG (upd zfdo zidh.toNatClampNeg ziz) 8 0 23 := RG.upd h_zfdo (by omega)
  generalize uzf_4 : upd zfdo zidh.toNatClampNeg ziz = zf_4 at hP hD h_zf_4
  refine lv_aload_n hx hb dX2_add_41 rfl (lv_at hl 0 rfl) ?_
  refine va_get (D := (dC, dI)) (ci := 2) (v := .ref zdd) (C := RX2) (T := TX2) (N := 7) hx hb hts (by decide +kernel) hown hK hP 0 rfl rfl 4 (by decide) (hts (.fieldLink RX2 24 "DripStone$Dates" "dirts" "[I") (by decide +kernel)) (fun _ h9 => h9) rfl dX2_add_42 ?_
  refine lv_aload_n hx hb dX2_add_45 rfl (lv_at hl 0 rfl) ?_
  refine va_get (D := (dC, dI)) (ci := 2) (v := .int zidh) (C := RX2) (T := TX2) (N := 7) hx hb hts (by decide +kernel) hown hK hP 0 rfl rfl 6 (by decide) (hts (.fieldLink RX2 30 "DripStone$Dates" "held" "I") (by decide +kernel)) (fun _ h9 => h9) rfl dX2_add_46 ?_
  refine lv_iload hx hb dX2_add_49 (lv_at hl 5 rfl) ?_
  refine va_iast hx hb hK hP hD hS 5 0 rfl rfl (vp_in_iff.mpr ⟨by omega, by omega⟩) dX2_add_51 (fun H locs hP hD hS => ?_)
  have hP : va_P (dC, dI) vwCl [(zd, .inr (2, [.ref zdc, .ref zdt, .ref zdf, .ref zdo, .ref zdd, .ref zdr, .int zidh])), (zdc, .inl (cy 0, 8, .inl zf_1)), (zdt, .inl (cy 0, 8, .inl zf_2)), (zdf, .inl (cy 0, 8, .inl zf_3)), (zdo, .inl (cy 0, 8, .inl zf_4)), (zdd, .inl (cy 0, 8, .inl (upd zfdd zidh.toNatClampNeg zin))), (zdr, .inl (cy 0, 8, .inl zfdr))] H := hP
  have hD : va_D A [(zd, .inr (2, [.ref zdc, .ref zdt, .ref zdf, .ref zdo, .ref zdd, .ref zdr, .int zidh])), (zdc, .inl (cy 0, 8, .inl zf_1)), (zdt, .inl (cy 0, 8, .inl zf_2)), (zdf, .inl (cy 0, 8, .inl zf_3)), (zdo, .inl (cy 0, 8, .inl zf_4)), (zdd, .inl (cy 0, 8, .inl (upd zfdd zidh.toNatClampNeg zin))), (zdr, .inl (cy 0, 8, .inl zfdr))] := hD
  generalize uzf_5 : upd zfdd zidh.toNatClampNeg zin = zf_5 at hP hD
  refine lv_aload_n hx hb dX2_add_52 rfl (lv_at hl 0 rfl) ?_
  refine va_get (D := (dC, dI)) (ci := 2) (v := .ref zdr) (C := RX2) (T := TX2) (N := 7) hx hb hts (by decide +kernel) hown hK hP 0 rfl rfl 5 (by decide) (hts (.fieldLink RX2 27 "DripStone$Dates" "reasons" "[I") (by decide +kernel)) (fun _ h9 => h9) rfl dX2_add_53 ?_
  refine lv_aload_n hx hb dX2_add_56 rfl (lv_at hl 0 rfl) ?_
  refine va_get (D := (dC, dI)) (ci := 2) (v := .int zidh) (C := RX2) (T := TX2) (N := 7) hx hb hts (by decide +kernel) hown hK hP 0 rfl rfl 6 (by decide) (hts (.fieldLink RX2 30 "DripStone$Dates" "held" "I") (by decide +kernel)) (fun _ h9 => h9) rfl dX2_add_57 ?_
  refine lv_iconst (v := 0) hx hb dX2_add_60 (by decide) ?_
  refine va_iast hx hb hK hP hD hS 6 0 rfl rfl (vp_in_iff.mpr ⟨by omega, by omega⟩) dX2_add_61 (fun H locs hP hD hS => ?_)
  have hP : va_P (dC, dI) vwCl [(zd, .inr (2, [.ref zdc, .ref zdt, .ref zdf, .ref zdo, .ref zdd, .ref zdr, .int zidh])), (zdc, .inl (cy 0, 8, .inl zf_1)), (zdt, .inl (cy 0, 8, .inl zf_2)), (zdf, .inl (cy 0, 8, .inl zf_3)), (zdo, .inl (cy 0, 8, .inl zf_4)), (zdd, .inl (cy 0, 8, .inl zf_5)), (zdr, .inl (cy 0, 8, .inl (upd zfdr zidh.toNatClampNeg (0 : Int32))))] H := hP
  have hD : va_D A [(zd, .inr (2, [.ref zdc, .ref zdt, .ref zdf, .ref zdo, .ref zdd, .ref zdr, .int zidh])), (zdc, .inl (cy 0, 8, .inl zf_1)), (zdt, .inl (cy 0, 8, .inl zf_2)), (zdf, .inl (cy 0, 8, .inl zf_3)), (zdo, .inl (cy 0, 8, .inl zf_4)), (zdd, .inl (cy 0, 8, .inl zf_5)), (zdr, .inl (cy 0, 8, .inl (upd zfdr zidh.toNatClampNeg (0 : Int32))))] := hD
  generalize uzf_6 : upd zfdr zidh.toNatClampNeg (0 : Int32) = zf_6 at hP hD
  refine lv_aload_n hx hb dX2_add_62 rfl (lv_at hl 0 rfl) ?_
  refine lv_dup hx hb dX2_add_63 rfl ?_
  refine va_get (D := (dC, dI)) (ci := 2) (v := .int zidh) (C := RX2) (T := TX2) (N := 7) hx hb hts (by decide +kernel) hown hK hP 0 rfl rfl 6 (by decide) (hts (.fieldLink RX2 30 "DripStone$Dates" "held" "I") (by decide +kernel)) (fun _ h9 => h9) rfl dX2_add_64 ?_
  refine lv_iconst (v := 1) hx hb dX2_add_67 (by decide) ?_
  refine lv_iadd hx hb dX2_add_68 ?_
  refine lv_topi (fun zi_7 ezi_7 => ?_)
  have tzi_7 : zi_7.toInt = zidh.toInt + (1 : Int) := by rw [ezi_7]; exact tiadd (rfl) (show (1 : Int32).toInt = 1 by decide) (by omega) (by omega)
  refine va_put (D := (dC, dI)) (ci := 2) (v := .int zi_7) (ty := .int) (C := RX2) (T := TX2) (N := 7) hx hb hts (by decide +kernel) tyX2 tyX2_ok nmX2 hown hK hP hD hS 0 rfl rfl 6 (by decide) (hts (.fieldLink RX2 30 "DripStone$Dates" "held" "I") (by decide +kernel)) (fun _ h9 => h9) rfl (by decide +kernel) rfl rfl (Nat.le_of_ble_eq_true rfl) dX2_add_69 (fun H locs hP hD hS => ?_)
  have hP : va_P (dC, dI) vwCl [(zd, .inr (2, [.ref zdc, .ref zdt, .ref zdf, .ref zdo, .ref zdd, .ref zdr, .int zi_7])), (zdc, .inl (cy 0, 8, .inl zf_1)), (zdt, .inl (cy 0, 8, .inl zf_2)), (zdf, .inl (cy 0, 8, .inl zf_3)), (zdo, .inl (cy 0, 8, .inl zf_4)), (zdd, .inl (cy 0, 8, .inl zf_5)), (zdr, .inl (cy 0, 8, .inl zf_6))] H := hP
  have hD : va_D A [(zd, .inr (2, [.ref zdc, .ref zdt, .ref zdf, .ref zdo, .ref zdd, .ref zdr, .int zi_7])), (zdc, .inl (cy 0, 8, .inl zf_1)), (zdt, .inl (cy 0, 8, .inl zf_2)), (zdf, .inl (cy 0, 8, .inl zf_3)), (zdo, .inl (cy 0, 8, .inl zf_4)), (zdd, .inl (cy 0, 8, .inl zf_5)), (zdr, .inl (cy 0, 8, .inl zf_6))] := hD
  subst hQ
  have hP9 := hP.sub (ws' := [(zd, .inr (2, [.ref zdc, .ref zdt, .ref zdf, .ref zdo, .ref zdd, .ref zdr, .int zi_7])), (zdc, .inl (cy 0, 8, .inl zf_1)), (zdt, .inl (cy 0, 8, .inl zf_2)), (zdf, .inl (cy 0, 8, .inl zf_3)), (zdo, .inl (cy 0, 8, .inl zf_4)), (zdd, .inl (cy 0, 8, .inl zf_5)), (zdr, .inl (cy 0, 8, .inl zf_6))]) [0, 1, 2, 3, 4, 5, 6] rfl
  have hD9 := hD.sub (ws' := [(zd, .inr (2, [.ref zdc, .ref zdt, .ref zdf, .ref zdo, .ref zdd, .ref zdr, .int zi_7])), (zdc, .inl (cy 0, 8, .inl zf_1)), (zdt, .inl (cy 0, 8, .inl zf_2)), (zdf, .inl (cy 0, 8, .inl zf_3)), (zdo, .inl (cy 0, 8, .inl zf_4)), (zdd, .inl (cy 0, 8, .inl zf_5)), (zdr, .inl (cy 0, 8, .inl zf_6))]) [0, 1, 2, 3, 4, 5, 6] (by decide) rfl
  exact W.vret hx hb hr (fun t ht hW => ⟨⟨(zi_7, zf_1, zf_2, zf_3, zf_4, zf_5, zf_6), rfl, ⟨(show 1 ≤ zi_7.toInt ∧ zi_7.toInt ≤ 8 from by omega), h_zf_1, h_zf_2, h_zf_3, h_zf_4⟩, ⟨by rw [ht]; exact hP9, va_K.moved hW.alike hK, hD9⟩⟩, hS.F ht⟩) hS.2.2 dX2_add_72
set_option maxHeartbeats 8000000 in
set_option maxRecDepth 100000 in
theorem c_X2_removeFrom (l : Launch) (dC : Nat → ClassId) (dI : Nat → Nat → Nat) (cy : Nat → ClassId) (sz : Nat) (zd : Nat) (zia : Int32) (zib : Int32) (zdc : Nat) (zdt : Nat) (zdf : Nat) (zdo : Nat) (zdd : Nat) (zdr : Nat) (zidh : Int32) (zfdc : Nat → Int32) (zfdt : Nat → Int32) (zfdf : Nat → Int32) (zfdo : Nat → Int32) (zfdd : Nat → Int32) (zfdr : Nat → Int32) (b_zidh : 0 ≤ zidh.toInt ∧ zidh.toInt ≤ 8) (h_zfdc : RG zfdc 8 0 1) (h_zfdt : RG zfdt 8 0 11) (h_zfdf : RG zfdf 8 0 23) (h_zfdo : RG zfdo 8 0 23) : Met l yX2_removeFrom wsX2_removeFrom ({ frames := 1, cells := 0, slots := 0, locals := 25 } : Room) (va_Pc [.ref zd, .int zia, .int zib] (PRE dC dI cy [(zd, .inr (2, [.ref zdc, .ref zdt, .ref zdf, .ref zdo, .ref zdd, .ref zdr, .int zidh])), (zdc, .inl (cy 0, 8, .inl zfdc)), (zdt, .inl (cy 0, 8, .inl zfdt)), (zdf, .inl (cy 0, 8, .inl zfdf)), (zdo, .inl (cy 0, 8, .inl zfdo)), (zdd, .inl (cy 0, 8, .inl zfdd)), (zdr, .inl (cy 0, 8, .inl zfdr))] sz)) (va_Qv (fun (u : (Int32) × (Nat → Int32) × (Nat → Int32) × (Nat → Int32) × (Nat → Int32) × (Nat → Int32) × (Nat → Int32)) => (0 ≤ u.1.toInt ∧ u.1.toInt ≤ 8) ∧ (RG u.2.1 8 0 1) ∧ (RG u.2.2.1 8 0 11) ∧ (RG u.2.2.2.1 8 0 23) ∧ (RG u.2.2.2.2.1 8 0 23)) (fun u t => POST dC dI cy (va_A [(zd, .inr (2, [.ref zdc, .ref zdt, .ref zdf, .ref zdo, .ref zdd, .ref zdr, .int zidh])), (zdc, .inl (cy 0, 8, .inl zfdc)), (zdt, .inl (cy 0, 8, .inl zfdt)), (zdf, .inl (cy 0, 8, .inl zfdf)), (zdo, .inl (cy 0, 8, .inl zfdo)), (zdd, .inl (cy 0, 8, .inl zfdd)), (zdr, .inl (cy 0, 8, .inl zfdr))] sz) [(zd, .inr (2, [.ref zdc, .ref zdt, .ref zdf, .ref zdo, .ref zdd, .ref zdr, .int u.1])), (zdc, .inl (cy 0, 8, .inl u.2.1)), (zdt, .inl (cy 0, 8, .inl u.2.2.1)), (zdf, .inl (cy 0, 8, .inl u.2.2.2.1)), (zdo, .inl (cy 0, 8, .inl u.2.2.2.2.1)), (zdd, .inl (cy 0, 8, .inl u.2.2.2.2.2.1)), (zdr, .inl (cy 0, 8, .inl u.2.2.2.2.2.2))] t) (va_A [(zd, .inr (2, [.ref zdc, .ref zdt, .ref zdf, .ref zdo, .ref zdd, .ref zdr, .int zidh])), (zdc, .inl (cy 0, 8, .inl zfdc)), (zdt, .inl (cy 0, 8, .inl zfdt)), (zdf, .inl (cy 0, 8, .inl zfdf)), (zdo, .inl (cy 0, 8, .inl zfdo)), (zdd, .inl (cy 0, 8, .inl zfdd)), (zdr, .inl (cy 0, 8, .inl zfdr))] sz)) 0 0 (va_A [(zd, .inr (2, [.ref zdc, .ref zdt, .ref zdf, .ref zdo, .ref zdd, .ref zdr, .int zidh])), (zdc, .inl (cy 0, 8, .inl zfdc)), (zdt, .inl (cy 0, 8, .inl zfdt)), (zdf, .inl (cy 0, 8, .inl zfdf)), (zdo, .inl (cy 0, 8, .inl zfdo)), (zdd, .inl (cy 0, 8, .inl zfdd)), (zdr, .inl (cy 0, 8, .inl zfdr))] sz) := by
  refine Met.ofW (cc := cX2_removeFrom) (maxL := 6) (ret := none) (by decide) rfl ?_
  intro p e s m args below meth c s₁ B hml hv
  obtain ⟨rfl, hsz, hP, hK, hD0, hN⟩ := hv
  have hx := B.exec
  have hb := B.bytes
  have hr := B.returns
  have hts := atoms_spec (ws := wsX2_removeFrom) B.pre
  have hown : s.vm.findClass RX2 = some m.cls := findClass_of_methodNamed B.named
  have hlocks := B.notSynchronized
  subst hsz
  have hD := hD0.self (sz := s.heap.size)
  generalize hAe : va_A [(zd, .inr (2, [.ref zdc, .ref zdt, .ref zdf, .ref zdo, .ref zdd, .ref zdr, .int zidh])), (zdc, .inl (cy 0, 8, .inl zfdc)), (zdt, .inl (cy 0, 8, .inl zfdt)), (zdf, .inl (cy 0, 8, .inl zfdf)), (zdo, .inl (cy 0, 8, .inl zfdo)), (zdd, .inl (cy 0, 8, .inl zfdd)), (zdr, .inl (cy 0, 8, .inl zfdr))] s.heap.size = A at hD ⊢
  have hA : ∀ q : Nat, s.heap.size ≤ q → A q := fun q h => by rw [← hAe]; exact Or.inr h
  have hS : va_S A s.heap s.heap [] := va_S.rf
  have hP : va_P (dC, dI) vwCl [(zd, .inr (2, [.ref zdc, .ref zdt, .ref zdf, .ref zdo, .ref zdd, .ref zdr, .int zidh])), (zdc, .inl (cy 0, 8, .inl zfdc)), (zdt, .inl (cy 0, 8, .inl zfdt)), (zdf, .inl (cy 0, 8, .inl zfdf)), (zdo, .inl (cy 0, 8, .inl zfdo)), (zdd, .inl (cy 0, 8, .inl zfdd)), (zdr, .inl (cy 0, 8, .inl zfdr))] s.heap := hP
  have hl := lv_entry ([.ref zd, .int zia, .int zib] : List Value) (n := 6) (Nat.le_of_ble_eq_true rfl)
  rw [lg_entry_eq]
  generalize (lg_sl ([.ref zd, .int zia, .int zib] : List Value) ++ List.replicate (6 - (lg_sl ([.ref zd, .int zia, .int zib] : List Value)).length) Slot.unset).toArray = ls at hl ⊢
  have hl : lv_has ls 6 [(0, .ref zd), (1, .int zia), (2, .int zib)] := hl
  refine w_q (fun Q hQ => ?_)
  refine lv_aload_n hx hb dX2_removeFrom_0 rfl (lv_at hl 0 rfl) ?_
  refine va_get (D := (dC, dI)) (ci := 2) (v := .int zidh) (C := RX2) (T := TX2) (N := 7) hx hb hts (by decide +kernel) hown hK hP 0 rfl rfl 6 (by decide) (hts (.fieldLink RX2 30 "DripStone$Dates" "held" "I") (by decide +kernel)) (fun _ h9 => h9) rfl dX2_removeFrom_1 ?_
  refine lv_istore_n (lv' := [(3, .int zidh), (0, .ref zd), (1, .int zia), (2, .int zib)]) hx hb dX2_removeFrom_4 rfl hl (by decide) rfl (fun ls hl => ?_)
  refine lv_aload_n hx hb dX2_removeFrom_5 rfl (lv_at hl 1 rfl) ?_
  refine lv_iconst (v := 0) hx hb dX2_removeFrom_6 (by decide) ?_
  refine va_put (D := (dC, dI)) (ci := 2) (v := .int 0) (ty := .int) (C := RX2) (T := TX2) (N := 7) hx hb hts (by decide +kernel) tyX2 tyX2_ok nmX2 hown hK hP hD hS 0 rfl rfl 6 (by decide) (hts (.fieldLink RX2 30 "DripStone$Dates" "held" "I") (by decide +kernel)) (fun _ h9 => h9) rfl (by decide +kernel) rfl rfl (Nat.le_of_ble_eq_true rfl) dX2_removeFrom_7 (fun H locs hP hD hS => ?_)
  have hP : va_P (dC, dI) vwCl [(zd, .inr (2, [.ref zdc, .ref zdt, .ref zdf, .ref zdo, .ref zdd, .ref zdr, .int 0])), (zdc, .inl (cy 0, 8, .inl zfdc)), (zdt, .inl (cy 0, 8, .inl zfdt)), (zdf, .inl (cy 0, 8, .inl zfdf)), (zdo, .inl (cy 0, 8, .inl zfdo)), (zdd, .inl (cy 0, 8, .inl zfdd)), (zdr, .inl (cy 0, 8, .inl zfdr))] H := hP
  have hD : va_D A [(zd, .inr (2, [.ref zdc, .ref zdt, .ref zdf, .ref zdo, .ref zdd, .ref zdr, .int 0])), (zdc, .inl (cy 0, 8, .inl zfdc)), (zdt, .inl (cy 0, 8, .inl zfdt)), (zdf, .inl (cy 0, 8, .inl zfdf)), (zdo, .inl (cy 0, 8, .inl zfdo)), (zdd, .inl (cy 0, 8, .inl zfdd)), (zdr, .inl (cy 0, 8, .inl zfdr))] := hD
  refine lv_iconst (v := 0) hx hb dX2_removeFrom_10 (by decide) ?_
  refine lv_istore (lv' := [(4, .int 0), (3, .int zidh), (0, .ref zd), (1, .int zia), (2, .int zib)]) hx hb dX2_removeFrom_11 hl (by decide) rfl (fun ls hl => ?_)
  have lp_212 : ∀ (n : Nat) (zi_166 : Int32) (zi_167 : Int32) (zf_168 : Nat → Int32) (zf_169 : Nat → Int32) (zf_170 : Nat → Int32) (zf_171 : Nat → Int32) (zf_172 : Nat → Int32) (zf_173 : Nat → Int32) (H : Heap) (locs : List Loc) (ls : Array Slot), (zidh.toInt - zi_166.toInt).toNat = n → (0 ≤ zi_166.toInt ∧ zi_166.toInt ≤ 8) → (0 ≤ zi_167.toInt ∧ zi_167.toInt ≤ 8) → (RG zf_168 8 0 1) → (RG zf_169 8 0 11) → (RG zf_170 8 0 23) → (RG zf_171 8 0 23) → (zi_167.toInt ≤ zi_166.toInt) → va_P (dC, dI) vwCl [(zd, .inr (2, [.ref zdc, .ref zdt, .ref zdf, .ref zdo, .ref zdd, .ref zdr, .int zi_167])), (zdc, .inl (cy 0, 8, .inl zf_168)), (zdt, .inl (cy 0, 8, .inl zf_169)), (zdf, .inl (cy 0, 8, .inl zf_170)), (zdo, .inl (cy 0, 8, .inl zf_171)), (zdd, .inl (cy 0, 8, .inl zf_172)), (zdr, .inl (cy 0, 8, .inl zf_173))] H → va_D A [(zd, .inr (2, [.ref zdc, .ref zdt, .ref zdf, .ref zdo, .ref zdd, .ref zdr, .int zi_167])), (zdc, .inl (cy 0, 8, .inl zf_168)), (zdt, .inl (cy 0, 8, .inl zf_169)), (zdf, .inl (cy 0, 8, .inl zf_170)), (zdo, .inl (cy 0, 8, .inl zf_171)), (zdd, .inl (cy 0, 8, .inl zf_172)), (zdr, .inl (cy 0, 8, .inl zf_173))] → va_S A s.heap H locs → lv_has ls 6 [(0, .ref zd), (1, .int zia), (2, .int zib), (3, .int zidh), (4, .int zi_166)] → W p l e ({ frames := 1, cells := 0, slots := 0, locals := 25 } : Room) s m ([.ref zd, .int zia, .int zib] : List Value).toArray below meth c H locs 0 0 Q (F0 m 13 ls []) := by
    intro n
    induction n using Nat.strongRecOn with
    | _ n ih =>
      intro zi_166 zi_167 zf_168 zf_169 zf_170 zf_171 zf_172 zf_173 H locs ls hn b_zi_166 b_zi_167 h_zf_168 h_zf_169 h_zf_170 h_zf_171 e_lp_212_0 hP hD hS hl
      refine lv_iload hx hb dX2_removeFrom_13 (lv_at hl 4 rfl) ?_
      refine lv_iload_n hx hb dX2_removeFrom_15 rfl (lv_at hl 3 rfl) ?_
      refine lv_icmp_ge (tgt := 108) hx hb dX2_removeFrom_16 (by decide) (fun c_213 => ?_) (fun c_213 => ?_)
      · have f_214 : zi_166.toInt ≥ zidh.toInt := ic_ge (rfl) (rfl) c_213
        subst hQ
        have hP9 := hP.sub (ws' := [(zd, .inr (2, [.ref zdc, .ref zdt, .ref zdf, .ref zdo, .ref zdd, .ref zdr, .int zi_167])), (zdc, .inl (cy 0, 8, .inl zf_168)), (zdt, .inl (cy 0, 8, .inl zf_169)), (zdf, .inl (cy 0, 8, .inl zf_170)), (zdo, .inl (cy 0, 8, .inl zf_171)), (zdd, .inl (cy 0, 8, .inl zf_172)), (zdr, .inl (cy 0, 8, .inl zf_173))]) [0, 1, 2, 3, 4, 5, 6] rfl
        have hD9 := hD.sub (ws' := [(zd, .inr (2, [.ref zdc, .ref zdt, .ref zdf, .ref zdo, .ref zdd, .ref zdr, .int zi_167])), (zdc, .inl (cy 0, 8, .inl zf_168)), (zdt, .inl (cy 0, 8, .inl zf_169)), (zdf, .inl (cy 0, 8, .inl zf_170)), (zdo, .inl (cy 0, 8, .inl zf_171)), (zdd, .inl (cy 0, 8, .inl zf_172)), (zdr, .inl (cy 0, 8, .inl zf_173))]) [0, 1, 2, 3, 4, 5, 6] (by decide) rfl
        exact W.vret hx hb hr (fun t ht hW => ⟨⟨(zi_167, zf_168, zf_169, zf_170, zf_171, zf_172, zf_173), rfl, ⟨(show 0 ≤ zi_167.toInt ∧ zi_167.toInt ≤ 8 from by omega), h_zf_168, h_zf_169, h_zf_170, h_zf_171⟩, ⟨by rw [ht]; exact hP9, va_K.moved hW.alike hK, hD9⟩⟩, hS.F ht⟩) hS.2.2 dX2_removeFrom_108
      · have f_214 : ¬ (zi_166.toInt ≥ zidh.toInt) := ic_nge (rfl) (rfl) c_213
        refine lv_aload_n hx hb dX2_removeFrom_19 rfl (lv_at hl 0 rfl) ?_
        refine va_get (D := (dC, dI)) (ci := 2) (v := .ref zdc) (C := RX2) (T := TX2) (N := 7) hx hb hts (by decide +kernel) hown hK hP 0 rfl rfl 0 (by decide) (hts (.fieldLink RX2 9 "DripStone$Dates" "candles" "[I") (by decide +kernel)) (fun _ h9 => h9) rfl dX2_removeFrom_20 ?_
        refine lv_iload hx hb dX2_removeFrom_23 (lv_at hl 4 rfl) ?_
        refine va_iald hx hb hK hP 1 0 rfl rfl (vp_in_iff.mpr ⟨by omega, by omega⟩) dX2_removeFrom_25 ?_
        refine lv_topi (fun zi_215 ezi_215 => ?_)
        have tzi_215 : 0 ≤ zi_215.toInt ∧ zi_215.toInt ≤ 1 := by rw [ezi_215]; exact RG.at h_zf_168 (by omega) (by omega)
        refine lv_iload_n hx hb dX2_removeFrom_26 rfl (lv_at hl 1 rfl) ?_
        have jn_224 : ∀  (H : Heap) (locs : List Loc) (ls : Array Slot), va_P (dC, dI) vwCl [(zd, .inr (2, [.ref zdc, .ref zdt, .ref zdf, .ref zdo, .ref zdd, .ref zdr, .int zi_167])), (zdc, .inl (cy 0, 8, .inl zf_168)), (zdt, .inl (cy 0, 8, .inl zf_169)), (zdf, .inl (cy 0, 8, .inl zf_170)), (zdo, .inl (cy 0, 8, .inl zf_171)), (zdd, .inl (cy 0, 8, .inl zf_172)), (zdr, .inl (cy 0, 8, .inl zf_173))] H → va_D A [(zd, .inr (2, [.ref zdc, .ref zdt, .ref zdf, .ref zdo, .ref zdd, .ref zdr, .int zi_167])), (zdc, .inl (cy 0, 8, .inl zf_168)), (zdt, .inl (cy 0, 8, .inl zf_169)), (zdf, .inl (cy 0, 8, .inl zf_170)), (zdo, .inl (cy 0, 8, .inl zf_171)), (zdd, .inl (cy 0, 8, .inl zf_172)), (zdr, .inl (cy 0, 8, .inl zf_173))] → va_S A s.heap H locs → lv_has ls 6 [(0, .ref zd), (1, .int zia), (2, .int zib), (3, .int zidh), (4, .int zi_166)] → W p l e ({ frames := 1, cells := 0, slots := 0, locals := 25 } : Room) s m ([.ref zd, .int zia, .int zib] : List Value).toArray below meth c H locs 0 0 Q (F0 m 41 ls []) := by
          intro  H locs ls  hP hD hS hl
          refine lv_aload_n hx hb dX2_removeFrom_41 rfl (lv_at hl 0 rfl) ?_
          refine va_get (D := (dC, dI)) (ci := 2) (v := .ref zdr) (C := RX2) (T := TX2) (N := 7) hx hb hts (by decide +kernel) hown hK hP 0 rfl rfl 5 (by decide) (hts (.fieldLink RX2 27 "DripStone$Dates" "reasons" "[I") (by decide +kernel)) (fun _ h9 => h9) rfl dX2_removeFrom_42 ?_
          refine lv_iload hx hb dX2_removeFrom_45 (lv_at hl 4 rfl) ?_
          refine va_iald hx hb hK hP 6 0 rfl rfl (vp_in_iff.mpr ⟨by omega, by omega⟩) dX2_removeFrom_47 ?_
          refine lv_topi (fun zi_225 ezi_225 => ?_)
          refine lv_istore (lv' := [(5, .int zi_225), (0, .ref zd), (1, .int zia), (2, .int zib), (3, .int zidh), (4, .int zi_166)]) hx hb dX2_removeFrom_48 hl (by decide) rfl (fun ls hl => ?_)
          refine lv_aload_n hx hb dX2_removeFrom_50 rfl (lv_at hl 1 rfl) ?_
          refine lv_aload_n hx hb dX2_removeFrom_51 rfl (lv_at hl 1 rfl) ?_
          refine va_get (D := (dC, dI)) (ci := 2) (v := .ref zdc) (C := RX2) (T := TX2) (N := 7) hx hb hts (by decide +kernel) hown hK hP 0 rfl rfl 0 (by decide) (hts (.fieldLink RX2 9 "DripStone$Dates" "candles" "[I") (by decide +kernel)) (fun _ h9 => h9) rfl dX2_removeFrom_52 ?_
          refine lv_iload hx hb dX2_removeFrom_55 (lv_at hl 5 rfl) ?_
          refine va_iald hx hb hK hP 1 0 rfl rfl (vp_in_iff.mpr ⟨by omega, by omega⟩) dX2_removeFrom_57 ?_
          refine lv_topi (fun zi_226 ezi_226 => ?_)
          have tzi_226 : 0 ≤ zi_226.toInt ∧ zi_226.toInt ≤ 1 := by rw [ezi_226]; exact RG.at h_zf_168 (by omega) (by omega)
          refine lv_aload_n hx hb dX2_removeFrom_58 rfl (lv_at hl 1 rfl) ?_
          refine va_get (D := (dC, dI)) (ci := 2) (v := .ref zdt) (C := RX2) (T := TX2) (N := 7) hx hb hts (by decide +kernel) hown hK hP 0 rfl rfl 1 (by decide) (hts (.fieldLink RX2 15 "DripStone$Dates" "things" "[I") (by decide +kernel)) (fun _ h9 => h9) rfl dX2_removeFrom_59 ?_
          refine lv_iload hx hb dX2_removeFrom_62 (lv_at hl 5 rfl) ?_
          refine va_iald hx hb hK hP 2 0 rfl rfl (vp_in_iff.mpr ⟨by omega, by omega⟩) dX2_removeFrom_64 ?_
          refine lv_topi (fun zi_227 ezi_227 => ?_)
          have tzi_227 : 0 ≤ zi_227.toInt ∧ zi_227.toInt ≤ 11 := by rw [ezi_227]; exact RG.at h_zf_169 (by omega) (by omega)
          refine lv_aload_n hx hb dX2_removeFrom_65 rfl (lv_at hl 1 rfl) ?_
          refine va_get (D := (dC, dI)) (ci := 2) (v := .ref zdf) (C := RX2) (T := TX2) (N := 7) hx hb hts (by decide +kernel) hown hK hP 0 rfl rfl 2 (by decide) (hts (.fieldLink RX2 18 "DripStone$Dates" "froms" "[I") (by decide +kernel)) (fun _ h9 => h9) rfl dX2_removeFrom_66 ?_
          refine lv_iload hx hb dX2_removeFrom_69 (lv_at hl 5 rfl) ?_
          refine va_iald hx hb hK hP 3 0 rfl rfl (vp_in_iff.mpr ⟨by omega, by omega⟩) dX2_removeFrom_71 ?_
          refine lv_topi (fun zi_228 ezi_228 => ?_)
          have tzi_228 : 0 ≤ zi_228.toInt ∧ zi_228.toInt ≤ 23 := by rw [ezi_228]; exact RG.at h_zf_170 (by omega) (by omega)
          refine lv_aload_n hx hb dX2_removeFrom_72 rfl (lv_at hl 1 rfl) ?_
          refine va_get (D := (dC, dI)) (ci := 2) (v := .ref zdo) (C := RX2) (T := TX2) (N := 7) hx hb hts (by decide +kernel) hown hK hP 0 rfl rfl 3 (by decide) (hts (.fieldLink RX2 21 "DripStone$Dates" "tos" "[I") (by decide +kernel)) (fun _ h9 => h9) rfl dX2_removeFrom_73 ?_
          refine lv_iload hx hb dX2_removeFrom_76 (lv_at hl 5 rfl) ?_
          refine va_iald hx hb hK hP 4 0 rfl rfl (vp_in_iff.mpr ⟨by omega, by omega⟩) dX2_removeFrom_78 ?_
          refine lv_topi (fun zi_229 ezi_229 => ?_)
          have tzi_229 : 0 ≤ zi_229.toInt ∧ zi_229.toInt ≤ 23 := by rw [ezi_229]; exact RG.at h_zf_171 (by omega) (by omega)
          refine lv_aload_n hx hb dX2_removeFrom_79 rfl (lv_at hl 1 rfl) ?_
          refine va_get (D := (dC, dI)) (ci := 2) (v := .ref zdd) (C := RX2) (T := TX2) (N := 7) hx hb hts (by decide +kernel) hown hK hP 0 rfl rfl 4 (by decide) (hts (.fieldLink RX2 24 "DripStone$Dates" "dirts" "[I") (by decide +kernel)) (fun _ h9 => h9) rfl dX2_removeFrom_80 ?_
          refine lv_iload hx hb dX2_removeFrom_83 (lv_at hl 5 rfl) ?_
          refine va_iald hx hb hK hP 5 0 rfl rfl (vp_in_iff.mpr ⟨by omega, by omega⟩) dX2_removeFrom_85 ?_
          refine lv_topi (fun zi_230 ezi_230 => ?_)
          refine cj_v (wc := [(zd, .inr (2, [.ref zdc, .ref zdt, .ref zdf, .ref zdo, .ref zdd, .ref zdr, .int zi_167])), (zdc, .inl (cy 0, 8, .inl zf_168)), (zdt, .inl (cy 0, 8, .inl zf_169)), (zdf, .inl (cy 0, 8, .inl zf_170)), (zdo, .inl (cy 0, 8, .inl zf_171)), (zdd, .inl (cy 0, 8, .inl zf_172)), (zdr, .inl (cy 0, 8, .inl zf_173))]) (wr := []) (w1 := fun (u : (Int32) × (Nat → Int32) × (Nat → Int32) × (Nat → Int32) × (Nat → Int32) × (Nat → Int32) × (Nat → Int32)) => [(zd, .inr (2, [.ref zdc, .ref zdt, .ref zdf, .ref zdo, .ref zdd, .ref zdr, .int u.1])), (zdc, .inl (cy 0, 8, .inl u.2.1)), (zdt, .inl (cy 0, 8, .inl u.2.2.1)), (zdf, .inl (cy 0, 8, .inl u.2.2.2.1)), (zdo, .inl (cy 0, 8, .inl u.2.2.2.2.1)), (zdd, .inl (cy 0, 8, .inl u.2.2.2.2.2.1)), (zdr, .inl (cy 0, 8, .inl u.2.2.2.2.2.2))]) (va_runV (As := [.int zi_226, .int zi_227, .int zi_228, .int zi_229, .int zi_230]) (rest := []) ⟨hx, hb, hml, hown, hts⟩ (c_X2_add l dC dI cy H.size zd zi_226 zi_227 zi_228 zi_229 zi_230 zdc zdt zdf zdo zdd zdr zi_167 zf_168 zf_169 zf_170 zf_171 zf_172 zf_173 (by omega) (by omega) (by omega) (by omega) (by omega) h_zf_168 h_zf_169 h_zf_170 h_zf_171) (cwV 5 hts gX2_removeFrom_X2_add rfl rfl rfl (by decide +kernel) ⟨(Nat.le_of_ble_eq_true rfl), (Nat.le_of_ble_eq_true rfl)⟩) (PRE.v (hP.sub [0, 1, 2, 3, 4, 5, 6] rfl) hK (hD.sub [0, 1, 2, 3, 4, 5, 6] (by decide) rfl) hN (va_recv hK hP (ci := 2) (q0 := 0) rfl rfl)) rfl rfl hl.1 rfl (lv_room (Nat.le_of_ble_eq_true rfl)) dX2_removeFrom_86 ⟨(Nat.le_of_ble_eq_true rfl), (Nat.le_of_ble_eq_true rfl)⟩) hP hD hS hA [0, 1, 2, 3, 4, 5, 6] [] rfl rfl rfl (by decide) (fun u_231 H locs hw_233 hP hD hS => ?_)
          obtain ⟨zi_234, zf_235, zf_236, zf_237, zf_238, zf_239, zf_240⟩ := u_231
          have hP : va_P (dC, dI) vwCl [(zd, .inr (2, [.ref zdc, .ref zdt, .ref zdf, .ref zdo, .ref zdd, .ref zdr, .int zi_234])), (zdc, .inl (cy 0, 8, .inl zf_235)), (zdt, .inl (cy 0, 8, .inl zf_236)), (zdf, .inl (cy 0, 8, .inl zf_237)), (zdo, .inl (cy 0, 8, .inl zf_238)), (zdd, .inl (cy 0, 8, .inl zf_239)), (zdr, .inl (cy 0, 8, .inl zf_240))] H := hP
          have hD : va_D A [(zd, .inr (2, [.ref zdc, .ref zdt, .ref zdf, .ref zdo, .ref zdd, .ref zdr, .int zi_234])), (zdc, .inl (cy 0, 8, .inl zf_235)), (zdt, .inl (cy 0, 8, .inl zf_236)), (zdf, .inl (cy 0, 8, .inl zf_237)), (zdo, .inl (cy 0, 8, .inl zf_238)), (zdd, .inl (cy 0, 8, .inl zf_239)), (zdr, .inl (cy 0, 8, .inl zf_240))] := hD
          obtain ⟨b_zi_234, h_zf_235, h_zf_236, h_zf_237, h_zf_238⟩ : (1 ≤ zi_234.toInt ∧ zi_234.toInt ≤ 8) ∧ (RG zf_235 8 0 1) ∧ (RG zf_236 8 0 11) ∧ (RG zf_237 8 0 23) ∧ (RG zf_238 8 0 23) := hw_233
          refine lv_aload_n hx hb dX2_removeFrom_89 rfl (lv_at hl 1 rfl) ?_
          refine va_get (D := (dC, dI)) (ci := 2) (v := .ref zdr) (C := RX2) (T := TX2) (N := 7) hx hb hts (by decide +kernel) hown hK hP 0 rfl rfl 5 (by decide) (hts (.fieldLink RX2 27 "DripStone$Dates" "reasons" "[I") (by decide +kernel)) (fun _ h9 => h9) rfl dX2_removeFrom_90 ?_
          refine lv_aload_n hx hb dX2_removeFrom_93 rfl (lv_at hl 1 rfl) ?_
          refine va_get (D := (dC, dI)) (ci := 2) (v := .int zi_234) (C := RX2) (T := TX2) (N := 7) hx hb hts (by decide +kernel) hown hK hP 0 rfl rfl 6 (by decide) (hts (.fieldLink RX2 30 "DripStone$Dates" "held" "I") (by decide +kernel)) (fun _ h9 => h9) rfl dX2_removeFrom_94 ?_
          refine lv_iconst (v := 1) hx hb dX2_removeFrom_97 (by decide) ?_
          refine lv_isub hx hb dX2_removeFrom_98 ?_
          refine lv_topi (fun zi_241 ezi_241 => ?_)
          have tzi_241 : zi_241.toInt = zi_234.toInt - (1 : Int) := by rw [ezi_241]; exact tisub (rfl) (show (1 : Int32).toInt = 1 by decide) (by omega) (by omega)
          refine lv_iload hx hb dX2_removeFrom_99 (lv_at hl 0 rfl) ?_
          refine va_iast hx hb hK hP hD hS 6 0 rfl rfl (vp_in_iff.mpr ⟨by omega, by omega⟩) dX2_removeFrom_101 (fun H locs hP hD hS => ?_)
          have hP : va_P (dC, dI) vwCl [(zd, .inr (2, [.ref zdc, .ref zdt, .ref zdf, .ref zdo, .ref zdd, .ref zdr, .int zi_234])), (zdc, .inl (cy 0, 8, .inl zf_235)), (zdt, .inl (cy 0, 8, .inl zf_236)), (zdf, .inl (cy 0, 8, .inl zf_237)), (zdo, .inl (cy 0, 8, .inl zf_238)), (zdd, .inl (cy 0, 8, .inl zf_239)), (zdr, .inl (cy 0, 8, .inl (upd zf_240 zi_241.toNatClampNeg zi_225)))] H := hP
          have hD : va_D A [(zd, .inr (2, [.ref zdc, .ref zdt, .ref zdf, .ref zdo, .ref zdd, .ref zdr, .int zi_234])), (zdc, .inl (cy 0, 8, .inl zf_235)), (zdt, .inl (cy 0, 8, .inl zf_236)), (zdf, .inl (cy 0, 8, .inl zf_237)), (zdo, .inl (cy 0, 8, .inl zf_238)), (zdd, .inl (cy 0, 8, .inl zf_239)), (zdr, .inl (cy 0, 8, .inl (upd zf_240 zi_241.toNatClampNeg zi_225)))] := hD
          generalize uzf_242 : upd zf_240 zi_241.toNatClampNeg zi_225 = zf_242 at hP hD
          obtain ⟨zi_243, ezi_243⟩ : ∃ y : Int32, y = zi_166 + 1 := ⟨_, rfl⟩
          have tzi_243 : zi_243.toInt = zi_166.toInt + 1 := by rw [ezi_243]; exact tadd rfl (show (1 : Int32).toInt = 1 by decide) (by omega) (by omega)
          refine lv_iinc (v := zi_243) (lv' := [(4, .int zi_243), (5, .int zi_225), (0, .ref zd), (1, .int zia), (2, .int zib), (3, .int zidh)]) hx hb dX2_removeFrom_102 hl (k := 5) rfl (by rw [ezi_243]; rfl) (by decide) rfl (fun ls hl => ?_)
          refine lv_goto (tgt := 13) hx hb dX2_removeFrom_105 (by decide) ?_
          exact ih (zidh.toInt - zi_243.toInt).toNat (by omega) zi_243 zi_234 zf_235 zf_236 zf_237 zf_238 zf_239 zf_242 _ _ _ rfl (by omega) (by omega) h_zf_235 h_zf_236 h_zf_237 h_zf_238 (by omega) hP hD hS (lv_sub hl [2, 3, 4, 5, 0] rfl)
        refine lv_icmp_ne (tgt := 41) hx hb dX2_removeFrom_27 (by decide) (fun c_244 => ?_) (fun c_244 => ?_)
        · have f_245 : zi_215.toInt ≠ zia.toInt := ic_ne (rfl) (rfl) c_244
          exact jn_224  _ _ _  hP hD hS (lv_sub hl [0, 1, 2, 3, 4] rfl)
        · have f_245 : ¬ (zi_215.toInt ≠ zia.toInt) := ic_nne (rfl) (rfl) c_244
          refine lv_aload_n hx hb dX2_removeFrom_30 rfl (lv_at hl 0 rfl) ?_
          refine va_get (D := (dC, dI)) (ci := 2) (v := .ref zdt) (C := RX2) (T := TX2) (N := 7) hx hb hts (by decide +kernel) hown hK hP 0 rfl rfl 1 (by decide) (hts (.fieldLink RX2 15 "DripStone$Dates" "things" "[I") (by decide +kernel)) (fun _ h9 => h9) rfl dX2_removeFrom_31 ?_
          refine lv_iload hx hb dX2_removeFrom_34 (lv_at hl 4 rfl) ?_
          refine va_iald hx hb hK hP 2 0 rfl rfl (vp_in_iff.mpr ⟨by omega, by omega⟩) dX2_removeFrom_36 ?_
          refine lv_topi (fun zi_246 ezi_246 => ?_)
          have tzi_246 : 0 ≤ zi_246.toInt ∧ zi_246.toInt ≤ 11 := by rw [ezi_246]; exact RG.at h_zf_169 (by omega) (by omega)
          refine lv_iload_n hx hb dX2_removeFrom_37 rfl (lv_at hl 2 rfl) ?_
          refine lv_icmp_ge (tgt := 102) hx hb dX2_removeFrom_38 (by decide) (fun c_249 => ?_) (fun c_249 => ?_)
          · have f_250 : zi_246.toInt ≥ zib.toInt := ic_ge (rfl) (rfl) c_249
            obtain ⟨zi_251, ezi_251⟩ : ∃ y : Int32, y = zi_166 + 1 := ⟨_, rfl⟩
            have tzi_251 : zi_251.toInt = zi_166.toInt + 1 := by rw [ezi_251]; exact tadd rfl (show (1 : Int32).toInt = 1 by decide) (by omega) (by omega)
            refine lv_iinc (v := zi_251) (lv' := [(4, .int zi_251), (0, .ref zd), (1, .int zia), (2, .int zib), (3, .int zidh)]) hx hb dX2_removeFrom_102 hl (k := 4) rfl (by rw [ezi_251]; rfl) (by decide) rfl (fun ls hl => ?_)
            refine lv_goto (tgt := 13) hx hb dX2_removeFrom_105 (by decide) ?_
            exact ih (zidh.toInt - zi_251.toInt).toNat (by omega) zi_251 zi_167 zf_168 zf_169 zf_170 zf_171 zf_172 zf_173 _ _ _ rfl (by omega) (by omega) h_zf_168 h_zf_169 h_zf_170 h_zf_171 (by omega) hP hD hS (lv_sub hl [1, 2, 3, 4, 0] rfl)
          · have f_250 : ¬ (zi_246.toInt ≥ zib.toInt) := ic_nge (rfl) (rfl) c_249
            exact jn_224  _ _ _  hP hD hS (lv_sub hl [0, 1, 2, 3, 4] rfl)
  exact lp_212 _ (0 : Int32) (0 : Int32) zfdc zfdt zfdf zfdo zfdd zfdr _ _ _ rfl (by decide) (by decide) h_zfdc h_zfdt h_zfdf h_zfdo (by omega) hP hD hS (lv_sub hl [2, 3, 4, 1, 0] rfl)
set_option maxHeartbeats 8000000 in
set_option maxRecDepth 100000 in
theorem c_X2_thrown (l : Launch) (dC : Nat → ClassId) (dI : Nat → Nat → Nat) (cy : Nat → ClassId) (sz : Nat) (zd : Nat) (zdc : Nat) (zdt : Nat) (zdf : Nat) (zdo : Nat) (zdd : Nat) (zdr : Nat) (zidh : Int32) (zfdr : Nat → Int32) (b_zidh : 0 ≤ zidh.toInt ∧ zidh.toInt ≤ 8) : Met l yX2_thrown wsX2_thrown ({ frames := 0, cells := 0, slots := 0, locals := 0 } : Room) (va_Pc [.ref zd] (PRE dC dI cy [(zd, .inr (2, [.ref zdc, .ref zdt, .ref zdf, .ref zdo, .ref zdd, .ref zdr, .int zidh])), (zdr, .inl (cy 0, 8, .inl zfdr))] sz)) (va_Qi (fun (r : Int32) (u : Unit) => True) (fun u t => POST dC dI cy (va_A [(zd, .inr (2, [.ref zdc, .ref zdt, .ref zdf, .ref zdo, .ref zdd, .ref zdr, .int zidh])), (zdr, .inl (cy 0, 8, .inl zfdr))] sz) [(zd, .inr (2, [.ref zdc, .ref zdt, .ref zdf, .ref zdo, .ref zdd, .ref zdr, .int zidh])), (zdr, .inl (cy 0, 8, .inl zfdr))] t) (va_A [(zd, .inr (2, [.ref zdc, .ref zdt, .ref zdf, .ref zdo, .ref zdd, .ref zdr, .int zidh])), (zdr, .inl (cy 0, 8, .inl zfdr))] sz)) 0 0 (va_A [(zd, .inr (2, [.ref zdc, .ref zdt, .ref zdf, .ref zdo, .ref zdd, .ref zdr, .int zidh])), (zdr, .inl (cy 0, 8, .inl zfdr))] sz) := by
  refine Met.ofW (cc := cX2_thrown) (maxL := 3) (ret := (some .int)) (by decide) rfl ?_
  intro p e s m args below meth c s₁ B hml hv
  obtain ⟨rfl, hsz, hP, hK, hD0, hN⟩ := hv
  have hx := B.exec
  have hb := B.bytes
  have hr := B.returns
  have hts := atoms_spec (ws := wsX2_thrown) B.pre
  have hown : s.vm.findClass RX2 = some m.cls := findClass_of_methodNamed B.named
  have hlocks := B.notSynchronized
  subst hsz
  have hD := hD0.self (sz := s.heap.size)
  generalize hAe : va_A [(zd, .inr (2, [.ref zdc, .ref zdt, .ref zdf, .ref zdo, .ref zdd, .ref zdr, .int zidh])), (zdr, .inl (cy 0, 8, .inl zfdr))] s.heap.size = A at hD ⊢
  have hA : ∀ q : Nat, s.heap.size ≤ q → A q := fun q h => by rw [← hAe]; exact Or.inr h
  have hS : va_S A s.heap s.heap [] := va_S.rf
  have hP : va_P (dC, dI) vwCl [(zd, .inr (2, [.ref zdc, .ref zdt, .ref zdf, .ref zdo, .ref zdd, .ref zdr, .int zidh])), (zdr, .inl (cy 0, 8, .inl zfdr))] s.heap := hP
  have hl := lv_entry ([.ref zd] : List Value) (n := 3) (Nat.le_of_ble_eq_true rfl)
  rw [lg_entry_eq]
  generalize (lg_sl ([.ref zd] : List Value) ++ List.replicate (3 - (lg_sl ([.ref zd] : List Value)).length) Slot.unset).toArray = ls at hl ⊢
  have hl : lv_has ls 3 [(0, .ref zd)] := hl
  refine w_q (fun Q hQ => ?_)
  refine lv_iconst (v := 0) hx hb dX2_thrown_0 (by decide) ?_
  refine lv_istore_n (lv' := [(1, .int 0), (0, .ref zd)]) hx hb dX2_thrown_1 rfl hl (by decide) rfl (fun ls hl => ?_)
  refine lv_iconst (v := 0) hx hb dX2_thrown_2 (by decide) ?_
  refine lv_istore_n (lv' := [(2, .int 0), (1, .int 0), (0, .ref zd)]) hx hb dX2_thrown_3 rfl hl (by decide) rfl (fun ls hl => ?_)
  have lp_260 : ∀ (n : Nat) (zi_56 : Int32) (zi_57 : Int32) (H : Heap) (locs : List Loc) (ls : Array Slot), (8 - zi_57.toInt).toNat = n → (0 ≤ zi_57.toInt ∧ zi_57.toInt ≤ 8) → va_P (dC, dI) vwCl [(zd, .inr (2, [.ref zdc, .ref zdt, .ref zdf, .ref zdo, .ref zdd, .ref zdr, .int zidh])), (zdr, .inl (cy 0, 8, .inl zfdr))] H → va_D A [(zd, .inr (2, [.ref zdc, .ref zdt, .ref zdf, .ref zdo, .ref zdd, .ref zdr, .int zidh])), (zdr, .inl (cy 0, 8, .inl zfdr))] → va_S A s.heap H locs → lv_has ls 3 [(0, .ref zd), (1, .int zi_56), (2, .int zi_57)] → W p l e ({ frames := 0, cells := 0, slots := 0, locals := 0 } : Room) s m ([.ref zd] : List Value).toArray below meth c H locs 0 0 Q (F0 m 4 ls []) := by
    intro n
    induction n using Nat.strongRecOn with
    | _ n ih =>
      intro zi_56 zi_57 H locs ls hn b_zi_57 hP hD hS hl
      refine lv_iload_n hx hb dX2_thrown_4 rfl (lv_at hl 2 rfl) ?_
      refine lv_aload_n hx hb dX2_thrown_5 rfl (lv_at hl 0 rfl) ?_
      refine va_get (D := (dC, dI)) (ci := 2) (v := .int zidh) (C := RX2) (T := TX2) (N := 7) hx hb hts (by decide +kernel) hown hK hP 0 rfl rfl 6 (by decide) (hts (.fieldLink RX2 30 "DripStone$Dates" "held" "I") (by decide +kernel)) (fun _ h9 => h9) rfl dX2_thrown_6 ?_
      refine lv_icmp_ge (tgt := 35) hx hb dX2_thrown_9 (by decide) (fun c_261 => ?_) (fun c_261 => ?_)
      · have f_262 : zi_57.toInt ≥ zidh.toInt := ic_ge (rfl) (rfl) c_261
        refine lv_iload_n hx hb dX2_thrown_35 rfl (lv_at hl 1 rfl) ?_
        subst hQ
        have hP9 := hP.sub (ws' := [(zd, .inr (2, [.ref zdc, .ref zdt, .ref zdf, .ref zdo, .ref zdd, .ref zdr, .int zidh])), (zdr, .inl (cy 0, 8, .inl zfdr))]) [0, 1] rfl
        have hD9 := hD.sub (ws' := [(zd, .inr (2, [.ref zdc, .ref zdt, .ref zdf, .ref zdo, .ref zdd, .ref zdr, .int zidh])), (zdr, .inl (cy 0, 8, .inl zfdr))]) [0, 1] (by decide) rfl
        exact W.iret (v := zi_56) hx hb hr (fun t ht hW => ⟨⟨zi_56, (), rfl, trivial, ⟨by rw [ht]; exact hP9, va_K.moved hW.alike hK, hD9⟩⟩, hS.F ht⟩) hS.2.2 dX2_thrown_36
      · have f_262 : ¬ (zi_57.toInt ≥ zidh.toInt) := ic_nge (rfl) (rfl) c_261
        refine lv_iload_n hx hb dX2_thrown_12 rfl (lv_at hl 1 rfl) ?_
        refine lv_aload_n hx hb dX2_thrown_13 rfl (lv_at hl 0 rfl) ?_
        refine va_get (D := (dC, dI)) (ci := 2) (v := .ref zdr) (C := RX2) (T := TX2) (N := 7) hx hb hts (by decide +kernel) hown hK hP 0 rfl rfl 5 (by decide) (hts (.fieldLink RX2 27 "DripStone$Dates" "reasons" "[I") (by decide +kernel)) (fun _ h9 => h9) rfl dX2_thrown_14 ?_
        refine lv_iload_n hx hb dX2_thrown_17 rfl (lv_at hl 2 rfl) ?_
        refine va_iald hx hb hK hP 1 0 rfl rfl (vp_in_iff.mpr ⟨by omega, by omega⟩) dX2_thrown_18 ?_
        refine lv_topi (fun zi_263 ezi_263 => ?_)
        have jn_267 : ∀ (zi_266 : Int32) (H : Heap) (locs : List Loc) (ls : Array Slot), (0 ≤ zi_266.toInt ∧ zi_266.toInt ≤ 1) → va_P (dC, dI) vwCl [(zd, .inr (2, [.ref zdc, .ref zdt, .ref zdf, .ref zdo, .ref zdd, .ref zdr, .int zidh])), (zdr, .inl (cy 0, 8, .inl zfdr))] H → va_D A [(zd, .inr (2, [.ref zdc, .ref zdt, .ref zdf, .ref zdo, .ref zdd, .ref zdr, .int zidh])), (zdr, .inl (cy 0, 8, .inl zfdr))] → va_S A s.heap H locs → lv_has ls 3 [(0, .ref zd), (1, .int zi_56), (2, .int zi_57)] → W p l e ({ frames := 0, cells := 0, slots := 0, locals := 0 } : Room) s m ([.ref zd] : List Value).toArray below meth c H locs 0 0 Q (F0 m 27 ls [.int zi_266, .int zi_56]) := by
          intro zi_266 H locs ls b_zi_266 hP hD hS hl
          refine lv_iadd hx hb dX2_thrown_27 ?_
          refine lv_topi (fun zi_268 ezi_268 => ?_)
          refine lv_istore_n (lv' := [(1, .int zi_268), (0, .ref zd), (2, .int zi_57)]) hx hb dX2_thrown_28 rfl hl (by decide) rfl (fun ls hl => ?_)
          obtain ⟨zi_269, ezi_269⟩ : ∃ y : Int32, y = zi_57 + 1 := ⟨_, rfl⟩
          have tzi_269 : zi_269.toInt = zi_57.toInt + 1 := by rw [ezi_269]; exact tadd rfl (show (1 : Int32).toInt = 1 by decide) (by omega) (by omega)
          refine lv_iinc (v := zi_269) (lv' := [(2, .int zi_269), (1, .int zi_268), (0, .ref zd)]) hx hb dX2_thrown_29 hl (k := 2) rfl (by rw [ezi_269]; rfl) (by decide) rfl (fun ls hl => ?_)
          refine lv_goto (tgt := 4) hx hb dX2_thrown_32 (by decide) ?_
          exact ih (8 - zi_269.toInt).toNat (by omega) zi_268 zi_269 _ _ _ rfl (by omega) hP hD hS (lv_sub hl [2, 1, 0] rfl)
        refine lv_if_ne (tgt := 26) hx hb dX2_thrown_19 (by decide) (fun c_270 => ?_) (fun c_270 => ?_)
        · have f_271 : zi_263.toInt ≠ 0 := ic_ne (rfl) (by decide) c_270
          refine lv_iconst (v := 1) hx hb dX2_thrown_26 (by decide) ?_
          exact jn_267 (1 : Int32) _ _ _ (by decide) hP hD hS (lv_sub hl [0, 1, 2] rfl)
        · have f_271 : ¬ (zi_263.toInt ≠ 0) := ic_nne (rfl) (by decide) c_270
          refine lv_iconst (v := 0) hx hb dX2_thrown_22 (by decide) ?_
          refine lv_goto (tgt := 27) hx hb dX2_thrown_23 (by decide) ?_
          exact jn_267 (0 : Int32) _ _ _ (by decide) hP hD hS (lv_sub hl [0, 1, 2] rfl)
  exact lp_260 _ (0 : Int32) (0 : Int32) _ _ _ rfl (by decide) hP hD hS (lv_sub hl [2, 1, 0] rfl)
set_option maxHeartbeats 8000000 in
set_option maxRecDepth 100000 in
theorem c_X2_binding (l : Launch) (dC : Nat → ClassId) (dI : Nat → Nat → Nat) (cy : Nat → ClassId) (sz : Nat) (zd : Nat) (zia : Int32) (zdc : Nat) (zdt : Nat) (zdf : Nat) (zdo : Nat) (zdd : Nat) (zdr : Nat) (zidh : Int32) (zfdc : Nat → Int32) (zfdr : Nat → Int32) (b_zidh : 0 ≤ zidh.toInt ∧ zidh.toInt ≤ 8) (h_zfdc : RG zfdc 8 0 1) : Met l yX2_binding wsX2_binding ({ frames := 0, cells := 0, slots := 0, locals := 0 } : Room) (va_Pc [.ref zd, .int zia] (PRE dC dI cy [(zd, .inr (2, [.ref zdc, .ref zdt, .ref zdf, .ref zdo, .ref zdd, .ref zdr, .int zidh])), (zdc, .inl (cy 0, 8, .inl zfdc)), (zdr, .inl (cy 0, 8, .inl zfdr))] sz)) (va_Qi (fun (r : Int32) (u : Unit) => True) (fun u t => POST dC dI cy (va_A [(zd, .inr (2, [.ref zdc, .ref zdt, .ref zdf, .ref zdo, .ref zdd, .ref zdr, .int zidh])), (zdc, .inl (cy 0, 8, .inl zfdc)), (zdr, .inl (cy 0, 8, .inl zfdr))] sz) [(zd, .inr (2, [.ref zdc, .ref zdt, .ref zdf, .ref zdo, .ref zdd, .ref zdr, .int zidh])), (zdc, .inl (cy 0, 8, .inl zfdc)), (zdr, .inl (cy 0, 8, .inl zfdr))] t) (va_A [(zd, .inr (2, [.ref zdc, .ref zdt, .ref zdf, .ref zdo, .ref zdd, .ref zdr, .int zidh])), (zdc, .inl (cy 0, 8, .inl zfdc)), (zdr, .inl (cy 0, 8, .inl zfdr))] sz)) 0 0 (va_A [(zd, .inr (2, [.ref zdc, .ref zdt, .ref zdf, .ref zdo, .ref zdd, .ref zdr, .int zidh])), (zdc, .inl (cy 0, 8, .inl zfdc)), (zdr, .inl (cy 0, 8, .inl zfdr))] sz) := by
  refine Met.ofW (cc := cX2_binding) (maxL := 4) (ret := (some .int)) (by decide) rfl ?_
  intro p e s m args below meth c s₁ B hml hv
  obtain ⟨rfl, hsz, hP, hK, hD0, hN⟩ := hv
  have hx := B.exec
  have hb := B.bytes
  have hr := B.returns
  have hts := atoms_spec (ws := wsX2_binding) B.pre
  have hown : s.vm.findClass RX2 = some m.cls := findClass_of_methodNamed B.named
  have hlocks := B.notSynchronized
  subst hsz
  have hD := hD0.self (sz := s.heap.size)
  generalize hAe : va_A [(zd, .inr (2, [.ref zdc, .ref zdt, .ref zdf, .ref zdo, .ref zdd, .ref zdr, .int zidh])), (zdc, .inl (cy 0, 8, .inl zfdc)), (zdr, .inl (cy 0, 8, .inl zfdr))] s.heap.size = A at hD ⊢
  have hA : ∀ q : Nat, s.heap.size ≤ q → A q := fun q h => by rw [← hAe]; exact Or.inr h
  have hS : va_S A s.heap s.heap [] := va_S.rf
  have hP : va_P (dC, dI) vwCl [(zd, .inr (2, [.ref zdc, .ref zdt, .ref zdf, .ref zdo, .ref zdd, .ref zdr, .int zidh])), (zdc, .inl (cy 0, 8, .inl zfdc)), (zdr, .inl (cy 0, 8, .inl zfdr))] s.heap := hP
  have hl := lv_entry ([.ref zd, .int zia] : List Value) (n := 4) (Nat.le_of_ble_eq_true rfl)
  rw [lg_entry_eq]
  generalize (lg_sl ([.ref zd, .int zia] : List Value) ++ List.replicate (4 - (lg_sl ([.ref zd, .int zia] : List Value)).length) Slot.unset).toArray = ls at hl ⊢
  have hl : lv_has ls 4 [(0, .ref zd), (1, .int zia)] := hl
  refine w_q (fun Q hQ => ?_)
  refine lv_iconst (v := 0) hx hb dX2_binding_0 (by decide) ?_
  refine lv_istore_n (lv' := [(2, .int 0), (0, .ref zd), (1, .int zia)]) hx hb dX2_binding_1 rfl hl (by decide) rfl (fun ls hl => ?_)
  refine lv_iconst (v := 0) hx hb dX2_binding_2 (by decide) ?_
  refine lv_istore_n (lv' := [(3, .int 0), (2, .int 0), (0, .ref zd), (1, .int zia)]) hx hb dX2_binding_3 rfl hl (by decide) rfl (fun ls hl => ?_)
  have lp_437 : ∀ (n : Nat) (zi_80 : Int32) (zi_81 : Int32) (H : Heap) (locs : List Loc) (ls : Array Slot), (8 - zi_81.toInt).toNat = n → (0 ≤ zi_81.toInt ∧ zi_81.toInt ≤ 8) → va_P (dC, dI) vwCl [(zd, .inr (2, [.ref zdc, .ref zdt, .ref zdf, .ref zdo, .ref zdd, .ref zdr, .int zidh])), (zdc, .inl (cy 0, 8, .inl zfdc)), (zdr, .inl (cy 0, 8, .inl zfdr))] H → va_D A [(zd, .inr (2, [.ref zdc, .ref zdt, .ref zdf, .ref zdo, .ref zdd, .ref zdr, .int zidh])), (zdc, .inl (cy 0, 8, .inl zfdc)), (zdr, .inl (cy 0, 8, .inl zfdr))] → va_S A s.heap H locs → lv_has ls 4 [(0, .ref zd), (1, .int zia), (2, .int zi_80), (3, .int zi_81)] → W p l e ({ frames := 0, cells := 0, slots := 0, locals := 0 } : Room) s m ([.ref zd, .int zia] : List Value).toArray below meth c H locs 0 0 Q (F0 m 4 ls []) := by
    intro n
    induction n using Nat.strongRecOn with
    | _ n ih =>
      intro zi_80 zi_81 H locs ls hn b_zi_81 hP hD hS hl
      refine lv_iload_n hx hb dX2_binding_4 rfl (lv_at hl 3 rfl) ?_
      refine lv_aload_n hx hb dX2_binding_5 rfl (lv_at hl 0 rfl) ?_
      refine va_get (D := (dC, dI)) (ci := 2) (v := .int zidh) (C := RX2) (T := TX2) (N := 7) hx hb hts (by decide +kernel) hown hK hP 0 rfl rfl 6 (by decide) (hts (.fieldLink RX2 30 "DripStone$Dates" "held" "I") (by decide +kernel)) (fun _ h9 => h9) rfl dX2_binding_6 ?_
      refine lv_icmp_ge (tgt := 43) hx hb dX2_binding_9 (by decide) (fun c_438 => ?_) (fun c_438 => ?_)
      · have f_439 : zi_81.toInt ≥ zidh.toInt := ic_ge (rfl) (rfl) c_438
        refine lv_iload_n hx hb dX2_binding_43 rfl (lv_at hl 2 rfl) ?_
        subst hQ
        have hP9 := hP.sub (ws' := [(zd, .inr (2, [.ref zdc, .ref zdt, .ref zdf, .ref zdo, .ref zdd, .ref zdr, .int zidh])), (zdc, .inl (cy 0, 8, .inl zfdc)), (zdr, .inl (cy 0, 8, .inl zfdr))]) [0, 1, 2] rfl
        have hD9 := hD.sub (ws' := [(zd, .inr (2, [.ref zdc, .ref zdt, .ref zdf, .ref zdo, .ref zdd, .ref zdr, .int zidh])), (zdc, .inl (cy 0, 8, .inl zfdc)), (zdr, .inl (cy 0, 8, .inl zfdr))]) [0, 1, 2] (by decide) rfl
        exact W.iret (v := zi_80) hx hb hr (fun t ht hW => ⟨⟨zi_80, (), rfl, trivial, ⟨by rw [ht]; exact hP9, va_K.moved hW.alike hK, hD9⟩⟩, hS.F ht⟩) hS.2.2 dX2_binding_44
      · have f_439 : ¬ (zi_81.toInt ≥ zidh.toInt) := ic_nge (rfl) (rfl) c_438
        refine lv_aload_n hx hb dX2_binding_12 rfl (lv_at hl 0 rfl) ?_
        refine va_get (D := (dC, dI)) (ci := 2) (v := .ref zdc) (C := RX2) (T := TX2) (N := 7) hx hb hts (by decide +kernel) hown hK hP 0 rfl rfl 0 (by decide) (hts (.fieldLink RX2 9 "DripStone$Dates" "candles" "[I") (by decide +kernel)) (fun _ h9 => h9) rfl dX2_binding_13 ?_
        refine lv_iload_n hx hb dX2_binding_16 rfl (lv_at hl 3 rfl) ?_
        refine va_iald hx hb hK hP 1 0 rfl rfl (vp_in_iff.mpr ⟨by omega, by omega⟩) dX2_binding_17 ?_
        refine lv_topi (fun zi_440 ezi_440 => ?_)
        have tzi_440 : 0 ≤ zi_440.toInt ∧ zi_440.toInt ≤ 1 := by rw [ezi_440]; exact RG.at h_zfdc (by omega) (by omega)
        refine lv_iload_n hx hb dX2_binding_18 rfl (lv_at hl 1 rfl) ?_
        have jn_449 : ∀ (zi_448 : Int32) (H : Heap) (locs : List Loc) (ls : Array Slot), va_P (dC, dI) vwCl [(zd, .inr (2, [.ref zdc, .ref zdt, .ref zdf, .ref zdo, .ref zdd, .ref zdr, .int zidh])), (zdc, .inl (cy 0, 8, .inl zfdc)), (zdr, .inl (cy 0, 8, .inl zfdr))] H → va_D A [(zd, .inr (2, [.ref zdc, .ref zdt, .ref zdf, .ref zdo, .ref zdd, .ref zdr, .int zidh])), (zdc, .inl (cy 0, 8, .inl zfdc)), (zdr, .inl (cy 0, 8, .inl zfdr))] → va_S A s.heap H locs → lv_has ls 4 [(0, .ref zd), (1, .int zia), (2, .int zi_448), (3, .int zi_81)] → W p l e ({ frames := 0, cells := 0, slots := 0, locals := 0 } : Room) s m ([.ref zd, .int zia] : List Value).toArray below meth c H locs 0 0 Q (F0 m 37 ls []) := by
          intro zi_448 H locs ls  hP hD hS hl
          obtain ⟨zi_450, ezi_450⟩ : ∃ y : Int32, y = zi_81 + 1 := ⟨_, rfl⟩
          have tzi_450 : zi_450.toInt = zi_81.toInt + 1 := by rw [ezi_450]; exact tadd rfl (show (1 : Int32).toInt = 1 by decide) (by omega) (by omega)
          refine lv_iinc (v := zi_450) (lv' := [(3, .int zi_450), (0, .ref zd), (1, .int zia), (2, .int zi_448)]) hx hb dX2_binding_37 hl (k := 3) rfl (by rw [ezi_450]; rfl) (by decide) rfl (fun ls hl => ?_)
          refine lv_goto (tgt := 4) hx hb dX2_binding_40 (by decide) ?_
          exact ih (8 - zi_450.toInt).toNat (by omega) zi_448 zi_450 _ _ _ rfl (by omega) hP hD hS (lv_sub hl [1, 2, 3, 0] rfl)
        refine lv_icmp_ne (tgt := 37) hx hb dX2_binding_19 (by decide) (fun c_451 => ?_) (fun c_451 => ?_)
        · have f_452 : zi_440.toInt ≠ zia.toInt := ic_ne (rfl) (rfl) c_451
          exact jn_449 zi_80 _ _ _  hP hD hS (lv_sub hl [0, 1, 2, 3] rfl)
        · have f_452 : ¬ (zi_440.toInt ≠ zia.toInt) := ic_nne (rfl) (rfl) c_451
          refine lv_aload_n hx hb dX2_binding_22 rfl (lv_at hl 0 rfl) ?_
          refine va_get (D := (dC, dI)) (ci := 2) (v := .ref zdr) (C := RX2) (T := TX2) (N := 7) hx hb hts (by decide +kernel) hown hK hP 0 rfl rfl 5 (by decide) (hts (.fieldLink RX2 27 "DripStone$Dates" "reasons" "[I") (by decide +kernel)) (fun _ h9 => h9) rfl dX2_binding_23 ?_
          refine lv_iload_n hx hb dX2_binding_26 rfl (lv_at hl 3 rfl) ?_
          refine va_iald hx hb hK hP 2 0 rfl rfl (vp_in_iff.mpr ⟨by omega, by omega⟩) dX2_binding_27 ?_
          refine lv_topi (fun zi_453 ezi_453 => ?_)
          refine lv_if_ne (tgt := 37) hx hb dX2_binding_28 (by decide) (fun c_454 => ?_) (fun c_454 => ?_)
          · have f_455 : zi_453.toInt ≠ 0 := ic_ne (rfl) (by decide) c_454
            exact jn_449 zi_80 _ _ _  hP hD hS (lv_sub hl [0, 1, 2, 3] rfl)
          · have f_455 : ¬ (zi_453.toInt ≠ 0) := ic_nne (rfl) (by decide) c_454
            refine lv_iload_n hx hb dX2_binding_31 rfl (lv_at hl 2 rfl) ?_
            refine lv_iconst (v := 1) hx hb dX2_binding_32 (by decide) ?_
            refine lv_iload_n hx hb dX2_binding_33 rfl (lv_at hl 3 rfl) ?_
            refine lv_ishl hx hb dX2_binding_34 ?_
            refine lv_topi (fun zi_456 ezi_456 => ?_)
            have rzi_456 := rng zi_456
            refine lv_ior hx hb dX2_binding_35 ?_
            refine lv_topi (fun zi_457 ezi_457 => ?_)
            have rzi_457 := rng zi_457
            refine lv_istore_n (lv' := [(2, .int zi_457), (0, .ref zd), (1, .int zia), (3, .int zi_81)]) hx hb dX2_binding_36 rfl hl (by decide) rfl (fun ls hl => ?_)
            exact jn_449 zi_457 _ _ _  hP hD hS (lv_sub hl [1, 2, 0, 3] rfl)
  exact lp_437 _ (0 : Int32) (0 : Int32) _ _ _ rfl (by decide) hP hD hS (lv_sub hl [2, 3, 1, 0] rfl)
set_option maxHeartbeats 8000000 in
set_option maxRecDepth 100000 in
theorem c_X1_counts (l : Launch) (dC : Nat → ClassId) (dI : Nat → Nat → Nat) (cy : Nat → ClassId) (sz : Nat) (zm : Nat) (zia : Int32) (zc : Nat) (zit : Int32) (zmt : Nat) (zmw : Nat) (zmf : Nat) (zml : Nat) (zmg : Nat) (zmn : Nat) (zima : Int32) (zime : Int32) (zfmt : Nat → Int32) (zfmw : Nat → Int32) (zck : Nat) (zcw : Nat) (zcy : Nat) (zcs : Nat) (zcf : Nat) (zcl : Nat) (zcz : Nat) (zict : Int32) (zics : Int32) (zicm : Int32) (zicd : Int32) (zfck : Nat → Int32) (zfcw : Nat → Int32) (b_zia : 0 ≤ zia.toInt ∧ zia.toInt ≤ 1) (b_zit : 0 ≤ zit.toInt ∧ zit.toInt ≤ 11) (b_zima : 0 ≤ zima.toInt ∧ zima.toInt ≤ 2) (b_zime : 0 ≤ zime.toInt ∧ zime.toInt ≤ 1) (b_zict : 0 ≤ zict.toInt ∧ zict.toInt ≤ 12) (b_zics : 0 ≤ zics.toInt ∧ zics.toInt ≤ 6) (b_zicm : 1 ≤ zicm.toInt ∧ zicm.toInt ≤ 4) (b_zicd : 0 ≤ zicd.toInt ∧ zicd.toInt ≤ 1) : Met l yX1_counts wsX1_counts ({ frames := 1, cells := 0, slots := 0, locals := 21 } : Room) (va_Pc [.ref zm, .int zia, .ref zc, .int zit] (PRE dC dI cy [(zm, .inr (1, [.ref zmt, .ref zmw, .ref zmf, .ref zml, .ref zmg, .ref zmn, .int zima, .int zime])), (zmt, .inl (cy 0, 2, .inl zfmt)), (zmw, .inl (cy 0, 2, .inl zfmw)), (zc, .inr (0, [.ref zck, .ref zcw, .ref zcy, .ref zcs, .ref zcf, .ref zcl, .ref zcz, .int zict, .int zics, .int zicm, .int zicd])), (zck, .inl (cy 0, 12, .inl zfck)), (zcw, .inl (cy 0, 12, .inl zfcw))] sz)) (va_Qi (fun (r : Int32) (u : Unit) => (0 ≤ r.toInt ∧ r.toInt ≤ 1)) (fun u t => POST dC dI cy (va_A [(zm, .inr (1, [.ref zmt, .ref zmw, .ref zmf, .ref zml, .ref zmg, .ref zmn, .int zima, .int zime])), (zmt, .inl (cy 0, 2, .inl zfmt)), (zmw, .inl (cy 0, 2, .inl zfmw)), (zc, .inr (0, [.ref zck, .ref zcw, .ref zcy, .ref zcs, .ref zcf, .ref zcl, .ref zcz, .int zict, .int zics, .int zicm, .int zicd])), (zck, .inl (cy 0, 12, .inl zfck)), (zcw, .inl (cy 0, 12, .inl zfcw))] sz) [(zm, .inr (1, [.ref zmt, .ref zmw, .ref zmf, .ref zml, .ref zmg, .ref zmn, .int zima, .int zime])), (zmt, .inl (cy 0, 2, .inl zfmt)), (zmw, .inl (cy 0, 2, .inl zfmw)), (zc, .inr (0, [.ref zck, .ref zcw, .ref zcy, .ref zcs, .ref zcf, .ref zcl, .ref zcz, .int zict, .int zics, .int zicm, .int zicd])), (zck, .inl (cy 0, 12, .inl zfck)), (zcw, .inl (cy 0, 12, .inl zfcw))] t) (va_A [(zm, .inr (1, [.ref zmt, .ref zmw, .ref zmf, .ref zml, .ref zmg, .ref zmn, .int zima, .int zime])), (zmt, .inl (cy 0, 2, .inl zfmt)), (zmw, .inl (cy 0, 2, .inl zfmw)), (zc, .inr (0, [.ref zck, .ref zcw, .ref zcy, .ref zcs, .ref zcf, .ref zcl, .ref zcz, .int zict, .int zics, .int zicm, .int zicd])), (zck, .inl (cy 0, 12, .inl zfck)), (zcw, .inl (cy 0, 12, .inl zfcw))] sz)) 0 0 (va_A [(zm, .inr (1, [.ref zmt, .ref zmw, .ref zmf, .ref zml, .ref zmg, .ref zmn, .int zima, .int zime])), (zmt, .inl (cy 0, 2, .inl zfmt)), (zmw, .inl (cy 0, 2, .inl zfmw)), (zc, .inr (0, [.ref zck, .ref zcw, .ref zcy, .ref zcs, .ref zcf, .ref zcl, .ref zcz, .int zict, .int zics, .int zicm, .int zicd])), (zck, .inl (cy 0, 12, .inl zfck)), (zcw, .inl (cy 0, 12, .inl zfcw))] sz) := by
  refine Met.ofW (cc := cX1_counts) (maxL := 6) (ret := (some .boolean)) (by decide) rfl ?_
  intro p e s m args below meth c s₁ B hml hv
  obtain ⟨rfl, hsz, hP, hK, hD0, hN⟩ := hv
  have hx := B.exec
  have hb := B.bytes
  have hr := B.returns
  have hts := atoms_spec (ws := wsX1_counts) B.pre
  have hown : s.vm.findClass RX1 = some m.cls := findClass_of_methodNamed B.named
  have hlocks := B.notSynchronized
  subst hsz
  have hD := hD0.self (sz := s.heap.size)
  generalize hAe : va_A [(zm, .inr (1, [.ref zmt, .ref zmw, .ref zmf, .ref zml, .ref zmg, .ref zmn, .int zima, .int zime])), (zmt, .inl (cy 0, 2, .inl zfmt)), (zmw, .inl (cy 0, 2, .inl zfmw)), (zc, .inr (0, [.ref zck, .ref zcw, .ref zcy, .ref zcs, .ref zcf, .ref zcl, .ref zcz, .int zict, .int zics, .int zicm, .int zicd])), (zck, .inl (cy 0, 12, .inl zfck)), (zcw, .inl (cy 0, 12, .inl zfcw))] s.heap.size = A at hD ⊢
  have hA : ∀ q : Nat, s.heap.size ≤ q → A q := fun q h => by rw [← hAe]; exact Or.inr h
  have hS : va_S A s.heap s.heap [] := va_S.rf
  have hP : va_P (dC, dI) vwCl [(zm, .inr (1, [.ref zmt, .ref zmw, .ref zmf, .ref zml, .ref zmg, .ref zmn, .int zima, .int zime])), (zmt, .inl (cy 0, 2, .inl zfmt)), (zmw, .inl (cy 0, 2, .inl zfmw)), (zc, .inr (0, [.ref zck, .ref zcw, .ref zcy, .ref zcs, .ref zcf, .ref zcl, .ref zcz, .int zict, .int zics, .int zicm, .int zicd])), (zck, .inl (cy 0, 12, .inl zfck)), (zcw, .inl (cy 0, 12, .inl zfcw))] s.heap := hP
  have hl := lv_entry ([.ref zm, .int zia, .ref zc, .int zit] : List Value) (n := 6) (Nat.le_of_ble_eq_true rfl)
  rw [lg_entry_eq]
  generalize (lg_sl ([.ref zm, .int zia, .ref zc, .int zit] : List Value) ++ List.replicate (6 - (lg_sl ([.ref zm, .int zia, .ref zc, .int zit] : List Value)).length) Slot.unset).toArray = ls at hl ⊢
  have hl : lv_has ls 6 [(0, .ref zm), (1, .int zia), (2, .ref zc), (3, .int zit)] := hl
  refine w_q (fun Q hQ => ?_)
  refine lv_aload_n hx hb dX1_counts_0 rfl (lv_at hl 0 rfl) ?_
  refine va_get (D := (dC, dI)) (ci := 1) (v := .ref zmt) (C := RX1) (T := TX1) (N := 8) hx hb hts (by decide +kernel) hown hK hP 0 rfl rfl 0 (by decide) (hts (.fieldLink RX1 9 "DripStone$Claim" "tests" "[I") (by decide +kernel)) (fun _ h9 => h9) rfl dX1_counts_1 ?_
  refine lv_iload_n hx hb dX1_counts_4 rfl (lv_at hl 1 rfl) ?_
  refine va_iald hx hb hK hP 1 0 rfl rfl (vp_in_iff.mpr ⟨by omega, by omega⟩) dX1_counts_5 ?_
  refine lv_topi (fun zi_1 ezi_1 => ?_)
  refine lv_bipush (v := 42) hx hb dX1_counts_6 (by decide) ?_
  refine lv_icmp_ne (tgt := 17) hx hb dX1_counts_8 (by decide) (fun c_2 => ?_) (fun c_2 => ?_)
  · have f_3 : zi_1.toInt ≠ (42 : Int) := ic_ne (rfl) (show (42 : Int32).toInt = 42 by decide) c_2
    refine lv_aload_n hx hb dX1_counts_17 rfl (lv_at hl 2 rfl) ?_
    refine va_get (D := (dC, dI)) (ci := 0) (v := .ref zcw) (C := RX0) (T := TX0) (N := 11) hx hb hts (by decide +kernel) hown hK hP 3 rfl rfl 1 (by decide) (hts (.fieldLink RX1 37 "DripStone$Candle" "weights" "[I") (by decide +kernel)) (fun _ h9 => h9) rfl dX1_counts_18 ?_
    refine lv_iload_n hx hb dX1_counts_21 rfl (lv_at hl 3 rfl) ?_
    refine va_iald hx hb hK hP 5 0 rfl rfl (vp_in_iff.mpr ⟨by omega, by omega⟩) dX1_counts_22 ?_
    refine lv_topi (fun zi_4 ezi_4 => ?_)
    refine lv_istore (lv' := [(4, .int zi_4), (0, .ref zm), (1, .int zia), (2, .ref zc), (3, .int zit)]) hx hb dX1_counts_23 hl (by decide) rfl (fun ls hl => ?_)
    refine lv_aload_n hx hb dX1_counts_25 rfl (lv_at hl 1 rfl) ?_
    refine va_get (D := (dC, dI)) (ci := 1) (v := .ref zmt) (C := RX1) (T := TX1) (N := 8) hx hb hts (by decide +kernel) hown hK hP 0 rfl rfl 0 (by decide) (hts (.fieldLink RX1 9 "DripStone$Claim" "tests" "[I") (by decide +kernel)) (fun _ h9 => h9) rfl dX1_counts_26 ?_
    refine lv_iload_n hx hb dX1_counts_29 rfl (lv_at hl 2 rfl) ?_
    refine va_iald hx hb hK hP 1 0 rfl rfl (vp_in_iff.mpr ⟨by omega, by omega⟩) dX1_counts_30 ?_
    refine lv_topi (fun zi_5 ezi_5 => ?_)
    obtain rfl : zi_1 = zi_5 := (ezi_5.trans ezi_1.symm).symm
    refine lv_bipush (v := 60) hx hb dX1_counts_31 (by decide) ?_
    have jn_15 : ∀ (zi_14 : Int32) (H : Heap) (locs : List Loc) (ls : Array Slot), (0 ≤ zi_14.toInt ∧ zi_14.toInt ≤ 1) → va_P (dC, dI) vwCl [(zm, .inr (1, [.ref zmt, .ref zmw, .ref zmf, .ref zml, .ref zmg, .ref zmn, .int zima, .int zime])), (zmt, .inl (cy 0, 2, .inl zfmt)), (zmw, .inl (cy 0, 2, .inl zfmw)), (zc, .inr (0, [.ref zck, .ref zcw, .ref zcy, .ref zcs, .ref zcf, .ref zcl, .ref zcz, .int zict, .int zics, .int zicm, .int zicd])), (zck, .inl (cy 0, 12, .inl zfck)), (zcw, .inl (cy 0, 12, .inl zfcw))] H → va_D A [(zm, .inr (1, [.ref zmt, .ref zmw, .ref zmf, .ref zml, .ref zmg, .ref zmn, .int zima, .int zime])), (zmt, .inl (cy 0, 2, .inl zfmt)), (zmw, .inl (cy 0, 2, .inl zfmw)), (zc, .inr (0, [.ref zck, .ref zcw, .ref zcy, .ref zcs, .ref zcf, .ref zcl, .ref zcz, .int zict, .int zics, .int zicm, .int zicd])), (zck, .inl (cy 0, 12, .inl zfck)), (zcw, .inl (cy 0, 12, .inl zfcw))] → va_S A s.heap H locs → lv_has ls 6 [(0, .ref zm), (1, .int zia), (2, .ref zc), (3, .int zit), (4, .int zi_4)] → W p l e ({ frames := 1, cells := 0, slots := 0, locals := 21 } : Room) s m ([.ref zm, .int zia, .ref zc, .int zit] : List Value).toArray below meth c H locs 0 0 Q (F0 m 71 ls [.int zi_14]) := by
      intro zi_14 H locs ls b_zi_14 hP hD hS hl
      refine lv_istore (lv' := [(5, .int zi_14), (0, .ref zm), (1, .int zia), (2, .ref zc), (3, .int zit), (4, .int zi_4)]) hx hb dX1_counts_71 hl (by decide) rfl (fun ls hl => ?_)
      refine lv_aload_n hx hb dX1_counts_73 rfl (lv_at hl 3 rfl) ?_
      refine va_get (D := (dC, dI)) (ci := 0) (v := .ref zck) (C := RX0) (T := TX0) (N := 11) hx hb hts (by decide +kernel) hown hK hP 3 rfl rfl 0 (by decide) (hts (.fieldLink RX1 38 "DripStone$Candle" "kinds" "[I") (by decide +kernel)) (fun _ h9 => h9) rfl dX1_counts_74 ?_
      refine lv_iload_n hx hb dX1_counts_77 rfl (lv_at hl 4 rfl) ?_
      refine va_iald hx hb hK hP 4 0 rfl rfl (vp_in_iff.mpr ⟨by omega, by omega⟩) dX1_counts_78 ?_
      refine lv_topi (fun zi_16 ezi_16 => ?_)
      refine lv_if_ne (tgt := 91) hx hb dX1_counts_79 (by decide) (fun c_17 => ?_) (fun c_17 => ?_)
      · have f_18 : zi_16.toInt ≠ 0 := ic_ne (rfl) (by decide) c_17
        refine lv_iconst (v := 0) hx hb dX1_counts_91 (by decide) ?_
        subst hQ
        have qc_0 : (0 : Int32).toInt = 0 := by decide
        have hP9 := hP.sub (ws' := [(zm, .inr (1, [.ref zmt, .ref zmw, .ref zmf, .ref zml, .ref zmg, .ref zmn, .int zima, .int zime])), (zmt, .inl (cy 0, 2, .inl zfmt)), (zmw, .inl (cy 0, 2, .inl zfmw)), (zc, .inr (0, [.ref zck, .ref zcw, .ref zcy, .ref zcs, .ref zcf, .ref zcl, .ref zcz, .int zict, .int zics, .int zicm, .int zicd])), (zck, .inl (cy 0, 12, .inl zfck)), (zcw, .inl (cy 0, 12, .inl zfcw))]) [0, 1, 2, 3, 4, 5] rfl
        have hD9 := hD.sub (ws' := [(zm, .inr (1, [.ref zmt, .ref zmw, .ref zmf, .ref zml, .ref zmg, .ref zmn, .int zima, .int zime])), (zmt, .inl (cy 0, 2, .inl zfmt)), (zmw, .inl (cy 0, 2, .inl zfmw)), (zc, .inr (0, [.ref zck, .ref zcw, .ref zcy, .ref zcs, .ref zcf, .ref zcl, .ref zcz, .int zict, .int zics, .int zicm, .int zicd])), (zck, .inl (cy 0, 12, .inl zfck)), (zcw, .inl (cy 0, 12, .inl zfcw))]) [0, 1, 2, 3, 4, 5] (by decide) rfl
        exact W.zret (v := (0 : Int32)) hx hb hr rfl (fun t ht hW => ⟨⟨(0 : Int32), (), rfl, (show 0 ≤ (0 : Int32).toInt ∧ (0 : Int32).toInt ≤ 1 from by omega), ⟨by rw [ht]; exact hP9, va_K.moved hW.alike hK, hD9⟩⟩, hS.F ht⟩) hS.2.2 dX1_counts_92
      · have f_18 : ¬ (zi_16.toInt ≠ 0) := ic_nne (rfl) (by decide) c_17
        refine lv_iload hx hb dX1_counts_82 (lv_at hl 0 rfl) ?_
        refine lv_if_eq (tgt := 91) hx hb dX1_counts_84 (by decide) (fun c_19 => ?_) (fun c_19 => ?_)
        · have f_20 : zi_14.toInt = 0 := ic_eq (rfl) (by decide) c_19
          refine lv_iconst (v := 0) hx hb dX1_counts_91 (by decide) ?_
          subst hQ
          have qc_0 : (0 : Int32).toInt = 0 := by decide
          have hP9 := hP.sub (ws' := [(zm, .inr (1, [.ref zmt, .ref zmw, .ref zmf, .ref zml, .ref zmg, .ref zmn, .int zima, .int zime])), (zmt, .inl (cy 0, 2, .inl zfmt)), (zmw, .inl (cy 0, 2, .inl zfmw)), (zc, .inr (0, [.ref zck, .ref zcw, .ref zcy, .ref zcs, .ref zcf, .ref zcl, .ref zcz, .int zict, .int zics, .int zicm, .int zicd])), (zck, .inl (cy 0, 12, .inl zfck)), (zcw, .inl (cy 0, 12, .inl zfcw))]) [0, 1, 2, 3, 4, 5] rfl
          have hD9 := hD.sub (ws' := [(zm, .inr (1, [.ref zmt, .ref zmw, .ref zmf, .ref zml, .ref zmg, .ref zmn, .int zima, .int zime])), (zmt, .inl (cy 0, 2, .inl zfmt)), (zmw, .inl (cy 0, 2, .inl zfmw)), (zc, .inr (0, [.ref zck, .ref zcw, .ref zcy, .ref zcs, .ref zcf, .ref zcl, .ref zcz, .int zict, .int zics, .int zicm, .int zicd])), (zck, .inl (cy 0, 12, .inl zfck)), (zcw, .inl (cy 0, 12, .inl zfcw))]) [0, 1, 2, 3, 4, 5] (by decide) rfl
          exact W.zret (v := (0 : Int32)) hx hb hr rfl (fun t ht hW => ⟨⟨(0 : Int32), (), rfl, (show 0 ≤ (0 : Int32).toInt ∧ (0 : Int32).toInt ≤ 1 from by omega), ⟨by rw [ht]; exact hP9, va_K.moved hW.alike hK, hD9⟩⟩, hS.F ht⟩) hS.2.2 dX1_counts_92
        · have f_20 : ¬ (zi_14.toInt = 0) := ic_neq (rfl) (by decide) c_19
          refine lv_iconst (v := 1) hx hb dX1_counts_87 (by decide) ?_
          refine lv_goto (tgt := 92) hx hb dX1_counts_88 (by decide) ?_
          subst hQ
          have qc_1 : (1 : Int32).toInt = 1 := by decide
          have hP9 := hP.sub (ws' := [(zm, .inr (1, [.ref zmt, .ref zmw, .ref zmf, .ref zml, .ref zmg, .ref zmn, .int zima, .int zime])), (zmt, .inl (cy 0, 2, .inl zfmt)), (zmw, .inl (cy 0, 2, .inl zfmw)), (zc, .inr (0, [.ref zck, .ref zcw, .ref zcy, .ref zcs, .ref zcf, .ref zcl, .ref zcz, .int zict, .int zics, .int zicm, .int zicd])), (zck, .inl (cy 0, 12, .inl zfck)), (zcw, .inl (cy 0, 12, .inl zfcw))]) [0, 1, 2, 3, 4, 5] rfl
          have hD9 := hD.sub (ws' := [(zm, .inr (1, [.ref zmt, .ref zmw, .ref zmf, .ref zml, .ref zmg, .ref zmn, .int zima, .int zime])), (zmt, .inl (cy 0, 2, .inl zfmt)), (zmw, .inl (cy 0, 2, .inl zfmw)), (zc, .inr (0, [.ref zck, .ref zcw, .ref zcy, .ref zcs, .ref zcf, .ref zcl, .ref zcz, .int zict, .int zics, .int zicm, .int zicd])), (zck, .inl (cy 0, 12, .inl zfck)), (zcw, .inl (cy 0, 12, .inl zfcw))]) [0, 1, 2, 3, 4, 5] (by decide) rfl
          exact W.zret (v := (1 : Int32)) hx hb hr rfl (fun t ht hW => ⟨⟨(1 : Int32), (), rfl, (show 0 ≤ (1 : Int32).toInt ∧ (1 : Int32).toInt ≤ 1 from by omega), ⟨by rw [ht]; exact hP9, va_K.moved hW.alike hK, hD9⟩⟩, hS.F ht⟩) hS.2.2 dX1_counts_92
    refine lv_icmp_ne (tgt := 55) hx hb dX1_counts_33 (by decide) (fun c_21 => ?_) (fun c_21 => ?_)
    · have f_22 : zi_1.toInt ≠ (60 : Int) := ic_ne (rfl) (show (60 : Int32).toInt = 60 by decide) c_21
      refine lv_iload hx hb dX1_counts_55 (lv_at hl 0 rfl) ?_
      refine lv_aload_n hx hb dX1_counts_57 rfl (lv_at hl 1 rfl) ?_
      refine va_get (D := (dC, dI)) (ci := 1) (v := .ref zmw) (C := RX1) (T := TX1) (N := 8) hx hb hts (by decide +kernel) hown hK hP 0 rfl rfl 1 (by decide) (hts (.fieldLink RX1 15 "DripStone$Claim" "weights" "[I") (by decide +kernel)) (fun _ h9 => h9) rfl dX1_counts_58 ?_
      refine lv_iload_n hx hb dX1_counts_61 rfl (lv_at hl 2 rfl) ?_
      refine va_iald hx hb hK hP 2 0 rfl rfl (vp_in_iff.mpr ⟨by omega, by omega⟩) dX1_counts_62 ?_
      refine lv_topi (fun zi_23 ezi_23 => ?_)
      refine lv_icmp_le (tgt := 70) hx hb dX1_counts_63 (by decide) (fun c_24 => ?_) (fun c_24 => ?_)
      · have f_25 : zi_4.toInt ≤ zi_23.toInt := ic_le (rfl) (rfl) c_24
        refine lv_iconst (v := 0) hx hb dX1_counts_70 (by decide) ?_
        exact jn_15 (0 : Int32) _ _ _ (by decide) hP hD hS (lv_sub hl [1, 2, 3, 4, 0] rfl)
      · have f_25 : ¬ (zi_4.toInt ≤ zi_23.toInt) := ic_nle (rfl) (rfl) c_24
        refine lv_iconst (v := 1) hx hb dX1_counts_66 (by decide) ?_
        refine lv_goto (tgt := 71) hx hb dX1_counts_67 (by decide) ?_
        exact jn_15 (1 : Int32) _ _ _ (by decide) hP hD hS (lv_sub hl [1, 2, 3, 4, 0] rfl)
    · have f_22 : ¬ (zi_1.toInt ≠ (60 : Int)) := ic_nne (rfl) (show (60 : Int32).toInt = 60 by decide) c_21
      refine lv_iload hx hb dX1_counts_36 (lv_at hl 0 rfl) ?_
      refine lv_aload_n hx hb dX1_counts_38 rfl (lv_at hl 1 rfl) ?_
      refine va_get (D := (dC, dI)) (ci := 1) (v := .ref zmw) (C := RX1) (T := TX1) (N := 8) hx hb hts (by decide +kernel) hown hK hP 0 rfl rfl 1 (by decide) (hts (.fieldLink RX1 15 "DripStone$Claim" "weights" "[I") (by decide +kernel)) (fun _ h9 => h9) rfl dX1_counts_39 ?_
      refine lv_iload_n hx hb dX1_counts_42 rfl (lv_at hl 2 rfl) ?_
      refine va_iald hx hb hK hP 2 0 rfl rfl (vp_in_iff.mpr ⟨by omega, by omega⟩) dX1_counts_43 ?_
      refine lv_topi (fun zi_26 ezi_26 => ?_)
      refine lv_icmp_ge (tgt := 51) hx hb dX1_counts_44 (by decide) (fun c_27 => ?_) (fun c_27 => ?_)
      · have f_28 : zi_4.toInt ≥ zi_26.toInt := ic_ge (rfl) (rfl) c_27
        refine lv_iconst (v := 0) hx hb dX1_counts_51 (by decide) ?_
        refine lv_goto (tgt := 71) hx hb dX1_counts_52 (by decide) ?_
        exact jn_15 (0 : Int32) _ _ _ (by decide) hP hD hS (lv_sub hl [1, 2, 3, 4, 0] rfl)
      · have f_28 : ¬ (zi_4.toInt ≥ zi_26.toInt) := ic_nge (rfl) (rfl) c_27
        refine lv_iconst (v := 1) hx hb dX1_counts_47 (by decide) ?_
        refine lv_goto (tgt := 71) hx hb dX1_counts_48 (by decide) ?_
        exact jn_15 (1 : Int32) _ _ _ (by decide) hP hD hS (lv_sub hl [1, 2, 3, 4, 0] rfl)
  · have f_3 : ¬ (zi_1.toInt ≠ (42 : Int)) := ic_nne (rfl) (show (42 : Int32).toInt = 42 by decide) c_2
    refine lv_aload_n hx hb dX1_counts_11 rfl (lv_at hl 2 rfl) ?_
    refine lv_iload_n hx hb dX1_counts_12 rfl (lv_at hl 3 rfl) ?_
    refine cj_i (wc := [(zc, .inr (0, [.ref zck, .ref zcw, .ref zcy, .ref zcs, .ref zcf, .ref zcl, .ref zcz, .int zict, .int zics, .int zicm, .int zicd])), (zck, .inl (cy 0, 12, .inl zfck))]) (wr := [(zm, .inr (1, [.ref zmt, .ref zmw, .ref zmf, .ref zml, .ref zmg, .ref zmn, .int zima, .int zime])), (zmt, .inl (cy 0, 2, .inl zfmt)), (zmw, .inl (cy 0, 2, .inl zfmw)), (zcw, .inl (cy 0, 12, .inl zfcw))]) (w1 := fun (u : Unit) => [(zc, .inr (0, [.ref zck, .ref zcw, .ref zcy, .ref zcs, .ref zcf, .ref zcl, .ref zcz, .int zict, .int zics, .int zicm, .int zicd])), (zck, .inl (cy 0, 12, .inl zfck))]) (va_runV (As := [.int zit]) (rest := []) ⟨hx, hb, hml, hown, hts⟩ (c_X0_isPlace l dC dI cy s.heap.size zc zit zck zcw zcy zcs zcf zcl zcz zict zics zicm zicd zfck (by omega) (by omega) (by omega) (by omega) (by omega)) (cwV 1 hts gX1_counts_X0_isPlace rfl rfl rfl (by decide +kernel) ⟨(Nat.le_of_ble_eq_true rfl), (Nat.le_of_ble_eq_true rfl)⟩) (PRE.v (hP.sub [3, 4] rfl) hK (hD.sub [3, 4] (by decide) rfl) hN (va_recv hK hP (ci := 0) (q0 := 3) rfl rfl)) rfl rfl hl.1 rfl (lv_room (Nat.le_of_ble_eq_true rfl)) dX1_counts_13 ⟨(Nat.le_of_ble_eq_true rfl), (Nat.le_of_ble_eq_true rfl)⟩) hP hD hS hA [3, 4] [0, 1, 2, 5] rfl rfl rfl (by decide) (fun zi_30 u_29 H locs hw_31 hP hD hS => ?_)
    have hP : va_P (dC, dI) vwCl [(zm, .inr (1, [.ref zmt, .ref zmw, .ref zmf, .ref zml, .ref zmg, .ref zmn, .int zima, .int zime])), (zmt, .inl (cy 0, 2, .inl zfmt)), (zmw, .inl (cy 0, 2, .inl zfmw)), (zcw, .inl (cy 0, 12, .inl zfcw)), (zc, .inr (0, [.ref zck, .ref zcw, .ref zcy, .ref zcs, .ref zcf, .ref zcl, .ref zcz, .int zict, .int zics, .int zicm, .int zicd])), (zck, .inl (cy 0, 12, .inl zfck))] H := hP
    have hD : va_D A [(zm, .inr (1, [.ref zmt, .ref zmw, .ref zmf, .ref zml, .ref zmg, .ref zmn, .int zima, .int zime])), (zmt, .inl (cy 0, 2, .inl zfmt)), (zmw, .inl (cy 0, 2, .inl zfmw)), (zcw, .inl (cy 0, 12, .inl zfcw)), (zc, .inr (0, [.ref zck, .ref zcw, .ref zcy, .ref zcs, .ref zcf, .ref zcl, .ref zcz, .int zict, .int zics, .int zicm, .int zicd])), (zck, .inl (cy 0, 12, .inl zfck))] := hD
    obtain ⟨b_zi_30, ps_32⟩ : (0 ≤ zi_30.toInt ∧ zi_30.toInt ≤ 1) ∧ ((zi_30.toInt = 0 ∧ (zfck zit.toNatClampNeg).toInt = 2) ∨ (zi_30.toInt = 1 ∧ ¬ (zfck zit.toNatClampNeg).toInt = 2)) := hw_31
    subst hQ
    have hP9 := hP.sub (ws' := [(zm, .inr (1, [.ref zmt, .ref zmw, .ref zmf, .ref zml, .ref zmg, .ref zmn, .int zima, .int zime])), (zmt, .inl (cy 0, 2, .inl zfmt)), (zmw, .inl (cy 0, 2, .inl zfmw)), (zc, .inr (0, [.ref zck, .ref zcw, .ref zcy, .ref zcs, .ref zcf, .ref zcl, .ref zcz, .int zict, .int zics, .int zicm, .int zicd])), (zck, .inl (cy 0, 12, .inl zfck)), (zcw, .inl (cy 0, 12, .inl zfcw))]) [0, 1, 2, 4, 5, 3] rfl
    have hD9 := hD.sub (ws' := [(zm, .inr (1, [.ref zmt, .ref zmw, .ref zmf, .ref zml, .ref zmg, .ref zmn, .int zima, .int zime])), (zmt, .inl (cy 0, 2, .inl zfmt)), (zmw, .inl (cy 0, 2, .inl zfmw)), (zc, .inr (0, [.ref zck, .ref zcw, .ref zcy, .ref zcs, .ref zcf, .ref zcl, .ref zcz, .int zict, .int zics, .int zicm, .int zicd])), (zck, .inl (cy 0, 12, .inl zfck)), (zcw, .inl (cy 0, 12, .inl zfcw))]) [0, 1, 2, 4, 5, 3] (by decide) rfl
    exact W.zret (v := zi_30) hx hb hr (zb_n2 (by omega)) (fun t ht hW => ⟨⟨zi_30, (), rfl, (show 0 ≤ zi_30.toInt ∧ zi_30.toInt ≤ 1 from by omega), ⟨by rw [ht]; exact hP9, va_K.moved hW.alike hK, hD9⟩⟩, hS.F ht⟩) hS.2.2 dX1_counts_16
set_option maxHeartbeats 8000000 in
set_option maxRecDepth 100000 in
theorem c_X1_seenInTruth (l : Launch) (dC : Nat → ClassId) (dI : Nat → Nat → Nat) (cy : Nat → ClassId) (sz : Nat) (zm : Nat) (zia : Int32) (zc : Nat) (zmt : Nat) (zmw : Nat) (zmf : Nat) (zml : Nat) (zmg : Nat) (zmn : Nat) (zima : Int32) (zime : Int32) (zfmt : Nat → Int32) (zfmw : Nat → Int32) (zfmf : Nat → Int32) (zfml : Nat → Int32) (zck : Nat) (zcw : Nat) (zcy : Nat) (zcs : Nat) (zcf : Nat) (zcl : Nat) (zcz : Nat) (zict : Int32) (zics : Int32) (zicm : Int32) (zicd : Int32) (zfck : Nat → Int32) (zfcw : Nat → Int32) (zfcy : Nat → Int32) (b_zia : 0 ≤ zia.toInt ∧ zia.toInt ≤ 1) (b_zima : 0 ≤ zima.toInt ∧ zima.toInt ≤ 2) (b_zime : 0 ≤ zime.toInt ∧ zime.toInt ≤ 1) (b_zict : 0 ≤ zict.toInt ∧ zict.toInt ≤ 12) (b_zics : 0 ≤ zics.toInt ∧ zics.toInt ≤ 6) (b_zicm : 1 ≤ zicm.toInt ∧ zicm.toInt ≤ 4) (b_zicd : 0 ≤ zicd.toInt ∧ zicd.toInt ≤ 1) : Met l yX1_seenInTruth wsX1_seenInTruth ({ frames := 2, cells := 0, slots := 0, locals := 46 } : Room) (va_Pc [.ref zm, .int zia, .ref zc] (PRE dC dI cy [(zm, .inr (1, [.ref zmt, .ref zmw, .ref zmf, .ref zml, .ref zmg, .ref zmn, .int zima, .int zime])), (zmt, .inl (cy 0, 2, .inl zfmt)), (zmw, .inl (cy 0, 2, .inl zfmw)), (zmf, .inl (cy 0, 2, .inl zfmf)), (zml, .inl (cy 0, 2, .inl zfml)), (zc, .inr (0, [.ref zck, .ref zcw, .ref zcy, .ref zcs, .ref zcf, .ref zcl, .ref zcz, .int zict, .int zics, .int zicm, .int zicd])), (zck, .inl (cy 0, 12, .inl zfck)), (zcw, .inl (cy 0, 12, .inl zfcw)), (zcy, .inl (cy 0, 12, .inl zfcy))] sz)) (va_Qi (fun (r : Int32) (u : Unit) => True) (fun u t => POST dC dI cy (va_A [(zm, .inr (1, [.ref zmt, .ref zmw, .ref zmf, .ref zml, .ref zmg, .ref zmn, .int zima, .int zime])), (zmt, .inl (cy 0, 2, .inl zfmt)), (zmw, .inl (cy 0, 2, .inl zfmw)), (zmf, .inl (cy 0, 2, .inl zfmf)), (zml, .inl (cy 0, 2, .inl zfml)), (zc, .inr (0, [.ref zck, .ref zcw, .ref zcy, .ref zcs, .ref zcf, .ref zcl, .ref zcz, .int zict, .int zics, .int zicm, .int zicd])), (zck, .inl (cy 0, 12, .inl zfck)), (zcw, .inl (cy 0, 12, .inl zfcw)), (zcy, .inl (cy 0, 12, .inl zfcy))] sz) [(zm, .inr (1, [.ref zmt, .ref zmw, .ref zmf, .ref zml, .ref zmg, .ref zmn, .int zima, .int zime])), (zmt, .inl (cy 0, 2, .inl zfmt)), (zmw, .inl (cy 0, 2, .inl zfmw)), (zmf, .inl (cy 0, 2, .inl zfmf)), (zml, .inl (cy 0, 2, .inl zfml)), (zc, .inr (0, [.ref zck, .ref zcw, .ref zcy, .ref zcs, .ref zcf, .ref zcl, .ref zcz, .int zict, .int zics, .int zicm, .int zicd])), (zck, .inl (cy 0, 12, .inl zfck)), (zcw, .inl (cy 0, 12, .inl zfcw)), (zcy, .inl (cy 0, 12, .inl zfcy))] t) (va_A [(zm, .inr (1, [.ref zmt, .ref zmw, .ref zmf, .ref zml, .ref zmg, .ref zmn, .int zima, .int zime])), (zmt, .inl (cy 0, 2, .inl zfmt)), (zmw, .inl (cy 0, 2, .inl zfmw)), (zmf, .inl (cy 0, 2, .inl zfmf)), (zml, .inl (cy 0, 2, .inl zfml)), (zc, .inr (0, [.ref zck, .ref zcw, .ref zcy, .ref zcs, .ref zcf, .ref zcl, .ref zcz, .int zict, .int zics, .int zicm, .int zicd])), (zck, .inl (cy 0, 12, .inl zfck)), (zcw, .inl (cy 0, 12, .inl zfcw)), (zcy, .inl (cy 0, 12, .inl zfcy))] sz)) 0 0 (va_A [(zm, .inr (1, [.ref zmt, .ref zmw, .ref zmf, .ref zml, .ref zmg, .ref zmn, .int zima, .int zime])), (zmt, .inl (cy 0, 2, .inl zfmt)), (zmw, .inl (cy 0, 2, .inl zfmw)), (zmf, .inl (cy 0, 2, .inl zfmf)), (zml, .inl (cy 0, 2, .inl zfml)), (zc, .inr (0, [.ref zck, .ref zcw, .ref zcy, .ref zcs, .ref zcf, .ref zcl, .ref zcz, .int zict, .int zics, .int zicm, .int zicd])), (zck, .inl (cy 0, 12, .inl zfck)), (zcw, .inl (cy 0, 12, .inl zfcw)), (zcy, .inl (cy 0, 12, .inl zfcy))] sz) := by
  refine Met.ofW (cc := cX1_seenInTruth) (maxL := 5) (ret := (some .int)) (by decide) rfl ?_
  intro p e s m args below meth c s₁ B hml hv
  obtain ⟨rfl, hsz, hP, hK, hD0, hN⟩ := hv
  have hx := B.exec
  have hb := B.bytes
  have hr := B.returns
  have hts := atoms_spec (ws := wsX1_seenInTruth) B.pre
  have hown : s.vm.findClass RX1 = some m.cls := findClass_of_methodNamed B.named
  have hlocks := B.notSynchronized
  subst hsz
  have hD := hD0.self (sz := s.heap.size)
  generalize hAe : va_A [(zm, .inr (1, [.ref zmt, .ref zmw, .ref zmf, .ref zml, .ref zmg, .ref zmn, .int zima, .int zime])), (zmt, .inl (cy 0, 2, .inl zfmt)), (zmw, .inl (cy 0, 2, .inl zfmw)), (zmf, .inl (cy 0, 2, .inl zfmf)), (zml, .inl (cy 0, 2, .inl zfml)), (zc, .inr (0, [.ref zck, .ref zcw, .ref zcy, .ref zcs, .ref zcf, .ref zcl, .ref zcz, .int zict, .int zics, .int zicm, .int zicd])), (zck, .inl (cy 0, 12, .inl zfck)), (zcw, .inl (cy 0, 12, .inl zfcw)), (zcy, .inl (cy 0, 12, .inl zfcy))] s.heap.size = A at hD ⊢
  have hA : ∀ q : Nat, s.heap.size ≤ q → A q := fun q h => by rw [← hAe]; exact Or.inr h
  have hS : va_S A s.heap s.heap [] := va_S.rf
  have hP : va_P (dC, dI) vwCl [(zm, .inr (1, [.ref zmt, .ref zmw, .ref zmf, .ref zml, .ref zmg, .ref zmn, .int zima, .int zime])), (zmt, .inl (cy 0, 2, .inl zfmt)), (zmw, .inl (cy 0, 2, .inl zfmw)), (zmf, .inl (cy 0, 2, .inl zfmf)), (zml, .inl (cy 0, 2, .inl zfml)), (zc, .inr (0, [.ref zck, .ref zcw, .ref zcy, .ref zcs, .ref zcf, .ref zcl, .ref zcz, .int zict, .int zics, .int zicm, .int zicd])), (zck, .inl (cy 0, 12, .inl zfck)), (zcw, .inl (cy 0, 12, .inl zfcw)), (zcy, .inl (cy 0, 12, .inl zfcy))] s.heap := hP
  have hl := lv_entry ([.ref zm, .int zia, .ref zc] : List Value) (n := 5) (Nat.le_of_ble_eq_true rfl)
  rw [lg_entry_eq]
  generalize (lg_sl ([.ref zm, .int zia, .ref zc] : List Value) ++ List.replicate (5 - (lg_sl ([.ref zm, .int zia, .ref zc] : List Value)).length) Slot.unset).toArray = ls at hl ⊢
  have hl : lv_has ls 5 [(0, .ref zm), (1, .int zia), (2, .ref zc)] := hl
  refine w_q (fun Q hQ => ?_)
  refine lv_iconst (v := 0) hx hb dX1_seenInTruth_0 (by decide) ?_
  refine lv_istore_n (lv' := [(3, .int 0), (0, .ref zm), (1, .int zia), (2, .ref zc)]) hx hb dX1_seenInTruth_1 rfl hl (by decide) rfl (fun ls hl => ?_)
  refine lv_iconst (v := 0) hx hb dX1_seenInTruth_2 (by decide) ?_
  refine lv_istore (lv' := [(4, .int 0), (3, .int 0), (0, .ref zm), (1, .int zia), (2, .ref zc)]) hx hb dX1_seenInTruth_3 hl (by decide) rfl (fun ls hl => ?_)
  have lp_676 : ∀ (n : Nat) (zi_149 : Int32) (zi_150 : Int32) (H : Heap) (locs : List Loc) (ls : Array Slot), (12 - zi_150.toInt).toNat = n → (0 ≤ zi_150.toInt ∧ zi_150.toInt ≤ 12) → va_P (dC, dI) vwCl [(zm, .inr (1, [.ref zmt, .ref zmw, .ref zmf, .ref zml, .ref zmg, .ref zmn, .int zima, .int zime])), (zmt, .inl (cy 0, 2, .inl zfmt)), (zmw, .inl (cy 0, 2, .inl zfmw)), (zmf, .inl (cy 0, 2, .inl zfmf)), (zml, .inl (cy 0, 2, .inl zfml)), (zc, .inr (0, [.ref zck, .ref zcw, .ref zcy, .ref zcs, .ref zcf, .ref zcl, .ref zcz, .int zict, .int zics, .int zicm, .int zicd])), (zck, .inl (cy 0, 12, .inl zfck)), (zcw, .inl (cy 0, 12, .inl zfcw)), (zcy, .inl (cy 0, 12, .inl zfcy))] H → va_D A [(zm, .inr (1, [.ref zmt, .ref zmw, .ref zmf, .ref zml, .ref zmg, .ref zmn, .int zima, .int zime])), (zmt, .inl (cy 0, 2, .inl zfmt)), (zmw, .inl (cy 0, 2, .inl zfmw)), (zmf, .inl (cy 0, 2, .inl zfmf)), (zml, .inl (cy 0, 2, .inl zfml)), (zc, .inr (0, [.ref zck, .ref zcw, .ref zcy, .ref zcs, .ref zcf, .ref zcl, .ref zcz, .int zict, .int zics, .int zicm, .int zicd])), (zck, .inl (cy 0, 12, .inl zfck)), (zcw, .inl (cy 0, 12, .inl zfcw)), (zcy, .inl (cy 0, 12, .inl zfcy))] → va_S A s.heap H locs → lv_has ls 5 [(0, .ref zm), (1, .int zia), (2, .ref zc), (3, .int zi_149), (4, .int zi_150)] → W p l e ({ frames := 2, cells := 0, slots := 0, locals := 46 } : Room) s m ([.ref zm, .int zia, .ref zc] : List Value).toArray below meth c H locs 0 0 Q (F0 m 5 ls []) := by
    intro n
    induction n using Nat.strongRecOn with
    | _ n ih =>
      intro zi_149 zi_150 H locs ls hn b_zi_150 hP hD hS hl
      refine lv_iload hx hb dX1_seenInTruth_5 (lv_at hl 4 rfl) ?_
      refine lv_aload_n hx hb dX1_seenInTruth_7 rfl (lv_at hl 2 rfl) ?_
      refine va_get (D := (dC, dI)) (ci := 0) (v := .int zict) (C := RX0) (T := TX0) (N := 11) hx hb hts (by decide +kernel) hown hK hP 5 rfl rfl 7 (by decide) (hts (.fieldLink RX1 41 "DripStone$Candle" "things" "I") (by decide +kernel)) (fun _ h9 => h9) rfl dX1_seenInTruth_8 ?_
      refine lv_icmp_ge (tgt := 59) hx hb dX1_seenInTruth_11 (by decide) (fun c_677 => ?_) (fun c_677 => ?_)
      · have f_678 : zi_150.toInt ≥ zict.toInt := ic_ge (rfl) (rfl) c_677
        refine lv_iload_n hx hb dX1_seenInTruth_59 rfl (lv_at hl 3 rfl) ?_
        subst hQ
        have hP9 := hP.sub (ws' := [(zm, .inr (1, [.ref zmt, .ref zmw, .ref zmf, .ref zml, .ref zmg, .ref zmn, .int zima, .int zime])), (zmt, .inl (cy 0, 2, .inl zfmt)), (zmw, .inl (cy 0, 2, .inl zfmw)), (zmf, .inl (cy 0, 2, .inl zfmf)), (zml, .inl (cy 0, 2, .inl zfml)), (zc, .inr (0, [.ref zck, .ref zcw, .ref zcy, .ref zcs, .ref zcf, .ref zcl, .ref zcz, .int zict, .int zics, .int zicm, .int zicd])), (zck, .inl (cy 0, 12, .inl zfck)), (zcw, .inl (cy 0, 12, .inl zfcw)), (zcy, .inl (cy 0, 12, .inl zfcy))]) [0, 1, 2, 3, 4, 5, 6, 7, 8] rfl
        have hD9 := hD.sub (ws' := [(zm, .inr (1, [.ref zmt, .ref zmw, .ref zmf, .ref zml, .ref zmg, .ref zmn, .int zima, .int zime])), (zmt, .inl (cy 0, 2, .inl zfmt)), (zmw, .inl (cy 0, 2, .inl zfmw)), (zmf, .inl (cy 0, 2, .inl zfmf)), (zml, .inl (cy 0, 2, .inl zfml)), (zc, .inr (0, [.ref zck, .ref zcw, .ref zcy, .ref zcs, .ref zcf, .ref zcl, .ref zcz, .int zict, .int zics, .int zicm, .int zicd])), (zck, .inl (cy 0, 12, .inl zfck)), (zcw, .inl (cy 0, 12, .inl zfcw)), (zcy, .inl (cy 0, 12, .inl zfcy))]) [0, 1, 2, 3, 4, 5, 6, 7, 8] (by decide) rfl
        exact W.iret (v := zi_149) hx hb hr (fun t ht hW => ⟨⟨zi_149, (), rfl, trivial, ⟨by rw [ht]; exact hP9, va_K.moved hW.alike hK, hD9⟩⟩, hS.F ht⟩) hS.2.2 dX1_seenInTruth_60
      · have f_678 : ¬ (zi_150.toInt ≥ zict.toInt) := ic_nge (rfl) (rfl) c_677
        refine lv_aload_n hx hb dX1_seenInTruth_14 rfl (lv_at hl 0 rfl) ?_
        refine lv_iload_n hx hb dX1_seenInTruth_15 rfl (lv_at hl 1 rfl) ?_
        refine lv_aload_n hx hb dX1_seenInTruth_16 rfl (lv_at hl 2 rfl) ?_
        refine lv_iload hx hb dX1_seenInTruth_17 (lv_at hl 4 rfl) ?_
        refine cj_i (wc := [(zm, .inr (1, [.ref zmt, .ref zmw, .ref zmf, .ref zml, .ref zmg, .ref zmn, .int zima, .int zime])), (zmt, .inl (cy 0, 2, .inl zfmt)), (zmw, .inl (cy 0, 2, .inl zfmw)), (zc, .inr (0, [.ref zck, .ref zcw, .ref zcy, .ref zcs, .ref zcf, .ref zcl, .ref zcz, .int zict, .int zics, .int zicm, .int zicd])), (zck, .inl (cy 0, 12, .inl zfck)), (zcw, .inl (cy 0, 12, .inl zfcw))]) (wr := [(zmf, .inl (cy 0, 2, .inl zfmf)), (zml, .inl (cy 0, 2, .inl zfml)), (zcy, .inl (cy 0, 12, .inl zfcy))]) (w1 := fun (u : Unit) => [(zm, .inr (1, [.ref zmt, .ref zmw, .ref zmf, .ref zml, .ref zmg, .ref zmn, .int zima, .int zime])), (zmt, .inl (cy 0, 2, .inl zfmt)), (zmw, .inl (cy 0, 2, .inl zfmw)), (zc, .inr (0, [.ref zck, .ref zcw, .ref zcy, .ref zcs, .ref zcf, .ref zcl, .ref zcz, .int zict, .int zics, .int zicm, .int zicd])), (zck, .inl (cy 0, 12, .inl zfck)), (zcw, .inl (cy 0, 12, .inl zfcw))]) (va_runV (As := [.int zia, .ref zc, .int zi_150]) (rest := []) ⟨hx, hb, hml, hown, hts⟩ (c_X1_counts l dC dI cy H.size zm zia zc zi_150 zmt zmw zmf zml zmg zmn zima zime zfmt zfmw zck zcw zcy zcs zcf zcl zcz zict zics zicm zicd zfck zfcw (by omega) (by omega) (by omega) (by omega) (by omega) (by omega) (by omega) (by omega)) (cwV 3 hts gX1_seenInTruth_X1_counts rfl rfl rfl (by decide +kernel) ⟨(Nat.le_of_ble_eq_true rfl), (Nat.le_of_ble_eq_true rfl)⟩) (PRE.v (hP.sub [0, 1, 2, 5, 6, 7] rfl) hK (hD.sub [0, 1, 2, 5, 6, 7] (by decide) rfl) hN (va_recv hK hP (ci := 1) (q0 := 0) rfl rfl)) rfl rfl hl.1 rfl (lv_room (Nat.le_of_ble_eq_true rfl)) dX1_seenInTruth_19 ⟨(Nat.le_of_ble_eq_true rfl), (Nat.le_of_ble_eq_true rfl)⟩) hP hD hS hA [0, 1, 2, 5, 6, 7] [3, 4, 8] rfl rfl rfl (by decide) (fun zi_680 u_679 H locs hw_681 hP hD hS => ?_)
        have hP : va_P (dC, dI) vwCl [(zmf, .inl (cy 0, 2, .inl zfmf)), (zml, .inl (cy 0, 2, .inl zfml)), (zcy, .inl (cy 0, 12, .inl zfcy)), (zm, .inr (1, [.ref zmt, .ref zmw, .ref zmf, .ref zml, .ref zmg, .ref zmn, .int zima, .int zime])), (zmt, .inl (cy 0, 2, .inl zfmt)), (zmw, .inl (cy 0, 2, .inl zfmw)), (zc, .inr (0, [.ref zck, .ref zcw, .ref zcy, .ref zcs, .ref zcf, .ref zcl, .ref zcz, .int zict, .int zics, .int zicm, .int zicd])), (zck, .inl (cy 0, 12, .inl zfck)), (zcw, .inl (cy 0, 12, .inl zfcw))] H := hP
        have hD : va_D A [(zmf, .inl (cy 0, 2, .inl zfmf)), (zml, .inl (cy 0, 2, .inl zfml)), (zcy, .inl (cy 0, 12, .inl zfcy)), (zm, .inr (1, [.ref zmt, .ref zmw, .ref zmf, .ref zml, .ref zmg, .ref zmn, .int zima, .int zime])), (zmt, .inl (cy 0, 2, .inl zfmt)), (zmw, .inl (cy 0, 2, .inl zfmw)), (zc, .inr (0, [.ref zck, .ref zcw, .ref zcy, .ref zcs, .ref zcf, .ref zcl, .ref zcz, .int zict, .int zics, .int zicm, .int zicd])), (zck, .inl (cy 0, 12, .inl zfck)), (zcw, .inl (cy 0, 12, .inl zfcw))] := hD
        have b_zi_680 : 0 ≤ zi_680.toInt ∧ zi_680.toInt ≤ 1 := hw_681
        have jn_694 : ∀ (zi_693 : Int32) (H : Heap) (locs : List Loc) (ls : Array Slot), va_P (dC, dI) vwCl [(zmf, .inl (cy 0, 2, .inl zfmf)), (zml, .inl (cy 0, 2, .inl zfml)), (zcy, .inl (cy 0, 12, .inl zfcy)), (zm, .inr (1, [.ref zmt, .ref zmw, .ref zmf, .ref zml, .ref zmg, .ref zmn, .int zima, .int zime])), (zmt, .inl (cy 0, 2, .inl zfmt)), (zmw, .inl (cy 0, 2, .inl zfmw)), (zc, .inr (0, [.ref zck, .ref zcw, .ref zcy, .ref zcs, .ref zcf, .ref zcl, .ref zcz, .int zict, .int zics, .int zicm, .int zicd])), (zck, .inl (cy 0, 12, .inl zfck)), (zcw, .inl (cy 0, 12, .inl zfcw))] H → va_D A [(zmf, .inl (cy 0, 2, .inl zfmf)), (zml, .inl (cy 0, 2, .inl zfml)), (zcy, .inl (cy 0, 12, .inl zfcy)), (zm, .inr (1, [.ref zmt, .ref zmw, .ref zmf, .ref zml, .ref zmg, .ref zmn, .int zima, .int zime])), (zmt, .inl (cy 0, 2, .inl zfmt)), (zmw, .inl (cy 0, 2, .inl zfmw)), (zc, .inr (0, [.ref zck, .ref zcw, .ref zcy, .ref zcs, .ref zcf, .ref zcl, .ref zcz, .int zict, .int zics, .int zicm, .int zicd])), (zck, .inl (cy 0, 12, .inl zfck)), (zcw, .inl (cy 0, 12, .inl zfcw))] → va_S A s.heap H locs → lv_has ls 5 [(0, .ref zm), (1, .int zia), (2, .ref zc), (3, .int zi_693), (4, .int zi_150)] → W p l e ({ frames := 2, cells := 0, slots := 0, locals := 46 } : Room) s m ([.ref zm, .int zia, .ref zc] : List Value).toArray below meth c H locs 0 0 Q (F0 m 53 ls []) := by
          intro zi_693 H locs ls  hP hD hS hl
          obtain ⟨zi_695, ezi_695⟩ : ∃ y : Int32, y = zi_150 + 1 := ⟨_, rfl⟩
          have tzi_695 : zi_695.toInt = zi_150.toInt + 1 := by rw [ezi_695]; exact tadd rfl (show (1 : Int32).toInt = 1 by decide) (by omega) (by omega)
          refine lv_iinc (v := zi_695) (lv' := [(4, .int zi_695), (0, .ref zm), (1, .int zia), (2, .ref zc), (3, .int zi_693)]) hx hb dX1_seenInTruth_53 hl (k := 4) rfl (by rw [ezi_695]; rfl) (by decide) rfl (fun ls hl => ?_)
          refine lv_goto (tgt := 5) hx hb dX1_seenInTruth_56 (by decide) ?_
          exact ih (12 - zi_695.toInt).toNat (by omega) zi_693 zi_695 _ _ _ rfl (by omega) (hP.sub [3, 4, 5, 0, 1, 6, 7, 8, 2] rfl) (hD.sub [3, 4, 5, 0, 1, 6, 7, 8, 2] (by decide) rfl) hS (lv_sub hl [1, 2, 3, 4, 0] rfl)
        refine lv_if_eq (tgt := 53) hx hb dX1_seenInTruth_22 (by decide) (fun c_696 => ?_) (fun c_696 => ?_)
        · have f_697 : zi_680.toInt = 0 := ic_eq (rfl) (by decide) c_696
          exact jn_694 zi_149 _ _ _  hP hD hS (lv_sub hl [0, 1, 2, 3, 4] rfl)
        · have f_697 : ¬ (zi_680.toInt = 0) := ic_neq (rfl) (by decide) c_696
          refine lv_aload_n hx hb dX1_seenInTruth_25 rfl (lv_at hl 2 rfl) ?_
          refine va_get (D := (dC, dI)) (ci := 0) (v := .ref zcy) (C := RX0) (T := TX0) (N := 11) hx hb hts (by decide +kernel) hown hK hP 6 rfl rfl 2 (by decide) (hts (.fieldLink RX1 49 "DripStone$Candle" "years" "[I") (by decide +kernel)) (fun _ h9 => h9) rfl dX1_seenInTruth_26 ?_
          refine lv_iload hx hb dX1_seenInTruth_29 (lv_at hl 4 rfl) ?_
          refine va_iald hx hb hK hP 2 0 rfl rfl (vp_in_iff.mpr ⟨by omega, by omega⟩) dX1_seenInTruth_31 ?_
          refine lv_topi (fun zi_698 ezi_698 => ?_)
          refine lv_aload_n hx hb dX1_seenInTruth_32 rfl (lv_at hl 0 rfl) ?_
          refine va_get (D := (dC, dI)) (ci := 1) (v := .ref zmf) (C := RX1) (T := TX1) (N := 8) hx hb hts (by decide +kernel) hown hK hP 3 rfl rfl 2 (by decide) (hts (.fieldLink RX1 18 "DripStone$Claim" "firsts" "[I") (by decide +kernel)) (fun _ h9 => h9) rfl dX1_seenInTruth_33 ?_
          refine lv_iload_n hx hb dX1_seenInTruth_36 rfl (lv_at hl 1 rfl) ?_
          refine va_iald hx hb hK hP 0 0 rfl rfl (vp_in_iff.mpr ⟨by omega, by omega⟩) dX1_seenInTruth_37 ?_
          refine lv_topi (fun zi_699 ezi_699 => ?_)
          refine lv_aload_n hx hb dX1_seenInTruth_38 rfl (lv_at hl 0 rfl) ?_
          refine va_get (D := (dC, dI)) (ci := 1) (v := .ref zml) (C := RX1) (T := TX1) (N := 8) hx hb hts (by decide +kernel) hown hK hP 3 rfl rfl 3 (by decide) (hts (.fieldLink RX1 21 "DripStone$Claim" "lasts" "[I") (by decide +kernel)) (fun _ h9 => h9) rfl dX1_seenInTruth_39 ?_
          refine lv_iload_n hx hb dX1_seenInTruth_42 rfl (lv_at hl 1 rfl) ?_
          refine va_iald hx hb hK hP 1 0 rfl rfl (vp_in_iff.mpr ⟨by omega, by omega⟩) dX1_seenInTruth_43 ?_
          refine lv_topi (fun zi_700 ezi_700 => ?_)
          refine cj_i (wc := []) (wr := [(zmf, .inl (cy 0, 2, .inl zfmf)), (zml, .inl (cy 0, 2, .inl zfml)), (zcy, .inl (cy 0, 12, .inl zfcy)), (zm, .inr (1, [.ref zmt, .ref zmw, .ref zmf, .ref zml, .ref zmg, .ref zmn, .int zima, .int zime])), (zmt, .inl (cy 0, 2, .inl zfmt)), (zmw, .inl (cy 0, 2, .inl zfmw)), (zc, .inr (0, [.ref zck, .ref zcw, .ref zcy, .ref zcs, .ref zcf, .ref zcl, .ref zcz, .int zict, .int zics, .int zicm, .int zicd])), (zck, .inl (cy 0, 12, .inl zfck)), (zcw, .inl (cy 0, 12, .inl zfcw))]) (w1 := fun (_ : Unit) => []) (va_runSN (As := [.int zi_698, .int zi_699, .int zi_700]) (rest := []) ⟨hx, hb, hml, hown, hts⟩ (c_X10_isWithin l dC dI cy H.size zi_698 zi_699 zi_700 zi_699.toInt zi_700.toInt (by first | rfl | decide | omega | exact Int32.toInt_toInt64 _) (by first | rfl | decide | omega | exact Int32.toInt_toInt64 _)) ⟨va_cnB 3 hts ggX1_seenInTruth_X10_isWithin rfl rfl rfl (n0_18 hN) (hts (.initialized RX10) (by decide +kernel)) (by decide +kernel) ⟨(Nat.le_of_ble_eq_true rfl), (Nat.le_of_ble_eq_true rfl)⟩, hts (.static yX10_isWithin) (by decide +kernel), trivial⟩ (PRE.s (hP.sub [] rfl) hK (hD.sub [] (by decide) rfl) hN) rfl rfl hl.1 rfl (lv_room (Nat.le_of_ble_eq_true rfl)) dX1_seenInTruth_44 ⟨(Nat.le_of_ble_eq_true rfl), (Nat.le_of_ble_eq_true rfl)⟩) hP hD hS hA [] [0, 1, 2, 3, 4, 5, 6, 7, 8] rfl rfl rfl (by decide) (fun zi_702 u_701 H locs hw_703 hP hD hS => ?_)
          have hP : va_P (dC, dI) vwCl [(zmf, .inl (cy 0, 2, .inl zfmf)), (zml, .inl (cy 0, 2, .inl zfml)), (zcy, .inl (cy 0, 12, .inl zfcy)), (zm, .inr (1, [.ref zmt, .ref zmw, .ref zmf, .ref zml, .ref zmg, .ref zmn, .int zima, .int zime])), (zmt, .inl (cy 0, 2, .inl zfmt)), (zmw, .inl (cy 0, 2, .inl zfmw)), (zc, .inr (0, [.ref zck, .ref zcw, .ref zcy, .ref zcs, .ref zcf, .ref zcl, .ref zcz, .int zict, .int zics, .int zicm, .int zicd])), (zck, .inl (cy 0, 12, .inl zfck)), (zcw, .inl (cy 0, 12, .inl zfcw))] H := hP
          have hD : va_D A [(zmf, .inl (cy 0, 2, .inl zfmf)), (zml, .inl (cy 0, 2, .inl zfml)), (zcy, .inl (cy 0, 12, .inl zfcy)), (zm, .inr (1, [.ref zmt, .ref zmw, .ref zmf, .ref zml, .ref zmg, .ref zmn, .int zima, .int zime])), (zmt, .inl (cy 0, 2, .inl zfmt)), (zmw, .inl (cy 0, 2, .inl zfmw)), (zc, .inr (0, [.ref zck, .ref zcw, .ref zcy, .ref zcs, .ref zcf, .ref zcl, .ref zcz, .int zict, .int zics, .int zicm, .int zicd])), (zck, .inl (cy 0, 12, .inl zfck)), (zcw, .inl (cy 0, 12, .inl zfcw))] := hD
          have hw_703 : zi_702 = if zi_699.toInt ≤ zi_698.toInt ∧ zi_698.toInt ≤ zi_700.toInt then 1 else 0 := hw_703
          have b_zi_702 : 0 ≤ zi_702.toInt ∧ zi_702.toInt ≤ 1 := bz_b hw_703
          refine lv_if_eq (tgt := 53) hx hb dX1_seenInTruth_47 (by decide) (fun c_704 => ?_) (fun c_704 => ?_)
          · have f_705 : ¬ (zi_699.toInt ≤ zi_698.toInt ∧ zi_698.toInt ≤ zi_700.toInt) := bz_0 hw_703 c_704
            exact jn_694 zi_149 _ _ _  hP hD hS (lv_sub hl [0, 1, 2, 3, 4] rfl)
          · have f_705 : zi_699.toInt ≤ zi_698.toInt ∧ zi_698.toInt ≤ zi_700.toInt := bz_1 hw_703 c_704
            obtain ⟨zi_706, ezi_706⟩ : ∃ y : Int32, y = zi_149 + 1 := ⟨_, rfl⟩
            refine lv_iinc (v := zi_706) (lv' := [(3, .int zi_706), (0, .ref zm), (1, .int zia), (2, .ref zc), (4, .int zi_150)]) hx hb dX1_seenInTruth_50 hl (k := 3) rfl (by rw [ezi_706]; rfl) (by decide) rfl (fun ls hl => ?_)
            exact jn_694 zi_706 _ _ _  hP hD hS (lv_sub hl [1, 2, 3, 0, 4] rfl)
  exact lp_676 _ (0 : Int32) (0 : Int32) _ _ _ rfl (by decide) hP hD hS (lv_sub hl [2, 3, 4, 1, 0] rfl)
set_option maxHeartbeats 8000000 in
set_option maxRecDepth 100000 in
theorem c_X1_isSo (l : Launch) (dC : Nat → ClassId) (dI : Nat → Nat → Nat) (cy : Nat → ClassId) (sz : Nat) (zm : Nat) (zia : Int32) (zib : Int32) (zmt : Nat) (zmw : Nat) (zmf : Nat) (zml : Nat) (zmg : Nat) (zmn : Nat) (zima : Int32) (zime : Int32) (zfmg : Nat → Int32) (zfmn : Nat → Int32) (b_zima : 0 ≤ zima.toInt ∧ zima.toInt ≤ 2) (b_zime : 0 ≤ zime.toInt ∧ zime.toInt ≤ 1) (h_zfmg : RG zfmg 2 (-1) 12) : Met l yX1_isSo wsX1_isSo ({ frames := 0, cells := 0, slots := 0, locals := 0 } : Room) (va_Pc [.ref zm, .int zia, .int zib] (PRE dC dI cy [(zm, .inr (1, [.ref zmt, .ref zmw, .ref zmf, .ref zml, .ref zmg, .ref zmn, .int zima, .int zime])), (zmg, .inl (cy 0, 2, .inl zfmg)), (zmn, .inl (cy 2, 2, .inl zfmn))] sz)) (va_Qi (fun (r : Int32) (u : Unit) => (0 ≤ r.toInt ∧ r.toInt ≤ 1)) (fun u t => POST dC dI cy (va_A [(zm, .inr (1, [.ref zmt, .ref zmw, .ref zmf, .ref zml, .ref zmg, .ref zmn, .int zima, .int zime])), (zmg, .inl (cy 0, 2, .inl zfmg)), (zmn, .inl (cy 2, 2, .inl zfmn))] sz) [(zm, .inr (1, [.ref zmt, .ref zmw, .ref zmf, .ref zml, .ref zmg, .ref zmn, .int zima, .int zime])), (zmg, .inl (cy 0, 2, .inl zfmg)), (zmn, .inl (cy 2, 2, .inl zfmn))] t) (va_A [(zm, .inr (1, [.ref zmt, .ref zmw, .ref zmf, .ref zml, .ref zmg, .ref zmn, .int zima, .int zime])), (zmg, .inl (cy 0, 2, .inl zfmg)), (zmn, .inl (cy 2, 2, .inl zfmn))] sz)) 0 0 (va_A [(zm, .inr (1, [.ref zmt, .ref zmw, .ref zmf, .ref zml, .ref zmg, .ref zmn, .int zima, .int zime])), (zmg, .inl (cy 0, 2, .inl zfmg)), (zmn, .inl (cy 2, 2, .inl zfmn))] sz) := by
  refine Met.ofW (cc := cX1_isSo) (maxL := 5) (ret := (some .boolean)) (by decide) rfl ?_
  intro p e s m args below meth c s₁ B hml hv
  obtain ⟨rfl, hsz, hP, hK, hD0, hN⟩ := hv
  have hx := B.exec
  have hb := B.bytes
  have hr := B.returns
  have hts := atoms_spec (ws := wsX1_isSo) B.pre
  have hown : s.vm.findClass RX1 = some m.cls := findClass_of_methodNamed B.named
  have hlocks := B.notSynchronized
  subst hsz
  have hD := hD0.self (sz := s.heap.size)
  generalize hAe : va_A [(zm, .inr (1, [.ref zmt, .ref zmw, .ref zmf, .ref zml, .ref zmg, .ref zmn, .int zima, .int zime])), (zmg, .inl (cy 0, 2, .inl zfmg)), (zmn, .inl (cy 2, 2, .inl zfmn))] s.heap.size = A at hD ⊢
  have hA : ∀ q : Nat, s.heap.size ≤ q → A q := fun q h => by rw [← hAe]; exact Or.inr h
  have hS : va_S A s.heap s.heap [] := va_S.rf
  have hP : va_P (dC, dI) vwCl [(zm, .inr (1, [.ref zmt, .ref zmw, .ref zmf, .ref zml, .ref zmg, .ref zmn, .int zima, .int zime])), (zmg, .inl (cy 0, 2, .inl zfmg)), (zmn, .inl (cy 2, 2, .inl zfmn))] s.heap := hP
  have hl := lv_entry ([.ref zm, .int zia, .int zib] : List Value) (n := 5) (Nat.le_of_ble_eq_true rfl)
  rw [lg_entry_eq]
  generalize (lg_sl ([.ref zm, .int zia, .int zib] : List Value) ++ List.replicate (5 - (lg_sl ([.ref zm, .int zia, .int zib] : List Value)).length) Slot.unset).toArray = ls at hl ⊢
  have hl : lv_has ls 5 [(0, .ref zm), (1, .int zia), (2, .int zib)] := hl
  refine w_q (fun Q hQ => ?_)
  refine lv_iload_n hx hb dX1_isSo_0 rfl (lv_at hl 1 rfl) ?_
  refine lv_aload_n hx hb dX1_isSo_1 rfl (lv_at hl 0 rfl) ?_
  refine va_get (D := (dC, dI)) (ci := 1) (v := .ref zmg) (C := RX1) (T := TX1) (N := 8) hx hb hts (by decide +kernel) hown hK hP 0 rfl rfl 4 (by decide) (hts (.fieldLink RX1 24 "DripStone$Claim" "goals" "[I") (by decide +kernel)) (fun _ h9 => h9) rfl dX1_isSo_2 ?_
  refine lv_iconst (v := 0) hx hb dX1_isSo_5 (by decide) ?_
  refine va_iald hx hb hK hP 1 0 rfl rfl (vp_in_iff.mpr ⟨by decide, by decide⟩) dX1_isSo_6 ?_
  refine lv_topi (fun zi_1 ezi_1 => ?_)
  have tzi_1 : (-1) ≤ zi_1.toInt ∧ zi_1.toInt ≤ 12 := by rw [ezi_1]; exact RG.at h_zfmg (by decide) (by decide)
  have jn_5 : ∀ (zi_4 : Int32) (H : Heap) (locs : List Loc) (ls : Array Slot), (0 ≤ zi_4.toInt ∧ zi_4.toInt ≤ 1) → va_P (dC, dI) vwCl [(zm, .inr (1, [.ref zmt, .ref zmw, .ref zmf, .ref zml, .ref zmg, .ref zmn, .int zima, .int zime])), (zmg, .inl (cy 0, 2, .inl zfmg)), (zmn, .inl (cy 2, 2, .inl zfmn))] H → va_D A [(zm, .inr (1, [.ref zmt, .ref zmw, .ref zmf, .ref zml, .ref zmg, .ref zmn, .int zima, .int zime])), (zmg, .inl (cy 0, 2, .inl zfmg)), (zmn, .inl (cy 2, 2, .inl zfmn))] → va_S A s.heap H locs → lv_has ls 5 [(0, .ref zm), (1, .int zia), (2, .int zib)] → W p l e ({ frames := 0, cells := 0, slots := 0, locals := 0 } : Room) s m ([.ref zm, .int zia, .int zib] : List Value).toArray below meth c H locs 0 0 Q (F0 m 15 ls [.int zi_4]) := by
    intro zi_4 H locs ls b_zi_4 hP hD hS hl
    refine lv_aload_n hx hb dX1_isSo_15 rfl (lv_at hl 0 rfl) ?_
    refine va_get (D := (dC, dI)) (ci := 1) (v := .ref zmn) (C := RX1) (T := TX1) (N := 8) hx hb hts (by decide +kernel) hown hK hP 0 rfl rfl 5 (by decide) (hts (.fieldLink RX1 27 "DripStone$Claim" "negated" "[Z") (by decide +kernel)) (fun _ h9 => h9) rfl dX1_isSo_16 ?_
    refine lv_iconst (v := 0) hx hb dX1_isSo_19 (by decide) ?_
    refine va_zald hx hb hK hP 2 2 rfl rfl (vp_in_iff.mpr ⟨by decide, by decide⟩) dX1_isSo_20 ?_
    refine lv_topi (fun zi_6 ezi_6 => ?_)
    have jn_10 : ∀ (zi_9 : Int32) (H : Heap) (locs : List Loc) (ls : Array Slot), (0 ≤ zi_9.toInt ∧ zi_9.toInt ≤ 1) → va_P (dC, dI) vwCl [(zm, .inr (1, [.ref zmt, .ref zmw, .ref zmf, .ref zml, .ref zmg, .ref zmn, .int zima, .int zime])), (zmg, .inl (cy 0, 2, .inl zfmg)), (zmn, .inl (cy 2, 2, .inl zfmn))] H → va_D A [(zm, .inr (1, [.ref zmt, .ref zmw, .ref zmf, .ref zml, .ref zmg, .ref zmn, .int zima, .int zime])), (zmg, .inl (cy 0, 2, .inl zfmg)), (zmn, .inl (cy 2, 2, .inl zfmn))] → va_S A s.heap H locs → lv_has ls 5 [(0, .ref zm), (1, .int zia), (2, .int zib)] → W p l e ({ frames := 0, cells := 0, slots := 0, locals := 0 } : Room) s m ([.ref zm, .int zia, .int zib] : List Value).toArray below meth c H locs 0 0 Q (F0 m 29 ls [.int zi_9]) := by
      intro zi_9 H locs ls b_zi_9 hP hD hS hl
      refine lv_istore_n (lv' := [(3, .int zi_9), (0, .ref zm), (1, .int zia), (2, .int zib)]) hx hb dX1_isSo_29 rfl hl (by decide) rfl (fun ls hl => ?_)
      refine lv_iload_n hx hb dX1_isSo_30 rfl (lv_at hl 3 rfl) ?_
      refine lv_aload_n hx hb dX1_isSo_31 rfl (lv_at hl 1 rfl) ?_
      refine va_get (D := (dC, dI)) (ci := 1) (v := .ref zmg) (C := RX1) (T := TX1) (N := 8) hx hb hts (by decide +kernel) hown hK hP 0 rfl rfl 4 (by decide) (hts (.fieldLink RX1 24 "DripStone$Claim" "goals" "[I") (by decide +kernel)) (fun _ h9 => h9) rfl dX1_isSo_32 ?_
      refine lv_iconst (v := 1) hx hb dX1_isSo_35 (by decide) ?_
      refine va_iald hx hb hK hP 1 0 rfl rfl (vp_in_iff.mpr ⟨by decide, by decide⟩) dX1_isSo_36 ?_
      refine lv_topi (fun zi_11 ezi_11 => ?_)
      have tzi_11 : (-1) ≤ zi_11.toInt ∧ zi_11.toInt ≤ 12 := by rw [ezi_11]; exact RG.at h_zfmg (by decide) (by decide)
      have jn_15 : ∀ (zi_14 : Int32) (H : Heap) (locs : List Loc) (ls : Array Slot), (0 ≤ zi_14.toInt ∧ zi_14.toInt ≤ 1) → va_P (dC, dI) vwCl [(zm, .inr (1, [.ref zmt, .ref zmw, .ref zmf, .ref zml, .ref zmg, .ref zmn, .int zima, .int zime])), (zmg, .inl (cy 0, 2, .inl zfmg)), (zmn, .inl (cy 2, 2, .inl zfmn))] H → va_D A [(zm, .inr (1, [.ref zmt, .ref zmw, .ref zmf, .ref zml, .ref zmg, .ref zmn, .int zima, .int zime])), (zmg, .inl (cy 0, 2, .inl zfmg)), (zmn, .inl (cy 2, 2, .inl zfmn))] → va_S A s.heap H locs → lv_has ls 5 [(0, .ref zm), (1, .int zia), (2, .int zib), (3, .int zi_9)] → W p l e ({ frames := 0, cells := 0, slots := 0, locals := 0 } : Room) s m ([.ref zm, .int zia, .int zib] : List Value).toArray below meth c H locs 0 0 Q (F0 m 45 ls [.int zi_14]) := by
        intro zi_14 H locs ls b_zi_14 hP hD hS hl
        refine lv_aload_n hx hb dX1_isSo_45 rfl (lv_at hl 0 rfl) ?_
        refine va_get (D := (dC, dI)) (ci := 1) (v := .ref zmn) (C := RX1) (T := TX1) (N := 8) hx hb hts (by decide +kernel) hown hK hP 0 rfl rfl 5 (by decide) (hts (.fieldLink RX1 27 "DripStone$Claim" "negated" "[Z") (by decide +kernel)) (fun _ h9 => h9) rfl dX1_isSo_46 ?_
        refine lv_iconst (v := 1) hx hb dX1_isSo_49 (by decide) ?_
        refine va_zald hx hb hK hP 2 2 rfl rfl (vp_in_iff.mpr ⟨by decide, by decide⟩) dX1_isSo_50 ?_
        refine lv_topi (fun zi_16 ezi_16 => ?_)
        have jn_20 : ∀ (zi_19 : Int32) (H : Heap) (locs : List Loc) (ls : Array Slot), (0 ≤ zi_19.toInt ∧ zi_19.toInt ≤ 1) → va_P (dC, dI) vwCl [(zm, .inr (1, [.ref zmt, .ref zmw, .ref zmf, .ref zml, .ref zmg, .ref zmn, .int zima, .int zime])), (zmg, .inl (cy 0, 2, .inl zfmg)), (zmn, .inl (cy 2, 2, .inl zfmn))] H → va_D A [(zm, .inr (1, [.ref zmt, .ref zmw, .ref zmf, .ref zml, .ref zmg, .ref zmn, .int zima, .int zime])), (zmg, .inl (cy 0, 2, .inl zfmg)), (zmn, .inl (cy 2, 2, .inl zfmn))] → va_S A s.heap H locs → lv_has ls 5 [(0, .ref zm), (1, .int zia), (2, .int zib), (3, .int zi_9)] → W p l e ({ frames := 0, cells := 0, slots := 0, locals := 0 } : Room) s m ([.ref zm, .int zia, .int zib] : List Value).toArray below meth c H locs 0 0 Q (F0 m 59 ls [.int zi_19]) := by
          intro zi_19 H locs ls b_zi_19 hP hD hS hl
          refine lv_istore (lv' := [(4, .int zi_19), (0, .ref zm), (1, .int zia), (2, .int zib), (3, .int zi_9)]) hx hb dX1_isSo_59 hl (by decide) rfl (fun ls hl => ?_)
          refine lv_aload_n hx hb dX1_isSo_61 rfl (lv_at hl 1 rfl) ?_
          refine va_get (D := (dC, dI)) (ci := 1) (v := .int zima) (C := RX1) (T := TX1) (N := 8) hx hb hts (by decide +kernel) hown hK hP 0 rfl rfl 6 (by decide) (hts (.fieldLink RX1 56 "DripStone$Claim" "atoms" "I") (by decide +kernel)) (fun _ h9 => h9) rfl dX1_isSo_62 ?_
          refine lv_iconst (v := 1) hx hb dX1_isSo_65 (by decide) ?_
          refine lv_icmp_ne (tgt := 71) hx hb dX1_isSo_66 (by decide) (fun c_21 => ?_) (fun c_21 => ?_)
          · have f_22 : zima.toInt ≠ (1 : Int) := ic_ne (rfl) (show (1 : Int32).toInt = 1 by decide) c_21
            refine lv_aload_n hx hb dX1_isSo_71 rfl (lv_at hl 1 rfl) ?_
            refine va_get (D := (dC, dI)) (ci := 1) (v := .int zime) (C := RX1) (T := TX1) (N := 8) hx hb hts (by decide +kernel) hown hK hP 0 rfl rfl 7 (by decide) (hts (.fieldLink RX1 59 "DripStone$Claim" "either" "Z") (by decide +kernel)) (fun _ h9 => h9) rfl dX1_isSo_72 ?_
            refine lv_if_eq (tgt := 95) hx hb dX1_isSo_75 (by decide) (fun c_23 => ?_) (fun c_23 => ?_)
            · have f_24 : zime.toInt = 0 := ic_eq (rfl) (by decide) c_23
              refine lv_iload_n hx hb dX1_isSo_95 rfl (lv_at hl 4 rfl) ?_
              refine lv_if_eq (tgt := 108) hx hb dX1_isSo_96 (by decide) (fun c_25 => ?_) (fun c_25 => ?_)
              · have f_26 : zi_9.toInt = 0 := ic_eq (rfl) (by decide) c_25
                refine lv_iconst (v := 0) hx hb dX1_isSo_108 (by decide) ?_
                subst hQ
                have qc_0 : (0 : Int32).toInt = 0 := by decide
                have hP9 := hP.sub (ws' := [(zm, .inr (1, [.ref zmt, .ref zmw, .ref zmf, .ref zml, .ref zmg, .ref zmn, .int zima, .int zime])), (zmg, .inl (cy 0, 2, .inl zfmg)), (zmn, .inl (cy 2, 2, .inl zfmn))]) [0, 1, 2] rfl
                have hD9 := hD.sub (ws' := [(zm, .inr (1, [.ref zmt, .ref zmw, .ref zmf, .ref zml, .ref zmg, .ref zmn, .int zima, .int zime])), (zmg, .inl (cy 0, 2, .inl zfmg)), (zmn, .inl (cy 2, 2, .inl zfmn))]) [0, 1, 2] (by decide) rfl
                exact W.zret (v := (0 : Int32)) hx hb hr rfl (fun t ht hW => ⟨⟨(0 : Int32), (), rfl, (show 0 ≤ (0 : Int32).toInt ∧ (0 : Int32).toInt ≤ 1 from by omega), ⟨by rw [ht]; exact hP9, va_K.moved hW.alike hK, hD9⟩⟩, hS.F ht⟩) hS.2.2 dX1_isSo_109
              · have f_26 : ¬ (zi_9.toInt = 0) := ic_neq (rfl) (by decide) c_25
                refine lv_iload hx hb dX1_isSo_99 (lv_at hl 0 rfl) ?_
                refine lv_if_eq (tgt := 108) hx hb dX1_isSo_101 (by decide) (fun c_27 => ?_) (fun c_27 => ?_)
                · have f_28 : zi_19.toInt = 0 := ic_eq (rfl) (by decide) c_27
                  refine lv_iconst (v := 0) hx hb dX1_isSo_108 (by decide) ?_
                  subst hQ
                  have qc_0 : (0 : Int32).toInt = 0 := by decide
                  have hP9 := hP.sub (ws' := [(zm, .inr (1, [.ref zmt, .ref zmw, .ref zmf, .ref zml, .ref zmg, .ref zmn, .int zima, .int zime])), (zmg, .inl (cy 0, 2, .inl zfmg)), (zmn, .inl (cy 2, 2, .inl zfmn))]) [0, 1, 2] rfl
                  have hD9 := hD.sub (ws' := [(zm, .inr (1, [.ref zmt, .ref zmw, .ref zmf, .ref zml, .ref zmg, .ref zmn, .int zima, .int zime])), (zmg, .inl (cy 0, 2, .inl zfmg)), (zmn, .inl (cy 2, 2, .inl zfmn))]) [0, 1, 2] (by decide) rfl
                  exact W.zret (v := (0 : Int32)) hx hb hr rfl (fun t ht hW => ⟨⟨(0 : Int32), (), rfl, (show 0 ≤ (0 : Int32).toInt ∧ (0 : Int32).toInt ≤ 1 from by omega), ⟨by rw [ht]; exact hP9, va_K.moved hW.alike hK, hD9⟩⟩, hS.F ht⟩) hS.2.2 dX1_isSo_109
                · have f_28 : ¬ (zi_19.toInt = 0) := ic_neq (rfl) (by decide) c_27
                  refine lv_iconst (v := 1) hx hb dX1_isSo_104 (by decide) ?_
                  refine lv_goto (tgt := 109) hx hb dX1_isSo_105 (by decide) ?_
                  subst hQ
                  have qc_1 : (1 : Int32).toInt = 1 := by decide
                  have hP9 := hP.sub (ws' := [(zm, .inr (1, [.ref zmt, .ref zmw, .ref zmf, .ref zml, .ref zmg, .ref zmn, .int zima, .int zime])), (zmg, .inl (cy 0, 2, .inl zfmg)), (zmn, .inl (cy 2, 2, .inl zfmn))]) [0, 1, 2] rfl
                  have hD9 := hD.sub (ws' := [(zm, .inr (1, [.ref zmt, .ref zmw, .ref zmf, .ref zml, .ref zmg, .ref zmn, .int zima, .int zime])), (zmg, .inl (cy 0, 2, .inl zfmg)), (zmn, .inl (cy 2, 2, .inl zfmn))]) [0, 1, 2] (by decide) rfl
                  exact W.zret (v := (1 : Int32)) hx hb hr rfl (fun t ht hW => ⟨⟨(1 : Int32), (), rfl, (show 0 ≤ (1 : Int32).toInt ∧ (1 : Int32).toInt ≤ 1 from by omega), ⟨by rw [ht]; exact hP9, va_K.moved hW.alike hK, hD9⟩⟩, hS.F ht⟩) hS.2.2 dX1_isSo_109
            · have f_24 : ¬ (zime.toInt = 0) := ic_neq (rfl) (by decide) c_23
              refine lv_iload_n hx hb dX1_isSo_78 rfl (lv_at hl 4 rfl) ?_
              refine lv_if_ne (tgt := 87) hx hb dX1_isSo_79 (by decide) (fun c_29 => ?_) (fun c_29 => ?_)
              · have f_30 : zi_9.toInt ≠ 0 := ic_ne (rfl) (by decide) c_29
                refine lv_iconst (v := 1) hx hb dX1_isSo_87 (by decide) ?_
                refine lv_goto (tgt := 109) hx hb dX1_isSo_88 (by decide) ?_
                subst hQ
                have qc_1 : (1 : Int32).toInt = 1 := by decide
                have hP9 := hP.sub (ws' := [(zm, .inr (1, [.ref zmt, .ref zmw, .ref zmf, .ref zml, .ref zmg, .ref zmn, .int zima, .int zime])), (zmg, .inl (cy 0, 2, .inl zfmg)), (zmn, .inl (cy 2, 2, .inl zfmn))]) [0, 1, 2] rfl
                have hD9 := hD.sub (ws' := [(zm, .inr (1, [.ref zmt, .ref zmw, .ref zmf, .ref zml, .ref zmg, .ref zmn, .int zima, .int zime])), (zmg, .inl (cy 0, 2, .inl zfmg)), (zmn, .inl (cy 2, 2, .inl zfmn))]) [0, 1, 2] (by decide) rfl
                exact W.zret (v := (1 : Int32)) hx hb hr rfl (fun t ht hW => ⟨⟨(1 : Int32), (), rfl, (show 0 ≤ (1 : Int32).toInt ∧ (1 : Int32).toInt ≤ 1 from by omega), ⟨by rw [ht]; exact hP9, va_K.moved hW.alike hK, hD9⟩⟩, hS.F ht⟩) hS.2.2 dX1_isSo_109
              · have f_30 : ¬ (zi_9.toInt ≠ 0) := ic_nne (rfl) (by decide) c_29
                refine lv_iload hx hb dX1_isSo_82 (lv_at hl 0 rfl) ?_
                refine lv_if_eq (tgt := 91) hx hb dX1_isSo_84 (by decide) (fun c_31 => ?_) (fun c_31 => ?_)
                · have f_32 : zi_19.toInt = 0 := ic_eq (rfl) (by decide) c_31
                  refine lv_iconst (v := 0) hx hb dX1_isSo_91 (by decide) ?_
                  refine lv_goto (tgt := 109) hx hb dX1_isSo_92 (by decide) ?_
                  subst hQ
                  have qc_0 : (0 : Int32).toInt = 0 := by decide
                  have hP9 := hP.sub (ws' := [(zm, .inr (1, [.ref zmt, .ref zmw, .ref zmf, .ref zml, .ref zmg, .ref zmn, .int zima, .int zime])), (zmg, .inl (cy 0, 2, .inl zfmg)), (zmn, .inl (cy 2, 2, .inl zfmn))]) [0, 1, 2] rfl
                  have hD9 := hD.sub (ws' := [(zm, .inr (1, [.ref zmt, .ref zmw, .ref zmf, .ref zml, .ref zmg, .ref zmn, .int zima, .int zime])), (zmg, .inl (cy 0, 2, .inl zfmg)), (zmn, .inl (cy 2, 2, .inl zfmn))]) [0, 1, 2] (by decide) rfl
                  exact W.zret (v := (0 : Int32)) hx hb hr rfl (fun t ht hW => ⟨⟨(0 : Int32), (), rfl, (show 0 ≤ (0 : Int32).toInt ∧ (0 : Int32).toInt ≤ 1 from by omega), ⟨by rw [ht]; exact hP9, va_K.moved hW.alike hK, hD9⟩⟩, hS.F ht⟩) hS.2.2 dX1_isSo_109
                · have f_32 : ¬ (zi_19.toInt = 0) := ic_neq (rfl) (by decide) c_31
                  refine lv_iconst (v := 1) hx hb dX1_isSo_87 (by decide) ?_
                  refine lv_goto (tgt := 109) hx hb dX1_isSo_88 (by decide) ?_
                  subst hQ
                  have qc_1 : (1 : Int32).toInt = 1 := by decide
                  have hP9 := hP.sub (ws' := [(zm, .inr (1, [.ref zmt, .ref zmw, .ref zmf, .ref zml, .ref zmg, .ref zmn, .int zima, .int zime])), (zmg, .inl (cy 0, 2, .inl zfmg)), (zmn, .inl (cy 2, 2, .inl zfmn))]) [0, 1, 2] rfl
                  have hD9 := hD.sub (ws' := [(zm, .inr (1, [.ref zmt, .ref zmw, .ref zmf, .ref zml, .ref zmg, .ref zmn, .int zima, .int zime])), (zmg, .inl (cy 0, 2, .inl zfmg)), (zmn, .inl (cy 2, 2, .inl zfmn))]) [0, 1, 2] (by decide) rfl
                  exact W.zret (v := (1 : Int32)) hx hb hr rfl (fun t ht hW => ⟨⟨(1 : Int32), (), rfl, (show 0 ≤ (1 : Int32).toInt ∧ (1 : Int32).toInt ≤ 1 from by omega), ⟨by rw [ht]; exact hP9, va_K.moved hW.alike hK, hD9⟩⟩, hS.F ht⟩) hS.2.2 dX1_isSo_109
          · have f_22 : ¬ (zima.toInt ≠ (1 : Int)) := ic_nne (rfl) (show (1 : Int32).toInt = 1 by decide) c_21
            refine lv_iload_n hx hb dX1_isSo_69 rfl (lv_at hl 4 rfl) ?_
            subst hQ
            have hP9 := hP.sub (ws' := [(zm, .inr (1, [.ref zmt, .ref zmw, .ref zmf, .ref zml, .ref zmg, .ref zmn, .int zima, .int zime])), (zmg, .inl (cy 0, 2, .inl zfmg)), (zmn, .inl (cy 2, 2, .inl zfmn))]) [0, 1, 2] rfl
            have hD9 := hD.sub (ws' := [(zm, .inr (1, [.ref zmt, .ref zmw, .ref zmf, .ref zml, .ref zmg, .ref zmn, .int zima, .int zime])), (zmg, .inl (cy 0, 2, .inl zfmg)), (zmn, .inl (cy 2, 2, .inl zfmn))]) [0, 1, 2] (by decide) rfl
            exact W.zret (v := zi_9) hx hb hr (zb_n2 (by omega)) (fun t ht hW => ⟨⟨zi_9, (), rfl, (show 0 ≤ zi_9.toInt ∧ zi_9.toInt ≤ 1 from by omega), ⟨by rw [ht]; exact hP9, va_K.moved hW.alike hK, hD9⟩⟩, hS.F ht⟩) hS.2.2 dX1_isSo_70
        refine lv_icmp_eq (tgt := 58) hx hb dX1_isSo_51 (by decide) (fun c_33 => ?_) (fun c_33 => ?_)
        · have f_34 : zi_14.toInt = zi_16.toInt := ic_eq (rfl) (rfl) c_33
          refine lv_iconst (v := 0) hx hb dX1_isSo_58 (by decide) ?_
          exact jn_20 (0 : Int32) _ _ _ (by decide) hP hD hS (lv_sub hl [0, 1, 2, 3] rfl)
        · have f_34 : ¬ (zi_14.toInt = zi_16.toInt) := ic_neq (rfl) (rfl) c_33
          refine lv_iconst (v := 1) hx hb dX1_isSo_54 (by decide) ?_
          refine lv_goto (tgt := 59) hx hb dX1_isSo_55 (by decide) ?_
          exact jn_20 (1 : Int32) _ _ _ (by decide) hP hD hS (lv_sub hl [0, 1, 2, 3] rfl)
      refine lv_icmp_lt (tgt := 44) hx hb dX1_isSo_37 (by decide) (fun c_35 => ?_) (fun c_35 => ?_)
      · have f_36 : zib.toInt < zi_11.toInt := ic_lt (rfl) (rfl) c_35
        refine lv_iconst (v := 0) hx hb dX1_isSo_44 (by decide) ?_
        exact jn_15 (0 : Int32) _ _ _ (by decide) hP hD hS (lv_sub hl [1, 2, 3, 0] rfl)
      · have f_36 : ¬ (zib.toInt < zi_11.toInt) := ic_nlt (rfl) (rfl) c_35
        refine lv_iconst (v := 1) hx hb dX1_isSo_40 (by decide) ?_
        refine lv_goto (tgt := 45) hx hb dX1_isSo_41 (by decide) ?_
        exact jn_15 (1 : Int32) _ _ _ (by decide) hP hD hS (lv_sub hl [1, 2, 3, 0] rfl)
    refine lv_icmp_eq (tgt := 28) hx hb dX1_isSo_21 (by decide) (fun c_37 => ?_) (fun c_37 => ?_)
    · have f_38 : zi_4.toInt = zi_6.toInt := ic_eq (rfl) (rfl) c_37
      refine lv_iconst (v := 0) hx hb dX1_isSo_28 (by decide) ?_
      exact jn_10 (0 : Int32) _ _ _ (by decide) hP hD hS (lv_sub hl [0, 1, 2] rfl)
    · have f_38 : ¬ (zi_4.toInt = zi_6.toInt) := ic_neq (rfl) (rfl) c_37
      refine lv_iconst (v := 1) hx hb dX1_isSo_24 (by decide) ?_
      refine lv_goto (tgt := 29) hx hb dX1_isSo_25 (by decide) ?_
      exact jn_10 (1 : Int32) _ _ _ (by decide) hP hD hS (lv_sub hl [0, 1, 2] rfl)
  refine lv_icmp_lt (tgt := 14) hx hb dX1_isSo_7 (by decide) (fun c_39 => ?_) (fun c_39 => ?_)
  · have f_40 : zia.toInt < zi_1.toInt := ic_lt (rfl) (rfl) c_39
    refine lv_iconst (v := 0) hx hb dX1_isSo_14 (by decide) ?_
    exact jn_5 (0 : Int32) _ _ _ (by decide) hP hD hS (lv_sub hl [0, 1, 2] rfl)
  · have f_40 : ¬ (zia.toInt < zi_1.toInt) := ic_nlt (rfl) (rfl) c_39
    refine lv_iconst (v := 1) hx hb dX1_isSo_10 (by decide) ?_
    refine lv_goto (tgt := 15) hx hb dX1_isSo_11 (by decide) ?_
    exact jn_5 (1 : Int32) _ _ _ (by decide) hP hD hS (lv_sub hl [0, 1, 2] rfl)
set_option maxHeartbeats 8000000 in
set_option maxRecDepth 100000 in
theorem c_X1_latest (l : Launch) (dC : Nat → ClassId) (dI : Nat → Nat → Nat) (cy : Nat → ClassId) (sz : Nat) (zm : Nat) (zmt : Nat) (zmw : Nat) (zmf : Nat) (zml : Nat) (zmg : Nat) (zmn : Nat) (zima : Int32) (zime : Int32) (zfml : Nat → Int32) (b_zima : 0 ≤ zima.toInt ∧ zima.toInt ≤ 2) (b_zime : 0 ≤ zime.toInt ∧ zime.toInt ≤ 1) : Met l yX1_latest wsX1_latest ({ frames := 1, cells := 0, slots := 0, locals := 30 } : Room) (va_Pc [.ref zm] (PRE dC dI cy [(zm, .inr (1, [.ref zmt, .ref zmw, .ref zmf, .ref zml, .ref zmg, .ref zmn, .int zima, .int zime])), (zml, .inl (cy 0, 2, .inl zfml))] sz)) (va_Qi (fun (r : Int32) (u : Unit) => True) (fun u t => POST dC dI cy (va_A [(zm, .inr (1, [.ref zmt, .ref zmw, .ref zmf, .ref zml, .ref zmg, .ref zmn, .int zima, .int zime])), (zml, .inl (cy 0, 2, .inl zfml))] sz) [(zm, .inr (1, [.ref zmt, .ref zmw, .ref zmf, .ref zml, .ref zmg, .ref zmn, .int zima, .int zime])), (zml, .inl (cy 0, 2, .inl zfml))] t) (va_A [(zm, .inr (1, [.ref zmt, .ref zmw, .ref zmf, .ref zml, .ref zmg, .ref zmn, .int zima, .int zime])), (zml, .inl (cy 0, 2, .inl zfml))] sz)) 0 0 (va_A [(zm, .inr (1, [.ref zmt, .ref zmw, .ref zmf, .ref zml, .ref zmg, .ref zmn, .int zima, .int zime])), (zml, .inl (cy 0, 2, .inl zfml))] sz) := by
  refine Met.ofW (cc := cX1_latest) (maxL := 1) (ret := (some .int)) (by decide) rfl ?_
  intro p e s m args below meth c s₁ B hml hv
  obtain ⟨rfl, hsz, hP, hK, hD0, hN⟩ := hv
  have hx := B.exec
  have hb := B.bytes
  have hr := B.returns
  have hts := atoms_spec (ws := wsX1_latest) B.pre
  have hown : s.vm.findClass RX1 = some m.cls := findClass_of_methodNamed B.named
  have hlocks := B.notSynchronized
  subst hsz
  have hD := hD0.self (sz := s.heap.size)
  generalize hAe : va_A [(zm, .inr (1, [.ref zmt, .ref zmw, .ref zmf, .ref zml, .ref zmg, .ref zmn, .int zima, .int zime])), (zml, .inl (cy 0, 2, .inl zfml))] s.heap.size = A at hD ⊢
  have hA : ∀ q : Nat, s.heap.size ≤ q → A q := fun q h => by rw [← hAe]; exact Or.inr h
  have hS : va_S A s.heap s.heap [] := va_S.rf
  have hP : va_P (dC, dI) vwCl [(zm, .inr (1, [.ref zmt, .ref zmw, .ref zmf, .ref zml, .ref zmg, .ref zmn, .int zima, .int zime])), (zml, .inl (cy 0, 2, .inl zfml))] s.heap := hP
  have hl := lv_entry ([.ref zm] : List Value) (n := 1) (Nat.le_of_ble_eq_true rfl)
  rw [lg_entry_eq]
  generalize (lg_sl ([.ref zm] : List Value) ++ List.replicate (1 - (lg_sl ([.ref zm] : List Value)).length) Slot.unset).toArray = ls at hl ⊢
  have hl : lv_has ls 1 [(0, .ref zm)] := hl
  refine w_q (fun Q hQ => ?_)
  refine lv_aload_n hx hb dX1_latest_0 rfl (lv_at hl 0 rfl) ?_
  refine va_get (D := (dC, dI)) (ci := 1) (v := .int zima) (C := RX1) (T := TX1) (N := 8) hx hb hts (by decide +kernel) hown hK hP 0 rfl rfl 6 (by decide) (hts (.fieldLink RX1 56 "DripStone$Claim" "atoms" "I") (by decide +kernel)) (fun _ h9 => h9) rfl dX1_latest_1 ?_
  refine lv_iconst (v := 1) hx hb dX1_latest_4 (by decide) ?_
  refine lv_icmp_ne (tgt := 17) hx hb dX1_latest_5 (by decide) (fun c_1 => ?_) (fun c_1 => ?_)
  · have f_2 : zima.toInt ≠ (1 : Int) := ic_ne (rfl) (show (1 : Int32).toInt = 1 by decide) c_1
    refine lv_aload_n hx hb dX1_latest_17 rfl (lv_at hl 0 rfl) ?_
    refine va_get (D := (dC, dI)) (ci := 1) (v := .ref zml) (C := RX1) (T := TX1) (N := 8) hx hb hts (by decide +kernel) hown hK hP 0 rfl rfl 3 (by decide) (hts (.fieldLink RX1 21 "DripStone$Claim" "lasts" "[I") (by decide +kernel)) (fun _ h9 => h9) rfl dX1_latest_18 ?_
    refine lv_iconst (v := 0) hx hb dX1_latest_21 (by decide) ?_
    refine va_iald hx hb hK hP 1 0 rfl rfl (vp_in_iff.mpr ⟨by decide, by decide⟩) dX1_latest_22 ?_
    refine lv_topi (fun zi_3 ezi_3 => ?_)
    refine lv_aload_n hx hb dX1_latest_23 rfl (lv_at hl 0 rfl) ?_
    refine va_get (D := (dC, dI)) (ci := 1) (v := .ref zml) (C := RX1) (T := TX1) (N := 8) hx hb hts (by decide +kernel) hown hK hP 0 rfl rfl 3 (by decide) (hts (.fieldLink RX1 21 "DripStone$Claim" "lasts" "[I") (by decide +kernel)) (fun _ h9 => h9) rfl dX1_latest_24 ?_
    refine lv_iconst (v := 1) hx hb dX1_latest_27 (by decide) ?_
    refine va_iald hx hb hK hP 1 0 rfl rfl (vp_in_iff.mpr ⟨by decide, by decide⟩) dX1_latest_28 ?_
    refine lv_topi (fun zi_4 ezi_4 => ?_)
    refine va_mmax hx hb (by rw [hml]; exact hl.1.symm) hown (hts (.methodLink RX1 63 Lib.Math.max.name) (by decide +kernel)) (hts (.static Lib.Math.max.name) (by decide +kernel)) (hts (.initialized "java/lang/Math") (by decide +kernel)) (hts (.code Lib.Math.max.name Lib.Math.max.code 2 (some .int)) (by decide +kernel)) (Nat.le_of_ble_eq_true rfl) (Nat.le_of_ble_eq_true rfl) (Nat.le_of_ble_eq_true rfl) (Nat.le_of_ble_eq_true rfl) dX1_latest_29 ?_
    refine lv_topi (fun zi_5 ezi_5 => ?_)
    have tzi_5 : (zi_3.toInt < zi_4.toInt → zi_5.toInt = zi_4.toInt) ∧ (¬ zi_3.toInt < zi_4.toInt → zi_5.toInt = zi_3.toInt) := mx_s ezi_5 (rfl) (rfl)
    subst hQ
    have hP9 := hP.sub (ws' := [(zm, .inr (1, [.ref zmt, .ref zmw, .ref zmf, .ref zml, .ref zmg, .ref zmn, .int zima, .int zime])), (zml, .inl (cy 0, 2, .inl zfml))]) [0, 1] rfl
    have hD9 := hD.sub (ws' := [(zm, .inr (1, [.ref zmt, .ref zmw, .ref zmf, .ref zml, .ref zmg, .ref zmn, .int zima, .int zime])), (zml, .inl (cy 0, 2, .inl zfml))]) [0, 1] (by decide) rfl
    exact W.iret (v := zi_5) hx hb hr (fun t ht hW => ⟨⟨zi_5, (), rfl, trivial, ⟨by rw [ht]; exact hP9, va_K.moved hW.alike hK, hD9⟩⟩, hS.F ht⟩) hS.2.2 dX1_latest_32
  · have f_2 : ¬ (zima.toInt ≠ (1 : Int)) := ic_nne (rfl) (show (1 : Int32).toInt = 1 by decide) c_1
    refine lv_aload_n hx hb dX1_latest_8 rfl (lv_at hl 0 rfl) ?_
    refine va_get (D := (dC, dI)) (ci := 1) (v := .ref zml) (C := RX1) (T := TX1) (N := 8) hx hb hts (by decide +kernel) hown hK hP 0 rfl rfl 3 (by decide) (hts (.fieldLink RX1 21 "DripStone$Claim" "lasts" "[I") (by decide +kernel)) (fun _ h9 => h9) rfl dX1_latest_9 ?_
    refine lv_iconst (v := 0) hx hb dX1_latest_12 (by decide) ?_
    refine va_iald hx hb hK hP 1 0 rfl rfl (vp_in_iff.mpr ⟨by decide, by decide⟩) dX1_latest_13 ?_
    refine lv_topi (fun zi_6 ezi_6 => ?_)
    refine lv_goto (tgt := 32) hx hb dX1_latest_14 (by decide) ?_
    subst hQ
    have hP9 := hP.sub (ws' := [(zm, .inr (1, [.ref zmt, .ref zmw, .ref zmf, .ref zml, .ref zmg, .ref zmn, .int zima, .int zime])), (zml, .inl (cy 0, 2, .inl zfml))]) [0, 1] rfl
    have hD9 := hD.sub (ws' := [(zm, .inr (1, [.ref zmt, .ref zmw, .ref zmf, .ref zml, .ref zmg, .ref zmn, .int zima, .int zime])), (zml, .inl (cy 0, 2, .inl zfml))]) [0, 1] (by decide) rfl
    exact W.iret (v := zi_6) hx hb hr (fun t ht hW => ⟨⟨zi_6, (), rfl, trivial, ⟨by rw [ht]; exact hP9, va_K.moved hW.alike hK, hD9⟩⟩, hS.F ht⟩) hS.2.2 dX1_latest_32
set_option maxHeartbeats 8000000 in
set_option maxRecDepth 100000 in
theorem c_X7_refusal (l : Launch) (dC : Nat → ClassId) (dI : Nat → Nat → Nat) (cy : Nat → ClassId) (sz : Nat) (zs : Nat) (zia : Int32) (zif : Int32) (zin : Int32) (zsi : Nat) (zisl : Int32) (zisz : Int32) (zist : Int32) (b_zin : 1 ≤ zin.toInt ∧ zin.toInt ≤ 24) (b_zisl : 0 ≤ zisl.toInt ∧ zisl.toInt ≤ 2) (b_zisz : 0 ≤ zisz.toInt ∧ zisz.toInt ≤ 24) (b_zist : 0 ≤ zist.toInt ∧ zist.toInt ≤ 1) : Met l yX7_refusal wsX7_refusal ({ frames := 0, cells := 0, slots := 0, locals := 0 } : Room) (va_Pc [.ref zs, .int zia, .int zif, .int zin] (PRE dC dI cy [(zs, .inr (7, [.ref zsi, .int zisl, .int zisz, .int zist]))] sz)) (va_Qi (fun (r : Int32) (u : Unit) => ((-13) ≤ r.toInt ∧ r.toInt ≤ 0) ∧ (¬ (r.toInt = 0) ∨ (0 ≤ zif.toInt ∧ zif.toInt ≤ 24)) ∧ (¬ (r.toInt = 0) ∨ zif.toInt + zin.toInt ≤ zisz.toInt)) (fun u t => POST dC dI cy (va_A [(zs, .inr (7, [.ref zsi, .int zisl, .int zisz, .int zist]))] sz) [(zs, .inr (7, [.ref zsi, .int zisl, .int zisz, .int zist]))] t) (va_A [(zs, .inr (7, [.ref zsi, .int zisl, .int zisz, .int zist]))] sz)) 0 0 (va_A [(zs, .inr (7, [.ref zsi, .int zisl, .int zisz, .int zist]))] sz) := by
  refine Met.ofW (cc := cX7_refusal) (maxL := 4) (ret := (some .int)) (by decide) rfl ?_
  intro p e s m args below meth c s₁ B hml hv
  obtain ⟨rfl, hsz, hP, hK, hD0, hN⟩ := hv
  have hx := B.exec
  have hb := B.bytes
  have hr := B.returns
  have hts := atoms_spec (ws := wsX7_refusal) B.pre
  have hown : s.vm.findClass RX7 = some m.cls := findClass_of_methodNamed B.named
  have hlocks := B.notSynchronized
  subst hsz
  have hD := hD0.self (sz := s.heap.size)
  generalize hAe : va_A [(zs, .inr (7, [.ref zsi, .int zisl, .int zisz, .int zist]))] s.heap.size = A at hD ⊢
  have hA : ∀ q : Nat, s.heap.size ≤ q → A q := fun q h => by rw [← hAe]; exact Or.inr h
  have hS : va_S A s.heap s.heap [] := va_S.rf
  have hP : va_P (dC, dI) vwCl [(zs, .inr (7, [.ref zsi, .int zisl, .int zisz, .int zist]))] s.heap := hP
  have hl := lv_entry ([.ref zs, .int zia, .int zif, .int zin] : List Value) (n := 4) (Nat.le_of_ble_eq_true rfl)
  rw [lg_entry_eq]
  generalize (lg_sl ([.ref zs, .int zia, .int zif, .int zin] : List Value) ++ List.replicate (4 - (lg_sl ([.ref zs, .int zia, .int zif, .int zin] : List Value)).length) Slot.unset).toArray = ls at hl ⊢
  have hl : lv_has ls 4 [(0, .ref zs), (1, .int zia), (2, .int zif), (3, .int zin)] := hl
  refine w_q (fun Q hQ => ?_)
  refine lv_aload_n hx hb dX7_refusal_0 rfl (lv_at hl 0 rfl) ?_
  refine va_get (D := (dC, dI)) (ci := 7) (v := .int zist) (C := RX7) (T := TX7) (N := 4) hx hb hts (by decide +kernel) hown hK hP 0 rfl rfl 3 (by decide) (hts (.fieldLink RX7 15 "DripStone$Sheet" "there" "Z") (by decide +kernel)) (fun _ h9 => h9) rfl dX7_refusal_1 ?_
  refine lv_if_ne (tgt := 10) hx hb dX7_refusal_4 (by decide) (fun c_1 => ?_) (fun c_1 => ?_)
  · have f_2 : zist.toInt ≠ 0 := ic_ne (rfl) (by decide) c_1
    refine lv_aload_n hx hb dX7_refusal_10 rfl (lv_at hl 0 rfl) ?_
    refine va_get (D := (dC, dI)) (ci := 7) (v := .int zisl) (C := RX7) (T := TX7) (N := 4) hx hb hts (by decide +kernel) hown hK hP 0 rfl rfl 1 (by decide) (hts (.fieldLink RX7 19 "DripStone$Sheet" "lane" "I") (by decide +kernel)) (fun _ h9 => h9) rfl dX7_refusal_11 ?_
    refine lv_iload_n hx hb dX7_refusal_14 rfl (lv_at hl 1 rfl) ?_
    refine lv_icmp_eq (tgt := 21) hx hb dX7_refusal_15 (by decide) (fun c_3 => ?_) (fun c_3 => ?_)
    · have f_4 : zisl.toInt = zia.toInt := ic_eq (rfl) (rfl) c_3
      refine lv_iload_n hx hb dX7_refusal_21 rfl (lv_at hl 2 rfl) ?_
      refine lv_if_lt (tgt := 35) hx hb dX7_refusal_22 (by decide) (fun c_5 => ?_) (fun c_5 => ?_)
      · have f_6 : zif.toInt < 0 := ic_lt (rfl) (by decide) c_5
        refine lv_bipush (v := (-13)) hx hb dX7_refusal_35 (by decide) ?_
        refine lv_goto (tgt := 41) hx hb dX7_refusal_37 (by decide) ?_
        subst hQ
        have qc_m13 : (-13 : Int32).toInt = -13 := by decide
        have hP9 := hP.sub (ws' := [(zs, .inr (7, [.ref zsi, .int zisl, .int zisz, .int zist]))]) [0] rfl
        have hD9 := hD.sub (ws' := [(zs, .inr (7, [.ref zsi, .int zisl, .int zisz, .int zist]))]) [0] (by decide) rfl
        exact W.iret (v := (-13 : Int32)) hx hb hr (fun t ht hW => ⟨⟨(-13 : Int32), (), rfl, ⟨(show (-13) ≤ (-13 : Int32).toInt ∧ (-13 : Int32).toInt ≤ 0 from by omega), (show ¬ ((-13 : Int32).toInt = 0) ∨ (0 ≤ zif.toInt ∧ zif.toInt ≤ 24) from by omega), (show ¬ ((-13 : Int32).toInt = 0) ∨ zif.toInt + zin.toInt ≤ zisz.toInt from by omega)⟩, ⟨by rw [ht]; exact hP9, va_K.moved hW.alike hK, hD9⟩⟩, hS.F ht⟩) hS.2.2 dX7_refusal_41
      · have f_6 : ¬ (zif.toInt < 0) := ic_nlt (rfl) (by decide) c_5
        refine lv_iload_n hx hb dX7_refusal_25 rfl (lv_at hl 2 rfl) ?_
        refine lv_aload_n hx hb dX7_refusal_26 rfl (lv_at hl 0 rfl) ?_
        refine va_get (D := (dC, dI)) (ci := 7) (v := .int zisz) (C := RX7) (T := TX7) (N := 4) hx hb hts (by decide +kernel) hown hK hP 0 rfl rfl 2 (by decide) (hts (.fieldLink RX7 23 "DripStone$Sheet" "size" "I") (by decide +kernel)) (fun _ h9 => h9) rfl dX7_refusal_27 ?_
        refine lv_iload_n hx hb dX7_refusal_30 rfl (lv_at hl 3 rfl) ?_
        refine lv_isub hx hb dX7_refusal_31 ?_
        refine lv_topi (fun zi_7 ezi_7 => ?_)
        have tzi_7 : zi_7.toInt = zisz.toInt - zin.toInt := by rw [ezi_7]; exact tisub (rfl) (rfl) (by omega) (by omega)
        refine lv_icmp_le (tgt := 40) hx hb dX7_refusal_32 (by decide) (fun c_8 => ?_) (fun c_8 => ?_)
        · have f_9 : zif.toInt ≤ zi_7.toInt := ic_le (rfl) (rfl) c_8
          refine lv_iconst (v := 0) hx hb dX7_refusal_40 (by decide) ?_
          subst hQ
          have qc_0 : (0 : Int32).toInt = 0 := by decide
          have hP9 := hP.sub (ws' := [(zs, .inr (7, [.ref zsi, .int zisl, .int zisz, .int zist]))]) [0] rfl
          have hD9 := hD.sub (ws' := [(zs, .inr (7, [.ref zsi, .int zisl, .int zisz, .int zist]))]) [0] (by decide) rfl
          exact W.iret (v := (0 : Int32)) hx hb hr (fun t ht hW => ⟨⟨(0 : Int32), (), rfl, ⟨(show (-13) ≤ (0 : Int32).toInt ∧ (0 : Int32).toInt ≤ 0 from by omega), (show ¬ ((0 : Int32).toInt = 0) ∨ (0 ≤ zif.toInt ∧ zif.toInt ≤ 24) from by omega), (show ¬ ((0 : Int32).toInt = 0) ∨ zif.toInt + zin.toInt ≤ zisz.toInt from by omega)⟩, ⟨by rw [ht]; exact hP9, va_K.moved hW.alike hK, hD9⟩⟩, hS.F ht⟩) hS.2.2 dX7_refusal_41
        · have f_9 : ¬ (zif.toInt ≤ zi_7.toInt) := ic_nle (rfl) (rfl) c_8
          refine lv_bipush (v := (-13)) hx hb dX7_refusal_35 (by decide) ?_
          refine lv_goto (tgt := 41) hx hb dX7_refusal_37 (by decide) ?_
          subst hQ
          have qc_m13 : (-13 : Int32).toInt = -13 := by decide
          have hP9 := hP.sub (ws' := [(zs, .inr (7, [.ref zsi, .int zisl, .int zisz, .int zist]))]) [0] rfl
          have hD9 := hD.sub (ws' := [(zs, .inr (7, [.ref zsi, .int zisl, .int zisz, .int zist]))]) [0] (by decide) rfl
          exact W.iret (v := (-13 : Int32)) hx hb hr (fun t ht hW => ⟨⟨(-13 : Int32), (), rfl, ⟨(show (-13) ≤ (-13 : Int32).toInt ∧ (-13 : Int32).toInt ≤ 0 from by omega), (show ¬ ((-13 : Int32).toInt = 0) ∨ (0 ≤ zif.toInt ∧ zif.toInt ≤ 24) from by omega), (show ¬ ((-13 : Int32).toInt = 0) ∨ zif.toInt + zin.toInt ≤ zisz.toInt from by omega)⟩, ⟨by rw [ht]; exact hP9, va_K.moved hW.alike hK, hD9⟩⟩, hS.F ht⟩) hS.2.2 dX7_refusal_41
    · have f_4 : ¬ (zisl.toInt = zia.toInt) := ic_neq (rfl) (rfl) c_3
      refine lv_bipush (v := (-12)) hx hb dX7_refusal_18 (by decide) ?_
      subst hQ
      have qc_m12 : (-12 : Int32).toInt = -12 := by decide
      have hP9 := hP.sub (ws' := [(zs, .inr (7, [.ref zsi, .int zisl, .int zisz, .int zist]))]) [0] rfl
      have hD9 := hD.sub (ws' := [(zs, .inr (7, [.ref zsi, .int zisl, .int zisz, .int zist]))]) [0] (by decide) rfl
      exact W.iret (v := (-12 : Int32)) hx hb hr (fun t ht hW => ⟨⟨(-12 : Int32), (), rfl, ⟨(show (-13) ≤ (-12 : Int32).toInt ∧ (-12 : Int32).toInt ≤ 0 from by omega), (show ¬ ((-12 : Int32).toInt = 0) ∨ (0 ≤ zif.toInt ∧ zif.toInt ≤ 24) from by omega), (show ¬ ((-12 : Int32).toInt = 0) ∨ zif.toInt + zin.toInt ≤ zisz.toInt from by omega)⟩, ⟨by rw [ht]; exact hP9, va_K.moved hW.alike hK, hD9⟩⟩, hS.F ht⟩) hS.2.2 dX7_refusal_20
  · have f_2 : ¬ (zist.toInt ≠ 0) := ic_nne (rfl) (by decide) c_1
    refine lv_bipush (v := (-11)) hx hb dX7_refusal_7 (by decide) ?_
    subst hQ
    have qc_m11 : (-11 : Int32).toInt = -11 := by decide
    have hP9 := hP.sub (ws' := [(zs, .inr (7, [.ref zsi, .int zisl, .int zisz, .int zist]))]) [0] rfl
    have hD9 := hD.sub (ws' := [(zs, .inr (7, [.ref zsi, .int zisl, .int zisz, .int zist]))]) [0] (by decide) rfl
    exact W.iret (v := (-11 : Int32)) hx hb hr (fun t ht hW => ⟨⟨(-11 : Int32), (), rfl, ⟨(show (-13) ≤ (-11 : Int32).toInt ∧ (-11 : Int32).toInt ≤ 0 from by omega), (show ¬ ((-11 : Int32).toInt = 0) ∨ (0 ≤ zif.toInt ∧ zif.toInt ≤ 24) from by omega), (show ¬ ((-11 : Int32).toInt = 0) ∨ zif.toInt + zin.toInt ≤ zisz.toInt from by omega)⟩, ⟨by rw [ht]; exact hP9, va_K.moved hW.alike hK, hD9⟩⟩, hS.F ht⟩) hS.2.2 dX7_refusal_9
set_option maxHeartbeats 8000000 in
set_option maxRecDepth 100000 in
theorem c_X7_write (l : Launch) (dC : Nat → ClassId) (dI : Nat → Nat → Nat) (cy : Nat → ClassId) (sz : Nat) (zs : Nat) (zia : Int32) (zib : Int32) (zsi : Nat) (zisl : Int32) (zisz : Int32) (zist : Int32) (zfsi : Nat → Int32) (b_zia : 0 ≤ zia.toInt ∧ zia.toInt ≤ 23) (b_zisl : 0 ≤ zisl.toInt ∧ zisl.toInt ≤ 2) (b_zisz : 0 ≤ zisz.toInt ∧ zisz.toInt ≤ 24) (b_zist : 0 ≤ zist.toInt ∧ zist.toInt ≤ 1) : Met l yX7_write wsX7_write ({ frames := 0, cells := 0, slots := 0, locals := 0 } : Room) (va_Pc [.ref zs, .int zia, .int zib] (PRE dC dI cy [(zs, .inr (7, [.ref zsi, .int zisl, .int zisz, .int zist])), (zsi, .inl (cy 0, 24, .inl zfsi))] sz)) (va_Qv (fun (u : (Nat → Int32)) => True) (fun u t => POST dC dI cy (va_A [(zs, .inr (7, [.ref zsi, .int zisl, .int zisz, .int zist])), (zsi, .inl (cy 0, 24, .inl zfsi))] sz) [(zs, .inr (7, [.ref zsi, .int zisl, .int zisz, .int zist])), (zsi, .inl (cy 0, 24, .inl u))] t) (va_A [(zs, .inr (7, [.ref zsi, .int zisl, .int zisz, .int zist])), (zsi, .inl (cy 0, 24, .inl zfsi))] sz)) 0 0 (va_A [(zs, .inr (7, [.ref zsi, .int zisl, .int zisz, .int zist])), (zsi, .inl (cy 0, 24, .inl zfsi))] sz) := by
  refine Met.ofW (cc := cX7_write) (maxL := 3) (ret := none) (by decide) rfl ?_
  intro p e s m args below meth c s₁ B hml hv
  obtain ⟨rfl, hsz, hP, hK, hD0, hN⟩ := hv
  have hx := B.exec
  have hb := B.bytes
  have hr := B.returns
  have hts := atoms_spec (ws := wsX7_write) B.pre
  have hown : s.vm.findClass RX7 = some m.cls := findClass_of_methodNamed B.named
  have hlocks := B.notSynchronized
  subst hsz
  have hD := hD0.self (sz := s.heap.size)
  generalize hAe : va_A [(zs, .inr (7, [.ref zsi, .int zisl, .int zisz, .int zist])), (zsi, .inl (cy 0, 24, .inl zfsi))] s.heap.size = A at hD ⊢
  have hA : ∀ q : Nat, s.heap.size ≤ q → A q := fun q h => by rw [← hAe]; exact Or.inr h
  have hS : va_S A s.heap s.heap [] := va_S.rf
  have hP : va_P (dC, dI) vwCl [(zs, .inr (7, [.ref zsi, .int zisl, .int zisz, .int zist])), (zsi, .inl (cy 0, 24, .inl zfsi))] s.heap := hP
  have hl := lv_entry ([.ref zs, .int zia, .int zib] : List Value) (n := 3) (Nat.le_of_ble_eq_true rfl)
  rw [lg_entry_eq]
  generalize (lg_sl ([.ref zs, .int zia, .int zib] : List Value) ++ List.replicate (3 - (lg_sl ([.ref zs, .int zia, .int zib] : List Value)).length) Slot.unset).toArray = ls at hl ⊢
  have hl : lv_has ls 3 [(0, .ref zs), (1, .int zia), (2, .int zib)] := hl
  refine w_q (fun Q hQ => ?_)
  refine lv_aload_n hx hb dX7_write_0 rfl (lv_at hl 0 rfl) ?_
  refine va_get (D := (dC, dI)) (ci := 7) (v := .ref zsi) (C := RX7) (T := TX7) (N := 4) hx hb hts (by decide +kernel) hown hK hP 0 rfl rfl 0 (by decide) (hts (.fieldLink RX7 9 "DripStone$Sheet" "items" "[I") (by decide +kernel)) (fun _ h9 => h9) rfl dX7_write_1 ?_
  refine lv_iload_n hx hb dX7_write_4 rfl (lv_at hl 1 rfl) ?_
  refine lv_aload_n hx hb dX7_write_5 rfl (lv_at hl 0 rfl) ?_
  refine va_get (D := (dC, dI)) (ci := 7) (v := .int zisl) (C := RX7) (T := TX7) (N := 4) hx hb hts (by decide +kernel) hown hK hP 0 rfl rfl 1 (by decide) (hts (.fieldLink RX7 19 "DripStone$Sheet" "lane" "I") (by decide +kernel)) (fun _ h9 => h9) rfl dX7_write_6 ?_
  refine lv_if_ne (tgt := 17) hx hb dX7_write_9 (by decide) (fun c_1 => ?_) (fun c_1 => ?_)
  · have f_2 : zisl.toInt ≠ 0 := ic_ne (rfl) (by decide) c_1
    refine lv_aload_n hx hb dX7_write_17 rfl (lv_at hl 0 rfl) ?_
    refine va_get (D := (dC, dI)) (ci := 7) (v := .int zisl) (C := RX7) (T := TX7) (N := 4) hx hb hts (by decide +kernel) hown hK hP 0 rfl rfl 1 (by decide) (hts (.fieldLink RX7 19 "DripStone$Sheet" "lane" "I") (by decide +kernel)) (fun _ h9 => h9) rfl dX7_write_18 ?_
    refine lv_iconst (v := 1) hx hb dX7_write_21 (by decide) ?_
    refine lv_icmp_ne (tgt := 30) hx hb dX7_write_22 (by decide) (fun c_3 => ?_) (fun c_3 => ?_)
    · have f_4 : zisl.toInt ≠ (1 : Int) := ic_ne (rfl) (show (1 : Int32).toInt = 1 by decide) c_3
      refine lv_iload_n hx hb dX7_write_30 rfl (lv_at hl 2 rfl) ?_
      refine va_iast hx hb hK hP hD hS 1 0 rfl rfl (vp_in_iff.mpr ⟨by omega, by omega⟩) dX7_write_31 (fun H locs hP hD hS => ?_)
      have hP : va_P (dC, dI) vwCl [(zs, .inr (7, [.ref zsi, .int zisl, .int zisz, .int zist])), (zsi, .inl (cy 0, 24, .inl (upd zfsi zia.toNatClampNeg zib)))] H := hP
      have hD : va_D A [(zs, .inr (7, [.ref zsi, .int zisl, .int zisz, .int zist])), (zsi, .inl (cy 0, 24, .inl (upd zfsi zia.toNatClampNeg zib)))] := hD
      generalize uzf_5 : upd zfsi zia.toNatClampNeg zib = zf_5 at hP hD
      subst hQ
      have hP9 := hP.sub (ws' := [(zs, .inr (7, [.ref zsi, .int zisl, .int zisz, .int zist])), (zsi, .inl (cy 0, 24, .inl zf_5))]) [0, 1] rfl
      have hD9 := hD.sub (ws' := [(zs, .inr (7, [.ref zsi, .int zisl, .int zisz, .int zist])), (zsi, .inl (cy 0, 24, .inl zf_5))]) [0, 1] (by decide) rfl
      exact W.vret hx hb hr (fun t ht hW => ⟨⟨zf_5, rfl, trivial, ⟨by rw [ht]; exact hP9, va_K.moved hW.alike hK, hD9⟩⟩, hS.F ht⟩) hS.2.2 dX7_write_32
    · have f_4 : ¬ (zisl.toInt ≠ (1 : Int)) := ic_nne (rfl) (show (1 : Int32).toInt = 1 by decide) c_3
      refine lv_iload_n hx hb dX7_write_25 rfl (lv_at hl 2 rfl) ?_
      refine lv_i2s (v := zib.toInt16.toInt32) hx hb dX7_write_26 rfl ?_
      refine lv_topi (fun zi_6 ezi_6 => ?_)
      refine lv_goto (tgt := 31) hx hb dX7_write_27 (by decide) ?_
      refine va_iast hx hb hK hP hD hS 1 0 rfl rfl (vp_in_iff.mpr ⟨by omega, by omega⟩) dX7_write_31 (fun H locs hP hD hS => ?_)
      have hP : va_P (dC, dI) vwCl [(zs, .inr (7, [.ref zsi, .int zisl, .int zisz, .int zist])), (zsi, .inl (cy 0, 24, .inl (upd zfsi zia.toNatClampNeg zi_6)))] H := hP
      have hD : va_D A [(zs, .inr (7, [.ref zsi, .int zisl, .int zisz, .int zist])), (zsi, .inl (cy 0, 24, .inl (upd zfsi zia.toNatClampNeg zi_6)))] := hD
      generalize uzf_7 : upd zfsi zia.toNatClampNeg zi_6 = zf_7 at hP hD
      subst hQ
      have hP9 := hP.sub (ws' := [(zs, .inr (7, [.ref zsi, .int zisl, .int zisz, .int zist])), (zsi, .inl (cy 0, 24, .inl zf_7))]) [0, 1] rfl
      have hD9 := hD.sub (ws' := [(zs, .inr (7, [.ref zsi, .int zisl, .int zisz, .int zist])), (zsi, .inl (cy 0, 24, .inl zf_7))]) [0, 1] (by decide) rfl
      exact W.vret hx hb hr (fun t ht hW => ⟨⟨zf_7, rfl, trivial, ⟨by rw [ht]; exact hP9, va_K.moved hW.alike hK, hD9⟩⟩, hS.F ht⟩) hS.2.2 dX7_write_32
  · have f_2 : ¬ (zisl.toInt ≠ 0) := ic_nne (rfl) (by decide) c_1
    refine lv_iload_n hx hb dX7_write_12 rfl (lv_at hl 2 rfl) ?_
    refine lv_i2b (v := zib.toInt8.toInt32) hx hb dX7_write_13 rfl ?_
    refine lv_topi (fun zi_8 ezi_8 => ?_)
    refine lv_goto (tgt := 31) hx hb dX7_write_14 (by decide) ?_
    refine va_iast hx hb hK hP hD hS 1 0 rfl rfl (vp_in_iff.mpr ⟨by omega, by omega⟩) dX7_write_31 (fun H locs hP hD hS => ?_)
    have hP : va_P (dC, dI) vwCl [(zs, .inr (7, [.ref zsi, .int zisl, .int zisz, .int zist])), (zsi, .inl (cy 0, 24, .inl (upd zfsi zia.toNatClampNeg zi_8)))] H := hP
    have hD : va_D A [(zs, .inr (7, [.ref zsi, .int zisl, .int zisz, .int zist])), (zsi, .inl (cy 0, 24, .inl (upd zfsi zia.toNatClampNeg zi_8)))] := hD
    generalize uzf_9 : upd zfsi zia.toNatClampNeg zi_8 = zf_9 at hP hD
    subst hQ
    have hP9 := hP.sub (ws' := [(zs, .inr (7, [.ref zsi, .int zisl, .int zisz, .int zist])), (zsi, .inl (cy 0, 24, .inl zf_9))]) [0, 1] rfl
    have hD9 := hD.sub (ws' := [(zs, .inr (7, [.ref zsi, .int zisl, .int zisz, .int zist])), (zsi, .inl (cy 0, 24, .inl zf_9))]) [0, 1] (by decide) rfl
    exact W.vret hx hb hr (fun t ht hW => ⟨⟨zf_9, rfl, trivial, ⟨by rw [ht]; exact hP9, va_K.moved hW.alike hK, hD9⟩⟩, hS.F ht⟩) hS.2.2 dX7_write_32
set_option maxHeartbeats 8000000 in
set_option maxRecDepth 100000 in
theorem c_X7_begin (l : Launch) (dC : Nat → ClassId) (dI : Nat → Nat → Nat) (cy : Nat → ClassId) (sz : Nat) (zs : Nat) (zia : Int32) (zib : Int32) (zsi : Nat) (zisl : Int32) (zisz : Int32) (zist : Int32) (zfsi : Nat → Int32) (b_zia : 0 ≤ zia.toInt ∧ zia.toInt ≤ 2) (b_zib : 0 ≤ zib.toInt ∧ zib.toInt ≤ 24) (b_zisl : 0 ≤ zisl.toInt ∧ zisl.toInt ≤ 2) (b_zisz : 0 ≤ zisz.toInt ∧ zisz.toInt ≤ 24) (b_zist : 0 ≤ zist.toInt ∧ zist.toInt ≤ 1) : Met l yX7_begin wsX7_begin ({ frames := 1, cells := 0, slots := 0, locals := 23 } : Room) (va_Pc [.ref zs, .int zia, .int zib] (PRE dC dI cy [(zs, .inr (7, [.ref zsi, .int zisl, .int zisz, .int zist])), (zsi, .inl (cy 0, 24, .inl zfsi))] sz)) (va_Qv (fun (u : (Nat → Int32)) => True) (fun u t => POST dC dI cy (va_A [(zs, .inr (7, [.ref zsi, .int zisl, .int zisz, .int zist])), (zsi, .inl (cy 0, 24, .inl zfsi))] sz) [(zs, .inr (7, [.ref zsi, .int zia, .int zib, .int 1])), (zsi, .inl (cy 0, 24, .inl u))] t) (va_A [(zs, .inr (7, [.ref zsi, .int zisl, .int zisz, .int zist])), (zsi, .inl (cy 0, 24, .inl zfsi))] sz)) 0 0 (va_A [(zs, .inr (7, [.ref zsi, .int zisl, .int zisz, .int zist])), (zsi, .inl (cy 0, 24, .inl zfsi))] sz) := by
  refine Met.ofW (cc := cX7_begin) (maxL := 3) (ret := none) (by decide) rfl ?_
  intro p e s m args below meth c s₁ B hml hv
  obtain ⟨rfl, hsz, hP, hK, hD0, hN⟩ := hv
  have hx := B.exec
  have hb := B.bytes
  have hr := B.returns
  have hts := atoms_spec (ws := wsX7_begin) B.pre
  have hown : s.vm.findClass RX7 = some m.cls := findClass_of_methodNamed B.named
  have hlocks := B.notSynchronized
  subst hsz
  have hD := hD0.self (sz := s.heap.size)
  generalize hAe : va_A [(zs, .inr (7, [.ref zsi, .int zisl, .int zisz, .int zist])), (zsi, .inl (cy 0, 24, .inl zfsi))] s.heap.size = A at hD ⊢
  have hA : ∀ q : Nat, s.heap.size ≤ q → A q := fun q h => by rw [← hAe]; exact Or.inr h
  have hS : va_S A s.heap s.heap [] := va_S.rf
  have hP : va_P (dC, dI) vwCl [(zs, .inr (7, [.ref zsi, .int zisl, .int zisz, .int zist])), (zsi, .inl (cy 0, 24, .inl zfsi))] s.heap := hP
  have hl := lv_entry ([.ref zs, .int zia, .int zib] : List Value) (n := 3) (Nat.le_of_ble_eq_true rfl)
  rw [lg_entry_eq]
  generalize (lg_sl ([.ref zs, .int zia, .int zib] : List Value) ++ List.replicate (3 - (lg_sl ([.ref zs, .int zia, .int zib] : List Value)).length) Slot.unset).toArray = ls at hl ⊢
  have hl : lv_has ls 3 [(0, .ref zs), (1, .int zia), (2, .int zib)] := hl
  refine w_q (fun Q hQ => ?_)
  refine lv_aload_n hx hb dX7_begin_0 rfl (lv_at hl 0 rfl) ?_
  refine lv_iconst (v := 1) hx hb dX7_begin_1 (by decide) ?_
  refine va_put (D := (dC, dI)) (ci := 7) (v := .int 1) (ty := .boolean) (C := RX7) (T := TX7) (N := 4) hx hb hts (by decide +kernel) tyX7 tyX7_ok nmX7 hown hK hP hD hS 0 rfl rfl 3 (by decide) (hts (.fieldLink RX7 15 "DripStone$Sheet" "there" "Z") (by decide +kernel)) (fun _ h9 => h9) rfl (by decide +kernel) rfl rfl (Nat.le_of_ble_eq_true rfl) dX7_begin_2 (fun H locs hP hD hS => ?_)
  have hP : va_P (dC, dI) vwCl [(zs, .inr (7, [.ref zsi, .int zisl, .int zisz, .int 1])), (zsi, .inl (cy 0, 24, .inl zfsi))] H := hP
  have hD : va_D A [(zs, .inr (7, [.ref zsi, .int zisl, .int zisz, .int 1])), (zsi, .inl (cy 0, 24, .inl zfsi))] := hD
  refine lv_aload_n hx hb dX7_begin_5 rfl (lv_at hl 0 rfl) ?_
  refine lv_iload_n hx hb dX7_begin_6 rfl (lv_at hl 1 rfl) ?_
  refine va_put (D := (dC, dI)) (ci := 7) (v := .int zia) (ty := .int) (C := RX7) (T := TX7) (N := 4) hx hb hts (by decide +kernel) tyX7 tyX7_ok nmX7 hown hK hP hD hS 0 rfl rfl 1 (by decide) (hts (.fieldLink RX7 19 "DripStone$Sheet" "lane" "I") (by decide +kernel)) (fun _ h9 => h9) rfl (by decide +kernel) rfl rfl (Nat.le_of_ble_eq_true rfl) dX7_begin_7 (fun H locs hP hD hS => ?_)
  have hP : va_P (dC, dI) vwCl [(zs, .inr (7, [.ref zsi, .int zia, .int zisz, .int 1])), (zsi, .inl (cy 0, 24, .inl zfsi))] H := hP
  have hD : va_D A [(zs, .inr (7, [.ref zsi, .int zia, .int zisz, .int 1])), (zsi, .inl (cy 0, 24, .inl zfsi))] := hD
  refine lv_aload_n hx hb dX7_begin_10 rfl (lv_at hl 0 rfl) ?_
  refine lv_iload_n hx hb dX7_begin_11 rfl (lv_at hl 2 rfl) ?_
  refine va_put (D := (dC, dI)) (ci := 7) (v := .int zib) (ty := .int) (C := RX7) (T := TX7) (N := 4) hx hb hts (by decide +kernel) tyX7 tyX7_ok nmX7 hown hK hP hD hS 0 rfl rfl 2 (by decide) (hts (.fieldLink RX7 23 "DripStone$Sheet" "size" "I") (by decide +kernel)) (fun _ h9 => h9) rfl (by decide +kernel) rfl rfl (Nat.le_of_ble_eq_true rfl) dX7_begin_12 (fun H locs hP hD hS => ?_)
  have hP : va_P (dC, dI) vwCl [(zs, .inr (7, [.ref zsi, .int zia, .int zib, .int 1])), (zsi, .inl (cy 0, 24, .inl zfsi))] H := hP
  have hD : va_D A [(zs, .inr (7, [.ref zsi, .int zia, .int zib, .int 1])), (zsi, .inl (cy 0, 24, .inl zfsi))] := hD
  refine lv_aload_n hx hb dX7_begin_15 rfl (lv_at hl 0 rfl) ?_
  refine va_get (D := (dC, dI)) (ci := 7) (v := .ref zsi) (C := RX7) (T := TX7) (N := 4) hx hb hts (by decide +kernel) hown hK hP 0 rfl rfl 0 (by decide) (hts (.fieldLink RX7 9 "DripStone$Sheet" "items" "[I") (by decide +kernel)) (fun _ h9 => h9) rfl dX7_begin_16 ?_
  refine lv_iconst (v := 0) hx hb dX7_begin_19 (by decide) ?_
  refine cj_v (wc := [(zsi, .inl (cy 0, 24, .inl zfsi))]) (wr := [(zs, .inr (7, [.ref zsi, .int zia, .int zib, .int 1]))]) (w1 := fun (u : (Nat → Int32)) => [(zsi, .inl (cy 0, 24, .inl u))]) (va_runS (As := [.ref zsi, .int 0]) (rest := []) ⟨hx, hb, hml, hown, hts⟩ (c_J7_fill_53178 l dC dI cy H.size zsi zfsi) (va_cwS 2 hts gX7_begin_J7_fill_53178 rfl rfl rfl (by decide +kernel) ⟨(Nat.le_of_ble_eq_true rfl), (Nat.le_of_ble_eq_true rfl)⟩) (PRE.s (hP.sub [1] rfl) hK (hD.sub [1] (by decide) rfl) hN) rfl rfl hl.1 rfl (lv_room (Nat.le_of_ble_eq_true rfl)) dX7_begin_20 ⟨(Nat.le_of_ble_eq_true rfl), (Nat.le_of_ble_eq_true rfl)⟩) hP hD hS hA [1] [0] rfl rfl rfl (by decide) (fun zf_4 H locs hw_3 hP hD hS => ?_)
  have hP : va_P (dC, dI) vwCl [(zs, .inr (7, [.ref zsi, .int zia, .int zib, .int 1])), (zsi, .inl (cy 0, 24, .inl zf_4))] H := hP
  have hD : va_D A [(zs, .inr (7, [.ref zsi, .int zia, .int zib, .int 1])), (zsi, .inl (cy 0, 24, .inl zf_4))] := hD
  subst hQ
  have hP9 := hP.sub (ws' := [(zs, .inr (7, [.ref zsi, .int zia, .int zib, .int 1])), (zsi, .inl (cy 0, 24, .inl zf_4))]) [0, 1] rfl
  have hD9 := hD.sub (ws' := [(zs, .inr (7, [.ref zsi, .int zia, .int zib, .int 1])), (zsi, .inl (cy 0, 24, .inl zf_4))]) [0, 1] (by decide) rfl
  exact W.vret hx hb hr (fun t ht hW => ⟨⟨zf_4, rfl, trivial, ⟨by rw [ht]; exact hP9, va_K.moved hW.alike hK, hD9⟩⟩, hS.F ht⟩) hS.2.2 dX7_begin_23
