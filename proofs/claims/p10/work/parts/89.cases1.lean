set_option maxHeartbeats 4000000 in
set_option maxRecDepth 100000 in
theorem lw_c14 {p : Program} {l : Launch} {e : Env} {s : State} {m : MethodId} {below : List Frame} {meth : Method} {c : Code} {b L : Nat} {xs : Nat → Int32} {A : Nat → Prop} {Q : State → Prop} (hx : p.tables.exec = Jvm.exec) (hb : c.code = cL_law) (hml : c.maxLocals = 4) (hown : s.vm.findClass RL = some m.cls) (hts : ∀ w ∈ wsL_law, w.before #[Value.ref b] s = true) (hX : va_X b L xs s s.heap) (hbl : b < s.heap.size) (hbA : ¬ A b) (hA : ∀ q : Nat, s.heap.size ≤ q → A q) (hL : L ≤ 3072) (dC : Nat → ClassId) (dI : Nat → Nat → Nat) (cy : Nat → ClassId) (zL : List Nat) (zT : Nat → Nat) (zR : Nat → Nat → Nat) (zI : Nat → Nat → Int32) (zJ : Nat → Nat → Int64) (zx zy : Nat) (zi9 : Int32) (hs : SKP zL zT zR) (hw : WT zT zR zI) (t_zx : zT zx = 11) (t_zy : zT zy = 18) (hj : JX zR zI zx) (hz : ZI (zI (zR zy 0))) (hk : (zI zy 23).toInt = 0 ∨ ZI (zI (zR zy 24))) (h3 : R3 zR zI zx zy) (hrr : RRn zR zI zx zy) (hsh : RSH zR zI zx zy) (hit : RIT zR zI zx zy) (hrg : RGn zR zI zy) (hK : va_K (dC, dI) vwCl (TY cy) s) (hN : N0 s) (b_zi9 : 0 ≤ zi9.toInt ∧ zi9.toInt ≤ 3066) (hi1 : zi9.toInt + 6 ≤ (L : Int))
    (kx : ∀ (zI2 : Nat → Nat → Int32) (zJ2 : Nat → Nat → Int64) (H : Heap) (locs : List Loc) (ls : Array Slot), WT zT zR zI2 → JX zR zI2 zx → ZI (zI2 (zR zy 0)) → ((zI2 zy 23).toInt = 0 ∨ ZI (zI2 (zR zy 24))) → (R3 zR zI2 zx zy) → (RRn zR zI2 zx zy) → (RSH zR zI2 zx zy) → (RIT zR zI2 zx zy) → (RGn zR zI2 zy) → va_P (dC, dI) vwCl (WL cy zL zT zR zI2 zJ2) H → va_D A (WL cy zL zT zR zI2 zJ2) → va_S A s.heap H locs → lv_has ls 4 [(0, .ref b), (1, .ref zx), (2, .ref zy), (3, .int zi9)] → W p l e room_1 s m #[Value.ref b] below meth c H locs 265 67857 Q (F0 m 1785 ls []))
    {H : Heap} {locs : List Loc} {ls : Array Slot} (hP : va_P (dC, dI) vwCl (WL cy zL zT zR zI zJ) H) (hD : va_D A (WL cy zL zT zR zI zJ)) (hS : va_S A s.heap H locs) (hl : lv_has ls 4 [(0, .ref b), (1, .ref zx), (2, .ref zy), (3, .int zi9)]) : W p l e room_1 s m #[Value.ref b] below meth c H locs 265 67857 Q (F0 m 734 ls []) := by
  have h_zI : WM [109, 4700, 10000] AL zT zR zI zI := WM.rf hw
  have t_1 : zT (zR zy 24) = 109 := sk_f hs t_zy (by decide) rfl (by decide)
  have t_2 : zT (zR zy 0) = 100 := sk_f hs t_zy (by decide) rfl (by decide)
  refine lv_aload_n hx hb dL_law_734 rfl (lv_at hl 1 rfl) ?_
  refine lv_aload_n hx hb dL_law_735 rfl (lv_at hl 0 rfl) ?_
  refine lv_iload_n hx hb dL_law_736 rfl (lv_at hl 3 rfl) ?_
  refine lv_iconst (v := 1) hx hb dL_law_737 (by decide) ?_
  refine lv_iadd hx hb dL_law_738 ?_
  refine lv_topi (fun zi_3 ezi_3 => ?_)
  have tzi_3 : zi_3.toInt = zi9.toInt + (1 : Int) := by rw [ezi_3]; exact tiadd (rfl) (show (1 : Int32).toInt = 1 by decide) (by omega) (by omega)
  refine va_sld hx hb hX hbl hbA hS (vp_in_iff.mpr ⟨by omega, by omega⟩) dL_law_739 ?_
  refine lv_topi (fun zi_4 ezi_4 => ?_)
  refine lv_aload_n hx hb dL_law_740 rfl (lv_at hl 0 rfl) ?_
  refine lv_iload_n hx hb dL_law_741 rfl (lv_at hl 3 rfl) ?_
  refine lv_iconst (v := 2) hx hb dL_law_742 (by decide) ?_
  refine lv_iadd hx hb dL_law_743 ?_
  refine lv_topi (fun zi_5 ezi_5 => ?_)
  have tzi_5 : zi_5.toInt = zi9.toInt + (2 : Int) := by rw [ezi_5]; exact tiadd (rfl) (show (2 : Int32).toInt = 2 by decide) (by omega) (by omega)
  refine va_sld hx hb hX hbl hbA hS (vp_in_iff.mpr ⟨by omega, by omega⟩) dL_law_744 ?_
  refine lv_topi (fun zi_6 ezi_6 => ?_)
  refine hj_i (ws := (WL cy zL zT zR zI zJ)) (w1 := fun (u : (Nat → Nat → Int32)) => (WL cy zL zT zR u zJ)) (va_runV (As := [.int zi_4, .int zi_6]) (rest := []) ⟨hx, hb, hml, hown, hts⟩ (t_X10_most l dC dI cy H.size zL zT zR zI zJ zx zi_4 zi_6 hs h_zI.1 t_zx hj) (cwV 2 hts gL_law_X10_most rfl rfl rfl (by decide +kernel) ⟨(Nat.le_of_ble_eq_true rfl), (Nat.le_of_ble_eq_true rfl)⟩) (PRE.v hP hK hD hN (ht_recv hK hP hs t_zx (by decide) rfl rfl)) rfl rfl hl.1 rfl (lv_room (Nat.le_of_ble_eq_true rfl)) dL_law_745 ⟨(Nat.le_of_ble_eq_true rfl), (Nat.le_of_ble_eq_true rfl)⟩) hP hD hS hA (fun zi_7 zI_10 H locs hw_8 hP hD hS => ?_)
  obtain ⟨k_zI_10, b_zi_7, ps_11, ps_12, ps_13⟩ : (WM [109, 4700] AL zT zR zI zI_10) ∧ ((-1) ≤ zi_7.toInt ∧ zi_7.toInt ≤ 4) ∧ (JX zR zI_10 zx) ∧ (MSok zi_4.toInt zi_6.toInt → (zi_7.toInt = (zI (zR (zR (zR zx 0) 2) zi_4.toNatClampNeg) 9).toInt ∧ (zI_10 (zR (zR (zR zx 0) 2) zi_4.toNatClampNeg) 9).toInt = zi_6.toInt ∧ (∀ a : Nat, zT a = 1 → ¬ a = (zR (zR (zR zx 0) 2) zi_4.toNatClampNeg) → zI_10 a 9 = zI a 9))) ∧ (¬ (MSok zi_4.toInt zi_6.toInt) → (zi_7.toInt = -1 ∧ zI_10 = zI)) := hw_8
  have h_zI_10 : WM [109, 4700, 10000] AL zT zR zI zI_10 := h_zI.tr k_zI_10 (by decide) (fun _ _ => trivial)
  have hk_14 : (zI_10 zy 23).toInt = 0 ∨ ZI (zI_10 (zR zy 24)) := by rw [k_zI_10.2 zy 23 (Or.inl (by rw [t_zy]; decide)), k_zI_10.2.row t_1 (by decide) (by decide)]; exact hk
  have hsh_zI_10 : RSH zR zI_10 zx zy := RSH.sm hsh hs t_zx t_zy k_zI_10.2 (by decide)
  have hit_zI_10 : RIT zR zI_10 zx zy := RIT.sm hit hs t_zx t_zy k_zI_10.2 (by decide)
  have hrr_zI_10 : RRn zR zI_10 zx zy := RRn.sm hrr hs t_zx t_zy k_zI_10.2 (by decide) (FQR.of (k_zI_10.2.row t_2 (by decide) (by decide)))
  have hrg_zI_10 : RGn zR zI_10 zy := RGn.sm hrg hs t_zy k_zI_10.2 (by decide) (FQR.of (k_zI_10.2.row t_2 (by decide) (by decide)))
  refine lv_pop hx hb dL_law_748 rfl ?_
  refine lv_aload_n hx hb dL_law_749 rfl (lv_at hl 2 rfl) ?_
  refine lv_aload_n hx hb dL_law_750 rfl (lv_at hl 0 rfl) ?_
  refine lv_iload_n hx hb dL_law_751 rfl (lv_at hl 3 rfl) ?_
  refine lv_iconst (v := 1) hx hb dL_law_752 (by decide) ?_
  refine lv_iadd hx hb dL_law_753 ?_
  refine lv_topi (fun zi_15 ezi_15 => ?_)
  have tzi_15 : zi_15.toInt = zi9.toInt + (1 : Int) := by rw [ezi_15]; exact tiadd (rfl) (show (1 : Int32).toInt = 1 by decide) (by omega) (by omega)
  obtain rfl : zi_3 = zi_15 := ezi_3.trans ezi_15.symm
  refine va_sld hx hb hX hbl hbA hS (vp_in_iff.mpr ⟨by omega, by omega⟩) dL_law_754 ?_
  refine lv_topi (fun zi_16 ezi_16 => ?_)
  obtain rfl : zi_4 = zi_16 := ezi_4.trans ezi_16.symm
  refine lv_aload_n hx hb dL_law_755 rfl (lv_at hl 0 rfl) ?_
  refine lv_iload_n hx hb dL_law_756 rfl (lv_at hl 3 rfl) ?_
  refine lv_iconst (v := 2) hx hb dL_law_757 (by decide) ?_
  refine lv_iadd hx hb dL_law_758 ?_
  refine lv_topi (fun zi_17 ezi_17 => ?_)
  have tzi_17 : zi_17.toInt = zi9.toInt + (2 : Int) := by rw [ezi_17]; exact tiadd (rfl) (show (2 : Int32).toInt = 2 by decide) (by omega) (by omega)
  obtain rfl : zi_5 = zi_17 := ezi_5.trans ezi_17.symm
  refine va_sld hx hb hX hbl hbA hS (vp_in_iff.mpr ⟨by omega, by omega⟩) dL_law_759 ?_
  refine lv_topi (fun zi_18 ezi_18 => ?_)
  obtain rfl : zi_6 = zi_18 := ezi_6.trans ezi_18.symm
  have zz_19 : ZI (zI_10 (zR zy 0)) := by rw [(k_zI_10.2.row t_2 (by decide) (by decide))]; exact hz
  refine hj_i (ws := (WL cy zL zT zR zI_10 zJ)) (w1 := fun (u : (Nat → Nat → Int32)) => (WL cy zL zT zR u zJ)) (va_runV (As := [.int zi_4, .int zi_6]) (rest := []) ⟨hx, hb, hml, hown, hts⟩ (t_X11_most l dC dI cy H.size zL zT zR zI_10 zJ zy zi_4 zi_6 hs h_zI_10.1 t_zy zz_19) (cwV 2 hts gL_law_X11_most rfl rfl rfl (by decide +kernel) ⟨(Nat.le_of_ble_eq_true rfl), (Nat.le_of_ble_eq_true rfl)⟩) (PRE.v hP hK hD hN (ht_recv hK hP hs t_zy (by decide) rfl rfl)) rfl rfl hl.1 rfl (lv_room (Nat.le_of_ble_eq_true rfl)) dL_law_760 ⟨(Nat.le_of_ble_eq_true rfl), (Nat.le_of_ble_eq_true rfl)⟩) hP hD hS hA (fun zi_20 zI_23 H locs hw_21 hP hD hS => ?_)
  obtain ⟨k_zI_23, b_zi_20, ps_24, ps_25, ps_26⟩ : (WM [10000] AL zT zR zI_10 zI_23) ∧ ((-1) ≤ zi_20.toInt ∧ zi_20.toInt ≤ 4) ∧ (MSok zi_4.toInt zi_6.toInt → (zi_20.toInt = zA (zI_10 (zR zy 0)) (3 + zi_4.toInt) ∧ zA (zI_23 (zR zy 0)) (3 + zi_4.toInt) = zi_6.toInt ∧ FE (zI_10 (zR zy 0)) (zI_23 (zR zy 0)) (3 + zi_4.toInt))) ∧ (¬ (MSok zi_4.toInt zi_6.toInt) → (zi_20.toInt = -1 ∧ zI_23 = zI_10)) ∧ (ZI (zI_23 (zR zy 0))) := hw_21
  have h_zI_23 : WM [109, 4700, 10000] AL zT zR zI zI_23 := h_zI_10.tr k_zI_23 (by decide) (fun _ _ => trivial)
  have j_zI_23 : JX zR zI_23 zx := JX.sm ps_11 hs t_zx k_zI_23.2 (by decide) (by decide)
  have hk_27 : (zI_23 zy 23).toInt = 0 ∨ ZI (zI_23 (zR zy 24)) := by rw [k_zI_23.2 zy 23 (Or.inl (by rw [t_zy]; decide)), k_zI_23.2.row t_1 (by decide) (by decide)]; exact hk_14
  have hsh_zI_23 : RSH zR zI_23 zx zy := RSH.sm hsh_zI_10 hs t_zx t_zy k_zI_23.2 (by decide)
  have hit_zI_23 : RIT zR zI_23 zx zy := RIT.sm hit_zI_10 hs t_zx t_zy k_zI_23.2 (by decide)
  have hrr_zI_23 : RRn zR zI_23 zx zy := RRn.sm hrr_zI_10 hs t_zx t_zy k_zI_23.2 (by decide) (fqr_of (P := MSok zi_4.toInt zi_6.toInt) (fun h9 => ⟨(ps_24 h9).2.2, by unfold MSok at h9; omega⟩) (fun h9 => congrFun (ps_25 h9).2 _))
  have hrg_zI_23 : RGn zR zI_23 zy := RGn.sm hrg_zI_10 hs t_zy k_zI_23.2 (by decide) (fqr_of (P := MSok zi_4.toInt zi_6.toInt) (fun h9 => ⟨(ps_24 h9).2.2, by unfold MSok at h9; omega⟩) (fun h9 => congrFun (ps_25 h9).2 _))
  obtain ⟨eq_zI_23, h3_zI_23⟩ := MS.both h3 hs t_zx t_zy k_zI_10.2 (by decide) ps_12 ps_13 k_zI_23.2 (by decide) ps_24 ps_25
  refine lv_pop hx hb dL_law_763 rfl ?_
  refine lv_goto (tgt := 1785) hx hb dL_law_764 (by decide) ?_
  exact kx _ _ _ _ _ h_zI_23.1 j_zI_23 ps_26 hk_27 h3_zI_23 hrr_zI_23 hsh_zI_23 hit_zI_23 hrg_zI_23 hP hD hS hl
set_option maxHeartbeats 4000000 in
set_option maxRecDepth 100000 in
theorem lw_c15 {p : Program} {l : Launch} {e : Env} {s : State} {m : MethodId} {below : List Frame} {meth : Method} {c : Code} {b L : Nat} {xs : Nat → Int32} {A : Nat → Prop} {Q : State → Prop} (hx : p.tables.exec = Jvm.exec) (hb : c.code = cL_law) (hml : c.maxLocals = 4) (hown : s.vm.findClass RL = some m.cls) (hts : ∀ w ∈ wsL_law, w.before #[Value.ref b] s = true) (hX : va_X b L xs s s.heap) (hbl : b < s.heap.size) (hbA : ¬ A b) (hA : ∀ q : Nat, s.heap.size ≤ q → A q) (hL : L ≤ 3072) (dC : Nat → ClassId) (dI : Nat → Nat → Nat) (cy : Nat → ClassId) (zL : List Nat) (zT : Nat → Nat) (zR : Nat → Nat → Nat) (zI : Nat → Nat → Int32) (zJ : Nat → Nat → Int64) (zx zy : Nat) (zi9 : Int32) (hs : SKP zL zT zR) (hw : WT zT zR zI) (t_zx : zT zx = 11) (t_zy : zT zy = 18) (hj : JX zR zI zx) (hz : ZI (zI (zR zy 0))) (hk : (zI zy 23).toInt = 0 ∨ ZI (zI (zR zy 24))) (h3 : R3 zR zI zx zy) (hrr : RRn zR zI zx zy) (hsh : RSH zR zI zx zy) (hit : RIT zR zI zx zy) (hrg : RGn zR zI zy) (hK : va_K (dC, dI) vwCl (TY cy) s) (hN : N0 s) (b_zi9 : 0 ≤ zi9.toInt ∧ zi9.toInt ≤ 3066) (hi1 : zi9.toInt + 6 ≤ (L : Int))
    (kx : ∀ (zI2 : Nat → Nat → Int32) (zJ2 : Nat → Nat → Int64) (H : Heap) (locs : List Loc) (ls : Array Slot), WT zT zR zI2 → JX zR zI2 zx → ZI (zI2 (zR zy 0)) → ((zI2 zy 23).toInt = 0 ∨ ZI (zI2 (zR zy 24))) → (R3 zR zI2 zx zy) → (RRn zR zI2 zx zy) → (RSH zR zI2 zx zy) → (RIT zR zI2 zx zy) → (RGn zR zI2 zy) → va_P (dC, dI) vwCl (WL cy zL zT zR zI2 zJ2) H → va_D A (WL cy zL zT zR zI2 zJ2) → va_S A s.heap H locs → lv_has ls 4 [(0, .ref b), (1, .ref zx), (2, .ref zy), (3, .int zi9)] → W p l e room_1 s m #[Value.ref b] below meth c H locs 265 67857 Q (F0 m 1785 ls []))
    {H : Heap} {locs : List Loc} {ls : Array Slot} (hP : va_P (dC, dI) vwCl (WL cy zL zT zR zI zJ) H) (hD : va_D A (WL cy zL zT zR zI zJ)) (hS : va_S A s.heap H locs) (hl : lv_has ls 4 [(0, .ref b), (1, .ref zx), (2, .ref zy), (3, .int zi9)]) : W p l e room_1 s m #[Value.ref b] below meth c H locs 265 67857 Q (F0 m 767 ls []) := by
  have h_zI : WM [108, 2200, 2300, 4700, 10000] AL zT zR zI zI := WM.rf hw
  have t_1 : zT (zR zy 24) = 109 := sk_f hs t_zy (by decide) rfl (by decide)
  have t_2 : zT (zR zy 0) = 100 := sk_f hs t_zy (by decide) rfl (by decide)
  refine lv_aload_n hx hb dL_law_767 rfl (lv_at hl 1 rfl) ?_
  refine lv_aload_n hx hb dL_law_768 rfl (lv_at hl 0 rfl) ?_
  refine lv_iload_n hx hb dL_law_769 rfl (lv_at hl 3 rfl) ?_
  refine lv_iconst (v := 1) hx hb dL_law_770 (by decide) ?_
  refine lv_iadd hx hb dL_law_771 ?_
  refine lv_topi (fun zi_3 ezi_3 => ?_)
  have tzi_3 : zi_3.toInt = zi9.toInt + (1 : Int) := by rw [ezi_3]; exact tiadd (rfl) (show (1 : Int32).toInt = 1 by decide) (by omega) (by omega)
  refine va_sld hx hb hX hbl hbA hS (vp_in_iff.mpr ⟨by omega, by omega⟩) dL_law_772 ?_
  refine lv_topi (fun zi_4 ezi_4 => ?_)
  refine lv_aload_n hx hb dL_law_773 rfl (lv_at hl 0 rfl) ?_
  refine lv_iload_n hx hb dL_law_774 rfl (lv_at hl 3 rfl) ?_
  refine lv_iconst (v := 2) hx hb dL_law_775 (by decide) ?_
  refine lv_iadd hx hb dL_law_776 ?_
  refine lv_topi (fun zi_5 ezi_5 => ?_)
  have tzi_5 : zi_5.toInt = zi9.toInt + (2 : Int) := by rw [ezi_5]; exact tiadd (rfl) (show (2 : Int32).toInt = 2 by decide) (by omega) (by omega)
  refine va_sld hx hb hX hbl hbA hS (vp_in_iff.mpr ⟨by omega, by omega⟩) dL_law_777 ?_
  refine lv_topi (fun zi_6 ezi_6 => ?_)
  refine lv_aload_n hx hb dL_law_778 rfl (lv_at hl 0 rfl) ?_
  refine lv_iload_n hx hb dL_law_779 rfl (lv_at hl 3 rfl) ?_
  refine lv_iconst (v := 3) hx hb dL_law_780 (by decide) ?_
  refine lv_iadd hx hb dL_law_781 ?_
  refine lv_topi (fun zi_7 ezi_7 => ?_)
  have tzi_7 : zi_7.toInt = zi9.toInt + (3 : Int) := by rw [ezi_7]; exact tiadd (rfl) (show (3 : Int32).toInt = 3 by decide) (by omega) (by omega)
  refine va_sld hx hb hX hbl hbA hS (vp_in_iff.mpr ⟨by omega, by omega⟩) dL_law_782 ?_
  refine lv_topi (fun zi_8 ezi_8 => ?_)
  refine lv_aload_n hx hb dL_law_783 rfl (lv_at hl 0 rfl) ?_
  refine lv_iload_n hx hb dL_law_784 rfl (lv_at hl 3 rfl) ?_
  refine lv_iconst (v := 4) hx hb dL_law_785 (by decide) ?_
  refine lv_iadd hx hb dL_law_786 ?_
  refine lv_topi (fun zi_9 ezi_9 => ?_)
  have tzi_9 : zi_9.toInt = zi9.toInt + (4 : Int) := by rw [ezi_9]; exact tiadd (rfl) (show (4 : Int32).toInt = 4 by decide) (by omega) (by omega)
  refine va_sld hx hb hX hbl hbA hS (vp_in_iff.mpr ⟨by omega, by omega⟩) dL_law_787 ?_
  refine lv_topi (fun zi_10 ezi_10 => ?_)
  refine lv_aload_n hx hb dL_law_788 rfl (lv_at hl 0 rfl) ?_
  refine lv_iload_n hx hb dL_law_789 rfl (lv_at hl 3 rfl) ?_
  refine lv_iconst (v := 5) hx hb dL_law_790 (by decide) ?_
  refine lv_iadd hx hb dL_law_791 ?_
  refine lv_topi (fun zi_11 ezi_11 => ?_)
  have tzi_11 : zi_11.toInt = zi9.toInt + (5 : Int) := by rw [ezi_11]; exact tiadd (rfl) (show (5 : Int32).toInt = 5 by decide) (by omega) (by omega)
  refine va_sld hx hb hX hbl hbA hS (vp_in_iff.mpr ⟨by omega, by omega⟩) dL_law_792 ?_
  refine lv_topi (fun zi_12 ezi_12 => ?_)
  refine hj_i (ws := (WL cy zL zT zR zI zJ)) (w1 := fun (u : (Nat → Nat → Int32)) => (WL cy zL zT zR u zJ)) (va_runV (As := [.int zi_4, .int zi_6, .int zi_8, .int zi_10, .int zi_12]) (rest := []) ⟨hx, hb, hml, hown, hts⟩ (t_X10_stretch l dC dI cy H.size zL zT zR zI zJ zx zi_4 zi_6 zi_8 zi_10 zi_12 hs h_zI.1 t_zx hj) (cwV 5 hts gL_law_X10_stretch rfl rfl rfl (by decide +kernel) ⟨(Nat.le_of_ble_eq_true rfl), (Nat.le_of_ble_eq_true rfl)⟩) (PRE.v hP hK hD hN (ht_recv hK hP hs t_zx (by decide) rfl rfl)) rfl rfl hl.1 rfl (lv_room (Nat.le_of_ble_eq_true rfl)) dL_law_793 ⟨(Nat.le_of_ble_eq_true rfl), (Nat.le_of_ble_eq_true rfl)⟩) hP hD hS hA (fun zi_13 zI_16 H locs hw_14 hP hD hS => ?_)
  obtain ⟨k_zI_16, b_zi_13, ps_17⟩ : (WM [108, 2200, 2300, 4700] AL zT zR zI zI_16) ∧ ((-12) ≤ zi_13.toInt ∧ zi_13.toInt ≤ 6) ∧ (JX zR zI_16 zx) := hw_14
  have h_zI_16 : WM [108, 2200, 2300, 4700, 10000] AL zT zR zI zI_16 := h_zI.tr k_zI_16 (by decide) (fun _ _ => trivial)
  have hk_18 : (zI_16 zy 23).toInt = 0 ∨ ZI (zI_16 (zR zy 24)) := by rw [k_zI_16.2 zy 23 (Or.inl (by rw [t_zy]; decide)), k_zI_16.2.row t_1 (by decide) (by decide)]; exact hk
  have hsh_zI_16 : RSH zR zI_16 zx zy := RSH.sm hsh hs t_zx t_zy k_zI_16.2 (by decide)
  have hit_zI_16 : RIT zR zI_16 zx zy := RIT.sm hit hs t_zx t_zy k_zI_16.2 (by decide)
  have hrr_zI_16 : RRn zR zI_16 zx zy := RRn.sm hrr hs t_zx t_zy k_zI_16.2 (by decide) (FQR.of (k_zI_16.2.row t_2 (by decide) (by decide)))
  have hrg_zI_16 : RGn zR zI_16 zy := RGn.sm hrg hs t_zy k_zI_16.2 (by decide) (FQR.of (k_zI_16.2.row t_2 (by decide) (by decide)))
  have h3_zI_16 : R3 zR zI_16 zx zy := R3.sm h3 hs t_zx t_zy k_zI_16.2 (by decide) (FQ3.of (k_zI_16.2.row t_2 (by decide) (by decide)))
  refine lv_pop hx hb dL_law_796 rfl ?_
  refine lv_aload_n hx hb dL_law_797 rfl (lv_at hl 2 rfl) ?_
  refine lv_aload_n hx hb dL_law_798 rfl (lv_at hl 0 rfl) ?_
  refine lv_iload_n hx hb dL_law_799 rfl (lv_at hl 3 rfl) ?_
  refine lv_iconst (v := 1) hx hb dL_law_800 (by decide) ?_
  refine lv_iadd hx hb dL_law_801 ?_
  refine lv_topi (fun zi_19 ezi_19 => ?_)
  have tzi_19 : zi_19.toInt = zi9.toInt + (1 : Int) := by rw [ezi_19]; exact tiadd (rfl) (show (1 : Int32).toInt = 1 by decide) (by omega) (by omega)
  obtain rfl : zi_3 = zi_19 := ezi_3.trans ezi_19.symm
  refine va_sld hx hb hX hbl hbA hS (vp_in_iff.mpr ⟨by omega, by omega⟩) dL_law_802 ?_
  refine lv_topi (fun zi_20 ezi_20 => ?_)
  obtain rfl : zi_4 = zi_20 := ezi_4.trans ezi_20.symm
  refine lv_aload_n hx hb dL_law_803 rfl (lv_at hl 0 rfl) ?_
  refine lv_iload_n hx hb dL_law_804 rfl (lv_at hl 3 rfl) ?_
  refine lv_iconst (v := 2) hx hb dL_law_805 (by decide) ?_
  refine lv_iadd hx hb dL_law_806 ?_
  refine lv_topi (fun zi_21 ezi_21 => ?_)
  have tzi_21 : zi_21.toInt = zi9.toInt + (2 : Int) := by rw [ezi_21]; exact tiadd (rfl) (show (2 : Int32).toInt = 2 by decide) (by omega) (by omega)
  obtain rfl : zi_5 = zi_21 := ezi_5.trans ezi_21.symm
  refine va_sld hx hb hX hbl hbA hS (vp_in_iff.mpr ⟨by omega, by omega⟩) dL_law_807 ?_
  refine lv_topi (fun zi_22 ezi_22 => ?_)
  obtain rfl : zi_6 = zi_22 := ezi_6.trans ezi_22.symm
  refine lv_aload_n hx hb dL_law_808 rfl (lv_at hl 0 rfl) ?_
  refine lv_iload_n hx hb dL_law_809 rfl (lv_at hl 3 rfl) ?_
  refine lv_iconst (v := 3) hx hb dL_law_810 (by decide) ?_
  refine lv_iadd hx hb dL_law_811 ?_
  refine lv_topi (fun zi_23 ezi_23 => ?_)
  have tzi_23 : zi_23.toInt = zi9.toInt + (3 : Int) := by rw [ezi_23]; exact tiadd (rfl) (show (3 : Int32).toInt = 3 by decide) (by omega) (by omega)
  obtain rfl : zi_7 = zi_23 := ezi_7.trans ezi_23.symm
  refine va_sld hx hb hX hbl hbA hS (vp_in_iff.mpr ⟨by omega, by omega⟩) dL_law_812 ?_
  refine lv_topi (fun zi_24 ezi_24 => ?_)
  obtain rfl : zi_8 = zi_24 := ezi_8.trans ezi_24.symm
  refine lv_aload_n hx hb dL_law_813 rfl (lv_at hl 0 rfl) ?_
  refine lv_iload_n hx hb dL_law_814 rfl (lv_at hl 3 rfl) ?_
  refine lv_iconst (v := 4) hx hb dL_law_815 (by decide) ?_
  refine lv_iadd hx hb dL_law_816 ?_
  refine lv_topi (fun zi_25 ezi_25 => ?_)
  have tzi_25 : zi_25.toInt = zi9.toInt + (4 : Int) := by rw [ezi_25]; exact tiadd (rfl) (show (4 : Int32).toInt = 4 by decide) (by omega) (by omega)
  obtain rfl : zi_9 = zi_25 := ezi_9.trans ezi_25.symm
  refine va_sld hx hb hX hbl hbA hS (vp_in_iff.mpr ⟨by omega, by omega⟩) dL_law_817 ?_
  refine lv_topi (fun zi_26 ezi_26 => ?_)
  obtain rfl : zi_10 = zi_26 := ezi_10.trans ezi_26.symm
  refine lv_aload_n hx hb dL_law_818 rfl (lv_at hl 0 rfl) ?_
  refine lv_iload_n hx hb dL_law_819 rfl (lv_at hl 3 rfl) ?_
  refine lv_iconst (v := 5) hx hb dL_law_820 (by decide) ?_
  refine lv_iadd hx hb dL_law_821 ?_
  refine lv_topi (fun zi_27 ezi_27 => ?_)
  have tzi_27 : zi_27.toInt = zi9.toInt + (5 : Int) := by rw [ezi_27]; exact tiadd (rfl) (show (5 : Int32).toInt = 5 by decide) (by omega) (by omega)
  obtain rfl : zi_11 = zi_27 := ezi_11.trans ezi_27.symm
  refine va_sld hx hb hX hbl hbA hS (vp_in_iff.mpr ⟨by omega, by omega⟩) dL_law_822 ?_
  refine lv_topi (fun zi_28 ezi_28 => ?_)
  obtain rfl : zi_12 = zi_28 := ezi_12.trans ezi_28.symm
  have zz_29 : ZI (zI_16 (zR zy 0)) := by rw [(k_zI_16.2.row t_2 (by decide) (by decide))]; exact hz
  refine hj_i (ws := (WL cy zL zT zR zI_16 zJ)) (w1 := fun (u : (Nat → Nat → Int32)) => (WL cy zL zT zR u zJ)) (va_runV (As := [.int zi_4, .int zi_6, .int zi_8, .int zi_10, .int zi_12]) (rest := []) ⟨hx, hb, hml, hown, hts⟩ (t_X11_stretch l dC dI cy H.size zL zT zR zI_16 zJ zy zi_4 zi_6 zi_8 zi_10 zi_12 hs h_zI_16.1 t_zy zz_29) (cwV 5 hts gL_law_X11_stretch rfl rfl rfl (by decide +kernel) ⟨(Nat.le_of_ble_eq_true rfl), (Nat.le_of_ble_eq_true rfl)⟩) (PRE.v hP hK hD hN (ht_recv hK hP hs t_zy (by decide) rfl rfl)) rfl rfl hl.1 rfl (lv_room (Nat.le_of_ble_eq_true rfl)) dL_law_823 ⟨(Nat.le_of_ble_eq_true rfl), (Nat.le_of_ble_eq_true rfl)⟩) hP hD hS hA (fun zi_30 zI_33 H locs hw_31 hP hD hS => ?_)
  obtain ⟨k_zI_33, b_zi_30, ps_34, ps_35⟩ : (WM [10000] AL zT zR zI_16 zI_33) ∧ ((-12) ≤ zi_30.toInt ∧ zi_30.toInt ≤ 6) ∧ (FQ (zI_16 (zR zy 0)) (zI_33 (zR zy 0))) ∧ (ZI (zI_33 (zR zy 0))) := hw_31
  have h_zI_33 : WM [108, 2200, 2300, 4700, 10000] AL zT zR zI zI_33 := h_zI_16.tr k_zI_33 (by decide) (fun _ _ => trivial)
  have j_zI_33 : JX zR zI_33 zx := JX.sm ps_17 hs t_zx k_zI_33.2 (by decide) (by decide)
  have hk_36 : (zI_33 zy 23).toInt = 0 ∨ ZI (zI_33 (zR zy 24)) := by rw [k_zI_33.2 zy 23 (Or.inl (by rw [t_zy]; decide)), k_zI_33.2.row t_1 (by decide) (by decide)]; exact hk_18
  have hsh_zI_33 : RSH zR zI_33 zx zy := RSH.sm hsh_zI_16 hs t_zx t_zy k_zI_33.2 (by decide)
  have hit_zI_33 : RIT zR zI_33 zx zy := RIT.sm hit_zI_16 hs t_zx t_zy k_zI_33.2 (by decide)
  have hrr_zI_33 : RRn zR zI_33 zx zy := RRn.sm hrr_zI_16 hs t_zx t_zy k_zI_33.2 (by decide) (FQ.wR ps_34)
  have hrg_zI_33 : RGn zR zI_33 zy := RGn.sm hrg_zI_16 hs t_zy k_zI_33.2 (by decide) (FQ.wR ps_34)
  have h3_zI_33 : R3 zR zI_33 zx zy := R3.sm h3_zI_16 hs t_zx t_zy k_zI_33.2 (by decide) (FQ.w3 ps_34)
  refine lv_pop hx hb dL_law_826 rfl ?_
  refine lv_goto (tgt := 1785) hx hb dL_law_827 (by decide) ?_
  exact kx _ _ _ _ _ h_zI_33.1 j_zI_33 ps_35 hk_36 h3_zI_33 hrr_zI_33 hsh_zI_33 hit_zI_33 hrg_zI_33 hP hD hS hl
set_option maxHeartbeats 4000000 in
set_option maxRecDepth 100000 in
theorem lw_c16 {p : Program} {l : Launch} {e : Env} {s : State} {m : MethodId} {below : List Frame} {meth : Method} {c : Code} {b L : Nat} {xs : Nat → Int32} {A : Nat → Prop} {Q : State → Prop} (hx : p.tables.exec = Jvm.exec) (hb : c.code = cL_law) (hml : c.maxLocals = 4) (hown : s.vm.findClass RL = some m.cls) (hts : ∀ w ∈ wsL_law, w.before #[Value.ref b] s = true) (hX : va_X b L xs s s.heap) (hbl : b < s.heap.size) (hbA : ¬ A b) (hA : ∀ q : Nat, s.heap.size ≤ q → A q) (hL : L ≤ 3072) (dC : Nat → ClassId) (dI : Nat → Nat → Nat) (cy : Nat → ClassId) (zL : List Nat) (zT : Nat → Nat) (zR : Nat → Nat → Nat) (zI : Nat → Nat → Int32) (zJ : Nat → Nat → Int64) (zx zy : Nat) (zi9 : Int32) (hs : SKP zL zT zR) (hw : WT zT zR zI) (t_zx : zT zx = 11) (t_zy : zT zy = 18) (hj : JX zR zI zx) (hz : ZI (zI (zR zy 0))) (hk : (zI zy 23).toInt = 0 ∨ ZI (zI (zR zy 24))) (h3 : R3 zR zI zx zy) (hrr : RRn zR zI zx zy) (hsh : RSH zR zI zx zy) (hit : RIT zR zI zx zy) (hrg : RGn zR zI zy) (hK : va_K (dC, dI) vwCl (TY cy) s) (hN : N0 s) (b_zi9 : 0 ≤ zi9.toInt ∧ zi9.toInt ≤ 3066) (hi1 : zi9.toInt + 6 ≤ (L : Int))
    (kx : ∀ (zI2 : Nat → Nat → Int32) (zJ2 : Nat → Nat → Int64) (H : Heap) (locs : List Loc) (ls : Array Slot), WT zT zR zI2 → JX zR zI2 zx → ZI (zI2 (zR zy 0)) → ((zI2 zy 23).toInt = 0 ∨ ZI (zI2 (zR zy 24))) → (R3 zR zI2 zx zy) → (RRn zR zI2 zx zy) → (RSH zR zI2 zx zy) → (RIT zR zI2 zx zy) → (RGn zR zI2 zy) → va_P (dC, dI) vwCl (WL cy zL zT zR zI2 zJ2) H → va_D A (WL cy zL zT zR zI2 zJ2) → va_S A s.heap H locs → lv_has ls 4 [(0, .ref b), (1, .ref zx), (2, .ref zy), (3, .int zi9)] → W p l e room_1 s m #[Value.ref b] below meth c H locs 265 67857 Q (F0 m 1785 ls []))
    {H : Heap} {locs : List Loc} {ls : Array Slot} (hP : va_P (dC, dI) vwCl (WL cy zL zT zR zI zJ) H) (hD : va_D A (WL cy zL zT zR zI zJ)) (hS : va_S A s.heap H locs) (hl : lv_has ls 4 [(0, .ref b), (1, .ref zx), (2, .ref zy), (3, .int zi9)]) : W p l e room_1 s m #[Value.ref b] below meth c H locs 265 67857 Q (F0 m 830 ls []) := by
  have h_zI : WM [306, 2400, 2500, 2600, 2700, 4700, 10000] AL zT zR zI zI := WM.rf hw
  have t_1 : zT (zR zy 24) = 109 := sk_f hs t_zy (by decide) rfl (by decide)
  have t_2 : zT (zR zy 0) = 100 := sk_f hs t_zy (by decide) rfl (by decide)
  refine lv_aload_n hx hb dL_law_830 rfl (lv_at hl 1 rfl) ?_
  refine lv_aload_n hx hb dL_law_831 rfl (lv_at hl 0 rfl) ?_
  refine lv_iload_n hx hb dL_law_832 rfl (lv_at hl 3 rfl) ?_
  refine lv_iconst (v := 1) hx hb dL_law_833 (by decide) ?_
  refine lv_iadd hx hb dL_law_834 ?_
  refine lv_topi (fun zi_3 ezi_3 => ?_)
  have tzi_3 : zi_3.toInt = zi9.toInt + (1 : Int) := by rw [ezi_3]; exact tiadd (rfl) (show (1 : Int32).toInt = 1 by decide) (by omega) (by omega)
  refine va_sld hx hb hX hbl hbA hS (vp_in_iff.mpr ⟨by omega, by omega⟩) dL_law_835 ?_
  refine lv_topi (fun zi_4 ezi_4 => ?_)
  refine lv_aload_n hx hb dL_law_836 rfl (lv_at hl 0 rfl) ?_
  refine lv_iload_n hx hb dL_law_837 rfl (lv_at hl 3 rfl) ?_
  refine lv_iconst (v := 2) hx hb dL_law_838 (by decide) ?_
  refine lv_iadd hx hb dL_law_839 ?_
  refine lv_topi (fun zi_5 ezi_5 => ?_)
  have tzi_5 : zi_5.toInt = zi9.toInt + (2 : Int) := by rw [ezi_5]; exact tiadd (rfl) (show (2 : Int32).toInt = 2 by decide) (by omega) (by omega)
  refine va_sld hx hb hX hbl hbA hS (vp_in_iff.mpr ⟨by omega, by omega⟩) dL_law_840 ?_
  refine lv_topi (fun zi_6 ezi_6 => ?_)
  refine lv_aload_n hx hb dL_law_841 rfl (lv_at hl 0 rfl) ?_
  refine lv_iload_n hx hb dL_law_842 rfl (lv_at hl 3 rfl) ?_
  refine lv_iconst (v := 3) hx hb dL_law_843 (by decide) ?_
  refine lv_iadd hx hb dL_law_844 ?_
  refine lv_topi (fun zi_7 ezi_7 => ?_)
  have tzi_7 : zi_7.toInt = zi9.toInt + (3 : Int) := by rw [ezi_7]; exact tiadd (rfl) (show (3 : Int32).toInt = 3 by decide) (by omega) (by omega)
  refine va_sld hx hb hX hbl hbA hS (vp_in_iff.mpr ⟨by omega, by omega⟩) dL_law_845 ?_
  refine lv_topi (fun zi_8 ezi_8 => ?_)
  refine lv_aload_n hx hb dL_law_846 rfl (lv_at hl 0 rfl) ?_
  refine lv_iload_n hx hb dL_law_847 rfl (lv_at hl 3 rfl) ?_
  refine lv_iconst (v := 4) hx hb dL_law_848 (by decide) ?_
  refine lv_iadd hx hb dL_law_849 ?_
  refine lv_topi (fun zi_9 ezi_9 => ?_)
  have tzi_9 : zi_9.toInt = zi9.toInt + (4 : Int) := by rw [ezi_9]; exact tiadd (rfl) (show (4 : Int32).toInt = 4 by decide) (by omega) (by omega)
  refine va_sld hx hb hX hbl hbA hS (vp_in_iff.mpr ⟨by omega, by omega⟩) dL_law_850 ?_
  refine lv_topi (fun zi_10 ezi_10 => ?_)
  refine lv_aload_n hx hb dL_law_851 rfl (lv_at hl 0 rfl) ?_
  refine lv_iload_n hx hb dL_law_852 rfl (lv_at hl 3 rfl) ?_
  refine lv_iconst (v := 5) hx hb dL_law_853 (by decide) ?_
  refine lv_iadd hx hb dL_law_854 ?_
  refine lv_topi (fun zi_11 ezi_11 => ?_)
  have tzi_11 : zi_11.toInt = zi9.toInt + (5 : Int) := by rw [ezi_11]; exact tiadd (rfl) (show (5 : Int32).toInt = 5 by decide) (by omega) (by omega)
  refine va_sld hx hb hX hbl hbA hS (vp_in_iff.mpr ⟨by omega, by omega⟩) dL_law_855 ?_
  refine lv_topi (fun zi_12 ezi_12 => ?_)
  refine hj_i (ws := (WL cy zL zT zR zI zJ)) (w1 := fun (u : (Nat → Nat → Int32)) => (WL cy zL zT zR u zJ)) (va_runV (As := [.int zi_4, .int zi_6, .int zi_8, .int zi_10, .int zi_12]) (rest := []) ⟨hx, hb, hml, hown, hts⟩ (t_X10_date l dC dI cy H.size zL zT zR zI zJ zx zi_4 zi_6 zi_8 zi_10 zi_12 hs h_zI.1 t_zx hj) (cwV 5 hts gL_law_X10_date rfl rfl rfl (by decide +kernel) ⟨(Nat.le_of_ble_eq_true rfl), (Nat.le_of_ble_eq_true rfl)⟩) (PRE.v hP hK hD hN (ht_recv hK hP hs t_zx (by decide) rfl rfl)) rfl rfl hl.1 rfl (lv_room (Nat.le_of_ble_eq_true rfl)) dL_law_856 ⟨(Nat.le_of_ble_eq_true rfl), (Nat.le_of_ble_eq_true rfl)⟩) hP hD hS hA (fun zi_13 zI_16 H locs hw_14 hP hD hS => ?_)
  obtain ⟨k_zI_16, b_zi_13, ps_17⟩ : (WM [306, 2400, 2500, 2600, 2700, 4700] AL zT zR zI zI_16) ∧ ((-12) ≤ zi_13.toInt ∧ zi_13.toInt ≤ 7) ∧ (JX zR zI_16 zx) := hw_14
  have h_zI_16 : WM [306, 2400, 2500, 2600, 2700, 4700, 10000] AL zT zR zI zI_16 := h_zI.tr k_zI_16 (by decide) (fun _ _ => trivial)
  have hk_18 : (zI_16 zy 23).toInt = 0 ∨ ZI (zI_16 (zR zy 24)) := by rw [k_zI_16.2 zy 23 (Or.inl (by rw [t_zy]; decide)), k_zI_16.2.row t_1 (by decide) (by decide)]; exact hk
  have hsh_zI_16 : RSH zR zI_16 zx zy := RSH.sm hsh hs t_zx t_zy k_zI_16.2 (by decide)
  have hit_zI_16 : RIT zR zI_16 zx zy := RIT.sm hit hs t_zx t_zy k_zI_16.2 (by decide)
  have hrr_zI_16 : RRn zR zI_16 zx zy := RRn.sm hrr hs t_zx t_zy k_zI_16.2 (by decide) (FQR.of (k_zI_16.2.row t_2 (by decide) (by decide)))
  have hrg_zI_16 : RGn zR zI_16 zy := RGn.sm hrg hs t_zy k_zI_16.2 (by decide) (FQR.of (k_zI_16.2.row t_2 (by decide) (by decide)))
  have h3_zI_16 : R3 zR zI_16 zx zy := R3.sm h3 hs t_zx t_zy k_zI_16.2 (by decide) (FQ3.of (k_zI_16.2.row t_2 (by decide) (by decide)))
  refine lv_pop hx hb dL_law_859 rfl ?_
  refine lv_aload_n hx hb dL_law_860 rfl (lv_at hl 2 rfl) ?_
  refine lv_aload_n hx hb dL_law_861 rfl (lv_at hl 0 rfl) ?_
  refine lv_iload_n hx hb dL_law_862 rfl (lv_at hl 3 rfl) ?_
  refine lv_iconst (v := 1) hx hb dL_law_863 (by decide) ?_
  refine lv_iadd hx hb dL_law_864 ?_
  refine lv_topi (fun zi_19 ezi_19 => ?_)
  have tzi_19 : zi_19.toInt = zi9.toInt + (1 : Int) := by rw [ezi_19]; exact tiadd (rfl) (show (1 : Int32).toInt = 1 by decide) (by omega) (by omega)
  obtain rfl : zi_3 = zi_19 := ezi_3.trans ezi_19.symm
  refine va_sld hx hb hX hbl hbA hS (vp_in_iff.mpr ⟨by omega, by omega⟩) dL_law_865 ?_
  refine lv_topi (fun zi_20 ezi_20 => ?_)
  obtain rfl : zi_4 = zi_20 := ezi_4.trans ezi_20.symm
  refine lv_aload_n hx hb dL_law_866 rfl (lv_at hl 0 rfl) ?_
  refine lv_iload_n hx hb dL_law_867 rfl (lv_at hl 3 rfl) ?_
  refine lv_iconst (v := 2) hx hb dL_law_868 (by decide) ?_
  refine lv_iadd hx hb dL_law_869 ?_
  refine lv_topi (fun zi_21 ezi_21 => ?_)
  have tzi_21 : zi_21.toInt = zi9.toInt + (2 : Int) := by rw [ezi_21]; exact tiadd (rfl) (show (2 : Int32).toInt = 2 by decide) (by omega) (by omega)
  obtain rfl : zi_5 = zi_21 := ezi_5.trans ezi_21.symm
  refine va_sld hx hb hX hbl hbA hS (vp_in_iff.mpr ⟨by omega, by omega⟩) dL_law_870 ?_
  refine lv_topi (fun zi_22 ezi_22 => ?_)
  obtain rfl : zi_6 = zi_22 := ezi_6.trans ezi_22.symm
  refine lv_aload_n hx hb dL_law_871 rfl (lv_at hl 0 rfl) ?_
  refine lv_iload_n hx hb dL_law_872 rfl (lv_at hl 3 rfl) ?_
  refine lv_iconst (v := 3) hx hb dL_law_873 (by decide) ?_
  refine lv_iadd hx hb dL_law_874 ?_
  refine lv_topi (fun zi_23 ezi_23 => ?_)
  have tzi_23 : zi_23.toInt = zi9.toInt + (3 : Int) := by rw [ezi_23]; exact tiadd (rfl) (show (3 : Int32).toInt = 3 by decide) (by omega) (by omega)
  obtain rfl : zi_7 = zi_23 := ezi_7.trans ezi_23.symm
  refine va_sld hx hb hX hbl hbA hS (vp_in_iff.mpr ⟨by omega, by omega⟩) dL_law_875 ?_
  refine lv_topi (fun zi_24 ezi_24 => ?_)
  obtain rfl : zi_8 = zi_24 := ezi_8.trans ezi_24.symm
  refine lv_aload_n hx hb dL_law_876 rfl (lv_at hl 0 rfl) ?_
  refine lv_iload_n hx hb dL_law_877 rfl (lv_at hl 3 rfl) ?_
  refine lv_iconst (v := 4) hx hb dL_law_878 (by decide) ?_
  refine lv_iadd hx hb dL_law_879 ?_
  refine lv_topi (fun zi_25 ezi_25 => ?_)
  have tzi_25 : zi_25.toInt = zi9.toInt + (4 : Int) := by rw [ezi_25]; exact tiadd (rfl) (show (4 : Int32).toInt = 4 by decide) (by omega) (by omega)
  obtain rfl : zi_9 = zi_25 := ezi_9.trans ezi_25.symm
  refine va_sld hx hb hX hbl hbA hS (vp_in_iff.mpr ⟨by omega, by omega⟩) dL_law_880 ?_
  refine lv_topi (fun zi_26 ezi_26 => ?_)
  obtain rfl : zi_10 = zi_26 := ezi_10.trans ezi_26.symm
  refine lv_aload_n hx hb dL_law_881 rfl (lv_at hl 0 rfl) ?_
  refine lv_iload_n hx hb dL_law_882 rfl (lv_at hl 3 rfl) ?_
  refine lv_iconst (v := 5) hx hb dL_law_883 (by decide) ?_
  refine lv_iadd hx hb dL_law_884 ?_
  refine lv_topi (fun zi_27 ezi_27 => ?_)
  have tzi_27 : zi_27.toInt = zi9.toInt + (5 : Int) := by rw [ezi_27]; exact tiadd (rfl) (show (5 : Int32).toInt = 5 by decide) (by omega) (by omega)
  obtain rfl : zi_11 = zi_27 := ezi_11.trans ezi_27.symm
  refine va_sld hx hb hX hbl hbA hS (vp_in_iff.mpr ⟨by omega, by omega⟩) dL_law_885 ?_
  refine lv_topi (fun zi_28 ezi_28 => ?_)
  obtain rfl : zi_12 = zi_28 := ezi_12.trans ezi_28.symm
  have zz_29 : ZI (zI_16 (zR zy 0)) := by rw [(k_zI_16.2.row t_2 (by decide) (by decide))]; exact hz
  refine hj_i (ws := (WL cy zL zT zR zI_16 zJ)) (w1 := fun (u : (Nat → Nat → Int32)) => (WL cy zL zT zR u zJ)) (va_runV (As := [.int zi_4, .int zi_6, .int zi_8, .int zi_10, .int zi_12]) (rest := []) ⟨hx, hb, hml, hown, hts⟩ (t_X11_date l dC dI cy H.size zL zT zR zI_16 zJ zy zi_4 zi_6 zi_8 zi_10 zi_12 hs h_zI_16.1 t_zy zz_29) (cwV 5 hts gL_law_X11_date rfl rfl rfl (by decide +kernel) ⟨(Nat.le_of_ble_eq_true rfl), (Nat.le_of_ble_eq_true rfl)⟩) (PRE.v hP hK hD hN (ht_recv hK hP hs t_zy (by decide) rfl rfl)) rfl rfl hl.1 rfl (lv_room (Nat.le_of_ble_eq_true rfl)) dL_law_886 ⟨(Nat.le_of_ble_eq_true rfl), (Nat.le_of_ble_eq_true rfl)⟩) hP hD hS hA (fun zi_30 zI_33 H locs hw_31 hP hD hS => ?_)
  obtain ⟨k_zI_33, b_zi_30, ps_34, ps_35⟩ : (WM [10000] AL zT zR zI_16 zI_33) ∧ ((-12) ≤ zi_30.toInt ∧ zi_30.toInt ≤ 7) ∧ (FQ (zI_16 (zR zy 0)) (zI_33 (zR zy 0))) ∧ (ZI (zI_33 (zR zy 0))) := hw_31
  have h_zI_33 : WM [306, 2400, 2500, 2600, 2700, 4700, 10000] AL zT zR zI zI_33 := h_zI_16.tr k_zI_33 (by decide) (fun _ _ => trivial)
  have j_zI_33 : JX zR zI_33 zx := JX.sm ps_17 hs t_zx k_zI_33.2 (by decide) (by decide)
  have hk_36 : (zI_33 zy 23).toInt = 0 ∨ ZI (zI_33 (zR zy 24)) := by rw [k_zI_33.2 zy 23 (Or.inl (by rw [t_zy]; decide)), k_zI_33.2.row t_1 (by decide) (by decide)]; exact hk_18
  have hsh_zI_33 : RSH zR zI_33 zx zy := RSH.sm hsh_zI_16 hs t_zx t_zy k_zI_33.2 (by decide)
  have hit_zI_33 : RIT zR zI_33 zx zy := RIT.sm hit_zI_16 hs t_zx t_zy k_zI_33.2 (by decide)
  have hrr_zI_33 : RRn zR zI_33 zx zy := RRn.sm hrr_zI_16 hs t_zx t_zy k_zI_33.2 (by decide) (FQ.wR ps_34)
  have hrg_zI_33 : RGn zR zI_33 zy := RGn.sm hrg_zI_16 hs t_zy k_zI_33.2 (by decide) (FQ.wR ps_34)
  have h3_zI_33 : R3 zR zI_33 zx zy := R3.sm h3_zI_16 hs t_zx t_zy k_zI_33.2 (by decide) (FQ.w3 ps_34)
  refine lv_pop hx hb dL_law_889 rfl ?_
  refine lv_goto (tgt := 1785) hx hb dL_law_890 (by decide) ?_
  exact kx _ _ _ _ _ h_zI_33.1 j_zI_33 ps_35 hk_36 h3_zI_33 hrr_zI_33 hsh_zI_33 hit_zI_33 hrg_zI_33 hP hD hS hl
set_option maxHeartbeats 4000000 in
set_option maxRecDepth 100000 in
theorem lw_c17 {p : Program} {l : Launch} {e : Env} {s : State} {m : MethodId} {below : List Frame} {meth : Method} {c : Code} {b L : Nat} {xs : Nat → Int32} {A : Nat → Prop} {Q : State → Prop} (hx : p.tables.exec = Jvm.exec) (hb : c.code = cL_law) (hml : c.maxLocals = 4) (hown : s.vm.findClass RL = some m.cls) (hts : ∀ w ∈ wsL_law, w.before #[Value.ref b] s = true) (hX : va_X b L xs s s.heap) (hbl : b < s.heap.size) (hbA : ¬ A b) (hA : ∀ q : Nat, s.heap.size ≤ q → A q) (hL : L ≤ 3072) (dC : Nat → ClassId) (dI : Nat → Nat → Nat) (cy : Nat → ClassId) (zL : List Nat) (zT : Nat → Nat) (zR : Nat → Nat → Nat) (zI : Nat → Nat → Int32) (zJ : Nat → Nat → Int64) (zx zy : Nat) (zi9 : Int32) (hs : SKP zL zT zR) (hw : WT zT zR zI) (t_zx : zT zx = 11) (t_zy : zT zy = 18) (hj : JX zR zI zx) (hz : ZI (zI (zR zy 0))) (hk : (zI zy 23).toInt = 0 ∨ ZI (zI (zR zy 24))) (h3 : R3 zR zI zx zy) (hrr : RRn zR zI zx zy) (hsh : RSH zR zI zx zy) (hit : RIT zR zI zx zy) (hrg : RGn zR zI zy) (hK : va_K (dC, dI) vwCl (TY cy) s) (hN : N0 s) (b_zi9 : 0 ≤ zi9.toInt ∧ zi9.toInt ≤ 3066) (hi1 : zi9.toInt + 6 ≤ (L : Int))
    (kx : ∀ (zI2 : Nat → Nat → Int32) (zJ2 : Nat → Nat → Int64) (H : Heap) (locs : List Loc) (ls : Array Slot), WT zT zR zI2 → JX zR zI2 zx → ZI (zI2 (zR zy 0)) → ((zI2 zy 23).toInt = 0 ∨ ZI (zI2 (zR zy 24))) → (R3 zR zI2 zx zy) → (RRn zR zI2 zx zy) → (RSH zR zI2 zx zy) → (RIT zR zI2 zx zy) → (RGn zR zI2 zy) → va_P (dC, dI) vwCl (WL cy zL zT zR zI2 zJ2) H → va_D A (WL cy zL zT zR zI2 zJ2) → va_S A s.heap H locs → lv_has ls 4 [(0, .ref b), (1, .ref zx), (2, .ref zy), (3, .int zi9)] → W p l e room_1 s m #[Value.ref b] below meth c H locs 265 67857 Q (F0 m 1785 ls []))
    {H : Heap} {locs : List Loc} {ls : Array Slot} (hP : va_P (dC, dI) vwCl (WL cy zL zT zR zI zJ) H) (hD : va_D A (WL cy zL zT zR zI zJ)) (hS : va_S A s.heap H locs) (hl : lv_has ls 4 [(0, .ref b), (1, .ref zx), (2, .ref zy), (3, .int zi9)]) : W p l e room_1 s m #[Value.ref b] below meth c H locs 265 67857 Q (F0 m 893 ls []) := by
  have h_zI : WM [2700, 4700, 10000] AL zT zR zI zI := WM.rf hw
  have t_1 : zT (zR zy 24) = 109 := sk_f hs t_zy (by decide) rfl (by decide)
  have t_2 : zT (zR zy 0) = 100 := sk_f hs t_zy (by decide) rfl (by decide)
  refine lv_aload_n hx hb dL_law_893 rfl (lv_at hl 1 rfl) ?_
  refine lv_aload_n hx hb dL_law_894 rfl (lv_at hl 0 rfl) ?_
  refine lv_iload_n hx hb dL_law_895 rfl (lv_at hl 3 rfl) ?_
  refine lv_iconst (v := 1) hx hb dL_law_896 (by decide) ?_
  refine lv_iadd hx hb dL_law_897 ?_
  refine lv_topi (fun zi_3 ezi_3 => ?_)
  have tzi_3 : zi_3.toInt = zi9.toInt + (1 : Int) := by rw [ezi_3]; exact tiadd (rfl) (show (1 : Int32).toInt = 1 by decide) (by omega) (by omega)
  refine va_sld hx hb hX hbl hbA hS (vp_in_iff.mpr ⟨by omega, by omega⟩) dL_law_898 ?_
  refine lv_topi (fun zi_4 ezi_4 => ?_)
  refine lv_aload_n hx hb dL_law_899 rfl (lv_at hl 0 rfl) ?_
  refine lv_iload_n hx hb dL_law_900 rfl (lv_at hl 3 rfl) ?_
  refine lv_iconst (v := 2) hx hb dL_law_901 (by decide) ?_
  refine lv_iadd hx hb dL_law_902 ?_
  refine lv_topi (fun zi_5 ezi_5 => ?_)
  have tzi_5 : zi_5.toInt = zi9.toInt + (2 : Int) := by rw [ezi_5]; exact tiadd (rfl) (show (2 : Int32).toInt = 2 by decide) (by omega) (by omega)
  refine va_sld hx hb hX hbl hbA hS (vp_in_iff.mpr ⟨by omega, by omega⟩) dL_law_903 ?_
  refine lv_topi (fun zi_6 ezi_6 => ?_)
  refine hj_i (ws := (WL cy zL zT zR zI zJ)) (w1 := fun (u : (Nat → Nat → Int32)) => (WL cy zL zT zR u zJ)) (va_runV (As := [.int zi_4, .int zi_6]) (rest := []) ⟨hx, hb, hml, hown, hts⟩ (t_X10_throwOut l dC dI cy H.size zL zT zR zI zJ zx zi_4 zi_6 hs h_zI.1 t_zx hj) (cwV 2 hts gL_law_X10_throwOut rfl rfl rfl (by decide +kernel) ⟨(Nat.le_of_ble_eq_true rfl), (Nat.le_of_ble_eq_true rfl)⟩) (PRE.v hP hK hD hN (ht_recv hK hP hs t_zx (by decide) rfl rfl)) rfl rfl hl.1 rfl (lv_room (Nat.le_of_ble_eq_true rfl)) dL_law_904 ⟨(Nat.le_of_ble_eq_true rfl), (Nat.le_of_ble_eq_true rfl)⟩) hP hD hS hA (fun zi_7 zI_10 H locs hw_8 hP hD hS => ?_)
  obtain ⟨k_zI_10, ps_11⟩ : (WM [2700, 4700] AL zT zR zI zI_10) ∧ (JX zR zI_10 zx) := hw_8
  have h_zI_10 : WM [2700, 4700, 10000] AL zT zR zI zI_10 := h_zI.tr k_zI_10 (by decide) (fun _ _ => trivial)
  have hk_12 : (zI_10 zy 23).toInt = 0 ∨ ZI (zI_10 (zR zy 24)) := by rw [k_zI_10.2 zy 23 (Or.inl (by rw [t_zy]; decide)), k_zI_10.2.row t_1 (by decide) (by decide)]; exact hk
  have hsh_zI_10 : RSH zR zI_10 zx zy := RSH.sm hsh hs t_zx t_zy k_zI_10.2 (by decide)
  have hit_zI_10 : RIT zR zI_10 zx zy := RIT.sm hit hs t_zx t_zy k_zI_10.2 (by decide)
  have hrr_zI_10 : RRn zR zI_10 zx zy := RRn.sm hrr hs t_zx t_zy k_zI_10.2 (by decide) (FQR.of (k_zI_10.2.row t_2 (by decide) (by decide)))
  have hrg_zI_10 : RGn zR zI_10 zy := RGn.sm hrg hs t_zy k_zI_10.2 (by decide) (FQR.of (k_zI_10.2.row t_2 (by decide) (by decide)))
  have h3_zI_10 : R3 zR zI_10 zx zy := R3.sm h3 hs t_zx t_zy k_zI_10.2 (by decide) (FQ3.of (k_zI_10.2.row t_2 (by decide) (by decide)))
  have rzi_7 := rng zi_7
  refine lv_pop hx hb dL_law_907 rfl ?_
  refine lv_aload_n hx hb dL_law_908 rfl (lv_at hl 2 rfl) ?_
  refine lv_aload_n hx hb dL_law_909 rfl (lv_at hl 0 rfl) ?_
  refine lv_iload_n hx hb dL_law_910 rfl (lv_at hl 3 rfl) ?_
  refine lv_iconst (v := 1) hx hb dL_law_911 (by decide) ?_
  refine lv_iadd hx hb dL_law_912 ?_
  refine lv_topi (fun zi_13 ezi_13 => ?_)
  have tzi_13 : zi_13.toInt = zi9.toInt + (1 : Int) := by rw [ezi_13]; exact tiadd (rfl) (show (1 : Int32).toInt = 1 by decide) (by omega) (by omega)
  obtain rfl : zi_3 = zi_13 := ezi_3.trans ezi_13.symm
  refine va_sld hx hb hX hbl hbA hS (vp_in_iff.mpr ⟨by omega, by omega⟩) dL_law_913 ?_
  refine lv_topi (fun zi_14 ezi_14 => ?_)
  obtain rfl : zi_4 = zi_14 := ezi_4.trans ezi_14.symm
  refine lv_aload_n hx hb dL_law_914 rfl (lv_at hl 0 rfl) ?_
  refine lv_iload_n hx hb dL_law_915 rfl (lv_at hl 3 rfl) ?_
  refine lv_iconst (v := 2) hx hb dL_law_916 (by decide) ?_
  refine lv_iadd hx hb dL_law_917 ?_
  refine lv_topi (fun zi_15 ezi_15 => ?_)
  have tzi_15 : zi_15.toInt = zi9.toInt + (2 : Int) := by rw [ezi_15]; exact tiadd (rfl) (show (2 : Int32).toInt = 2 by decide) (by omega) (by omega)
  obtain rfl : zi_5 = zi_15 := ezi_5.trans ezi_15.symm
  refine va_sld hx hb hX hbl hbA hS (vp_in_iff.mpr ⟨by omega, by omega⟩) dL_law_918 ?_
  refine lv_topi (fun zi_16 ezi_16 => ?_)
  obtain rfl : zi_6 = zi_16 := ezi_6.trans ezi_16.symm
  have zz_17 : ZI (zI_10 (zR zy 0)) := by rw [(k_zI_10.2.row t_2 (by decide) (by decide))]; exact hz
  refine hj_i (ws := (WL cy zL zT zR zI_10 zJ)) (w1 := fun (u : (Nat → Nat → Int32)) => (WL cy zL zT zR u zJ)) (va_runV (As := [.int zi_4, .int zi_6]) (rest := []) ⟨hx, hb, hml, hown, hts⟩ (t_X11_throwOut l dC dI cy H.size zL zT zR zI_10 zJ zy zi_4 zi_6 hs h_zI_10.1 t_zy zz_17) (cwV 2 hts gL_law_X11_throwOut rfl rfl rfl (by decide +kernel) ⟨(Nat.le_of_ble_eq_true rfl), (Nat.le_of_ble_eq_true rfl)⟩) (PRE.v hP hK hD hN (ht_recv hK hP hs t_zy (by decide) rfl rfl)) rfl rfl hl.1 rfl (lv_room (Nat.le_of_ble_eq_true rfl)) dL_law_919 ⟨(Nat.le_of_ble_eq_true rfl), (Nat.le_of_ble_eq_true rfl)⟩) hP hD hS hA (fun zi_18 zI_21 H locs hw_19 hP hD hS => ?_)
  obtain ⟨k_zI_21, ps_22, ps_23⟩ : (WM [10000] AL zT zR zI_10 zI_21) ∧ (FQ (zI_10 (zR zy 0)) (zI_21 (zR zy 0))) ∧ (ZI (zI_21 (zR zy 0))) := hw_19
  have h_zI_21 : WM [2700, 4700, 10000] AL zT zR zI zI_21 := h_zI_10.tr k_zI_21 (by decide) (fun _ _ => trivial)
  have j_zI_21 : JX zR zI_21 zx := JX.sm ps_11 hs t_zx k_zI_21.2 (by decide) (by decide)
  have hk_24 : (zI_21 zy 23).toInt = 0 ∨ ZI (zI_21 (zR zy 24)) := by rw [k_zI_21.2 zy 23 (Or.inl (by rw [t_zy]; decide)), k_zI_21.2.row t_1 (by decide) (by decide)]; exact hk_12
  have hsh_zI_21 : RSH zR zI_21 zx zy := RSH.sm hsh_zI_10 hs t_zx t_zy k_zI_21.2 (by decide)
  have hit_zI_21 : RIT zR zI_21 zx zy := RIT.sm hit_zI_10 hs t_zx t_zy k_zI_21.2 (by decide)
  have hrr_zI_21 : RRn zR zI_21 zx zy := RRn.sm hrr_zI_10 hs t_zx t_zy k_zI_21.2 (by decide) (FQ.wR ps_22)
  have hrg_zI_21 : RGn zR zI_21 zy := RGn.sm hrg_zI_10 hs t_zy k_zI_21.2 (by decide) (FQ.wR ps_22)
  have h3_zI_21 : R3 zR zI_21 zx zy := R3.sm h3_zI_10 hs t_zx t_zy k_zI_21.2 (by decide) (FQ.w3 ps_22)
  have rzi_18 := rng zi_18
  refine lv_pop hx hb dL_law_922 rfl ?_
  refine lv_goto (tgt := 1785) hx hb dL_law_923 (by decide) ?_
  exact kx _ _ _ _ _ h_zI_21.1 j_zI_21 ps_23 hk_24 h3_zI_21 hrr_zI_21 hsh_zI_21 hit_zI_21 hrg_zI_21 hP hD hS hl
set_option maxHeartbeats 4000000 in
set_option maxRecDepth 100000 in
theorem lw_c18 {p : Program} {l : Launch} {e : Env} {s : State} {m : MethodId} {below : List Frame} {meth : Method} {c : Code} {b L : Nat} {xs : Nat → Int32} {A : Nat → Prop} {Q : State → Prop} (hx : p.tables.exec = Jvm.exec) (hb : c.code = cL_law) (hml : c.maxLocals = 4) (hown : s.vm.findClass RL = some m.cls) (hts : ∀ w ∈ wsL_law, w.before #[Value.ref b] s = true) (hX : va_X b L xs s s.heap) (hbl : b < s.heap.size) (hbA : ¬ A b) (hA : ∀ q : Nat, s.heap.size ≤ q → A q) (hL : L ≤ 3072) (dC : Nat → ClassId) (dI : Nat → Nat → Nat) (cy : Nat → ClassId) (zL : List Nat) (zT : Nat → Nat) (zR : Nat → Nat → Nat) (zI : Nat → Nat → Int32) (zJ : Nat → Nat → Int64) (zx zy : Nat) (zi9 : Int32) (hs : SKP zL zT zR) (hw : WT zT zR zI) (t_zx : zT zx = 11) (t_zy : zT zy = 18) (hj : JX zR zI zx) (hz : ZI (zI (zR zy 0))) (hk : (zI zy 23).toInt = 0 ∨ ZI (zI (zR zy 24))) (h3 : R3 zR zI zx zy) (hrr : RRn zR zI zx zy) (hsh : RSH zR zI zx zy) (hit : RIT zR zI zx zy) (hrg : RGn zR zI zy) (hK : va_K (dC, dI) vwCl (TY cy) s) (hN : N0 s) (b_zi9 : 0 ≤ zi9.toInt ∧ zi9.toInt ≤ 3066) (hi1 : zi9.toInt + 6 ≤ (L : Int))
    (kx : ∀ (zI2 : Nat → Nat → Int32) (zJ2 : Nat → Nat → Int64) (H : Heap) (locs : List Loc) (ls : Array Slot), WT zT zR zI2 → JX zR zI2 zx → ZI (zI2 (zR zy 0)) → ((zI2 zy 23).toInt = 0 ∨ ZI (zI2 (zR zy 24))) → (R3 zR zI2 zx zy) → (RRn zR zI2 zx zy) → (RSH zR zI2 zx zy) → (RIT zR zI2 zx zy) → (RGn zR zI2 zy) → va_P (dC, dI) vwCl (WL cy zL zT zR zI2 zJ2) H → va_D A (WL cy zL zT zR zI2 zJ2) → va_S A s.heap H locs → lv_has ls 4 [(0, .ref b), (1, .ref zx), (2, .ref zy), (3, .int zi9)] → W p l e room_1 s m #[Value.ref b] below meth c H locs 265 67857 Q (F0 m 1785 ls []))
    {H : Heap} {locs : List Loc} {ls : Array Slot} (hP : va_P (dC, dI) vwCl (WL cy zL zT zR zI zJ) H) (hD : va_D A (WL cy zL zT zR zI zJ)) (hS : va_S A s.heap H locs) (hl : lv_has ls 4 [(0, .ref b), (1, .ref zx), (2, .ref zy), (3, .int zi9)]) : W p l e room_1 s m #[Value.ref b] below meth c H locs 265 67857 Q (F0 m 926 ls []) := by
  have h_zI : WM [] AL zT zR zI zI := WM.rf hw
  have t_1 : zT (zR zy 24) = 109 := sk_f hs t_zy (by decide) rfl (by decide)
  have t_2 : zT (zR zy 0) = 100 := sk_f hs t_zy (by decide) rfl (by decide)
  refine lv_aload_n hx hb dL_law_926 rfl (lv_at hl 1 rfl) ?_
  refine lv_aload_n hx hb dL_law_927 rfl (lv_at hl 0 rfl) ?_
  refine lv_iload_n hx hb dL_law_928 rfl (lv_at hl 3 rfl) ?_
  refine lv_iconst (v := 1) hx hb dL_law_929 (by decide) ?_
  refine lv_iadd hx hb dL_law_930 ?_
  refine lv_topi (fun zi_3 ezi_3 => ?_)
  have tzi_3 : zi_3.toInt = zi9.toInt + (1 : Int) := by rw [ezi_3]; exact tiadd (rfl) (show (1 : Int32).toInt = 1 by decide) (by omega) (by omega)
  refine va_sld hx hb hX hbl hbA hS (vp_in_iff.mpr ⟨by omega, by omega⟩) dL_law_931 ?_
  refine lv_topi (fun zi_4 ezi_4 => ?_)
  refine hj_i (ws := (WL cy zL zT zR zI zJ)) (w1 := fun (u : Unit) => (WL cy zL zT zR zI zJ)) (va_runV (As := [.int zi_4]) (rest := []) ⟨hx, hb, hml, hown, hts⟩ (t_X10_count l dC dI cy H.size zL zT zR zI zJ zx zi_4 hs h_zI.1 t_zx hj) (cwV 1 hts gL_law_X10_count rfl rfl rfl (by decide +kernel) ⟨(Nat.le_of_ble_eq_true rfl), (Nat.le_of_ble_eq_true rfl)⟩) (PRE.v hP hK hD hN (ht_recv hK hP hs t_zx (by decide) rfl rfl)) rfl rfl hl.1 rfl (lv_room (Nat.le_of_ble_eq_true rfl)) dL_law_932 ⟨(Nat.le_of_ble_eq_true rfl), (Nat.le_of_ble_eq_true rfl)⟩) hP hD hS hA (fun zi_5 u_7 H locs hw_6 hP hD hS => ?_)
  have ps_8 : JX zR zI zx := hw_6
  have rzi_5 := rng zi_5
  refine lv_pop hx hb dL_law_935 rfl ?_
  refine lv_aload_n hx hb dL_law_936 rfl (lv_at hl 2 rfl) ?_
  refine lv_aload_n hx hb dL_law_937 rfl (lv_at hl 0 rfl) ?_
  refine lv_iload_n hx hb dL_law_938 rfl (lv_at hl 3 rfl) ?_
  refine lv_iconst (v := 1) hx hb dL_law_939 (by decide) ?_
  refine lv_iadd hx hb dL_law_940 ?_
  refine lv_topi (fun zi_9 ezi_9 => ?_)
  have tzi_9 : zi_9.toInt = zi9.toInt + (1 : Int) := by rw [ezi_9]; exact tiadd (rfl) (show (1 : Int32).toInt = 1 by decide) (by omega) (by omega)
  obtain rfl : zi_3 = zi_9 := ezi_3.trans ezi_9.symm
  refine va_sld hx hb hX hbl hbA hS (vp_in_iff.mpr ⟨by omega, by omega⟩) dL_law_941 ?_
  refine lv_topi (fun zi_10 ezi_10 => ?_)
  obtain rfl : zi_4 = zi_10 := ezi_4.trans ezi_10.symm
  refine hj_i (ws := (WL cy zL zT zR zI zJ)) (w1 := fun (u : Unit) => (WL cy zL zT zR zI zJ)) (va_runV (As := [.int zi_4]) (rest := []) ⟨hx, hb, hml, hown, hts⟩ (t_X11_count l dC dI cy H.size zL zT zR zI zJ zy zi_4 hs h_zI.1 t_zy hz) (cwV 1 hts gL_law_X11_count rfl rfl rfl (by decide +kernel) ⟨(Nat.le_of_ble_eq_true rfl), (Nat.le_of_ble_eq_true rfl)⟩) (PRE.v hP hK hD hN (ht_recv hK hP hs t_zy (by decide) rfl rfl)) rfl rfl hl.1 rfl (lv_room (Nat.le_of_ble_eq_true rfl)) dL_law_942 ⟨(Nat.le_of_ble_eq_true rfl), (Nat.le_of_ble_eq_true rfl)⟩) hP hD hS hA (fun zi_11 u_13 H locs hw_12 hP hD hS => ?_)
  have rzi_11 := rng zi_11
  refine lv_pop hx hb dL_law_945 rfl ?_
  refine lv_goto (tgt := 1785) hx hb dL_law_946 (by decide) ?_
  exact kx _ _ _ _ _ h_zI.1 ps_8 hz hk h3 hrr hsh hit hrg hP hD hS hl
set_option maxHeartbeats 4000000 in
set_option maxRecDepth 100000 in
theorem lw_c19 {p : Program} {l : Launch} {e : Env} {s : State} {m : MethodId} {below : List Frame} {meth : Method} {c : Code} {b L : Nat} {xs : Nat → Int32} {A : Nat → Prop} {Q : State → Prop} (hx : p.tables.exec = Jvm.exec) (hb : c.code = cL_law) (hml : c.maxLocals = 4) (hown : s.vm.findClass RL = some m.cls) (hts : ∀ w ∈ wsL_law, w.before #[Value.ref b] s = true) (hX : va_X b L xs s s.heap) (hbl : b < s.heap.size) (hbA : ¬ A b) (hA : ∀ q : Nat, s.heap.size ≤ q → A q) (hL : L ≤ 3072) (dC : Nat → ClassId) (dI : Nat → Nat → Nat) (cy : Nat → ClassId) (zL : List Nat) (zT : Nat → Nat) (zR : Nat → Nat → Nat) (zI : Nat → Nat → Int32) (zJ : Nat → Nat → Int64) (zx zy : Nat) (zi9 : Int32) (hs : SKP zL zT zR) (hw : WT zT zR zI) (t_zx : zT zx = 11) (t_zy : zT zy = 18) (hj : JX zR zI zx) (hz : ZI (zI (zR zy 0))) (hk : (zI zy 23).toInt = 0 ∨ ZI (zI (zR zy 24))) (h3 : R3 zR zI zx zy) (hrr : RRn zR zI zx zy) (hsh : RSH zR zI zx zy) (hit : RIT zR zI zx zy) (hrg : RGn zR zI zy) (hK : va_K (dC, dI) vwCl (TY cy) s) (hN : N0 s) (b_zi9 : 0 ≤ zi9.toInt ∧ zi9.toInt ≤ 3066) (hi1 : zi9.toInt + 6 ≤ (L : Int))
    (kx : ∀ (zI2 : Nat → Nat → Int32) (zJ2 : Nat → Nat → Int64) (H : Heap) (locs : List Loc) (ls : Array Slot), WT zT zR zI2 → JX zR zI2 zx → ZI (zI2 (zR zy 0)) → ((zI2 zy 23).toInt = 0 ∨ ZI (zI2 (zR zy 24))) → (R3 zR zI2 zx zy) → (RRn zR zI2 zx zy) → (RSH zR zI2 zx zy) → (RIT zR zI2 zx zy) → (RGn zR zI2 zy) → va_P (dC, dI) vwCl (WL cy zL zT zR zI2 zJ2) H → va_D A (WL cy zL zT zR zI2 zJ2) → va_S A s.heap H locs → lv_has ls 4 [(0, .ref b), (1, .ref zx), (2, .ref zy), (3, .int zi9)] → W p l e room_1 s m #[Value.ref b] below meth c H locs 265 67857 Q (F0 m 1785 ls []))
    {H : Heap} {locs : List Loc} {ls : Array Slot} (hP : va_P (dC, dI) vwCl (WL cy zL zT zR zI zJ) H) (hD : va_D A (WL cy zL zT zR zI zJ)) (hS : va_S A s.heap H locs) (hl : lv_has ls 4 [(0, .ref b), (1, .ref zx), (2, .ref zy), (3, .int zi9)]) : W p l e room_1 s m #[Value.ref b] below meth c H locs 265 67857 Q (F0 m 949 ls []) := by
  have h_zI : WM [1013, 1014, 1806, 1807, 3700, 3800, 3900, 4000, 4200, 4700, 10300, 10400, 10500, 10600, 10700] AL zT zR zI zI := WM.rf hw
  have t_1 : zT (zR zy 24) = 109 := sk_f hs t_zy (by decide) rfl (by decide)
  have t_2 : zT (zR zy 0) = 100 := sk_f hs t_zy (by decide) rfl (by decide)
  refine lv_aload_n hx hb dL_law_949 rfl (lv_at hl 1 rfl) ?_
  refine lv_aload_n hx hb dL_law_950 rfl (lv_at hl 0 rfl) ?_
  refine lv_iload_n hx hb dL_law_951 rfl (lv_at hl 3 rfl) ?_
  refine lv_iconst (v := 1) hx hb dL_law_952 (by decide) ?_
  refine lv_iadd hx hb dL_law_953 ?_
  refine lv_topi (fun zi_3 ezi_3 => ?_)
  have tzi_3 : zi_3.toInt = zi9.toInt + (1 : Int) := by rw [ezi_3]; exact tiadd (rfl) (show (1 : Int32).toInt = 1 by decide) (by omega) (by omega)
  refine va_sld hx hb hX hbl hbA hS (vp_in_iff.mpr ⟨by omega, by omega⟩) dL_law_954 ?_
  refine lv_topi (fun zi_4 ezi_4 => ?_)
  refine hj_l (ws := (WL cy zL zT zR zI zJ)) (w1 := fun (u : (Nat → Nat → Int32) × (Nat → Nat → Int64)) => (WL cy zL zT zR u.1 u.2)) (va_runV (As := [.int zi_4]) (rest := []) ⟨hx, hb, hml, hown, hts⟩ (t_X10_ways l dC dI cy H.size zL zT zR zI zJ zx zi_4 hs h_zI.1 t_zx hj) (cwV 1 hts gL_law_X10_ways rfl rfl rfl (by decide +kernel) ⟨(Nat.le_of_ble_eq_true rfl), (Nat.le_of_ble_eq_true rfl)⟩) (PRE.v hP hK hD hN (ht_recv hK hP hs t_zx (by decide) rfl rfl)) rfl rfl hl.1 rfl (lv_room (Nat.le_of_ble_eq_true rfl)) dL_law_955 ⟨(Nat.le_of_ble_eq_true rfl), (Nat.le_of_ble_eq_true rfl)⟩) hP hD hS hA (fun zj_5 u_7 H locs hw_6 hP hD hS => ?_)
  obtain ⟨zI_8, zJ_9⟩ := u_7
  obtain ⟨k_zI_8, ps_10⟩ : (WM [1013, 1014, 3700, 3800, 3900, 4000, 4200, 4700] AL zT zR zI zI_8) ∧ (JX zR zI_8 zx) := hw_6
  have h_zI_8 : WM [1013, 1014, 1806, 1807, 3700, 3800, 3900, 4000, 4200, 4700, 10300, 10400, 10500, 10600, 10700] AL zT zR zI zI_8 := h_zI.tr k_zI_8 (by decide) (fun _ _ => trivial)
  have hk_11 : (zI_8 zy 23).toInt = 0 ∨ ZI (zI_8 (zR zy 24)) := by rw [k_zI_8.2 zy 23 (Or.inl (by rw [t_zy]; decide)), k_zI_8.2.row t_1 (by decide) (by decide)]; exact hk
  have hsh_zI_8 : RSH zR zI_8 zx zy := RSH.sm hsh hs t_zx t_zy k_zI_8.2 (by decide)
  have hit_zI_8 : RIT zR zI_8 zx zy := RIT.sm hit hs t_zx t_zy k_zI_8.2 (by decide)
  have hrr_zI_8 : RRn zR zI_8 zx zy := RRn.sm hrr hs t_zx t_zy k_zI_8.2 (by decide) (FQR.of (k_zI_8.2.row t_2 (by decide) (by decide)))
  have hrg_zI_8 : RGn zR zI_8 zy := RGn.sm hrg hs t_zy k_zI_8.2 (by decide) (FQR.of (k_zI_8.2.row t_2 (by decide) (by decide)))
  have h3_zI_8 : R3 zR zI_8 zx zy := R3.sm h3 hs t_zx t_zy k_zI_8.2 (by decide) (FQ3.of (k_zI_8.2.row t_2 (by decide) (by decide)))
  refine lv_pop2_2 hx hb dL_law_958 rfl ?_
  refine lv_aload_n hx hb dL_law_959 rfl (lv_at hl 2 rfl) ?_
  refine lv_aload_n hx hb dL_law_960 rfl (lv_at hl 0 rfl) ?_
  refine lv_iload_n hx hb dL_law_961 rfl (lv_at hl 3 rfl) ?_
  refine lv_iconst (v := 1) hx hb dL_law_962 (by decide) ?_
  refine lv_iadd hx hb dL_law_963 ?_
  refine lv_topi (fun zi_12 ezi_12 => ?_)
  have tzi_12 : zi_12.toInt = zi9.toInt + (1 : Int) := by rw [ezi_12]; exact tiadd (rfl) (show (1 : Int32).toInt = 1 by decide) (by omega) (by omega)
  obtain rfl : zi_3 = zi_12 := ezi_3.trans ezi_12.symm
  refine va_sld hx hb hX hbl hbA hS (vp_in_iff.mpr ⟨by omega, by omega⟩) dL_law_964 ?_
  refine lv_topi (fun zi_13 ezi_13 => ?_)
  obtain rfl : zi_4 = zi_13 := ezi_4.trans ezi_13.symm
  have zz_14 : ZI (zI_8 (zR zy 0)) := by rw [(k_zI_8.2.row t_2 (by decide) (by decide))]; exact hz
  refine hj_l (ws := (WL cy zL zT zR zI_8 zJ_9)) (w1 := fun (u : (Nat → Nat → Int32) × (Nat → Nat → Int64)) => (WL cy zL zT zR u.1 u.2)) (va_runV (As := [.int zi_4]) (rest := []) ⟨hx, hb, hml, hown, hts⟩ (t_X11_ways l dC dI cy H.size zL zT zR zI_8 zJ_9 zy zi_4 hs h_zI_8.1 t_zy zz_14) (cwV 1 hts gL_law_X11_ways rfl rfl rfl (by decide +kernel) ⟨(Nat.le_of_ble_eq_true rfl), (Nat.le_of_ble_eq_true rfl)⟩) (PRE.v hP hK hD hN (ht_recv hK hP hs t_zy (by decide) rfl rfl)) rfl rfl hl.1 rfl (lv_room (Nat.le_of_ble_eq_true rfl)) dL_law_965 ⟨(Nat.le_of_ble_eq_true rfl), (Nat.le_of_ble_eq_true rfl)⟩) hP hD hS hA (fun zj_15 u_17 H locs hw_16 hP hD hS => ?_)
  obtain ⟨zI_18, zJ_19⟩ := u_17
  have k_zI_18 : WM [1806, 1807, 10300, 10400, 10500, 10600, 10700] AL zT zR zI_8 zI_18 := hw_16
  have h_zI_18 : WM [1013, 1014, 1806, 1807, 3700, 3800, 3900, 4000, 4200, 4700, 10300, 10400, 10500, 10600, 10700] AL zT zR zI zI_18 := h_zI_8.tr k_zI_18 (by decide) (fun _ _ => trivial)
  have j_zI_18 : JX zR zI_18 zx := JX.sm ps_10 hs t_zx k_zI_18.2 (by decide) (by decide)
  have hk_20 : (zI_18 zy 23).toInt = 0 ∨ ZI (zI_18 (zR zy 24)) := by rw [k_zI_18.2 zy 23 (Or.inl (by rw [t_zy]; decide)), k_zI_18.2.row t_1 (by decide) (by decide)]; exact hk_11
  have hsh_zI_18 : RSH zR zI_18 zx zy := RSH.sm hsh_zI_8 hs t_zx t_zy k_zI_18.2 (by decide)
  have hit_zI_18 : RIT zR zI_18 zx zy := RIT.sm hit_zI_8 hs t_zx t_zy k_zI_18.2 (by decide)
  have hrr_zI_18 : RRn zR zI_18 zx zy := RRn.sm hrr_zI_8 hs t_zx t_zy k_zI_18.2 (by decide) (FQR.of (k_zI_18.2.row t_2 (by decide) (by decide)))
  have hrg_zI_18 : RGn zR zI_18 zy := RGn.sm hrg_zI_8 hs t_zy k_zI_18.2 (by decide) (FQR.of (k_zI_18.2.row t_2 (by decide) (by decide)))
  have h3_zI_18 : R3 zR zI_18 zx zy := R3.sm h3_zI_8 hs t_zx t_zy k_zI_18.2 (by decide) (FQ3.of (k_zI_18.2.row t_2 (by decide) (by decide)))
  refine lv_pop2_2 hx hb dL_law_968 rfl ?_
  refine lv_goto (tgt := 1785) hx hb dL_law_969 (by decide) ?_
  have zz_21 : ZI (zI_18 (zR zy 0)) := by rw [(k_zI_18.2.row t_2 (by decide) (by decide))]; exact zz_14
  exact kx _ _ _ _ _ h_zI_18.1 j_zI_18 zz_21 hk_20 h3_zI_18 hrr_zI_18 hsh_zI_18 hit_zI_18 hrg_zI_18 hP hD hS hl
set_option maxHeartbeats 4000000 in
set_option maxRecDepth 100000 in
theorem lw_c20 {p : Program} {l : Launch} {e : Env} {s : State} {m : MethodId} {below : List Frame} {meth : Method} {c : Code} {b L : Nat} {xs : Nat → Int32} {A : Nat → Prop} {Q : State → Prop} (hx : p.tables.exec = Jvm.exec) (hb : c.code = cL_law) (hml : c.maxLocals = 4) (hown : s.vm.findClass RL = some m.cls) (hts : ∀ w ∈ wsL_law, w.before #[Value.ref b] s = true) (hX : va_X b L xs s s.heap) (hbl : b < s.heap.size) (hbA : ¬ A b) (hA : ∀ q : Nat, s.heap.size ≤ q → A q) (hL : L ≤ 3072) (dC : Nat → ClassId) (dI : Nat → Nat → Nat) (cy : Nat → ClassId) (zL : List Nat) (zT : Nat → Nat) (zR : Nat → Nat → Nat) (zI : Nat → Nat → Int32) (zJ : Nat → Nat → Int64) (zx zy : Nat) (zi9 : Int32) (hs : SKP zL zT zR) (hw : WT zT zR zI) (t_zx : zT zx = 11) (t_zy : zT zy = 18) (hj : JX zR zI zx) (hz : ZI (zI (zR zy 0))) (hk : (zI zy 23).toInt = 0 ∨ ZI (zI (zR zy 24))) (h3 : R3 zR zI zx zy) (hrr : RRn zR zI zx zy) (hsh : RSH zR zI zx zy) (hit : RIT zR zI zx zy) (hrg : RGn zR zI zy) (hK : va_K (dC, dI) vwCl (TY cy) s) (hN : N0 s) (b_zi9 : 0 ≤ zi9.toInt ∧ zi9.toInt ≤ 3066) (hi1 : zi9.toInt + 6 ≤ (L : Int))
    (kx : ∀ (zI2 : Nat → Nat → Int32) (zJ2 : Nat → Nat → Int64) (H : Heap) (locs : List Loc) (ls : Array Slot), WT zT zR zI2 → JX zR zI2 zx → ZI (zI2 (zR zy 0)) → ((zI2 zy 23).toInt = 0 ∨ ZI (zI2 (zR zy 24))) → (R3 zR zI2 zx zy) → (RRn zR zI2 zx zy) → (RSH zR zI2 zx zy) → (RIT zR zI2 zx zy) → (RGn zR zI2 zy) → va_P (dC, dI) vwCl (WL cy zL zT zR zI2 zJ2) H → va_D A (WL cy zL zT zR zI2 zJ2) → va_S A s.heap H locs → lv_has ls 4 [(0, .ref b), (1, .ref zx), (2, .ref zy), (3, .int zi9)] → W p l e room_1 s m #[Value.ref b] below meth c H locs 265 67857 Q (F0 m 1785 ls []))
    {H : Heap} {locs : List Loc} {ls : Array Slot} (hP : va_P (dC, dI) vwCl (WL cy zL zT zR zI zJ) H) (hD : va_D A (WL cy zL zT zR zI zJ)) (hS : va_S A s.heap H locs) (hl : lv_has ls 4 [(0, .ref b), (1, .ref zx), (2, .ref zy), (3, .int zi9)]) : W p l e room_1 s m #[Value.ref b] below meth c H locs 265 67857 Q (F0 m 972 ls []) := by
  have h_zI : WM [1013, 1014, 1806, 1807, 3700, 3800, 3900, 4000, 4200, 4700, 10300, 10400, 10500, 10600, 10700] AL zT zR zI zI := WM.rf hw
  have t_1 : zT (zR zy 24) = 109 := sk_f hs t_zy (by decide) rfl (by decide)
  have t_2 : zT (zR zy 0) = 100 := sk_f hs t_zy (by decide) rfl (by decide)
  refine lv_aload_n hx hb dL_law_972 rfl (lv_at hl 1 rfl) ?_
  refine lv_aload_n hx hb dL_law_973 rfl (lv_at hl 0 rfl) ?_
  refine lv_iload_n hx hb dL_law_974 rfl (lv_at hl 3 rfl) ?_
  refine lv_iconst (v := 1) hx hb dL_law_975 (by decide) ?_
  refine lv_iadd hx hb dL_law_976 ?_
  refine lv_topi (fun zi_3 ezi_3 => ?_)
  have tzi_3 : zi_3.toInt = zi9.toInt + (1 : Int) := by rw [ezi_3]; exact tiadd (rfl) (show (1 : Int32).toInt = 1 by decide) (by omega) (by omega)
  refine va_sld hx hb hX hbl hbA hS (vp_in_iff.mpr ⟨by omega, by omega⟩) dL_law_977 ?_
  refine lv_topi (fun zi_4 ezi_4 => ?_)
  refine lv_aload_n hx hb dL_law_978 rfl (lv_at hl 0 rfl) ?_
  refine lv_iload_n hx hb dL_law_979 rfl (lv_at hl 3 rfl) ?_
  refine lv_iconst (v := 2) hx hb dL_law_980 (by decide) ?_
  refine lv_iadd hx hb dL_law_981 ?_
  refine lv_topi (fun zi_5 ezi_5 => ?_)
  have tzi_5 : zi_5.toInt = zi9.toInt + (2 : Int) := by rw [ezi_5]; exact tiadd (rfl) (show (2 : Int32).toInt = 2 by decide) (by omega) (by omega)
  refine va_sld hx hb hX hbl hbA hS (vp_in_iff.mpr ⟨by omega, by omega⟩) dL_law_982 ?_
  refine lv_topi (fun zi_6 ezi_6 => ?_)
  refine lv_aload_n hx hb dL_law_983 rfl (lv_at hl 0 rfl) ?_
  refine lv_iload_n hx hb dL_law_984 rfl (lv_at hl 3 rfl) ?_
  refine lv_iconst (v := 3) hx hb dL_law_985 (by decide) ?_
  refine lv_iadd hx hb dL_law_986 ?_
  refine lv_topi (fun zi_7 ezi_7 => ?_)
  have tzi_7 : zi_7.toInt = zi9.toInt + (3 : Int) := by rw [ezi_7]; exact tiadd (rfl) (show (3 : Int32).toInt = 3 by decide) (by omega) (by omega)
  refine va_sld hx hb hX hbl hbA hS (vp_in_iff.mpr ⟨by omega, by omega⟩) dL_law_987 ?_
  refine lv_topi (fun zi_8 ezi_8 => ?_)
  refine hj_i (ws := (WL cy zL zT zR zI zJ)) (w1 := fun (u : (Nat → Nat → Int32) × (Nat → Nat → Int64)) => (WL cy zL zT zR u.1 u.2)) (va_runV (As := [.int zi_4, .int zi_6, .int zi_8]) (rest := []) ⟨hx, hb, hml, hown, hts⟩ (t_X10_ends l dC dI cy H.size zL zT zR zI zJ zx zi_4 zi_6 zi_8 hs h_zI.1 t_zx hj) (cwV 3 hts gL_law_X10_ends rfl rfl rfl (by decide +kernel) ⟨(Nat.le_of_ble_eq_true rfl), (Nat.le_of_ble_eq_true rfl)⟩) (PRE.v hP hK hD hN (ht_recv hK hP hs t_zx (by decide) rfl rfl)) rfl rfl hl.1 rfl (lv_room (Nat.le_of_ble_eq_true rfl)) dL_law_988 ⟨(Nat.le_of_ble_eq_true rfl), (Nat.le_of_ble_eq_true rfl)⟩) hP hD hS hA (fun zi_9 u_11 H locs hw_10 hP hD hS => ?_)
  obtain ⟨zI_12, zJ_13⟩ := u_11
  obtain ⟨k_zI_12, b_zi_9, ps_14⟩ : (WM [1013, 1014, 3700, 3800, 3900, 4000, 4200, 4700] AL zT zR zI zI_12) ∧ ((-12) ≤ zi_9.toInt ∧ zi_9.toInt ≤ 23) ∧ (JX zR zI_12 zx) := hw_10
  have h_zI_12 : WM [1013, 1014, 1806, 1807, 3700, 3800, 3900, 4000, 4200, 4700, 10300, 10400, 10500, 10600, 10700] AL zT zR zI zI_12 := h_zI.tr k_zI_12 (by decide) (fun _ _ => trivial)
  have hk_15 : (zI_12 zy 23).toInt = 0 ∨ ZI (zI_12 (zR zy 24)) := by rw [k_zI_12.2 zy 23 (Or.inl (by rw [t_zy]; decide)), k_zI_12.2.row t_1 (by decide) (by decide)]; exact hk
  have hsh_zI_12 : RSH zR zI_12 zx zy := RSH.sm hsh hs t_zx t_zy k_zI_12.2 (by decide)
  have hit_zI_12 : RIT zR zI_12 zx zy := RIT.sm hit hs t_zx t_zy k_zI_12.2 (by decide)
  have hrr_zI_12 : RRn zR zI_12 zx zy := RRn.sm hrr hs t_zx t_zy k_zI_12.2 (by decide) (FQR.of (k_zI_12.2.row t_2 (by decide) (by decide)))
  have hrg_zI_12 : RGn zR zI_12 zy := RGn.sm hrg hs t_zy k_zI_12.2 (by decide) (FQR.of (k_zI_12.2.row t_2 (by decide) (by decide)))
  have h3_zI_12 : R3 zR zI_12 zx zy := R3.sm h3 hs t_zx t_zy k_zI_12.2 (by decide) (FQ3.of (k_zI_12.2.row t_2 (by decide) (by decide)))
  refine lv_pop hx hb dL_law_991 rfl ?_
  refine lv_aload_n hx hb dL_law_992 rfl (lv_at hl 2 rfl) ?_
  refine lv_aload_n hx hb dL_law_993 rfl (lv_at hl 0 rfl) ?_
  refine lv_iload_n hx hb dL_law_994 rfl (lv_at hl 3 rfl) ?_
  refine lv_iconst (v := 1) hx hb dL_law_995 (by decide) ?_
  refine lv_iadd hx hb dL_law_996 ?_
  refine lv_topi (fun zi_16 ezi_16 => ?_)
  have tzi_16 : zi_16.toInt = zi9.toInt + (1 : Int) := by rw [ezi_16]; exact tiadd (rfl) (show (1 : Int32).toInt = 1 by decide) (by omega) (by omega)
  obtain rfl : zi_3 = zi_16 := ezi_3.trans ezi_16.symm
  refine va_sld hx hb hX hbl hbA hS (vp_in_iff.mpr ⟨by omega, by omega⟩) dL_law_997 ?_
  refine lv_topi (fun zi_17 ezi_17 => ?_)
  obtain rfl : zi_4 = zi_17 := ezi_4.trans ezi_17.symm
  refine lv_aload_n hx hb dL_law_998 rfl (lv_at hl 0 rfl) ?_
  refine lv_iload_n hx hb dL_law_999 rfl (lv_at hl 3 rfl) ?_
  refine lv_iconst (v := 2) hx hb dL_law_1000 (by decide) ?_
  refine lv_iadd hx hb dL_law_1001 ?_
  refine lv_topi (fun zi_18 ezi_18 => ?_)
  have tzi_18 : zi_18.toInt = zi9.toInt + (2 : Int) := by rw [ezi_18]; exact tiadd (rfl) (show (2 : Int32).toInt = 2 by decide) (by omega) (by omega)
  obtain rfl : zi_5 = zi_18 := ezi_5.trans ezi_18.symm
  refine va_sld hx hb hX hbl hbA hS (vp_in_iff.mpr ⟨by omega, by omega⟩) dL_law_1002 ?_
  refine lv_topi (fun zi_19 ezi_19 => ?_)
  obtain rfl : zi_6 = zi_19 := ezi_6.trans ezi_19.symm
  refine lv_aload_n hx hb dL_law_1003 rfl (lv_at hl 0 rfl) ?_
  refine lv_iload_n hx hb dL_law_1004 rfl (lv_at hl 3 rfl) ?_
  refine lv_iconst (v := 3) hx hb dL_law_1005 (by decide) ?_
  refine lv_iadd hx hb dL_law_1006 ?_
  refine lv_topi (fun zi_20 ezi_20 => ?_)
  have tzi_20 : zi_20.toInt = zi9.toInt + (3 : Int) := by rw [ezi_20]; exact tiadd (rfl) (show (3 : Int32).toInt = 3 by decide) (by omega) (by omega)
  obtain rfl : zi_7 = zi_20 := ezi_7.trans ezi_20.symm
  refine va_sld hx hb hX hbl hbA hS (vp_in_iff.mpr ⟨by omega, by omega⟩) dL_law_1007 ?_
  refine lv_topi (fun zi_21 ezi_21 => ?_)
  obtain rfl : zi_8 = zi_21 := ezi_8.trans ezi_21.symm
  have zz_22 : ZI (zI_12 (zR zy 0)) := by rw [(k_zI_12.2.row t_2 (by decide) (by decide))]; exact hz
  refine hj_i (ws := (WL cy zL zT zR zI_12 zJ_13)) (w1 := fun (u : (Nat → Nat → Int32) × (Nat → Nat → Int64)) => (WL cy zL zT zR u.1 u.2)) (va_runV (As := [.int zi_4, .int zi_6, .int zi_8]) (rest := []) ⟨hx, hb, hml, hown, hts⟩ (t_X11_ends l dC dI cy H.size zL zT zR zI_12 zJ_13 zy zi_4 zi_6 zi_8 hs h_zI_12.1 t_zy zz_22) (cwV 3 hts gL_law_X11_ends rfl rfl rfl (by decide +kernel) ⟨(Nat.le_of_ble_eq_true rfl), (Nat.le_of_ble_eq_true rfl)⟩) (PRE.v hP hK hD hN (ht_recv hK hP hs t_zy (by decide) rfl rfl)) rfl rfl hl.1 rfl (lv_room (Nat.le_of_ble_eq_true rfl)) dL_law_1008 ⟨(Nat.le_of_ble_eq_true rfl), (Nat.le_of_ble_eq_true rfl)⟩) hP hD hS hA (fun zi_23 u_25 H locs hw_24 hP hD hS => ?_)
  obtain ⟨zI_26, zJ_27⟩ := u_25
  obtain ⟨k_zI_26, b_zi_23⟩ : (WM [1806, 1807, 10300, 10400, 10500, 10600, 10700] AL zT zR zI_12 zI_26) ∧ ((-12) ≤ zi_23.toInt ∧ zi_23.toInt ≤ 23) := hw_24
  have h_zI_26 : WM [1013, 1014, 1806, 1807, 3700, 3800, 3900, 4000, 4200, 4700, 10300, 10400, 10500, 10600, 10700] AL zT zR zI zI_26 := h_zI_12.tr k_zI_26 (by decide) (fun _ _ => trivial)
  have j_zI_26 : JX zR zI_26 zx := JX.sm ps_14 hs t_zx k_zI_26.2 (by decide) (by decide)
  have hk_28 : (zI_26 zy 23).toInt = 0 ∨ ZI (zI_26 (zR zy 24)) := by rw [k_zI_26.2 zy 23 (Or.inl (by rw [t_zy]; decide)), k_zI_26.2.row t_1 (by decide) (by decide)]; exact hk_15
  have hsh_zI_26 : RSH zR zI_26 zx zy := RSH.sm hsh_zI_12 hs t_zx t_zy k_zI_26.2 (by decide)
  have hit_zI_26 : RIT zR zI_26 zx zy := RIT.sm hit_zI_12 hs t_zx t_zy k_zI_26.2 (by decide)
  have hrr_zI_26 : RRn zR zI_26 zx zy := RRn.sm hrr_zI_12 hs t_zx t_zy k_zI_26.2 (by decide) (FQR.of (k_zI_26.2.row t_2 (by decide) (by decide)))
  have hrg_zI_26 : RGn zR zI_26 zy := RGn.sm hrg_zI_12 hs t_zy k_zI_26.2 (by decide) (FQR.of (k_zI_26.2.row t_2 (by decide) (by decide)))
  have h3_zI_26 : R3 zR zI_26 zx zy := R3.sm h3_zI_12 hs t_zx t_zy k_zI_26.2 (by decide) (FQ3.of (k_zI_26.2.row t_2 (by decide) (by decide)))
  refine lv_pop hx hb dL_law_1011 rfl ?_
  refine lv_goto (tgt := 1785) hx hb dL_law_1012 (by decide) ?_
  have zz_29 : ZI (zI_26 (zR zy 0)) := by rw [(k_zI_26.2.row t_2 (by decide) (by decide))]; exact zz_22
  exact kx _ _ _ _ _ h_zI_26.1 j_zI_26 zz_29 hk_28 h3_zI_26 hrr_zI_26 hsh_zI_26 hit_zI_26 hrg_zI_26 hP hD hS hl
set_option maxHeartbeats 4000000 in
set_option maxRecDepth 100000 in
theorem lw_c21 {p : Program} {l : Launch} {e : Env} {s : State} {m : MethodId} {below : List Frame} {meth : Method} {c : Code} {b L : Nat} {xs : Nat → Int32} {A : Nat → Prop} {Q : State → Prop} (hx : p.tables.exec = Jvm.exec) (hb : c.code = cL_law) (hml : c.maxLocals = 4) (hown : s.vm.findClass RL = some m.cls) (hts : ∀ w ∈ wsL_law, w.before #[Value.ref b] s = true) (hX : va_X b L xs s s.heap) (hbl : b < s.heap.size) (hbA : ¬ A b) (hA : ∀ q : Nat, s.heap.size ≤ q → A q) (hL : L ≤ 3072) (dC : Nat → ClassId) (dI : Nat → Nat → Nat) (cy : Nat → ClassId) (zL : List Nat) (zT : Nat → Nat) (zR : Nat → Nat → Nat) (zI : Nat → Nat → Int32) (zJ : Nat → Nat → Int64) (zx zy : Nat) (zi9 : Int32) (hs : SKP zL zT zR) (hw : WT zT zR zI) (t_zx : zT zx = 11) (t_zy : zT zy = 18) (hj : JX zR zI zx) (hz : ZI (zI (zR zy 0))) (hk : (zI zy 23).toInt = 0 ∨ ZI (zI (zR zy 24))) (h3 : R3 zR zI zx zy) (hrr : RRn zR zI zx zy) (hsh : RSH zR zI zx zy) (hit : RIT zR zI zx zy) (hrg : RGn zR zI zy) (hK : va_K (dC, dI) vwCl (TY cy) s) (hN : N0 s) (b_zi9 : 0 ≤ zi9.toInt ∧ zi9.toInt ≤ 3066) (hi1 : zi9.toInt + 6 ≤ (L : Int))
    (kx : ∀ (zI2 : Nat → Nat → Int32) (zJ2 : Nat → Nat → Int64) (H : Heap) (locs : List Loc) (ls : Array Slot), WT zT zR zI2 → JX zR zI2 zx → ZI (zI2 (zR zy 0)) → ((zI2 zy 23).toInt = 0 ∨ ZI (zI2 (zR zy 24))) → (R3 zR zI2 zx zy) → (RRn zR zI2 zx zy) → (RSH zR zI2 zx zy) → (RIT zR zI2 zx zy) → (RGn zR zI2 zy) → va_P (dC, dI) vwCl (WL cy zL zT zR zI2 zJ2) H → va_D A (WL cy zL zT zR zI2 zJ2) → va_S A s.heap H locs → lv_has ls 4 [(0, .ref b), (1, .ref zx), (2, .ref zy), (3, .int zi9)] → W p l e room_1 s m #[Value.ref b] below meth c H locs 265 67857 Q (F0 m 1785 ls []))
    {H : Heap} {locs : List Loc} {ls : Array Slot} (hP : va_P (dC, dI) vwCl (WL cy zL zT zR zI zJ) H) (hD : va_D A (WL cy zL zT zR zI zJ)) (hS : va_S A s.heap H locs) (hl : lv_has ls 4 [(0, .ref b), (1, .ref zx), (2, .ref zy), (3, .int zi9)]) : W p l e room_1 s m #[Value.ref b] below meth c H locs 265 67857 Q (F0 m 1015 ls []) := by
  have h_zI : WM [1013, 1014, 1806, 1807, 3700, 3800, 3900, 4000, 4200, 4700, 10300, 10400, 10500, 10600, 10700] AL zT zR zI zI := WM.rf hw
  have t_1 : zT (zR zy 24) = 109 := sk_f hs t_zy (by decide) rfl (by decide)
  have t_2 : zT (zR zy 0) = 100 := sk_f hs t_zy (by decide) rfl (by decide)
  refine lv_aload_n hx hb dL_law_1015 rfl (lv_at hl 1 rfl) ?_
  refine lv_aload_n hx hb dL_law_1016 rfl (lv_at hl 0 rfl) ?_
  refine lv_iload_n hx hb dL_law_1017 rfl (lv_at hl 3 rfl) ?_
  refine lv_iconst (v := 1) hx hb dL_law_1018 (by decide) ?_
  refine lv_iadd hx hb dL_law_1019 ?_
  refine lv_topi (fun zi_3 ezi_3 => ?_)
  have tzi_3 : zi_3.toInt = zi9.toInt + (1 : Int) := by rw [ezi_3]; exact tiadd (rfl) (show (1 : Int32).toInt = 1 by decide) (by omega) (by omega)
  refine va_sld hx hb hX hbl hbA hS (vp_in_iff.mpr ⟨by omega, by omega⟩) dL_law_1020 ?_
  refine lv_topi (fun zi_4 ezi_4 => ?_)
  refine lv_aload_n hx hb dL_law_1021 rfl (lv_at hl 0 rfl) ?_
  refine lv_iload_n hx hb dL_law_1022 rfl (lv_at hl 3 rfl) ?_
  refine lv_iconst (v := 2) hx hb dL_law_1023 (by decide) ?_
  refine lv_iadd hx hb dL_law_1024 ?_
  refine lv_topi (fun zi_5 ezi_5 => ?_)
  have tzi_5 : zi_5.toInt = zi9.toInt + (2 : Int) := by rw [ezi_5]; exact tiadd (rfl) (show (2 : Int32).toInt = 2 by decide) (by omega) (by omega)
  refine va_sld hx hb hX hbl hbA hS (vp_in_iff.mpr ⟨by omega, by omega⟩) dL_law_1025 ?_
  refine lv_topi (fun zi_6 ezi_6 => ?_)
  refine lv_aload_n hx hb dL_law_1026 rfl (lv_at hl 0 rfl) ?_
  refine lv_iload_n hx hb dL_law_1027 rfl (lv_at hl 3 rfl) ?_
  refine lv_iconst (v := 3) hx hb dL_law_1028 (by decide) ?_
  refine lv_iadd hx hb dL_law_1029 ?_
  refine lv_topi (fun zi_7 ezi_7 => ?_)
  have tzi_7 : zi_7.toInt = zi9.toInt + (3 : Int) := by rw [ezi_7]; exact tiadd (rfl) (show (3 : Int32).toInt = 3 by decide) (by omega) (by omega)
  refine va_sld hx hb hX hbl hbA hS (vp_in_iff.mpr ⟨by omega, by omega⟩) dL_law_1030 ?_
  refine lv_topi (fun zi_8 ezi_8 => ?_)
  refine lv_aload_n hx hb dL_law_1031 rfl (lv_at hl 0 rfl) ?_
  refine lv_iload_n hx hb dL_law_1032 rfl (lv_at hl 3 rfl) ?_
  refine lv_iconst (v := 4) hx hb dL_law_1033 (by decide) ?_
  refine lv_iadd hx hb dL_law_1034 ?_
  refine lv_topi (fun zi_9 ezi_9 => ?_)
  have tzi_9 : zi_9.toInt = zi9.toInt + (4 : Int) := by rw [ezi_9]; exact tiadd (rfl) (show (4 : Int32).toInt = 4 by decide) (by omega) (by omega)
  refine va_sld hx hb hX hbl hbA hS (vp_in_iff.mpr ⟨by omega, by omega⟩) dL_law_1035 ?_
  refine lv_topi (fun zi_10 ezi_10 => ?_)
  refine hj_l (ws := (WL cy zL zT zR zI zJ)) (w1 := fun (u : (Nat → Nat → Int32) × (Nat → Nat → Int64)) => (WL cy zL zT zR u.1 u.2)) (va_runV (As := [.int zi_4, .int zi_6, .int zi_8, .int zi_10]) (rest := []) ⟨hx, hb, hml, hown, hts⟩ (t_X10_odds l dC dI cy H.size zL zT zR zI zJ zx zi_4 zi_6 zi_8 zi_10 hs h_zI.1 t_zx hj) (cwV 4 hts gL_law_X10_odds rfl rfl rfl (by decide +kernel) ⟨(Nat.le_of_ble_eq_true rfl), (Nat.le_of_ble_eq_true rfl)⟩) (PRE.v hP hK hD hN (ht_recv hK hP hs t_zx (by decide) rfl rfl)) rfl rfl hl.1 rfl (lv_room (Nat.le_of_ble_eq_true rfl)) dL_law_1036 ⟨(Nat.le_of_ble_eq_true rfl), (Nat.le_of_ble_eq_true rfl)⟩) hP hD hS hA (fun zj_11 u_13 H locs hw_12 hP hD hS => ?_)
  obtain ⟨zI_14, zJ_15⟩ := u_13
  obtain ⟨k_zI_14, ps_16⟩ : (WM [1013, 1014, 3700, 3800, 3900, 4000, 4200, 4700] AL zT zR zI zI_14) ∧ (JX zR zI_14 zx) := hw_12
  have h_zI_14 : WM [1013, 1014, 1806, 1807, 3700, 3800, 3900, 4000, 4200, 4700, 10300, 10400, 10500, 10600, 10700] AL zT zR zI zI_14 := h_zI.tr k_zI_14 (by decide) (fun _ _ => trivial)
  have hk_17 : (zI_14 zy 23).toInt = 0 ∨ ZI (zI_14 (zR zy 24)) := by rw [k_zI_14.2 zy 23 (Or.inl (by rw [t_zy]; decide)), k_zI_14.2.row t_1 (by decide) (by decide)]; exact hk
  have hsh_zI_14 : RSH zR zI_14 zx zy := RSH.sm hsh hs t_zx t_zy k_zI_14.2 (by decide)
  have hit_zI_14 : RIT zR zI_14 zx zy := RIT.sm hit hs t_zx t_zy k_zI_14.2 (by decide)
  have hrr_zI_14 : RRn zR zI_14 zx zy := RRn.sm hrr hs t_zx t_zy k_zI_14.2 (by decide) (FQR.of (k_zI_14.2.row t_2 (by decide) (by decide)))
  have hrg_zI_14 : RGn zR zI_14 zy := RGn.sm hrg hs t_zy k_zI_14.2 (by decide) (FQR.of (k_zI_14.2.row t_2 (by decide) (by decide)))
  have h3_zI_14 : R3 zR zI_14 zx zy := R3.sm h3 hs t_zx t_zy k_zI_14.2 (by decide) (FQ3.of (k_zI_14.2.row t_2 (by decide) (by decide)))
  refine lv_pop2_2 hx hb dL_law_1039 rfl ?_
  refine lv_aload_n hx hb dL_law_1040 rfl (lv_at hl 2 rfl) ?_
  refine lv_aload_n hx hb dL_law_1041 rfl (lv_at hl 0 rfl) ?_
  refine lv_iload_n hx hb dL_law_1042 rfl (lv_at hl 3 rfl) ?_
  refine lv_iconst (v := 1) hx hb dL_law_1043 (by decide) ?_
  refine lv_iadd hx hb dL_law_1044 ?_
  refine lv_topi (fun zi_18 ezi_18 => ?_)
  have tzi_18 : zi_18.toInt = zi9.toInt + (1 : Int) := by rw [ezi_18]; exact tiadd (rfl) (show (1 : Int32).toInt = 1 by decide) (by omega) (by omega)
  obtain rfl : zi_3 = zi_18 := ezi_3.trans ezi_18.symm
  refine va_sld hx hb hX hbl hbA hS (vp_in_iff.mpr ⟨by omega, by omega⟩) dL_law_1045 ?_
  refine lv_topi (fun zi_19 ezi_19 => ?_)
  obtain rfl : zi_4 = zi_19 := ezi_4.trans ezi_19.symm
  refine lv_aload_n hx hb dL_law_1046 rfl (lv_at hl 0 rfl) ?_
  refine lv_iload_n hx hb dL_law_1047 rfl (lv_at hl 3 rfl) ?_
  refine lv_iconst (v := 2) hx hb dL_law_1048 (by decide) ?_
  refine lv_iadd hx hb dL_law_1049 ?_
  refine lv_topi (fun zi_20 ezi_20 => ?_)
  have tzi_20 : zi_20.toInt = zi9.toInt + (2 : Int) := by rw [ezi_20]; exact tiadd (rfl) (show (2 : Int32).toInt = 2 by decide) (by omega) (by omega)
  obtain rfl : zi_5 = zi_20 := ezi_5.trans ezi_20.symm
  refine va_sld hx hb hX hbl hbA hS (vp_in_iff.mpr ⟨by omega, by omega⟩) dL_law_1050 ?_
  refine lv_topi (fun zi_21 ezi_21 => ?_)
  obtain rfl : zi_6 = zi_21 := ezi_6.trans ezi_21.symm
  refine lv_aload_n hx hb dL_law_1051 rfl (lv_at hl 0 rfl) ?_
  refine lv_iload_n hx hb dL_law_1052 rfl (lv_at hl 3 rfl) ?_
  refine lv_iconst (v := 3) hx hb dL_law_1053 (by decide) ?_
  refine lv_iadd hx hb dL_law_1054 ?_
  refine lv_topi (fun zi_22 ezi_22 => ?_)
  have tzi_22 : zi_22.toInt = zi9.toInt + (3 : Int) := by rw [ezi_22]; exact tiadd (rfl) (show (3 : Int32).toInt = 3 by decide) (by omega) (by omega)
  obtain rfl : zi_7 = zi_22 := ezi_7.trans ezi_22.symm
  refine va_sld hx hb hX hbl hbA hS (vp_in_iff.mpr ⟨by omega, by omega⟩) dL_law_1055 ?_
  refine lv_topi (fun zi_23 ezi_23 => ?_)
  obtain rfl : zi_8 = zi_23 := ezi_8.trans ezi_23.symm
  refine lv_aload_n hx hb dL_law_1056 rfl (lv_at hl 0 rfl) ?_
  refine lv_iload_n hx hb dL_law_1057 rfl (lv_at hl 3 rfl) ?_
  refine lv_iconst (v := 4) hx hb dL_law_1058 (by decide) ?_
  refine lv_iadd hx hb dL_law_1059 ?_
  refine lv_topi (fun zi_24 ezi_24 => ?_)
  have tzi_24 : zi_24.toInt = zi9.toInt + (4 : Int) := by rw [ezi_24]; exact tiadd (rfl) (show (4 : Int32).toInt = 4 by decide) (by omega) (by omega)
  obtain rfl : zi_9 = zi_24 := ezi_9.trans ezi_24.symm
  refine va_sld hx hb hX hbl hbA hS (vp_in_iff.mpr ⟨by omega, by omega⟩) dL_law_1060 ?_
  refine lv_topi (fun zi_25 ezi_25 => ?_)
  obtain rfl : zi_10 = zi_25 := ezi_10.trans ezi_25.symm
  have zz_26 : ZI (zI_14 (zR zy 0)) := by rw [(k_zI_14.2.row t_2 (by decide) (by decide))]; exact hz
  refine hj_l (ws := (WL cy zL zT zR zI_14 zJ_15)) (w1 := fun (u : (Nat → Nat → Int32) × (Nat → Nat → Int64)) => (WL cy zL zT zR u.1 u.2)) (va_runV (As := [.int zi_4, .int zi_6, .int zi_8, .int zi_10]) (rest := []) ⟨hx, hb, hml, hown, hts⟩ (t_X11_odds l dC dI cy H.size zL zT zR zI_14 zJ_15 zy zi_4 zi_6 zi_8 zi_10 hs h_zI_14.1 t_zy zz_26) (cwV 4 hts gL_law_X11_odds rfl rfl rfl (by decide +kernel) ⟨(Nat.le_of_ble_eq_true rfl), (Nat.le_of_ble_eq_true rfl)⟩) (PRE.v hP hK hD hN (ht_recv hK hP hs t_zy (by decide) rfl rfl)) rfl rfl hl.1 rfl (lv_room (Nat.le_of_ble_eq_true rfl)) dL_law_1061 ⟨(Nat.le_of_ble_eq_true rfl), (Nat.le_of_ble_eq_true rfl)⟩) hP hD hS hA (fun zj_27 u_29 H locs hw_28 hP hD hS => ?_)
  obtain ⟨zI_30, zJ_31⟩ := u_29
  have k_zI_30 : WM [1806, 1807, 10300, 10400, 10500, 10600, 10700] AL zT zR zI_14 zI_30 := hw_28
  have h_zI_30 : WM [1013, 1014, 1806, 1807, 3700, 3800, 3900, 4000, 4200, 4700, 10300, 10400, 10500, 10600, 10700] AL zT zR zI zI_30 := h_zI_14.tr k_zI_30 (by decide) (fun _ _ => trivial)
  have j_zI_30 : JX zR zI_30 zx := JX.sm ps_16 hs t_zx k_zI_30.2 (by decide) (by decide)
  have hk_32 : (zI_30 zy 23).toInt = 0 ∨ ZI (zI_30 (zR zy 24)) := by rw [k_zI_30.2 zy 23 (Or.inl (by rw [t_zy]; decide)), k_zI_30.2.row t_1 (by decide) (by decide)]; exact hk_17
  have hsh_zI_30 : RSH zR zI_30 zx zy := RSH.sm hsh_zI_14 hs t_zx t_zy k_zI_30.2 (by decide)
  have hit_zI_30 : RIT zR zI_30 zx zy := RIT.sm hit_zI_14 hs t_zx t_zy k_zI_30.2 (by decide)
  have hrr_zI_30 : RRn zR zI_30 zx zy := RRn.sm hrr_zI_14 hs t_zx t_zy k_zI_30.2 (by decide) (FQR.of (k_zI_30.2.row t_2 (by decide) (by decide)))
  have hrg_zI_30 : RGn zR zI_30 zy := RGn.sm hrg_zI_14 hs t_zy k_zI_30.2 (by decide) (FQR.of (k_zI_30.2.row t_2 (by decide) (by decide)))
  have h3_zI_30 : R3 zR zI_30 zx zy := R3.sm h3_zI_14 hs t_zx t_zy k_zI_30.2 (by decide) (FQ3.of (k_zI_30.2.row t_2 (by decide) (by decide)))
  refine lv_pop2_2 hx hb dL_law_1064 rfl ?_
  refine lv_goto (tgt := 1785) hx hb dL_law_1065 (by decide) ?_
  have zz_33 : ZI (zI_30 (zR zy 0)) := by rw [(k_zI_30.2.row t_2 (by decide) (by decide))]; exact zz_26
  exact kx _ _ _ _ _ h_zI_30.1 j_zI_30 zz_33 hk_32 h3_zI_30 hrr_zI_30 hsh_zI_30 hit_zI_30 hrg_zI_30 hP hD hS hl
set_option maxHeartbeats 4000000 in
set_option maxRecDepth 100000 in
theorem lw_c22 {p : Program} {l : Launch} {e : Env} {s : State} {m : MethodId} {below : List Frame} {meth : Method} {c : Code} {b L : Nat} {xs : Nat → Int32} {A : Nat → Prop} {Q : State → Prop} (hx : p.tables.exec = Jvm.exec) (hb : c.code = cL_law) (hml : c.maxLocals = 4) (hown : s.vm.findClass RL = some m.cls) (hts : ∀ w ∈ wsL_law, w.before #[Value.ref b] s = true) (hX : va_X b L xs s s.heap) (hbl : b < s.heap.size) (hbA : ¬ A b) (hA : ∀ q : Nat, s.heap.size ≤ q → A q) (hL : L ≤ 3072) (dC : Nat → ClassId) (dI : Nat → Nat → Nat) (cy : Nat → ClassId) (zL : List Nat) (zT : Nat → Nat) (zR : Nat → Nat → Nat) (zI : Nat → Nat → Int32) (zJ : Nat → Nat → Int64) (zx zy : Nat) (zi9 : Int32) (hs : SKP zL zT zR) (hw : WT zT zR zI) (t_zx : zT zx = 11) (t_zy : zT zy = 18) (hj : JX zR zI zx) (hz : ZI (zI (zR zy 0))) (hk : (zI zy 23).toInt = 0 ∨ ZI (zI (zR zy 24))) (h3 : R3 zR zI zx zy) (hrr : RRn zR zI zx zy) (hsh : RSH zR zI zx zy) (hit : RIT zR zI zx zy) (hrg : RGn zR zI zy) (hK : va_K (dC, dI) vwCl (TY cy) s) (hN : N0 s) (b_zi9 : 0 ≤ zi9.toInt ∧ zi9.toInt ≤ 3066) (hi1 : zi9.toInt + 6 ≤ (L : Int))
    (kx : ∀ (zI2 : Nat → Nat → Int32) (zJ2 : Nat → Nat → Int64) (H : Heap) (locs : List Loc) (ls : Array Slot), WT zT zR zI2 → JX zR zI2 zx → ZI (zI2 (zR zy 0)) → ((zI2 zy 23).toInt = 0 ∨ ZI (zI2 (zR zy 24))) → (R3 zR zI2 zx zy) → (RRn zR zI2 zx zy) → (RSH zR zI2 zx zy) → (RIT zR zI2 zx zy) → (RGn zR zI2 zy) → va_P (dC, dI) vwCl (WL cy zL zT zR zI2 zJ2) H → va_D A (WL cy zL zT zR zI2 zJ2) → va_S A s.heap H locs → lv_has ls 4 [(0, .ref b), (1, .ref zx), (2, .ref zy), (3, .int zi9)] → W p l e room_1 s m #[Value.ref b] below meth c H locs 265 67857 Q (F0 m 1785 ls []))
    {H : Heap} {locs : List Loc} {ls : Array Slot} (hP : va_P (dC, dI) vwCl (WL cy zL zT zR zI zJ) H) (hD : va_D A (WL cy zL zT zR zI zJ)) (hS : va_S A s.heap H locs) (hl : lv_has ls 4 [(0, .ref b), (1, .ref zx), (2, .ref zy), (3, .int zi9)]) : W p l e room_1 s m #[Value.ref b] below meth c H locs 265 67857 Q (F0 m 1068 ls []) := by
  have h_zI : WM [1013, 1014, 1806, 1807, 3700, 3800, 3900, 4000, 4200, 4700, 10300, 10400, 10500, 10600, 10700] AL zT zR zI zI := WM.rf hw
  have t_1 : zT (zR zy 24) = 109 := sk_f hs t_zy (by decide) rfl (by decide)
  have t_2 : zT (zR zy 0) = 100 := sk_f hs t_zy (by decide) rfl (by decide)
  refine lv_aload_n hx hb dL_law_1068 rfl (lv_at hl 1 rfl) ?_
  refine lv_aload_n hx hb dL_law_1069 rfl (lv_at hl 0 rfl) ?_
  refine lv_iload_n hx hb dL_law_1070 rfl (lv_at hl 3 rfl) ?_
  refine lv_iconst (v := 1) hx hb dL_law_1071 (by decide) ?_
  refine lv_iadd hx hb dL_law_1072 ?_
  refine lv_topi (fun zi_3 ezi_3 => ?_)
  have tzi_3 : zi_3.toInt = zi9.toInt + (1 : Int) := by rw [ezi_3]; exact tiadd (rfl) (show (1 : Int32).toInt = 1 by decide) (by omega) (by omega)
  refine va_sld hx hb hX hbl hbA hS (vp_in_iff.mpr ⟨by omega, by omega⟩) dL_law_1073 ?_
  refine lv_topi (fun zi_4 ezi_4 => ?_)
  refine lv_aload_n hx hb dL_law_1074 rfl (lv_at hl 0 rfl) ?_
  refine lv_iload_n hx hb dL_law_1075 rfl (lv_at hl 3 rfl) ?_
  refine lv_iconst (v := 2) hx hb dL_law_1076 (by decide) ?_
  refine lv_iadd hx hb dL_law_1077 ?_
  refine lv_topi (fun zi_5 ezi_5 => ?_)
  have tzi_5 : zi_5.toInt = zi9.toInt + (2 : Int) := by rw [ezi_5]; exact tiadd (rfl) (show (2 : Int32).toInt = 2 by decide) (by omega) (by omega)
  refine va_sld hx hb hX hbl hbA hS (vp_in_iff.mpr ⟨by omega, by omega⟩) dL_law_1078 ?_
  refine lv_topi (fun zi_6 ezi_6 => ?_)
  refine lv_aload_n hx hb dL_law_1079 rfl (lv_at hl 0 rfl) ?_
  refine lv_iload_n hx hb dL_law_1080 rfl (lv_at hl 3 rfl) ?_
  refine lv_iconst (v := 3) hx hb dL_law_1081 (by decide) ?_
  refine lv_iadd hx hb dL_law_1082 ?_
  refine lv_topi (fun zi_7 ezi_7 => ?_)
  have tzi_7 : zi_7.toInt = zi9.toInt + (3 : Int) := by rw [ezi_7]; exact tiadd (rfl) (show (3 : Int32).toInt = 3 by decide) (by omega) (by omega)
  refine va_sld hx hb hX hbl hbA hS (vp_in_iff.mpr ⟨by omega, by omega⟩) dL_law_1083 ?_
  refine lv_topi (fun zi_8 ezi_8 => ?_)
  refine lv_aload_n hx hb dL_law_1084 rfl (lv_at hl 0 rfl) ?_
  refine lv_iload_n hx hb dL_law_1085 rfl (lv_at hl 3 rfl) ?_
  refine lv_iconst (v := 4) hx hb dL_law_1086 (by decide) ?_
  refine lv_iadd hx hb dL_law_1087 ?_
  refine lv_topi (fun zi_9 ezi_9 => ?_)
  have tzi_9 : zi_9.toInt = zi9.toInt + (4 : Int) := by rw [ezi_9]; exact tiadd (rfl) (show (4 : Int32).toInt = 4 by decide) (by omega) (by omega)
  refine va_sld hx hb hX hbl hbA hS (vp_in_iff.mpr ⟨by omega, by omega⟩) dL_law_1088 ?_
  refine lv_topi (fun zi_10 ezi_10 => ?_)
  refine hj_i (ws := (WL cy zL zT zR zI zJ)) (w1 := fun (u : (Nat → Nat → Int32) × (Nat → Nat → Int64)) => (WL cy zL zT zR u.1 u.2)) (va_runV (As := [.int zi_4, .int zi_6, .int zi_8, .int zi_10]) (rest := []) ⟨hx, hb, hml, hown, hts⟩ (t_X10_span l dC dI cy H.size zL zT zR zI zJ zx zi_4 zi_6 zi_8 zi_10 hs h_zI.1 t_zx hj) (cwV 4 hts gL_law_X10_span rfl rfl rfl (by decide +kernel) ⟨(Nat.le_of_ble_eq_true rfl), (Nat.le_of_ble_eq_true rfl)⟩) (PRE.v hP hK hD hN (ht_recv hK hP hs t_zx (by decide) rfl rfl)) rfl rfl hl.1 rfl (lv_room (Nat.le_of_ble_eq_true rfl)) dL_law_1089 ⟨(Nat.le_of_ble_eq_true rfl), (Nat.le_of_ble_eq_true rfl)⟩) hP hD hS hA (fun zi_11 u_13 H locs hw_12 hP hD hS => ?_)
  obtain ⟨zI_14, zJ_15⟩ := u_13
  obtain ⟨k_zI_14, b_zi_11, ps_16⟩ : (WM [1013, 1014, 3700, 3800, 3900, 4000, 4200, 4700] AL zT zR zI zI_14) ∧ ((-12) ≤ zi_11.toInt ∧ zi_11.toInt ≤ 23) ∧ (JX zR zI_14 zx) := hw_12
  have h_zI_14 : WM [1013, 1014, 1806, 1807, 3700, 3800, 3900, 4000, 4200, 4700, 10300, 10400, 10500, 10600, 10700] AL zT zR zI zI_14 := h_zI.tr k_zI_14 (by decide) (fun _ _ => trivial)
  have hk_17 : (zI_14 zy 23).toInt = 0 ∨ ZI (zI_14 (zR zy 24)) := by rw [k_zI_14.2 zy 23 (Or.inl (by rw [t_zy]; decide)), k_zI_14.2.row t_1 (by decide) (by decide)]; exact hk
  have hsh_zI_14 : RSH zR zI_14 zx zy := RSH.sm hsh hs t_zx t_zy k_zI_14.2 (by decide)
  have hit_zI_14 : RIT zR zI_14 zx zy := RIT.sm hit hs t_zx t_zy k_zI_14.2 (by decide)
  have hrr_zI_14 : RRn zR zI_14 zx zy := RRn.sm hrr hs t_zx t_zy k_zI_14.2 (by decide) (FQR.of (k_zI_14.2.row t_2 (by decide) (by decide)))
  have hrg_zI_14 : RGn zR zI_14 zy := RGn.sm hrg hs t_zy k_zI_14.2 (by decide) (FQR.of (k_zI_14.2.row t_2 (by decide) (by decide)))
  have h3_zI_14 : R3 zR zI_14 zx zy := R3.sm h3 hs t_zx t_zy k_zI_14.2 (by decide) (FQ3.of (k_zI_14.2.row t_2 (by decide) (by decide)))
  refine lv_pop hx hb dL_law_1092 rfl ?_
  refine lv_aload_n hx hb dL_law_1093 rfl (lv_at hl 2 rfl) ?_
  refine lv_aload_n hx hb dL_law_1094 rfl (lv_at hl 0 rfl) ?_
  refine lv_iload_n hx hb dL_law_1095 rfl (lv_at hl 3 rfl) ?_
  refine lv_iconst (v := 1) hx hb dL_law_1096 (by decide) ?_
  refine lv_iadd hx hb dL_law_1097 ?_
  refine lv_topi (fun zi_18 ezi_18 => ?_)
  have tzi_18 : zi_18.toInt = zi9.toInt + (1 : Int) := by rw [ezi_18]; exact tiadd (rfl) (show (1 : Int32).toInt = 1 by decide) (by omega) (by omega)
  obtain rfl : zi_3 = zi_18 := ezi_3.trans ezi_18.symm
  refine va_sld hx hb hX hbl hbA hS (vp_in_iff.mpr ⟨by omega, by omega⟩) dL_law_1098 ?_
  refine lv_topi (fun zi_19 ezi_19 => ?_)
  obtain rfl : zi_4 = zi_19 := ezi_4.trans ezi_19.symm
  refine lv_aload_n hx hb dL_law_1099 rfl (lv_at hl 0 rfl) ?_
  refine lv_iload_n hx hb dL_law_1100 rfl (lv_at hl 3 rfl) ?_
  refine lv_iconst (v := 2) hx hb dL_law_1101 (by decide) ?_
  refine lv_iadd hx hb dL_law_1102 ?_
  refine lv_topi (fun zi_20 ezi_20 => ?_)
  have tzi_20 : zi_20.toInt = zi9.toInt + (2 : Int) := by rw [ezi_20]; exact tiadd (rfl) (show (2 : Int32).toInt = 2 by decide) (by omega) (by omega)
  obtain rfl : zi_5 = zi_20 := ezi_5.trans ezi_20.symm
  refine va_sld hx hb hX hbl hbA hS (vp_in_iff.mpr ⟨by omega, by omega⟩) dL_law_1103 ?_
  refine lv_topi (fun zi_21 ezi_21 => ?_)
  obtain rfl : zi_6 = zi_21 := ezi_6.trans ezi_21.symm
  refine lv_aload_n hx hb dL_law_1104 rfl (lv_at hl 0 rfl) ?_
  refine lv_iload_n hx hb dL_law_1105 rfl (lv_at hl 3 rfl) ?_
  refine lv_iconst (v := 3) hx hb dL_law_1106 (by decide) ?_
  refine lv_iadd hx hb dL_law_1107 ?_
  refine lv_topi (fun zi_22 ezi_22 => ?_)
  have tzi_22 : zi_22.toInt = zi9.toInt + (3 : Int) := by rw [ezi_22]; exact tiadd (rfl) (show (3 : Int32).toInt = 3 by decide) (by omega) (by omega)
  obtain rfl : zi_7 = zi_22 := ezi_7.trans ezi_22.symm
  refine va_sld hx hb hX hbl hbA hS (vp_in_iff.mpr ⟨by omega, by omega⟩) dL_law_1108 ?_
  refine lv_topi (fun zi_23 ezi_23 => ?_)
  obtain rfl : zi_8 = zi_23 := ezi_8.trans ezi_23.symm
  refine lv_aload_n hx hb dL_law_1109 rfl (lv_at hl 0 rfl) ?_
  refine lv_iload_n hx hb dL_law_1110 rfl (lv_at hl 3 rfl) ?_
  refine lv_iconst (v := 4) hx hb dL_law_1111 (by decide) ?_
  refine lv_iadd hx hb dL_law_1112 ?_
  refine lv_topi (fun zi_24 ezi_24 => ?_)
  have tzi_24 : zi_24.toInt = zi9.toInt + (4 : Int) := by rw [ezi_24]; exact tiadd (rfl) (show (4 : Int32).toInt = 4 by decide) (by omega) (by omega)
  obtain rfl : zi_9 = zi_24 := ezi_9.trans ezi_24.symm
  refine va_sld hx hb hX hbl hbA hS (vp_in_iff.mpr ⟨by omega, by omega⟩) dL_law_1113 ?_
  refine lv_topi (fun zi_25 ezi_25 => ?_)
  obtain rfl : zi_10 = zi_25 := ezi_10.trans ezi_25.symm
  have zz_26 : ZI (zI_14 (zR zy 0)) := by rw [(k_zI_14.2.row t_2 (by decide) (by decide))]; exact hz
  refine hj_i (ws := (WL cy zL zT zR zI_14 zJ_15)) (w1 := fun (u : (Nat → Nat → Int32) × (Nat → Nat → Int64)) => (WL cy zL zT zR u.1 u.2)) (va_runV (As := [.int zi_4, .int zi_6, .int zi_8, .int zi_10]) (rest := []) ⟨hx, hb, hml, hown, hts⟩ (t_X11_span l dC dI cy H.size zL zT zR zI_14 zJ_15 zy zi_4 zi_6 zi_8 zi_10 hs h_zI_14.1 t_zy zz_26) (cwV 4 hts gL_law_X11_span rfl rfl rfl (by decide +kernel) ⟨(Nat.le_of_ble_eq_true rfl), (Nat.le_of_ble_eq_true rfl)⟩) (PRE.v hP hK hD hN (ht_recv hK hP hs t_zy (by decide) rfl rfl)) rfl rfl hl.1 rfl (lv_room (Nat.le_of_ble_eq_true rfl)) dL_law_1114 ⟨(Nat.le_of_ble_eq_true rfl), (Nat.le_of_ble_eq_true rfl)⟩) hP hD hS hA (fun zi_27 u_29 H locs hw_28 hP hD hS => ?_)
  obtain ⟨zI_30, zJ_31⟩ := u_29
  obtain ⟨k_zI_30, b_zi_27⟩ : (WM [1806, 1807, 10300, 10400, 10500, 10600, 10700] AL zT zR zI_14 zI_30) ∧ ((-12) ≤ zi_27.toInt ∧ zi_27.toInt ≤ 23) := hw_28
  have h_zI_30 : WM [1013, 1014, 1806, 1807, 3700, 3800, 3900, 4000, 4200, 4700, 10300, 10400, 10500, 10600, 10700] AL zT zR zI zI_30 := h_zI_14.tr k_zI_30 (by decide) (fun _ _ => trivial)
  have j_zI_30 : JX zR zI_30 zx := JX.sm ps_16 hs t_zx k_zI_30.2 (by decide) (by decide)
  have hk_32 : (zI_30 zy 23).toInt = 0 ∨ ZI (zI_30 (zR zy 24)) := by rw [k_zI_30.2 zy 23 (Or.inl (by rw [t_zy]; decide)), k_zI_30.2.row t_1 (by decide) (by decide)]; exact hk_17
  have hsh_zI_30 : RSH zR zI_30 zx zy := RSH.sm hsh_zI_14 hs t_zx t_zy k_zI_30.2 (by decide)
  have hit_zI_30 : RIT zR zI_30 zx zy := RIT.sm hit_zI_14 hs t_zx t_zy k_zI_30.2 (by decide)
  have hrr_zI_30 : RRn zR zI_30 zx zy := RRn.sm hrr_zI_14 hs t_zx t_zy k_zI_30.2 (by decide) (FQR.of (k_zI_30.2.row t_2 (by decide) (by decide)))
  have hrg_zI_30 : RGn zR zI_30 zy := RGn.sm hrg_zI_14 hs t_zy k_zI_30.2 (by decide) (FQR.of (k_zI_30.2.row t_2 (by decide) (by decide)))
  have h3_zI_30 : R3 zR zI_30 zx zy := R3.sm h3_zI_14 hs t_zx t_zy k_zI_30.2 (by decide) (FQ3.of (k_zI_30.2.row t_2 (by decide) (by decide)))
  refine lv_pop hx hb dL_law_1117 rfl ?_
  refine lv_goto (tgt := 1785) hx hb dL_law_1118 (by decide) ?_
  have zz_33 : ZI (zI_30 (zR zy 0)) := by rw [(k_zI_30.2.row t_2 (by decide) (by decide))]; exact zz_26
  exact kx _ _ _ _ _ h_zI_30.1 j_zI_30 zz_33 hk_32 h3_zI_30 hrr_zI_30 hsh_zI_30 hit_zI_30 hrg_zI_30 hP hD hS hl
set_option maxHeartbeats 4000000 in
set_option maxRecDepth 100000 in
theorem lw_c23 {p : Program} {l : Launch} {e : Env} {s : State} {m : MethodId} {below : List Frame} {meth : Method} {c : Code} {b L : Nat} {xs : Nat → Int32} {A : Nat → Prop} {Q : State → Prop} (hx : p.tables.exec = Jvm.exec) (hb : c.code = cL_law) (hml : c.maxLocals = 4) (hown : s.vm.findClass RL = some m.cls) (hts : ∀ w ∈ wsL_law, w.before #[Value.ref b] s = true) (hX : va_X b L xs s s.heap) (hbl : b < s.heap.size) (hbA : ¬ A b) (hA : ∀ q : Nat, s.heap.size ≤ q → A q) (hL : L ≤ 3072) (dC : Nat → ClassId) (dI : Nat → Nat → Nat) (cy : Nat → ClassId) (zL : List Nat) (zT : Nat → Nat) (zR : Nat → Nat → Nat) (zI : Nat → Nat → Int32) (zJ : Nat → Nat → Int64) (zx zy : Nat) (zi9 : Int32) (hs : SKP zL zT zR) (hw : WT zT zR zI) (t_zx : zT zx = 11) (t_zy : zT zy = 18) (hj : JX zR zI zx) (hz : ZI (zI (zR zy 0))) (hk : (zI zy 23).toInt = 0 ∨ ZI (zI (zR zy 24))) (h3 : R3 zR zI zx zy) (hrr : RRn zR zI zx zy) (hsh : RSH zR zI zx zy) (hit : RIT zR zI zx zy) (hrg : RGn zR zI zy) (hK : va_K (dC, dI) vwCl (TY cy) s) (hN : N0 s) (b_zi9 : 0 ≤ zi9.toInt ∧ zi9.toInt ≤ 3066) (hi1 : zi9.toInt + 6 ≤ (L : Int))
    (kx : ∀ (zI2 : Nat → Nat → Int32) (zJ2 : Nat → Nat → Int64) (H : Heap) (locs : List Loc) (ls : Array Slot), WT zT zR zI2 → JX zR zI2 zx → ZI (zI2 (zR zy 0)) → ((zI2 zy 23).toInt = 0 ∨ ZI (zI2 (zR zy 24))) → (R3 zR zI2 zx zy) → (RRn zR zI2 zx zy) → (RSH zR zI2 zx zy) → (RIT zR zI2 zx zy) → (RGn zR zI2 zy) → va_P (dC, dI) vwCl (WL cy zL zT zR zI2 zJ2) H → va_D A (WL cy zL zT zR zI2 zJ2) → va_S A s.heap H locs → lv_has ls 4 [(0, .ref b), (1, .ref zx), (2, .ref zy), (3, .int zi9)] → W p l e room_1 s m #[Value.ref b] below meth c H locs 265 67857 Q (F0 m 1785 ls []))
    {H : Heap} {locs : List Loc} {ls : Array Slot} (hP : va_P (dC, dI) vwCl (WL cy zL zT zR zI zJ) H) (hD : va_D A (WL cy zL zT zR zI zJ)) (hS : va_S A s.heap H locs) (hl : lv_has ls 4 [(0, .ref b), (1, .ref zx), (2, .ref zy), (3, .int zi9)]) : W p l e room_1 s m #[Value.ref b] below meth c H locs 265 67857 Q (F0 m 1121 ls []) := by
  have h_zI : WM [1013, 1014, 1806, 1807, 3700, 3800, 3900, 4000, 4200, 4700, 10300, 10400, 10500, 10600, 10700] AL zT zR zI zI := WM.rf hw
  have t_1 : zT (zR zy 24) = 109 := sk_f hs t_zy (by decide) rfl (by decide)
  have t_2 : zT (zR zy 0) = 100 := sk_f hs t_zy (by decide) rfl (by decide)
  refine lv_aload_n hx hb dL_law_1121 rfl (lv_at hl 1 rfl) ?_
  refine lv_aload_n hx hb dL_law_1122 rfl (lv_at hl 0 rfl) ?_
  refine lv_iload_n hx hb dL_law_1123 rfl (lv_at hl 3 rfl) ?_
  refine lv_iconst (v := 1) hx hb dL_law_1124 (by decide) ?_
  refine lv_iadd hx hb dL_law_1125 ?_
  refine lv_topi (fun zi_3 ezi_3 => ?_)
  have tzi_3 : zi_3.toInt = zi9.toInt + (1 : Int) := by rw [ezi_3]; exact tiadd (rfl) (show (1 : Int32).toInt = 1 by decide) (by omega) (by omega)
  refine va_sld hx hb hX hbl hbA hS (vp_in_iff.mpr ⟨by omega, by omega⟩) dL_law_1126 ?_
  refine lv_topi (fun zi_4 ezi_4 => ?_)
  refine lv_aload_n hx hb dL_law_1127 rfl (lv_at hl 0 rfl) ?_
  refine lv_iload_n hx hb dL_law_1128 rfl (lv_at hl 3 rfl) ?_
  refine lv_iconst (v := 2) hx hb dL_law_1129 (by decide) ?_
  refine lv_iadd hx hb dL_law_1130 ?_
  refine lv_topi (fun zi_5 ezi_5 => ?_)
  have tzi_5 : zi_5.toInt = zi9.toInt + (2 : Int) := by rw [ezi_5]; exact tiadd (rfl) (show (2 : Int32).toInt = 2 by decide) (by omega) (by omega)
  refine va_sld hx hb hX hbl hbA hS (vp_in_iff.mpr ⟨by omega, by omega⟩) dL_law_1131 ?_
  refine lv_topi (fun zi_6 ezi_6 => ?_)
  refine lv_aload_n hx hb dL_law_1132 rfl (lv_at hl 0 rfl) ?_
  refine lv_iload_n hx hb dL_law_1133 rfl (lv_at hl 3 rfl) ?_
  refine lv_iconst (v := 3) hx hb dL_law_1134 (by decide) ?_
  refine lv_iadd hx hb dL_law_1135 ?_
  refine lv_topi (fun zi_7 ezi_7 => ?_)
  have tzi_7 : zi_7.toInt = zi9.toInt + (3 : Int) := by rw [ezi_7]; exact tiadd (rfl) (show (3 : Int32).toInt = 3 by decide) (by omega) (by omega)
  refine va_sld hx hb hX hbl hbA hS (vp_in_iff.mpr ⟨by omega, by omega⟩) dL_law_1136 ?_
  refine lv_topi (fun zi_8 ezi_8 => ?_)
  refine lv_aload_n hx hb dL_law_1137 rfl (lv_at hl 0 rfl) ?_
  refine lv_iload_n hx hb dL_law_1138 rfl (lv_at hl 3 rfl) ?_
  refine lv_iconst (v := 4) hx hb dL_law_1139 (by decide) ?_
  refine lv_iadd hx hb dL_law_1140 ?_
  refine lv_topi (fun zi_9 ezi_9 => ?_)
  have tzi_9 : zi_9.toInt = zi9.toInt + (4 : Int) := by rw [ezi_9]; exact tiadd (rfl) (show (4 : Int32).toInt = 4 by decide) (by omega) (by omega)
  refine va_sld hx hb hX hbl hbA hS (vp_in_iff.mpr ⟨by omega, by omega⟩) dL_law_1141 ?_
  refine lv_topi (fun zi_10 ezi_10 => ?_)
  refine lv_aload_n hx hb dL_law_1142 rfl (lv_at hl 0 rfl) ?_
  refine lv_iload_n hx hb dL_law_1143 rfl (lv_at hl 3 rfl) ?_
  refine lv_iconst (v := 5) hx hb dL_law_1144 (by decide) ?_
  refine lv_iadd hx hb dL_law_1145 ?_
  refine lv_topi (fun zi_11 ezi_11 => ?_)
  have tzi_11 : zi_11.toInt = zi9.toInt + (5 : Int) := by rw [ezi_11]; exact tiadd (rfl) (show (5 : Int32).toInt = 5 by decide) (by omega) (by omega)
  refine va_sld hx hb hX hbl hbA hS (vp_in_iff.mpr ⟨by omega, by omega⟩) dL_law_1146 ?_
  refine lv_topi (fun zi_12 ezi_12 => ?_)
  refine hj_l (ws := (WL cy zL zT zR zI zJ)) (w1 := fun (u : (Nat → Nat → Int32) × (Nat → Nat → Int64)) => (WL cy zL zT zR u.1 u.2)) (va_runV (As := [.int zi_4, .int zi_6, .int zi_8, .int zi_10, .int zi_12]) (rest := []) ⟨hx, hb, hml, hown, hts⟩ (t_X10_apart l dC dI cy H.size zL zT zR zI zJ zx zi_4 zi_6 zi_8 zi_10 zi_12 hs h_zI.1 t_zx hj) (cwV 5 hts gL_law_X10_apart rfl rfl rfl (by decide +kernel) ⟨(Nat.le_of_ble_eq_true rfl), (Nat.le_of_ble_eq_true rfl)⟩) (PRE.v hP hK hD hN (ht_recv hK hP hs t_zx (by decide) rfl rfl)) rfl rfl hl.1 rfl (lv_room (Nat.le_of_ble_eq_true rfl)) dL_law_1147 ⟨(Nat.le_of_ble_eq_true rfl), (Nat.le_of_ble_eq_true rfl)⟩) hP hD hS hA (fun zj_13 u_15 H locs hw_14 hP hD hS => ?_)
  obtain ⟨zI_16, zJ_17⟩ := u_15
  obtain ⟨k_zI_16, ps_18⟩ : (WM [1013, 1014, 3700, 3800, 3900, 4000, 4200, 4700] AL zT zR zI zI_16) ∧ (JX zR zI_16 zx) := hw_14
  have h_zI_16 : WM [1013, 1014, 1806, 1807, 3700, 3800, 3900, 4000, 4200, 4700, 10300, 10400, 10500, 10600, 10700] AL zT zR zI zI_16 := h_zI.tr k_zI_16 (by decide) (fun _ _ => trivial)
  have hk_19 : (zI_16 zy 23).toInt = 0 ∨ ZI (zI_16 (zR zy 24)) := by rw [k_zI_16.2 zy 23 (Or.inl (by rw [t_zy]; decide)), k_zI_16.2.row t_1 (by decide) (by decide)]; exact hk
  have hsh_zI_16 : RSH zR zI_16 zx zy := RSH.sm hsh hs t_zx t_zy k_zI_16.2 (by decide)
  have hit_zI_16 : RIT zR zI_16 zx zy := RIT.sm hit hs t_zx t_zy k_zI_16.2 (by decide)
  have hrr_zI_16 : RRn zR zI_16 zx zy := RRn.sm hrr hs t_zx t_zy k_zI_16.2 (by decide) (FQR.of (k_zI_16.2.row t_2 (by decide) (by decide)))
  have hrg_zI_16 : RGn zR zI_16 zy := RGn.sm hrg hs t_zy k_zI_16.2 (by decide) (FQR.of (k_zI_16.2.row t_2 (by decide) (by decide)))
  have h3_zI_16 : R3 zR zI_16 zx zy := R3.sm h3 hs t_zx t_zy k_zI_16.2 (by decide) (FQ3.of (k_zI_16.2.row t_2 (by decide) (by decide)))
  refine lv_pop2_2 hx hb dL_law_1150 rfl ?_
  refine lv_aload_n hx hb dL_law_1151 rfl (lv_at hl 2 rfl) ?_
  refine lv_aload_n hx hb dL_law_1152 rfl (lv_at hl 0 rfl) ?_
  refine lv_iload_n hx hb dL_law_1153 rfl (lv_at hl 3 rfl) ?_
  refine lv_iconst (v := 1) hx hb dL_law_1154 (by decide) ?_
  refine lv_iadd hx hb dL_law_1155 ?_
  refine lv_topi (fun zi_20 ezi_20 => ?_)
  have tzi_20 : zi_20.toInt = zi9.toInt + (1 : Int) := by rw [ezi_20]; exact tiadd (rfl) (show (1 : Int32).toInt = 1 by decide) (by omega) (by omega)
  obtain rfl : zi_3 = zi_20 := ezi_3.trans ezi_20.symm
  refine va_sld hx hb hX hbl hbA hS (vp_in_iff.mpr ⟨by omega, by omega⟩) dL_law_1156 ?_
  refine lv_topi (fun zi_21 ezi_21 => ?_)
  obtain rfl : zi_4 = zi_21 := ezi_4.trans ezi_21.symm
  refine lv_aload_n hx hb dL_law_1157 rfl (lv_at hl 0 rfl) ?_
  refine lv_iload_n hx hb dL_law_1158 rfl (lv_at hl 3 rfl) ?_
  refine lv_iconst (v := 2) hx hb dL_law_1159 (by decide) ?_
  refine lv_iadd hx hb dL_law_1160 ?_
  refine lv_topi (fun zi_22 ezi_22 => ?_)
  have tzi_22 : zi_22.toInt = zi9.toInt + (2 : Int) := by rw [ezi_22]; exact tiadd (rfl) (show (2 : Int32).toInt = 2 by decide) (by omega) (by omega)
  obtain rfl : zi_5 = zi_22 := ezi_5.trans ezi_22.symm
  refine va_sld hx hb hX hbl hbA hS (vp_in_iff.mpr ⟨by omega, by omega⟩) dL_law_1161 ?_
  refine lv_topi (fun zi_23 ezi_23 => ?_)
  obtain rfl : zi_6 = zi_23 := ezi_6.trans ezi_23.symm
  refine lv_aload_n hx hb dL_law_1162 rfl (lv_at hl 0 rfl) ?_
  refine lv_iload_n hx hb dL_law_1163 rfl (lv_at hl 3 rfl) ?_
  refine lv_iconst (v := 3) hx hb dL_law_1164 (by decide) ?_
  refine lv_iadd hx hb dL_law_1165 ?_
  refine lv_topi (fun zi_24 ezi_24 => ?_)
  have tzi_24 : zi_24.toInt = zi9.toInt + (3 : Int) := by rw [ezi_24]; exact tiadd (rfl) (show (3 : Int32).toInt = 3 by decide) (by omega) (by omega)
  obtain rfl : zi_7 = zi_24 := ezi_7.trans ezi_24.symm
  refine va_sld hx hb hX hbl hbA hS (vp_in_iff.mpr ⟨by omega, by omega⟩) dL_law_1166 ?_
  refine lv_topi (fun zi_25 ezi_25 => ?_)
  obtain rfl : zi_8 = zi_25 := ezi_8.trans ezi_25.symm
  refine lv_aload_n hx hb dL_law_1167 rfl (lv_at hl 0 rfl) ?_
  refine lv_iload_n hx hb dL_law_1168 rfl (lv_at hl 3 rfl) ?_
  refine lv_iconst (v := 4) hx hb dL_law_1169 (by decide) ?_
  refine lv_iadd hx hb dL_law_1170 ?_
  refine lv_topi (fun zi_26 ezi_26 => ?_)
  have tzi_26 : zi_26.toInt = zi9.toInt + (4 : Int) := by rw [ezi_26]; exact tiadd (rfl) (show (4 : Int32).toInt = 4 by decide) (by omega) (by omega)
  obtain rfl : zi_9 = zi_26 := ezi_9.trans ezi_26.symm
  refine va_sld hx hb hX hbl hbA hS (vp_in_iff.mpr ⟨by omega, by omega⟩) dL_law_1171 ?_
  refine lv_topi (fun zi_27 ezi_27 => ?_)
  obtain rfl : zi_10 = zi_27 := ezi_10.trans ezi_27.symm
  refine lv_aload_n hx hb dL_law_1172 rfl (lv_at hl 0 rfl) ?_
  refine lv_iload_n hx hb dL_law_1173 rfl (lv_at hl 3 rfl) ?_
  refine lv_iconst (v := 5) hx hb dL_law_1174 (by decide) ?_
  refine lv_iadd hx hb dL_law_1175 ?_
  refine lv_topi (fun zi_28 ezi_28 => ?_)
  have tzi_28 : zi_28.toInt = zi9.toInt + (5 : Int) := by rw [ezi_28]; exact tiadd (rfl) (show (5 : Int32).toInt = 5 by decide) (by omega) (by omega)
  obtain rfl : zi_11 = zi_28 := ezi_11.trans ezi_28.symm
  refine va_sld hx hb hX hbl hbA hS (vp_in_iff.mpr ⟨by omega, by omega⟩) dL_law_1176 ?_
  refine lv_topi (fun zi_29 ezi_29 => ?_)
  obtain rfl : zi_12 = zi_29 := ezi_12.trans ezi_29.symm
  have zz_30 : ZI (zI_16 (zR zy 0)) := by rw [(k_zI_16.2.row t_2 (by decide) (by decide))]; exact hz
  refine hj_l (ws := (WL cy zL zT zR zI_16 zJ_17)) (w1 := fun (u : (Nat → Nat → Int32) × (Nat → Nat → Int64)) => (WL cy zL zT zR u.1 u.2)) (va_runV (As := [.int zi_4, .int zi_6, .int zi_8, .int zi_10, .int zi_12]) (rest := []) ⟨hx, hb, hml, hown, hts⟩ (t_X11_apart l dC dI cy H.size zL zT zR zI_16 zJ_17 zy zi_4 zi_6 zi_8 zi_10 zi_12 hs h_zI_16.1 t_zy zz_30) (cwV 5 hts gL_law_X11_apart rfl rfl rfl (by decide +kernel) ⟨(Nat.le_of_ble_eq_true rfl), (Nat.le_of_ble_eq_true rfl)⟩) (PRE.v hP hK hD hN (ht_recv hK hP hs t_zy (by decide) rfl rfl)) rfl rfl hl.1 rfl (lv_room (Nat.le_of_ble_eq_true rfl)) dL_law_1177 ⟨(Nat.le_of_ble_eq_true rfl), (Nat.le_of_ble_eq_true rfl)⟩) hP hD hS hA (fun zj_31 u_33 H locs hw_32 hP hD hS => ?_)
  obtain ⟨zI_34, zJ_35⟩ := u_33
  have k_zI_34 : WM [1806, 1807, 10300, 10400, 10500, 10600, 10700] AL zT zR zI_16 zI_34 := hw_32
  have h_zI_34 : WM [1013, 1014, 1806, 1807, 3700, 3800, 3900, 4000, 4200, 4700, 10300, 10400, 10500, 10600, 10700] AL zT zR zI zI_34 := h_zI_16.tr k_zI_34 (by decide) (fun _ _ => trivial)
  have j_zI_34 : JX zR zI_34 zx := JX.sm ps_18 hs t_zx k_zI_34.2 (by decide) (by decide)
  have hk_36 : (zI_34 zy 23).toInt = 0 ∨ ZI (zI_34 (zR zy 24)) := by rw [k_zI_34.2 zy 23 (Or.inl (by rw [t_zy]; decide)), k_zI_34.2.row t_1 (by decide) (by decide)]; exact hk_19
  have hsh_zI_34 : RSH zR zI_34 zx zy := RSH.sm hsh_zI_16 hs t_zx t_zy k_zI_34.2 (by decide)
  have hit_zI_34 : RIT zR zI_34 zx zy := RIT.sm hit_zI_16 hs t_zx t_zy k_zI_34.2 (by decide)
  have hrr_zI_34 : RRn zR zI_34 zx zy := RRn.sm hrr_zI_16 hs t_zx t_zy k_zI_34.2 (by decide) (FQR.of (k_zI_34.2.row t_2 (by decide) (by decide)))
  have hrg_zI_34 : RGn zR zI_34 zy := RGn.sm hrg_zI_16 hs t_zy k_zI_34.2 (by decide) (FQR.of (k_zI_34.2.row t_2 (by decide) (by decide)))
  have h3_zI_34 : R3 zR zI_34 zx zy := R3.sm h3_zI_16 hs t_zx t_zy k_zI_34.2 (by decide) (FQ3.of (k_zI_34.2.row t_2 (by decide) (by decide)))
  refine lv_pop2_2 hx hb dL_law_1180 rfl ?_
  refine lv_goto (tgt := 1785) hx hb dL_law_1181 (by decide) ?_
  have zz_37 : ZI (zI_34 (zR zy 0)) := by rw [(k_zI_34.2.row t_2 (by decide) (by decide))]; exact zz_30
  exact kx _ _ _ _ _ h_zI_34.1 j_zI_34 zz_37 hk_36 h3_zI_34 hrr_zI_34 hsh_zI_34 hit_zI_34 hrg_zI_34 hP hD hS hl
set_option maxHeartbeats 4000000 in
set_option maxRecDepth 100000 in
theorem lw_c24 {p : Program} {l : Launch} {e : Env} {s : State} {m : MethodId} {below : List Frame} {meth : Method} {c : Code} {b L : Nat} {xs : Nat → Int32} {A : Nat → Prop} {Q : State → Prop} (hx : p.tables.exec = Jvm.exec) (hb : c.code = cL_law) (hml : c.maxLocals = 4) (hown : s.vm.findClass RL = some m.cls) (hts : ∀ w ∈ wsL_law, w.before #[Value.ref b] s = true) (hX : va_X b L xs s s.heap) (hbl : b < s.heap.size) (hbA : ¬ A b) (hA : ∀ q : Nat, s.heap.size ≤ q → A q) (hL : L ≤ 3072) (dC : Nat → ClassId) (dI : Nat → Nat → Nat) (cy : Nat → ClassId) (zL : List Nat) (zT : Nat → Nat) (zR : Nat → Nat → Nat) (zI : Nat → Nat → Int32) (zJ : Nat → Nat → Int64) (zx zy : Nat) (zi9 : Int32) (hs : SKP zL zT zR) (hw : WT zT zR zI) (t_zx : zT zx = 11) (t_zy : zT zy = 18) (hj : JX zR zI zx) (hz : ZI (zI (zR zy 0))) (hk : (zI zy 23).toInt = 0 ∨ ZI (zI (zR zy 24))) (h3 : R3 zR zI zx zy) (hrr : RRn zR zI zx zy) (hsh : RSH zR zI zx zy) (hit : RIT zR zI zx zy) (hrg : RGn zR zI zy) (hK : va_K (dC, dI) vwCl (TY cy) s) (hN : N0 s) (b_zi9 : 0 ≤ zi9.toInt ∧ zi9.toInt ≤ 3066) (hi1 : zi9.toInt + 6 ≤ (L : Int))
    (kx : ∀ (zI2 : Nat → Nat → Int32) (zJ2 : Nat → Nat → Int64) (H : Heap) (locs : List Loc) (ls : Array Slot), WT zT zR zI2 → JX zR zI2 zx → ZI (zI2 (zR zy 0)) → ((zI2 zy 23).toInt = 0 ∨ ZI (zI2 (zR zy 24))) → (R3 zR zI2 zx zy) → (RRn zR zI2 zx zy) → (RSH zR zI2 zx zy) → (RIT zR zI2 zx zy) → (RGn zR zI2 zy) → va_P (dC, dI) vwCl (WL cy zL zT zR zI2 zJ2) H → va_D A (WL cy zL zT zR zI2 zJ2) → va_S A s.heap H locs → lv_has ls 4 [(0, .ref b), (1, .ref zx), (2, .ref zy), (3, .int zi9)] → W p l e room_1 s m #[Value.ref b] below meth c H locs 265 67857 Q (F0 m 1785 ls []))
    {H : Heap} {locs : List Loc} {ls : Array Slot} (hP : va_P (dC, dI) vwCl (WL cy zL zT zR zI zJ) H) (hD : va_D A (WL cy zL zT zR zI zJ)) (hS : va_S A s.heap H locs) (hl : lv_has ls 4 [(0, .ref b), (1, .ref zx), (2, .ref zy), (3, .int zi9)]) : W p l e room_1 s m #[Value.ref b] below meth c H locs 265 67857 Q (F0 m 1184 ls []) := by
  have h_zI : WM [1013, 1014, 1806, 1807, 3700, 3800, 3900, 4000, 4200, 4700, 10300, 10400, 10500, 10600, 10700] AL zT zR zI zI := WM.rf hw
  have t_1 : zT (zR zy 24) = 109 := sk_f hs t_zy (by decide) rfl (by decide)
  have t_2 : zT (zR zy 0) = 100 := sk_f hs t_zy (by decide) rfl (by decide)
  refine lv_aload_n hx hb dL_law_1184 rfl (lv_at hl 1 rfl) ?_
  refine lv_aload_n hx hb dL_law_1185 rfl (lv_at hl 0 rfl) ?_
  refine lv_iload_n hx hb dL_law_1186 rfl (lv_at hl 3 rfl) ?_
  refine lv_iconst (v := 1) hx hb dL_law_1187 (by decide) ?_
  refine lv_iadd hx hb dL_law_1188 ?_
  refine lv_topi (fun zi_3 ezi_3 => ?_)
  have tzi_3 : zi_3.toInt = zi9.toInt + (1 : Int) := by rw [ezi_3]; exact tiadd (rfl) (show (1 : Int32).toInt = 1 by decide) (by omega) (by omega)
  refine va_sld hx hb hX hbl hbA hS (vp_in_iff.mpr ⟨by omega, by omega⟩) dL_law_1189 ?_
  refine lv_topi (fun zi_4 ezi_4 => ?_)
  refine lv_aload_n hx hb dL_law_1190 rfl (lv_at hl 0 rfl) ?_
  refine lv_iload_n hx hb dL_law_1191 rfl (lv_at hl 3 rfl) ?_
  refine lv_iconst (v := 2) hx hb dL_law_1192 (by decide) ?_
  refine lv_iadd hx hb dL_law_1193 ?_
  refine lv_topi (fun zi_5 ezi_5 => ?_)
  have tzi_5 : zi_5.toInt = zi9.toInt + (2 : Int) := by rw [ezi_5]; exact tiadd (rfl) (show (2 : Int32).toInt = 2 by decide) (by omega) (by omega)
  refine va_sld hx hb hX hbl hbA hS (vp_in_iff.mpr ⟨by omega, by omega⟩) dL_law_1194 ?_
  refine lv_topi (fun zi_6 ezi_6 => ?_)
  refine hj_l (ws := (WL cy zL zT zR zI zJ)) (w1 := fun (u : (Nat → Nat → Int32) × (Nat → Nat → Int64)) => (WL cy zL zT zR u.1 u.2)) (va_runV (As := [.int zi_4, .int zi_6]) (rest := []) ⟨hx, hb, hml, hown, hts⟩ (t_X10_next l dC dI cy H.size zL zT zR zI zJ zx zi_4 zi_6 hs h_zI.1 t_zx hj) (cwV 2 hts gL_law_X10_next rfl rfl rfl (by decide +kernel) ⟨(Nat.le_of_ble_eq_true rfl), (Nat.le_of_ble_eq_true rfl)⟩) (PRE.v hP hK hD hN (ht_recv hK hP hs t_zx (by decide) rfl rfl)) rfl rfl hl.1 rfl (lv_room (Nat.le_of_ble_eq_true rfl)) dL_law_1195 ⟨(Nat.le_of_ble_eq_true rfl), (Nat.le_of_ble_eq_true rfl)⟩) hP hD hS hA (fun zj_7 u_9 H locs hw_8 hP hD hS => ?_)
  obtain ⟨zI_10, zJ_11⟩ := u_9
  obtain ⟨k_zI_10, ps_12⟩ : (WM [1013, 1014, 3700, 3800, 3900, 4000, 4200, 4700] AL zT zR zI zI_10) ∧ (JX zR zI_10 zx) := hw_8
  have h_zI_10 : WM [1013, 1014, 1806, 1807, 3700, 3800, 3900, 4000, 4200, 4700, 10300, 10400, 10500, 10600, 10700] AL zT zR zI zI_10 := h_zI.tr k_zI_10 (by decide) (fun _ _ => trivial)
  have hk_13 : (zI_10 zy 23).toInt = 0 ∨ ZI (zI_10 (zR zy 24)) := by rw [k_zI_10.2 zy 23 (Or.inl (by rw [t_zy]; decide)), k_zI_10.2.row t_1 (by decide) (by decide)]; exact hk
  have hsh_zI_10 : RSH zR zI_10 zx zy := RSH.sm hsh hs t_zx t_zy k_zI_10.2 (by decide)
  have hit_zI_10 : RIT zR zI_10 zx zy := RIT.sm hit hs t_zx t_zy k_zI_10.2 (by decide)
  have hrr_zI_10 : RRn zR zI_10 zx zy := RRn.sm hrr hs t_zx t_zy k_zI_10.2 (by decide) (FQR.of (k_zI_10.2.row t_2 (by decide) (by decide)))
  have hrg_zI_10 : RGn zR zI_10 zy := RGn.sm hrg hs t_zy k_zI_10.2 (by decide) (FQR.of (k_zI_10.2.row t_2 (by decide) (by decide)))
  have h3_zI_10 : R3 zR zI_10 zx zy := R3.sm h3 hs t_zx t_zy k_zI_10.2 (by decide) (FQ3.of (k_zI_10.2.row t_2 (by decide) (by decide)))
  refine lv_pop2_2 hx hb dL_law_1198 rfl ?_
  refine lv_aload_n hx hb dL_law_1199 rfl (lv_at hl 2 rfl) ?_
  refine lv_aload_n hx hb dL_law_1200 rfl (lv_at hl 0 rfl) ?_
  refine lv_iload_n hx hb dL_law_1201 rfl (lv_at hl 3 rfl) ?_
  refine lv_iconst (v := 1) hx hb dL_law_1202 (by decide) ?_
  refine lv_iadd hx hb dL_law_1203 ?_
  refine lv_topi (fun zi_14 ezi_14 => ?_)
  have tzi_14 : zi_14.toInt = zi9.toInt + (1 : Int) := by rw [ezi_14]; exact tiadd (rfl) (show (1 : Int32).toInt = 1 by decide) (by omega) (by omega)
  obtain rfl : zi_3 = zi_14 := ezi_3.trans ezi_14.symm
  refine va_sld hx hb hX hbl hbA hS (vp_in_iff.mpr ⟨by omega, by omega⟩) dL_law_1204 ?_
  refine lv_topi (fun zi_15 ezi_15 => ?_)
  obtain rfl : zi_4 = zi_15 := ezi_4.trans ezi_15.symm
  refine lv_aload_n hx hb dL_law_1205 rfl (lv_at hl 0 rfl) ?_
  refine lv_iload_n hx hb dL_law_1206 rfl (lv_at hl 3 rfl) ?_
  refine lv_iconst (v := 2) hx hb dL_law_1207 (by decide) ?_
  refine lv_iadd hx hb dL_law_1208 ?_
  refine lv_topi (fun zi_16 ezi_16 => ?_)
  have tzi_16 : zi_16.toInt = zi9.toInt + (2 : Int) := by rw [ezi_16]; exact tiadd (rfl) (show (2 : Int32).toInt = 2 by decide) (by omega) (by omega)
  obtain rfl : zi_5 = zi_16 := ezi_5.trans ezi_16.symm
  refine va_sld hx hb hX hbl hbA hS (vp_in_iff.mpr ⟨by omega, by omega⟩) dL_law_1209 ?_
  refine lv_topi (fun zi_17 ezi_17 => ?_)
  obtain rfl : zi_6 = zi_17 := ezi_6.trans ezi_17.symm
  have zz_18 : ZI (zI_10 (zR zy 0)) := by rw [(k_zI_10.2.row t_2 (by decide) (by decide))]; exact hz
  refine hj_l (ws := (WL cy zL zT zR zI_10 zJ_11)) (w1 := fun (u : (Nat → Nat → Int32) × (Nat → Nat → Int64)) => (WL cy zL zT zR u.1 u.2)) (va_runV (As := [.int zi_4, .int zi_6]) (rest := []) ⟨hx, hb, hml, hown, hts⟩ (t_X11_next l dC dI cy H.size zL zT zR zI_10 zJ_11 zy zi_4 zi_6 hs h_zI_10.1 t_zy zz_18) (cwV 2 hts gL_law_X11_next rfl rfl rfl (by decide +kernel) ⟨(Nat.le_of_ble_eq_true rfl), (Nat.le_of_ble_eq_true rfl)⟩) (PRE.v hP hK hD hN (ht_recv hK hP hs t_zy (by decide) rfl rfl)) rfl rfl hl.1 rfl (lv_room (Nat.le_of_ble_eq_true rfl)) dL_law_1210 ⟨(Nat.le_of_ble_eq_true rfl), (Nat.le_of_ble_eq_true rfl)⟩) hP hD hS hA (fun zj_19 u_21 H locs hw_20 hP hD hS => ?_)
  obtain ⟨zI_22, zJ_23⟩ := u_21
  have k_zI_22 : WM [1806, 1807, 10300, 10400, 10500, 10600, 10700] AL zT zR zI_10 zI_22 := hw_20
  have h_zI_22 : WM [1013, 1014, 1806, 1807, 3700, 3800, 3900, 4000, 4200, 4700, 10300, 10400, 10500, 10600, 10700] AL zT zR zI zI_22 := h_zI_10.tr k_zI_22 (by decide) (fun _ _ => trivial)
  have j_zI_22 : JX zR zI_22 zx := JX.sm ps_12 hs t_zx k_zI_22.2 (by decide) (by decide)
  have hk_24 : (zI_22 zy 23).toInt = 0 ∨ ZI (zI_22 (zR zy 24)) := by rw [k_zI_22.2 zy 23 (Or.inl (by rw [t_zy]; decide)), k_zI_22.2.row t_1 (by decide) (by decide)]; exact hk_13
  have hsh_zI_22 : RSH zR zI_22 zx zy := RSH.sm hsh_zI_10 hs t_zx t_zy k_zI_22.2 (by decide)
  have hit_zI_22 : RIT zR zI_22 zx zy := RIT.sm hit_zI_10 hs t_zx t_zy k_zI_22.2 (by decide)
  have hrr_zI_22 : RRn zR zI_22 zx zy := RRn.sm hrr_zI_10 hs t_zx t_zy k_zI_22.2 (by decide) (FQR.of (k_zI_22.2.row t_2 (by decide) (by decide)))
  have hrg_zI_22 : RGn zR zI_22 zy := RGn.sm hrg_zI_10 hs t_zy k_zI_22.2 (by decide) (FQR.of (k_zI_22.2.row t_2 (by decide) (by decide)))
  have h3_zI_22 : R3 zR zI_22 zx zy := R3.sm h3_zI_10 hs t_zx t_zy k_zI_22.2 (by decide) (FQ3.of (k_zI_22.2.row t_2 (by decide) (by decide)))
  refine lv_pop2_2 hx hb dL_law_1213 rfl ?_
  refine lv_goto (tgt := 1785) hx hb dL_law_1214 (by decide) ?_
  have zz_25 : ZI (zI_22 (zR zy 0)) := by rw [(k_zI_22.2.row t_2 (by decide) (by decide))]; exact zz_18
  exact kx _ _ _ _ _ h_zI_22.1 j_zI_22 zz_25 hk_24 h3_zI_22 hrr_zI_22 hsh_zI_22 hit_zI_22 hrg_zI_22 hP hD hS hl
set_option maxHeartbeats 4000000 in
set_option maxRecDepth 100000 in
theorem lw_c25 {p : Program} {l : Launch} {e : Env} {s : State} {m : MethodId} {below : List Frame} {meth : Method} {c : Code} {b L : Nat} {xs : Nat → Int32} {A : Nat → Prop} {Q : State → Prop} (hx : p.tables.exec = Jvm.exec) (hb : c.code = cL_law) (hml : c.maxLocals = 4) (hown : s.vm.findClass RL = some m.cls) (hts : ∀ w ∈ wsL_law, w.before #[Value.ref b] s = true) (hX : va_X b L xs s s.heap) (hbl : b < s.heap.size) (hbA : ¬ A b) (hA : ∀ q : Nat, s.heap.size ≤ q → A q) (hL : L ≤ 3072) (dC : Nat → ClassId) (dI : Nat → Nat → Nat) (cy : Nat → ClassId) (zL : List Nat) (zT : Nat → Nat) (zR : Nat → Nat → Nat) (zI : Nat → Nat → Int32) (zJ : Nat → Nat → Int64) (zx zy : Nat) (zi9 : Int32) (hs : SKP zL zT zR) (hw : WT zT zR zI) (t_zx : zT zx = 11) (t_zy : zT zy = 18) (hj : JX zR zI zx) (hz : ZI (zI (zR zy 0))) (hk : (zI zy 23).toInt = 0 ∨ ZI (zI (zR zy 24))) (h3 : R3 zR zI zx zy) (hrr : RRn zR zI zx zy) (hsh : RSH zR zI zx zy) (hit : RIT zR zI zx zy) (hrg : RGn zR zI zy) (hK : va_K (dC, dI) vwCl (TY cy) s) (hN : N0 s) (b_zi9 : 0 ≤ zi9.toInt ∧ zi9.toInt ≤ 3066) (hi1 : zi9.toInt + 6 ≤ (L : Int))
    (kx : ∀ (zI2 : Nat → Nat → Int32) (zJ2 : Nat → Nat → Int64) (H : Heap) (locs : List Loc) (ls : Array Slot), WT zT zR zI2 → JX zR zI2 zx → ZI (zI2 (zR zy 0)) → ((zI2 zy 23).toInt = 0 ∨ ZI (zI2 (zR zy 24))) → (R3 zR zI2 zx zy) → (RRn zR zI2 zx zy) → (RSH zR zI2 zx zy) → (RIT zR zI2 zx zy) → (RGn zR zI2 zy) → va_P (dC, dI) vwCl (WL cy zL zT zR zI2 zJ2) H → va_D A (WL cy zL zT zR zI2 zJ2) → va_S A s.heap H locs → lv_has ls 4 [(0, .ref b), (1, .ref zx), (2, .ref zy), (3, .int zi9)] → W p l e room_1 s m #[Value.ref b] below meth c H locs 265 67857 Q (F0 m 1785 ls []))
    {H : Heap} {locs : List Loc} {ls : Array Slot} (hP : va_P (dC, dI) vwCl (WL cy zL zT zR zI zJ) H) (hD : va_D A (WL cy zL zT zR zI zJ)) (hS : va_S A s.heap H locs) (hl : lv_has ls 4 [(0, .ref b), (1, .ref zx), (2, .ref zy), (3, .int zi9)]) : W p l e room_1 s m #[Value.ref b] below meth c H locs 265 67857 Q (F0 m 1217 ls []) := by
  have h_zI : WM [1013, 1014, 1806, 1807, 3700, 3800, 3900, 4000, 4200, 4700, 10300, 10400, 10500, 10600, 10700] AL zT zR zI zI := WM.rf hw
  have t_1 : zT (zR zy 24) = 109 := sk_f hs t_zy (by decide) rfl (by decide)
  have t_2 : zT (zR zy 0) = 100 := sk_f hs t_zy (by decide) rfl (by decide)
  refine lv_aload_n hx hb dL_law_1217 rfl (lv_at hl 1 rfl) ?_
  refine lv_aload_n hx hb dL_law_1218 rfl (lv_at hl 0 rfl) ?_
  refine lv_iload_n hx hb dL_law_1219 rfl (lv_at hl 3 rfl) ?_
  refine lv_iconst (v := 1) hx hb dL_law_1220 (by decide) ?_
  refine lv_iadd hx hb dL_law_1221 ?_
  refine lv_topi (fun zi_3 ezi_3 => ?_)
  have tzi_3 : zi_3.toInt = zi9.toInt + (1 : Int) := by rw [ezi_3]; exact tiadd (rfl) (show (1 : Int32).toInt = 1 by decide) (by omega) (by omega)
  refine va_sld hx hb hX hbl hbA hS (vp_in_iff.mpr ⟨by omega, by omega⟩) dL_law_1222 ?_
  refine lv_topi (fun zi_4 ezi_4 => ?_)
  refine hj_i (ws := (WL cy zL zT zR zI zJ)) (w1 := fun (u : (Nat → Nat → Int32) × (Nat → Nat → Int64)) => (WL cy zL zT zR u.1 u.2)) (va_runV (As := [.int zi_4]) (rest := []) ⟨hx, hb, hml, hown, hts⟩ (t_X10_mustGo l dC dI cy H.size zL zT zR zI zJ zx zi_4 hs h_zI.1 t_zx hj) (cwV 1 hts gL_law_X10_mustGo rfl rfl rfl (by decide +kernel) ⟨(Nat.le_of_ble_eq_true rfl), (Nat.le_of_ble_eq_true rfl)⟩) (PRE.v hP hK hD hN (ht_recv hK hP hs t_zx (by decide) rfl rfl)) rfl rfl hl.1 rfl (lv_room (Nat.le_of_ble_eq_true rfl)) dL_law_1223 ⟨(Nat.le_of_ble_eq_true rfl), (Nat.le_of_ble_eq_true rfl)⟩) hP hD hS hA (fun zi_5 u_7 H locs hw_6 hP hD hS => ?_)
  obtain ⟨zI_8, zJ_9⟩ := u_7
  obtain ⟨k_zI_8, ps_10⟩ : (WM [1013, 1014, 3700, 3800, 3900, 4000, 4200, 4700] AL zT zR zI zI_8) ∧ (JX zR zI_8 zx) := hw_6
  have h_zI_8 : WM [1013, 1014, 1806, 1807, 3700, 3800, 3900, 4000, 4200, 4700, 10300, 10400, 10500, 10600, 10700] AL zT zR zI zI_8 := h_zI.tr k_zI_8 (by decide) (fun _ _ => trivial)
  have hk_11 : (zI_8 zy 23).toInt = 0 ∨ ZI (zI_8 (zR zy 24)) := by rw [k_zI_8.2 zy 23 (Or.inl (by rw [t_zy]; decide)), k_zI_8.2.row t_1 (by decide) (by decide)]; exact hk
  have hsh_zI_8 : RSH zR zI_8 zx zy := RSH.sm hsh hs t_zx t_zy k_zI_8.2 (by decide)
  have hit_zI_8 : RIT zR zI_8 zx zy := RIT.sm hit hs t_zx t_zy k_zI_8.2 (by decide)
  have hrr_zI_8 : RRn zR zI_8 zx zy := RRn.sm hrr hs t_zx t_zy k_zI_8.2 (by decide) (FQR.of (k_zI_8.2.row t_2 (by decide) (by decide)))
  have hrg_zI_8 : RGn zR zI_8 zy := RGn.sm hrg hs t_zy k_zI_8.2 (by decide) (FQR.of (k_zI_8.2.row t_2 (by decide) (by decide)))
  have h3_zI_8 : R3 zR zI_8 zx zy := R3.sm h3 hs t_zx t_zy k_zI_8.2 (by decide) (FQ3.of (k_zI_8.2.row t_2 (by decide) (by decide)))
  have rzi_5 := rng zi_5
  refine lv_pop hx hb dL_law_1226 rfl ?_
  refine lv_aload_n hx hb dL_law_1227 rfl (lv_at hl 2 rfl) ?_
  refine lv_aload_n hx hb dL_law_1228 rfl (lv_at hl 0 rfl) ?_
  refine lv_iload_n hx hb dL_law_1229 rfl (lv_at hl 3 rfl) ?_
  refine lv_iconst (v := 1) hx hb dL_law_1230 (by decide) ?_
  refine lv_iadd hx hb dL_law_1231 ?_
  refine lv_topi (fun zi_12 ezi_12 => ?_)
  have tzi_12 : zi_12.toInt = zi9.toInt + (1 : Int) := by rw [ezi_12]; exact tiadd (rfl) (show (1 : Int32).toInt = 1 by decide) (by omega) (by omega)
  obtain rfl : zi_3 = zi_12 := ezi_3.trans ezi_12.symm
  refine va_sld hx hb hX hbl hbA hS (vp_in_iff.mpr ⟨by omega, by omega⟩) dL_law_1232 ?_
  refine lv_topi (fun zi_13 ezi_13 => ?_)
  obtain rfl : zi_4 = zi_13 := ezi_4.trans ezi_13.symm
  have zz_14 : ZI (zI_8 (zR zy 0)) := by rw [(k_zI_8.2.row t_2 (by decide) (by decide))]; exact hz
  refine hj_i (ws := (WL cy zL zT zR zI_8 zJ_9)) (w1 := fun (u : (Nat → Nat → Int32) × (Nat → Nat → Int64)) => (WL cy zL zT zR u.1 u.2)) (va_runV (As := [.int zi_4]) (rest := []) ⟨hx, hb, hml, hown, hts⟩ (t_X11_mustGo l dC dI cy H.size zL zT zR zI_8 zJ_9 zy zi_4 hs h_zI_8.1 t_zy zz_14) (cwV 1 hts gL_law_X11_mustGo rfl rfl rfl (by decide +kernel) ⟨(Nat.le_of_ble_eq_true rfl), (Nat.le_of_ble_eq_true rfl)⟩) (PRE.v hP hK hD hN (ht_recv hK hP hs t_zy (by decide) rfl rfl)) rfl rfl hl.1 rfl (lv_room (Nat.le_of_ble_eq_true rfl)) dL_law_1233 ⟨(Nat.le_of_ble_eq_true rfl), (Nat.le_of_ble_eq_true rfl)⟩) hP hD hS hA (fun zi_15 u_17 H locs hw_16 hP hD hS => ?_)
  obtain ⟨zI_18, zJ_19⟩ := u_17
  obtain ⟨k_zI_18, b_zi_15⟩ : (WM [1806, 1807, 10300, 10400, 10500, 10600, 10700] AL zT zR zI_8 zI_18) ∧ ((-4) ≤ zi_15.toInt ∧ zi_15.toInt ≤ 255) := hw_16
  have h_zI_18 : WM [1013, 1014, 1806, 1807, 3700, 3800, 3900, 4000, 4200, 4700, 10300, 10400, 10500, 10600, 10700] AL zT zR zI zI_18 := h_zI_8.tr k_zI_18 (by decide) (fun _ _ => trivial)
  have j_zI_18 : JX zR zI_18 zx := JX.sm ps_10 hs t_zx k_zI_18.2 (by decide) (by decide)
  have hk_20 : (zI_18 zy 23).toInt = 0 ∨ ZI (zI_18 (zR zy 24)) := by rw [k_zI_18.2 zy 23 (Or.inl (by rw [t_zy]; decide)), k_zI_18.2.row t_1 (by decide) (by decide)]; exact hk_11
  have hsh_zI_18 : RSH zR zI_18 zx zy := RSH.sm hsh_zI_8 hs t_zx t_zy k_zI_18.2 (by decide)
  have hit_zI_18 : RIT zR zI_18 zx zy := RIT.sm hit_zI_8 hs t_zx t_zy k_zI_18.2 (by decide)
  have hrr_zI_18 : RRn zR zI_18 zx zy := RRn.sm hrr_zI_8 hs t_zx t_zy k_zI_18.2 (by decide) (FQR.of (k_zI_18.2.row t_2 (by decide) (by decide)))
  have hrg_zI_18 : RGn zR zI_18 zy := RGn.sm hrg_zI_8 hs t_zy k_zI_18.2 (by decide) (FQR.of (k_zI_18.2.row t_2 (by decide) (by decide)))
  have h3_zI_18 : R3 zR zI_18 zx zy := R3.sm h3_zI_8 hs t_zx t_zy k_zI_18.2 (by decide) (FQ3.of (k_zI_18.2.row t_2 (by decide) (by decide)))
  refine lv_pop hx hb dL_law_1236 rfl ?_
  refine lv_goto (tgt := 1785) hx hb dL_law_1237 (by decide) ?_
  have zz_21 : ZI (zI_18 (zR zy 0)) := by rw [(k_zI_18.2.row t_2 (by decide) (by decide))]; exact zz_14
  exact kx _ _ _ _ _ h_zI_18.1 j_zI_18 zz_21 hk_20 h3_zI_18 hrr_zI_18 hsh_zI_18 hit_zI_18 hrg_zI_18 hP hD hS hl
set_option maxHeartbeats 4000000 in
set_option maxRecDepth 100000 in
theorem lw_c26 {p : Program} {l : Launch} {e : Env} {s : State} {m : MethodId} {below : List Frame} {meth : Method} {c : Code} {b L : Nat} {xs : Nat → Int32} {A : Nat → Prop} {Q : State → Prop} (hx : p.tables.exec = Jvm.exec) (hb : c.code = cL_law) (hml : c.maxLocals = 4) (hown : s.vm.findClass RL = some m.cls) (hts : ∀ w ∈ wsL_law, w.before #[Value.ref b] s = true) (hX : va_X b L xs s s.heap) (hbl : b < s.heap.size) (hbA : ¬ A b) (hA : ∀ q : Nat, s.heap.size ≤ q → A q) (hL : L ≤ 3072) (dC : Nat → ClassId) (dI : Nat → Nat → Nat) (cy : Nat → ClassId) (zL : List Nat) (zT : Nat → Nat) (zR : Nat → Nat → Nat) (zI : Nat → Nat → Int32) (zJ : Nat → Nat → Int64) (zx zy : Nat) (zi9 : Int32) (hs : SKP zL zT zR) (hw : WT zT zR zI) (t_zx : zT zx = 11) (t_zy : zT zy = 18) (hj : JX zR zI zx) (hz : ZI (zI (zR zy 0))) (hk : (zI zy 23).toInt = 0 ∨ ZI (zI (zR zy 24))) (h3 : R3 zR zI zx zy) (hrr : RRn zR zI zx zy) (hsh : RSH zR zI zx zy) (hit : RIT zR zI zx zy) (hrg : RGn zR zI zy) (hK : va_K (dC, dI) vwCl (TY cy) s) (hN : N0 s) (b_zi9 : 0 ≤ zi9.toInt ∧ zi9.toInt ≤ 3066) (hi1 : zi9.toInt + 6 ≤ (L : Int))
    (kx : ∀ (zI2 : Nat → Nat → Int32) (zJ2 : Nat → Nat → Int64) (H : Heap) (locs : List Loc) (ls : Array Slot), WT zT zR zI2 → JX zR zI2 zx → ZI (zI2 (zR zy 0)) → ((zI2 zy 23).toInt = 0 ∨ ZI (zI2 (zR zy 24))) → (R3 zR zI2 zx zy) → (RRn zR zI2 zx zy) → (RSH zR zI2 zx zy) → (RIT zR zI2 zx zy) → (RGn zR zI2 zy) → va_P (dC, dI) vwCl (WL cy zL zT zR zI2 zJ2) H → va_D A (WL cy zL zT zR zI2 zJ2) → va_S A s.heap H locs → lv_has ls 4 [(0, .ref b), (1, .ref zx), (2, .ref zy), (3, .int zi9)] → W p l e room_1 s m #[Value.ref b] below meth c H locs 265 67857 Q (F0 m 1785 ls []))
    {H : Heap} {locs : List Loc} {ls : Array Slot} (hP : va_P (dC, dI) vwCl (WL cy zL zT zR zI zJ) H) (hD : va_D A (WL cy zL zT zR zI zJ)) (hS : va_S A s.heap H locs) (hl : lv_has ls 4 [(0, .ref b), (1, .ref zx), (2, .ref zy), (3, .int zi9)]) : W p l e room_1 s m #[Value.ref b] below meth c H locs 265 67857 Q (F0 m 1240 ls []) := by
  have h_zI : WM [1013, 1014, 1806, 1807, 3700, 3800, 3900, 4000, 4200, 4700, 10300, 10400, 10500, 10600, 10700] AL zT zR zI zI := WM.rf hw
  have t_1 : zT (zR zy 24) = 109 := sk_f hs t_zy (by decide) rfl (by decide)
  have t_2 : zT (zR zy 0) = 100 := sk_f hs t_zy (by decide) rfl (by decide)
  refine lv_aload_n hx hb dL_law_1240 rfl (lv_at hl 1 rfl) ?_
  refine lv_aload_n hx hb dL_law_1241 rfl (lv_at hl 0 rfl) ?_
  refine lv_iload_n hx hb dL_law_1242 rfl (lv_at hl 3 rfl) ?_
  refine lv_iconst (v := 1) hx hb dL_law_1243 (by decide) ?_
  refine lv_iadd hx hb dL_law_1244 ?_
  refine lv_topi (fun zi_3 ezi_3 => ?_)
  have tzi_3 : zi_3.toInt = zi9.toInt + (1 : Int) := by rw [ezi_3]; exact tiadd (rfl) (show (1 : Int32).toInt = 1 by decide) (by omega) (by omega)
  refine va_sld hx hb hX hbl hbA hS (vp_in_iff.mpr ⟨by omega, by omega⟩) dL_law_1245 ?_
  refine lv_topi (fun zi_4 ezi_4 => ?_)
  refine lv_aload_n hx hb dL_law_1246 rfl (lv_at hl 0 rfl) ?_
  refine lv_iload_n hx hb dL_law_1247 rfl (lv_at hl 3 rfl) ?_
  refine lv_iconst (v := 2) hx hb dL_law_1248 (by decide) ?_
  refine lv_iadd hx hb dL_law_1249 ?_
  refine lv_topi (fun zi_5 ezi_5 => ?_)
  have tzi_5 : zi_5.toInt = zi9.toInt + (2 : Int) := by rw [ezi_5]; exact tiadd (rfl) (show (2 : Int32).toInt = 2 by decide) (by omega) (by omega)
  refine va_sld hx hb hX hbl hbA hS (vp_in_iff.mpr ⟨by omega, by omega⟩) dL_law_1250 ?_
  refine lv_topi (fun zi_6 ezi_6 => ?_)
  refine lv_aload_n hx hb dL_law_1251 rfl (lv_at hl 0 rfl) ?_
  refine lv_iload_n hx hb dL_law_1252 rfl (lv_at hl 3 rfl) ?_
  refine lv_iconst (v := 3) hx hb dL_law_1253 (by decide) ?_
  refine lv_iadd hx hb dL_law_1254 ?_
  refine lv_topi (fun zi_7 ezi_7 => ?_)
  have tzi_7 : zi_7.toInt = zi9.toInt + (3 : Int) := by rw [ezi_7]; exact tiadd (rfl) (show (3 : Int32).toInt = 3 by decide) (by omega) (by omega)
  refine va_sld hx hb hX hbl hbA hS (vp_in_iff.mpr ⟨by omega, by omega⟩) dL_law_1255 ?_
  refine lv_topi (fun zi_8 ezi_8 => ?_)
  refine hj_i (ws := (WL cy zL zT zR zI zJ)) (w1 := fun (u : (Nat → Nat → Int32) × (Nat → Nat → Int64)) => (WL cy zL zT zR u.1 u.2)) (va_runV (As := [.int zi_4, .int zi_6, .int zi_8]) (rest := []) ⟨hx, hb, hml, hown, hts⟩ (t_X10_leans l dC dI cy H.size zL zT zR zI zJ zx zi_4 zi_6 zi_8 hs h_zI.1 t_zx hj) (cwV 3 hts gL_law_X10_leans rfl rfl rfl (by decide +kernel) ⟨(Nat.le_of_ble_eq_true rfl), (Nat.le_of_ble_eq_true rfl)⟩) (PRE.v hP hK hD hN (ht_recv hK hP hs t_zx (by decide) rfl rfl)) rfl rfl hl.1 rfl (lv_room (Nat.le_of_ble_eq_true rfl)) dL_law_1256 ⟨(Nat.le_of_ble_eq_true rfl), (Nat.le_of_ble_eq_true rfl)⟩) hP hD hS hA (fun zi_9 u_11 H locs hw_10 hP hD hS => ?_)
  obtain ⟨zI_12, zJ_13⟩ := u_11
  obtain ⟨k_zI_12, b_zi_9, ps_14⟩ : (WM [1013, 1014, 3700, 3800, 3900, 4000, 4200, 4700] AL zT zR zI zI_12) ∧ ((-1012) ≤ zi_9.toInt ∧ zi_9.toInt ≤ 23) ∧ (JX zR zI_12 zx) := hw_10
  have h_zI_12 : WM [1013, 1014, 1806, 1807, 3700, 3800, 3900, 4000, 4200, 4700, 10300, 10400, 10500, 10600, 10700] AL zT zR zI zI_12 := h_zI.tr k_zI_12 (by decide) (fun _ _ => trivial)
  have hk_15 : (zI_12 zy 23).toInt = 0 ∨ ZI (zI_12 (zR zy 24)) := by rw [k_zI_12.2 zy 23 (Or.inl (by rw [t_zy]; decide)), k_zI_12.2.row t_1 (by decide) (by decide)]; exact hk
  have hsh_zI_12 : RSH zR zI_12 zx zy := RSH.sm hsh hs t_zx t_zy k_zI_12.2 (by decide)
  have hit_zI_12 : RIT zR zI_12 zx zy := RIT.sm hit hs t_zx t_zy k_zI_12.2 (by decide)
  have hrr_zI_12 : RRn zR zI_12 zx zy := RRn.sm hrr hs t_zx t_zy k_zI_12.2 (by decide) (FQR.of (k_zI_12.2.row t_2 (by decide) (by decide)))
  have hrg_zI_12 : RGn zR zI_12 zy := RGn.sm hrg hs t_zy k_zI_12.2 (by decide) (FQR.of (k_zI_12.2.row t_2 (by decide) (by decide)))
  have h3_zI_12 : R3 zR zI_12 zx zy := R3.sm h3 hs t_zx t_zy k_zI_12.2 (by decide) (FQ3.of (k_zI_12.2.row t_2 (by decide) (by decide)))
  refine lv_pop hx hb dL_law_1259 rfl ?_
  refine lv_aload_n hx hb dL_law_1260 rfl (lv_at hl 2 rfl) ?_
  refine lv_aload_n hx hb dL_law_1261 rfl (lv_at hl 0 rfl) ?_
  refine lv_iload_n hx hb dL_law_1262 rfl (lv_at hl 3 rfl) ?_
  refine lv_iconst (v := 1) hx hb dL_law_1263 (by decide) ?_
  refine lv_iadd hx hb dL_law_1264 ?_
  refine lv_topi (fun zi_16 ezi_16 => ?_)
  have tzi_16 : zi_16.toInt = zi9.toInt + (1 : Int) := by rw [ezi_16]; exact tiadd (rfl) (show (1 : Int32).toInt = 1 by decide) (by omega) (by omega)
  obtain rfl : zi_3 = zi_16 := ezi_3.trans ezi_16.symm
  refine va_sld hx hb hX hbl hbA hS (vp_in_iff.mpr ⟨by omega, by omega⟩) dL_law_1265 ?_
  refine lv_topi (fun zi_17 ezi_17 => ?_)
  obtain rfl : zi_4 = zi_17 := ezi_4.trans ezi_17.symm
  refine lv_aload_n hx hb dL_law_1266 rfl (lv_at hl 0 rfl) ?_
  refine lv_iload_n hx hb dL_law_1267 rfl (lv_at hl 3 rfl) ?_
  refine lv_iconst (v := 2) hx hb dL_law_1268 (by decide) ?_
  refine lv_iadd hx hb dL_law_1269 ?_
  refine lv_topi (fun zi_18 ezi_18 => ?_)
  have tzi_18 : zi_18.toInt = zi9.toInt + (2 : Int) := by rw [ezi_18]; exact tiadd (rfl) (show (2 : Int32).toInt = 2 by decide) (by omega) (by omega)
  obtain rfl : zi_5 = zi_18 := ezi_5.trans ezi_18.symm
  refine va_sld hx hb hX hbl hbA hS (vp_in_iff.mpr ⟨by omega, by omega⟩) dL_law_1270 ?_
  refine lv_topi (fun zi_19 ezi_19 => ?_)
  obtain rfl : zi_6 = zi_19 := ezi_6.trans ezi_19.symm
  refine lv_aload_n hx hb dL_law_1271 rfl (lv_at hl 0 rfl) ?_
  refine lv_iload_n hx hb dL_law_1272 rfl (lv_at hl 3 rfl) ?_
  refine lv_iconst (v := 3) hx hb dL_law_1273 (by decide) ?_
  refine lv_iadd hx hb dL_law_1274 ?_
  refine lv_topi (fun zi_20 ezi_20 => ?_)
  have tzi_20 : zi_20.toInt = zi9.toInt + (3 : Int) := by rw [ezi_20]; exact tiadd (rfl) (show (3 : Int32).toInt = 3 by decide) (by omega) (by omega)
  obtain rfl : zi_7 = zi_20 := ezi_7.trans ezi_20.symm
  refine va_sld hx hb hX hbl hbA hS (vp_in_iff.mpr ⟨by omega, by omega⟩) dL_law_1275 ?_
  refine lv_topi (fun zi_21 ezi_21 => ?_)
  obtain rfl : zi_8 = zi_21 := ezi_8.trans ezi_21.symm
  have zz_22 : ZI (zI_12 (zR zy 0)) := by rw [(k_zI_12.2.row t_2 (by decide) (by decide))]; exact hz
  refine hj_i (ws := (WL cy zL zT zR zI_12 zJ_13)) (w1 := fun (u : (Nat → Nat → Int32) × (Nat → Nat → Int64)) => (WL cy zL zT zR u.1 u.2)) (va_runV (As := [.int zi_4, .int zi_6, .int zi_8]) (rest := []) ⟨hx, hb, hml, hown, hts⟩ (t_X11_leans l dC dI cy H.size zL zT zR zI_12 zJ_13 zy zi_4 zi_6 zi_8 hs h_zI_12.1 t_zy zz_22) (cwV 3 hts gL_law_X11_leans rfl rfl rfl (by decide +kernel) ⟨(Nat.le_of_ble_eq_true rfl), (Nat.le_of_ble_eq_true rfl)⟩) (PRE.v hP hK hD hN (ht_recv hK hP hs t_zy (by decide) rfl rfl)) rfl rfl hl.1 rfl (lv_room (Nat.le_of_ble_eq_true rfl)) dL_law_1276 ⟨(Nat.le_of_ble_eq_true rfl), (Nat.le_of_ble_eq_true rfl)⟩) hP hD hS hA (fun zi_23 u_25 H locs hw_24 hP hD hS => ?_)
  obtain ⟨zI_26, zJ_27⟩ := u_25
  obtain ⟨k_zI_26, b_zi_23⟩ : (WM [1806, 1807, 10300, 10400, 10500, 10600, 10700] AL zT zR zI_12 zI_26) ∧ ((-1012) ≤ zi_23.toInt ∧ zi_23.toInt ≤ 23) := hw_24
  have h_zI_26 : WM [1013, 1014, 1806, 1807, 3700, 3800, 3900, 4000, 4200, 4700, 10300, 10400, 10500, 10600, 10700] AL zT zR zI zI_26 := h_zI_12.tr k_zI_26 (by decide) (fun _ _ => trivial)
  have j_zI_26 : JX zR zI_26 zx := JX.sm ps_14 hs t_zx k_zI_26.2 (by decide) (by decide)
  have hk_28 : (zI_26 zy 23).toInt = 0 ∨ ZI (zI_26 (zR zy 24)) := by rw [k_zI_26.2 zy 23 (Or.inl (by rw [t_zy]; decide)), k_zI_26.2.row t_1 (by decide) (by decide)]; exact hk_15
  have hsh_zI_26 : RSH zR zI_26 zx zy := RSH.sm hsh_zI_12 hs t_zx t_zy k_zI_26.2 (by decide)
  have hit_zI_26 : RIT zR zI_26 zx zy := RIT.sm hit_zI_12 hs t_zx t_zy k_zI_26.2 (by decide)
  have hrr_zI_26 : RRn zR zI_26 zx zy := RRn.sm hrr_zI_12 hs t_zx t_zy k_zI_26.2 (by decide) (FQR.of (k_zI_26.2.row t_2 (by decide) (by decide)))
  have hrg_zI_26 : RGn zR zI_26 zy := RGn.sm hrg_zI_12 hs t_zy k_zI_26.2 (by decide) (FQR.of (k_zI_26.2.row t_2 (by decide) (by decide)))
  have h3_zI_26 : R3 zR zI_26 zx zy := R3.sm h3_zI_12 hs t_zx t_zy k_zI_26.2 (by decide) (FQ3.of (k_zI_26.2.row t_2 (by decide) (by decide)))
  refine lv_pop hx hb dL_law_1279 rfl ?_
  refine lv_goto (tgt := 1785) hx hb dL_law_1280 (by decide) ?_
  have zz_29 : ZI (zI_26 (zR zy 0)) := by rw [(k_zI_26.2.row t_2 (by decide) (by decide))]; exact zz_22
  exact kx _ _ _ _ _ h_zI_26.1 j_zI_26 zz_29 hk_28 h3_zI_26 hrr_zI_26 hsh_zI_26 hit_zI_26 hrg_zI_26 hP hD hS hl
set_option maxHeartbeats 4000000 in
set_option maxRecDepth 100000 in
theorem lw_c27 {p : Program} {l : Launch} {e : Env} {s : State} {m : MethodId} {below : List Frame} {meth : Method} {c : Code} {b L : Nat} {xs : Nat → Int32} {A : Nat → Prop} {Q : State → Prop} (hx : p.tables.exec = Jvm.exec) (hb : c.code = cL_law) (hml : c.maxLocals = 4) (hown : s.vm.findClass RL = some m.cls) (hts : ∀ w ∈ wsL_law, w.before #[Value.ref b] s = true) (hX : va_X b L xs s s.heap) (hbl : b < s.heap.size) (hbA : ¬ A b) (hA : ∀ q : Nat, s.heap.size ≤ q → A q) (hL : L ≤ 3072) (dC : Nat → ClassId) (dI : Nat → Nat → Nat) (cy : Nat → ClassId) (zL : List Nat) (zT : Nat → Nat) (zR : Nat → Nat → Nat) (zI : Nat → Nat → Int32) (zJ : Nat → Nat → Int64) (zx zy : Nat) (zi9 : Int32) (hs : SKP zL zT zR) (hw : WT zT zR zI) (t_zx : zT zx = 11) (t_zy : zT zy = 18) (hj : JX zR zI zx) (hz : ZI (zI (zR zy 0))) (hk : (zI zy 23).toInt = 0 ∨ ZI (zI (zR zy 24))) (h3 : R3 zR zI zx zy) (hrr : RRn zR zI zx zy) (hsh : RSH zR zI zx zy) (hit : RIT zR zI zx zy) (hrg : RGn zR zI zy) (hK : va_K (dC, dI) vwCl (TY cy) s) (hN : N0 s) (b_zi9 : 0 ≤ zi9.toInt ∧ zi9.toInt ≤ 3066) (hi1 : zi9.toInt + 6 ≤ (L : Int))
    (kx : ∀ (zI2 : Nat → Nat → Int32) (zJ2 : Nat → Nat → Int64) (H : Heap) (locs : List Loc) (ls : Array Slot), WT zT zR zI2 → JX zR zI2 zx → ZI (zI2 (zR zy 0)) → ((zI2 zy 23).toInt = 0 ∨ ZI (zI2 (zR zy 24))) → (R3 zR zI2 zx zy) → (RRn zR zI2 zx zy) → (RSH zR zI2 zx zy) → (RIT zR zI2 zx zy) → (RGn zR zI2 zy) → va_P (dC, dI) vwCl (WL cy zL zT zR zI2 zJ2) H → va_D A (WL cy zL zT zR zI2 zJ2) → va_S A s.heap H locs → lv_has ls 4 [(0, .ref b), (1, .ref zx), (2, .ref zy), (3, .int zi9)] → W p l e room_1 s m #[Value.ref b] below meth c H locs 265 67857 Q (F0 m 1785 ls []))
    {H : Heap} {locs : List Loc} {ls : Array Slot} (hP : va_P (dC, dI) vwCl (WL cy zL zT zR zI zJ) H) (hD : va_D A (WL cy zL zT zR zI zJ)) (hS : va_S A s.heap H locs) (hl : lv_has ls 4 [(0, .ref b), (1, .ref zx), (2, .ref zy), (3, .int zi9)]) : W p l e room_1 s m #[Value.ref b] below meth c H locs 265 67857 Q (F0 m 1283 ls []) := by
  have h_zI : WM [1013, 1014, 1806, 1807, 3700, 3800, 3900, 4000, 4200, 4700, 10300, 10400, 10500, 10600, 10700] AL zT zR zI zI := WM.rf hw
  have t_1 : zT (zR zy 24) = 109 := sk_f hs t_zy (by decide) rfl (by decide)
  have t_2 : zT (zR zy 0) = 100 := sk_f hs t_zy (by decide) rfl (by decide)
  refine lv_aload_n hx hb dL_law_1283 rfl (lv_at hl 1 rfl) ?_
  refine lv_aload_n hx hb dL_law_1284 rfl (lv_at hl 0 rfl) ?_
  refine lv_iload_n hx hb dL_law_1285 rfl (lv_at hl 3 rfl) ?_
  refine lv_iconst (v := 1) hx hb dL_law_1286 (by decide) ?_
  refine lv_iadd hx hb dL_law_1287 ?_
  refine lv_topi (fun zi_3 ezi_3 => ?_)
  have tzi_3 : zi_3.toInt = zi9.toInt + (1 : Int) := by rw [ezi_3]; exact tiadd (rfl) (show (1 : Int32).toInt = 1 by decide) (by omega) (by omega)
  refine va_sld hx hb hX hbl hbA hS (vp_in_iff.mpr ⟨by omega, by omega⟩) dL_law_1288 ?_
  refine lv_topi (fun zi_4 ezi_4 => ?_)
  refine lv_aload_n hx hb dL_law_1289 rfl (lv_at hl 0 rfl) ?_
  refine lv_iload_n hx hb dL_law_1290 rfl (lv_at hl 3 rfl) ?_
  refine lv_iconst (v := 2) hx hb dL_law_1291 (by decide) ?_
  refine lv_iadd hx hb dL_law_1292 ?_
  refine lv_topi (fun zi_5 ezi_5 => ?_)
  have tzi_5 : zi_5.toInt = zi9.toInt + (2 : Int) := by rw [ezi_5]; exact tiadd (rfl) (show (2 : Int32).toInt = 2 by decide) (by omega) (by omega)
  refine va_sld hx hb hX hbl hbA hS (vp_in_iff.mpr ⟨by omega, by omega⟩) dL_law_1293 ?_
  refine lv_topi (fun zi_6 ezi_6 => ?_)
  refine lv_aload_n hx hb dL_law_1294 rfl (lv_at hl 0 rfl) ?_
  refine lv_iload_n hx hb dL_law_1295 rfl (lv_at hl 3 rfl) ?_
  refine lv_iconst (v := 3) hx hb dL_law_1296 (by decide) ?_
  refine lv_iadd hx hb dL_law_1297 ?_
  refine lv_topi (fun zi_7 ezi_7 => ?_)
  have tzi_7 : zi_7.toInt = zi9.toInt + (3 : Int) := by rw [ezi_7]; exact tiadd (rfl) (show (3 : Int32).toInt = 3 by decide) (by omega) (by omega)
  refine va_sld hx hb hX hbl hbA hS (vp_in_iff.mpr ⟨by omega, by omega⟩) dL_law_1298 ?_
  refine lv_topi (fun zi_8 ezi_8 => ?_)
  refine lv_aload_n hx hb dL_law_1299 rfl (lv_at hl 0 rfl) ?_
  refine lv_iload_n hx hb dL_law_1300 rfl (lv_at hl 3 rfl) ?_
  refine lv_iconst (v := 4) hx hb dL_law_1301 (by decide) ?_
  refine lv_iadd hx hb dL_law_1302 ?_
  refine lv_topi (fun zi_9 ezi_9 => ?_)
  have tzi_9 : zi_9.toInt = zi9.toInt + (4 : Int) := by rw [ezi_9]; exact tiadd (rfl) (show (4 : Int32).toInt = 4 by decide) (by omega) (by omega)
  refine va_sld hx hb hX hbl hbA hS (vp_in_iff.mpr ⟨by omega, by omega⟩) dL_law_1303 ?_
  refine lv_topi (fun zi_10 ezi_10 => ?_)
  refine hj_i (ws := (WL cy zL zT zR zI zJ)) (w1 := fun (u : (Nat → Nat → Int32) × (Nat → Nat → Int64)) => (WL cy zL zT zR u.1 u.2)) (va_runV (As := [.int zi_4, .int zi_6, .int zi_8, .int zi_10]) (rest := []) ⟨hx, hb, hml, hown, hts⟩ (t_X10_judge l dC dI cy H.size zL zT zR zI zJ zx zi_4 zi_6 zi_8 zi_10 hs h_zI.1 t_zx hj) (cwV 4 hts gL_law_X10_judge rfl rfl rfl (by decide +kernel) ⟨(Nat.le_of_ble_eq_true rfl), (Nat.le_of_ble_eq_true rfl)⟩) (PRE.v hP hK hD hN (ht_recv hK hP hs t_zx (by decide) rfl rfl)) rfl rfl hl.1 rfl (lv_room (Nat.le_of_ble_eq_true rfl)) dL_law_1304 ⟨(Nat.le_of_ble_eq_true rfl), (Nat.le_of_ble_eq_true rfl)⟩) hP hD hS hA (fun zi_11 u_13 H locs hw_12 hP hD hS => ?_)
  obtain ⟨zI_14, zJ_15⟩ := u_13
  obtain ⟨k_zI_14, b_zi_11, ps_16⟩ : (WM [1013, 1014, 3700, 3800, 3900, 4000, 4200, 4700] AL zT zR zI zI_14) ∧ ((-13) ≤ zi_11.toInt ∧ zi_11.toInt ≤ 11) ∧ (JX zR zI_14 zx) := hw_12
  have h_zI_14 : WM [1013, 1014, 1806, 1807, 3700, 3800, 3900, 4000, 4200, 4700, 10300, 10400, 10500, 10600, 10700] AL zT zR zI zI_14 := h_zI.tr k_zI_14 (by decide) (fun _ _ => trivial)
  have hk_17 : (zI_14 zy 23).toInt = 0 ∨ ZI (zI_14 (zR zy 24)) := by rw [k_zI_14.2 zy 23 (Or.inl (by rw [t_zy]; decide)), k_zI_14.2.row t_1 (by decide) (by decide)]; exact hk
  have hsh_zI_14 : RSH zR zI_14 zx zy := RSH.sm hsh hs t_zx t_zy k_zI_14.2 (by decide)
  have hit_zI_14 : RIT zR zI_14 zx zy := RIT.sm hit hs t_zx t_zy k_zI_14.2 (by decide)
  have hrr_zI_14 : RRn zR zI_14 zx zy := RRn.sm hrr hs t_zx t_zy k_zI_14.2 (by decide) (FQR.of (k_zI_14.2.row t_2 (by decide) (by decide)))
  have hrg_zI_14 : RGn zR zI_14 zy := RGn.sm hrg hs t_zy k_zI_14.2 (by decide) (FQR.of (k_zI_14.2.row t_2 (by decide) (by decide)))
  have h3_zI_14 : R3 zR zI_14 zx zy := R3.sm h3 hs t_zx t_zy k_zI_14.2 (by decide) (FQ3.of (k_zI_14.2.row t_2 (by decide) (by decide)))
  refine lv_pop hx hb dL_law_1307 rfl ?_
  refine lv_aload_n hx hb dL_law_1308 rfl (lv_at hl 2 rfl) ?_
  refine lv_aload_n hx hb dL_law_1309 rfl (lv_at hl 0 rfl) ?_
  refine lv_iload_n hx hb dL_law_1310 rfl (lv_at hl 3 rfl) ?_
  refine lv_iconst (v := 1) hx hb dL_law_1311 (by decide) ?_
  refine lv_iadd hx hb dL_law_1312 ?_
  refine lv_topi (fun zi_18 ezi_18 => ?_)
  have tzi_18 : zi_18.toInt = zi9.toInt + (1 : Int) := by rw [ezi_18]; exact tiadd (rfl) (show (1 : Int32).toInt = 1 by decide) (by omega) (by omega)
  obtain rfl : zi_3 = zi_18 := ezi_3.trans ezi_18.symm
  refine va_sld hx hb hX hbl hbA hS (vp_in_iff.mpr ⟨by omega, by omega⟩) dL_law_1313 ?_
  refine lv_topi (fun zi_19 ezi_19 => ?_)
  obtain rfl : zi_4 = zi_19 := ezi_4.trans ezi_19.symm
  refine lv_aload_n hx hb dL_law_1314 rfl (lv_at hl 0 rfl) ?_
  refine lv_iload_n hx hb dL_law_1315 rfl (lv_at hl 3 rfl) ?_
  refine lv_iconst (v := 2) hx hb dL_law_1316 (by decide) ?_
  refine lv_iadd hx hb dL_law_1317 ?_
  refine lv_topi (fun zi_20 ezi_20 => ?_)
  have tzi_20 : zi_20.toInt = zi9.toInt + (2 : Int) := by rw [ezi_20]; exact tiadd (rfl) (show (2 : Int32).toInt = 2 by decide) (by omega) (by omega)
  obtain rfl : zi_5 = zi_20 := ezi_5.trans ezi_20.symm
  refine va_sld hx hb hX hbl hbA hS (vp_in_iff.mpr ⟨by omega, by omega⟩) dL_law_1318 ?_
  refine lv_topi (fun zi_21 ezi_21 => ?_)
  obtain rfl : zi_6 = zi_21 := ezi_6.trans ezi_21.symm
  refine lv_aload_n hx hb dL_law_1319 rfl (lv_at hl 0 rfl) ?_
  refine lv_iload_n hx hb dL_law_1320 rfl (lv_at hl 3 rfl) ?_
  refine lv_iconst (v := 3) hx hb dL_law_1321 (by decide) ?_
  refine lv_iadd hx hb dL_law_1322 ?_
  refine lv_topi (fun zi_22 ezi_22 => ?_)
  have tzi_22 : zi_22.toInt = zi9.toInt + (3 : Int) := by rw [ezi_22]; exact tiadd (rfl) (show (3 : Int32).toInt = 3 by decide) (by omega) (by omega)
  obtain rfl : zi_7 = zi_22 := ezi_7.trans ezi_22.symm
  refine va_sld hx hb hX hbl hbA hS (vp_in_iff.mpr ⟨by omega, by omega⟩) dL_law_1323 ?_
  refine lv_topi (fun zi_23 ezi_23 => ?_)
  obtain rfl : zi_8 = zi_23 := ezi_8.trans ezi_23.symm
  refine lv_aload_n hx hb dL_law_1324 rfl (lv_at hl 0 rfl) ?_
  refine lv_iload_n hx hb dL_law_1325 rfl (lv_at hl 3 rfl) ?_
  refine lv_iconst (v := 4) hx hb dL_law_1326 (by decide) ?_
  refine lv_iadd hx hb dL_law_1327 ?_
  refine lv_topi (fun zi_24 ezi_24 => ?_)
  have tzi_24 : zi_24.toInt = zi9.toInt + (4 : Int) := by rw [ezi_24]; exact tiadd (rfl) (show (4 : Int32).toInt = 4 by decide) (by omega) (by omega)
  obtain rfl : zi_9 = zi_24 := ezi_9.trans ezi_24.symm
  refine va_sld hx hb hX hbl hbA hS (vp_in_iff.mpr ⟨by omega, by omega⟩) dL_law_1328 ?_
  refine lv_topi (fun zi_25 ezi_25 => ?_)
  obtain rfl : zi_10 = zi_25 := ezi_10.trans ezi_25.symm
  have zz_26 : ZI (zI_14 (zR zy 0)) := by rw [(k_zI_14.2.row t_2 (by decide) (by decide))]; exact hz
  refine hj_i (ws := (WL cy zL zT zR zI_14 zJ_15)) (w1 := fun (u : (Nat → Nat → Int32)) => (WL cy zL zT zR u zJ_15)) (va_runV (As := [.int zi_4, .int zi_6, .int zi_8, .int zi_10]) (rest := []) ⟨hx, hb, hml, hown, hts⟩ (t_X11_judge l dC dI cy H.size zL zT zR zI_14 zJ_15 zy zi_4 zi_6 zi_8 zi_10 hs h_zI_14.1 t_zy zz_26) (cwV 4 hts gL_law_X11_judge rfl rfl rfl (by decide +kernel) ⟨(Nat.le_of_ble_eq_true rfl), (Nat.le_of_ble_eq_true rfl)⟩) (PRE.v hP hK hD hN (ht_recv hK hP hs t_zy (by decide) rfl rfl)) rfl rfl hl.1 rfl (lv_room (Nat.le_of_ble_eq_true rfl)) dL_law_1329 ⟨(Nat.le_of_ble_eq_true rfl), (Nat.le_of_ble_eq_true rfl)⟩) hP hD hS hA (fun zi_27 zI_30 H locs hw_28 hP hD hS => ?_)
  obtain ⟨k_zI_30, b_zi_27⟩ : (WM [1806, 1807, 10300, 10400, 10500, 10600, 10700] AL zT zR zI_14 zI_30) ∧ ((-13) ≤ zi_27.toInt ∧ zi_27.toInt ≤ 11) := hw_28
  have h_zI_30 : WM [1013, 1014, 1806, 1807, 3700, 3800, 3900, 4000, 4200, 4700, 10300, 10400, 10500, 10600, 10700] AL zT zR zI zI_30 := h_zI_14.tr k_zI_30 (by decide) (fun _ _ => trivial)
  have j_zI_30 : JX zR zI_30 zx := JX.sm ps_16 hs t_zx k_zI_30.2 (by decide) (by decide)
  have hk_31 : (zI_30 zy 23).toInt = 0 ∨ ZI (zI_30 (zR zy 24)) := by rw [k_zI_30.2 zy 23 (Or.inl (by rw [t_zy]; decide)), k_zI_30.2.row t_1 (by decide) (by decide)]; exact hk_17
  have hsh_zI_30 : RSH zR zI_30 zx zy := RSH.sm hsh_zI_14 hs t_zx t_zy k_zI_30.2 (by decide)
  have hit_zI_30 : RIT zR zI_30 zx zy := RIT.sm hit_zI_14 hs t_zx t_zy k_zI_30.2 (by decide)
  have hrr_zI_30 : RRn zR zI_30 zx zy := RRn.sm hrr_zI_14 hs t_zx t_zy k_zI_30.2 (by decide) (FQR.of (k_zI_30.2.row t_2 (by decide) (by decide)))
  have hrg_zI_30 : RGn zR zI_30 zy := RGn.sm hrg_zI_14 hs t_zy k_zI_30.2 (by decide) (FQR.of (k_zI_30.2.row t_2 (by decide) (by decide)))
  have h3_zI_30 : R3 zR zI_30 zx zy := R3.sm h3_zI_14 hs t_zx t_zy k_zI_30.2 (by decide) (FQ3.of (k_zI_30.2.row t_2 (by decide) (by decide)))
  refine lv_pop hx hb dL_law_1332 rfl ?_
  refine lv_goto (tgt := 1785) hx hb dL_law_1333 (by decide) ?_
  have zz_32 : ZI (zI_30 (zR zy 0)) := by rw [(k_zI_30.2.row t_2 (by decide) (by decide))]; exact zz_26
  exact kx _ _ _ _ _ h_zI_30.1 j_zI_30 zz_32 hk_31 h3_zI_30 hrr_zI_30 hsh_zI_30 hit_zI_30 hrg_zI_30 hP hD hS hl
