set_option maxHeartbeats 4000000 in
set_option maxRecDepth 100000 in
theorem lw_c28 {p : Program} {l : Launch} {e : Env} {s : State} {m : MethodId} {below : List Frame} {meth : Method} {c : Code} {b L : Nat} {xs : Nat → Int32} {A : Nat → Prop} {Q : State → Prop} (hx : p.tables.exec = Jvm.exec) (hb : c.code = cL_law) (hml : c.maxLocals = 4) (hown : s.vm.findClass RL = some m.cls) (hts : ∀ w ∈ wsL_law, w.before #[Value.ref b] s = true) (hX : va_X b L xs s s.heap) (hbl : b < s.heap.size) (hbA : ¬ A b) (hA : ∀ q : Nat, s.heap.size ≤ q → A q) (hL : L ≤ 3072) (dC : Nat → ClassId) (dI : Nat → Nat → Nat) (cy : Nat → ClassId) (zL : List Nat) (zT : Nat → Nat) (zR : Nat → Nat → Nat) (zI : Nat → Nat → Int32) (zJ : Nat → Nat → Int64) (zx zy : Nat) (zi9 : Int32) (hs : SKP zL zT zR) (hw : WT zT zR zI) (t_zx : zT zx = 11) (t_zy : zT zy = 18) (hj : JX zR zI zx) (hz : ZI (zI (zR zy 0))) (hk : (zI zy 23).toInt = 0 ∨ ZI (zI (zR zy 24))) (h3 : R3 zR zI zx zy) (hrr : RRn zR zI zx zy) (hsh : RSH zR zI zx zy) (hit : RIT zR zI zx zy) (hrg : RGn zR zI zy) (hK : va_K (dC, dI) vwCl (TY cy) s) (hN : N0 s) (b_zi9 : 0 ≤ zi9.toInt ∧ zi9.toInt ≤ 3066) (hi1 : zi9.toInt + 6 ≤ (L : Int))
    (kx : ∀ (zI2 : Nat → Nat → Int32) (zJ2 : Nat → Nat → Int64) (H : Heap) (locs : List Loc) (ls : Array Slot), WT zT zR zI2 → JX zR zI2 zx → ZI (zI2 (zR zy 0)) → ((zI2 zy 23).toInt = 0 ∨ ZI (zI2 (zR zy 24))) → (R3 zR zI2 zx zy) → (RRn zR zI2 zx zy) → (RSH zR zI2 zx zy) → (RIT zR zI2 zx zy) → (RGn zR zI2 zy) → va_P (dC, dI) vwCl (WL cy zL zT zR zI2 zJ2) H → va_D A (WL cy zL zT zR zI2 zJ2) → va_S A s.heap H locs → lv_has ls 4 [(0, .ref b), (1, .ref zx), (2, .ref zy), (3, .int zi9)] → W p l e room_1 s m #[Value.ref b] below meth c H locs 265 67857 Q (F0 m 1785 ls []))
    {H : Heap} {locs : List Loc} {ls : Array Slot} (hP : va_P (dC, dI) vwCl (WL cy zL zT zR zI zJ) H) (hD : va_D A (WL cy zL zT zR zI zJ)) (hS : va_S A s.heap H locs) (hl : lv_has ls 4 [(0, .ref b), (1, .ref zx), (2, .ref zy), (3, .int zi9)]) : W p l e room_1 s m #[Value.ref b] below meth c H locs 265 67857 Q (F0 m 1336 ls []) := by
  have h_zI : WM [1013, 1014, 1806, 1807, 1819, 3700, 3800, 3900, 4000, 4200, 4700, 10300, 10400, 10500, 10600, 10700, 10800] AL zT zR zI zI := WM.rf hw
  have t_1 : zT (zR zy 24) = 109 := sk_f hs t_zy (by decide) rfl (by decide)
  have t_2 : zT (zR zy 0) = 100 := sk_f hs t_zy (by decide) rfl (by decide)
  refine lv_aload_n hx hb dL_law_1336 rfl (lv_at hl 1 rfl) ?_
  refine lv_aload_n hx hb dL_law_1337 rfl (lv_at hl 0 rfl) ?_
  refine lv_iload_n hx hb dL_law_1338 rfl (lv_at hl 3 rfl) ?_
  refine lv_iconst (v := 1) hx hb dL_law_1339 (by decide) ?_
  refine lv_iadd hx hb dL_law_1340 ?_
  refine lv_topi (fun zi_3 ezi_3 => ?_)
  have tzi_3 : zi_3.toInt = zi9.toInt + (1 : Int) := by rw [ezi_3]; exact tiadd (rfl) (show (1 : Int32).toInt = 1 by decide) (by omega) (by omega)
  refine va_sld hx hb hX hbl hbA hS (vp_in_iff.mpr ⟨by omega, by omega⟩) dL_law_1341 ?_
  refine lv_topi (fun zi_4 ezi_4 => ?_)
  refine lv_aload_n hx hb dL_law_1342 rfl (lv_at hl 0 rfl) ?_
  refine lv_iload_n hx hb dL_law_1343 rfl (lv_at hl 3 rfl) ?_
  refine lv_iconst (v := 2) hx hb dL_law_1344 (by decide) ?_
  refine lv_iadd hx hb dL_law_1345 ?_
  refine lv_topi (fun zi_5 ezi_5 => ?_)
  have tzi_5 : zi_5.toInt = zi9.toInt + (2 : Int) := by rw [ezi_5]; exact tiadd (rfl) (show (2 : Int32).toInt = 2 by decide) (by omega) (by omega)
  refine va_sld hx hb hX hbl hbA hS (vp_in_iff.mpr ⟨by omega, by omega⟩) dL_law_1346 ?_
  refine lv_topi (fun zi_6 ezi_6 => ?_)
  refine lv_aload_n hx hb dL_law_1347 rfl (lv_at hl 0 rfl) ?_
  refine lv_iload_n hx hb dL_law_1348 rfl (lv_at hl 3 rfl) ?_
  refine lv_iconst (v := 3) hx hb dL_law_1349 (by decide) ?_
  refine lv_iadd hx hb dL_law_1350 ?_
  refine lv_topi (fun zi_7 ezi_7 => ?_)
  have tzi_7 : zi_7.toInt = zi9.toInt + (3 : Int) := by rw [ezi_7]; exact tiadd (rfl) (show (3 : Int32).toInt = 3 by decide) (by omega) (by omega)
  refine va_sld hx hb hX hbl hbA hS (vp_in_iff.mpr ⟨by omega, by omega⟩) dL_law_1351 ?_
  refine lv_topi (fun zi_8 ezi_8 => ?_)
  refine hj_l (ws := (WL cy zL zT zR zI zJ)) (w1 := fun (u : (Nat → Nat → Int32) × (Nat → Nat → Int64)) => (WL cy zL zT zR u.1 u.2)) (va_runV (As := [.int zi_4, .int zi_6, .int zi_8]) (rest := []) ⟨hx, hb, hml, hown, hts⟩ (t_X10_oneYear l dC dI cy H.size zL zT zR zI zJ zx zi_4 zi_6 zi_8 hs h_zI.1 t_zx hj) (cwV 3 hts gL_law_X10_oneYear rfl rfl rfl (by decide +kernel) ⟨(Nat.le_of_ble_eq_true rfl), (Nat.le_of_ble_eq_true rfl)⟩) (PRE.v hP hK hD hN (ht_recv hK hP hs t_zx (by decide) rfl rfl)) rfl rfl hl.1 rfl (lv_room (Nat.le_of_ble_eq_true rfl)) dL_law_1352 ⟨(Nat.le_of_ble_eq_true rfl), (Nat.le_of_ble_eq_true rfl)⟩) hP hD hS hA (fun zj_9 u_11 H locs hw_10 hP hD hS => ?_)
  obtain ⟨zI_12, zJ_13⟩ := u_11
  obtain ⟨k_zI_12, ps_14⟩ : (WM [1013, 1014, 3700, 3800, 3900, 4000, 4200, 4700] AL zT zR zI zI_12) ∧ (JX zR zI_12 zx) := hw_10
  have h_zI_12 : WM [1013, 1014, 1806, 1807, 1819, 3700, 3800, 3900, 4000, 4200, 4700, 10300, 10400, 10500, 10600, 10700, 10800] AL zT zR zI zI_12 := h_zI.tr k_zI_12 (by decide) (fun _ _ => trivial)
  have hk_15 : (zI_12 zy 23).toInt = 0 ∨ ZI (zI_12 (zR zy 24)) := by rw [k_zI_12.2 zy 23 (Or.inl (by rw [t_zy]; decide)), k_zI_12.2.row t_1 (by decide) (by decide)]; exact hk
  have hsh_zI_12 : RSH zR zI_12 zx zy := RSH.sm hsh hs t_zx t_zy k_zI_12.2 (by decide)
  have hit_zI_12 : RIT zR zI_12 zx zy := RIT.sm hit hs t_zx t_zy k_zI_12.2 (by decide)
  have hrr_zI_12 : RRn zR zI_12 zx zy := RRn.sm hrr hs t_zx t_zy k_zI_12.2 (by decide) (FQR.of (k_zI_12.2.row t_2 (by decide) (by decide)))
  have hrg_zI_12 : RGn zR zI_12 zy := RGn.sm hrg hs t_zy k_zI_12.2 (by decide) (FQR.of (k_zI_12.2.row t_2 (by decide) (by decide)))
  have h3_zI_12 : R3 zR zI_12 zx zy := R3.sm h3 hs t_zx t_zy k_zI_12.2 (by decide) (FQ3.of (k_zI_12.2.row t_2 (by decide) (by decide)))
  refine lv_pop2_2 hx hb dL_law_1355 rfl ?_
  refine lv_aload_n hx hb dL_law_1356 rfl (lv_at hl 2 rfl) ?_
  refine lv_aload_n hx hb dL_law_1357 rfl (lv_at hl 0 rfl) ?_
  refine lv_iload_n hx hb dL_law_1358 rfl (lv_at hl 3 rfl) ?_
  refine lv_iconst (v := 1) hx hb dL_law_1359 (by decide) ?_
  refine lv_iadd hx hb dL_law_1360 ?_
  refine lv_topi (fun zi_16 ezi_16 => ?_)
  have tzi_16 : zi_16.toInt = zi9.toInt + (1 : Int) := by rw [ezi_16]; exact tiadd (rfl) (show (1 : Int32).toInt = 1 by decide) (by omega) (by omega)
  obtain rfl : zi_3 = zi_16 := ezi_3.trans ezi_16.symm
  refine va_sld hx hb hX hbl hbA hS (vp_in_iff.mpr ⟨by omega, by omega⟩) dL_law_1361 ?_
  refine lv_topi (fun zi_17 ezi_17 => ?_)
  obtain rfl : zi_4 = zi_17 := ezi_4.trans ezi_17.symm
  refine lv_aload_n hx hb dL_law_1362 rfl (lv_at hl 0 rfl) ?_
  refine lv_iload_n hx hb dL_law_1363 rfl (lv_at hl 3 rfl) ?_
  refine lv_iconst (v := 2) hx hb dL_law_1364 (by decide) ?_
  refine lv_iadd hx hb dL_law_1365 ?_
  refine lv_topi (fun zi_18 ezi_18 => ?_)
  have tzi_18 : zi_18.toInt = zi9.toInt + (2 : Int) := by rw [ezi_18]; exact tiadd (rfl) (show (2 : Int32).toInt = 2 by decide) (by omega) (by omega)
  obtain rfl : zi_5 = zi_18 := ezi_5.trans ezi_18.symm
  refine va_sld hx hb hX hbl hbA hS (vp_in_iff.mpr ⟨by omega, by omega⟩) dL_law_1366 ?_
  refine lv_topi (fun zi_19 ezi_19 => ?_)
  obtain rfl : zi_6 = zi_19 := ezi_6.trans ezi_19.symm
  refine lv_aload_n hx hb dL_law_1367 rfl (lv_at hl 0 rfl) ?_
  refine lv_iload_n hx hb dL_law_1368 rfl (lv_at hl 3 rfl) ?_
  refine lv_iconst (v := 3) hx hb dL_law_1369 (by decide) ?_
  refine lv_iadd hx hb dL_law_1370 ?_
  refine lv_topi (fun zi_20 ezi_20 => ?_)
  have tzi_20 : zi_20.toInt = zi9.toInt + (3 : Int) := by rw [ezi_20]; exact tiadd (rfl) (show (3 : Int32).toInt = 3 by decide) (by omega) (by omega)
  obtain rfl : zi_7 = zi_20 := ezi_7.trans ezi_20.symm
  refine va_sld hx hb hX hbl hbA hS (vp_in_iff.mpr ⟨by omega, by omega⟩) dL_law_1371 ?_
  refine lv_topi (fun zi_21 ezi_21 => ?_)
  obtain rfl : zi_8 = zi_21 := ezi_8.trans ezi_21.symm
  have zz_22 : ZI (zI_12 (zR zy 0)) := by rw [(k_zI_12.2.row t_2 (by decide) (by decide))]; exact hz
  refine hj_l (ws := (WL cy zL zT zR zI_12 zJ_13)) (w1 := fun (u : (Nat → Nat → Int32) × (Nat → Nat → Int64)) => (WL cy zL zT zR u.1 u.2)) (va_runV (As := [.int zi_4, .int zi_6, .int zi_8]) (rest := []) ⟨hx, hb, hml, hown, hts⟩ (t_X11_oneYear l dC dI cy H.size zL zT zR zI_12 zJ_13 zy zi_4 zi_6 zi_8 hs h_zI_12.1 t_zy zz_22) (cwV 3 hts gL_law_X11_oneYear rfl rfl rfl (by decide +kernel) ⟨(Nat.le_of_ble_eq_true rfl), (Nat.le_of_ble_eq_true rfl)⟩) (PRE.v hP hK hD hN (ht_recv hK hP hs t_zy (by decide) rfl rfl)) rfl rfl hl.1 rfl (lv_room (Nat.le_of_ble_eq_true rfl)) dL_law_1372 ⟨(Nat.le_of_ble_eq_true rfl), (Nat.le_of_ble_eq_true rfl)⟩) hP hD hS hA (fun zj_23 u_25 H locs hw_24 hP hD hS => ?_)
  obtain ⟨zI_26, zJ_27⟩ := u_25
  have k_zI_26 : WM [1806, 1807, 1819, 10300, 10400, 10500, 10600, 10700, 10800] AL zT zR zI_12 zI_26 := hw_24
  have h_zI_26 : WM [1013, 1014, 1806, 1807, 1819, 3700, 3800, 3900, 4000, 4200, 4700, 10300, 10400, 10500, 10600, 10700, 10800] AL zT zR zI zI_26 := h_zI_12.tr k_zI_26 (by decide) (fun _ _ => trivial)
  have j_zI_26 : JX zR zI_26 zx := JX.sm ps_14 hs t_zx k_zI_26.2 (by decide) (by decide)
  have hk_28 : (zI_26 zy 23).toInt = 0 ∨ ZI (zI_26 (zR zy 24)) := by rw [k_zI_26.2 zy 23 (Or.inl (by rw [t_zy]; decide)), k_zI_26.2.row t_1 (by decide) (by decide)]; exact hk_15
  have hsh_zI_26 : RSH zR zI_26 zx zy := RSH.sm hsh_zI_12 hs t_zx t_zy k_zI_26.2 (by decide)
  have hit_zI_26 : RIT zR zI_26 zx zy := RIT.sm hit_zI_12 hs t_zx t_zy k_zI_26.2 (by decide)
  have hrr_zI_26 : RRn zR zI_26 zx zy := RRn.sm hrr_zI_12 hs t_zx t_zy k_zI_26.2 (by decide) (FQR.of (k_zI_26.2.row t_2 (by decide) (by decide)))
  have hrg_zI_26 : RGn zR zI_26 zy := RGn.sm hrg_zI_12 hs t_zy k_zI_26.2 (by decide) (FQR.of (k_zI_26.2.row t_2 (by decide) (by decide)))
  have h3_zI_26 : R3 zR zI_26 zx zy := R3.sm h3_zI_12 hs t_zx t_zy k_zI_26.2 (by decide) (FQ3.of (k_zI_26.2.row t_2 (by decide) (by decide)))
  refine lv_pop2_2 hx hb dL_law_1375 rfl ?_
  refine lv_goto (tgt := 1785) hx hb dL_law_1376 (by decide) ?_
  have zz_29 : ZI (zI_26 (zR zy 0)) := by rw [(k_zI_26.2.row t_2 (by decide) (by decide))]; exact zz_22
  exact kx _ _ _ _ _ h_zI_26.1 j_zI_26 zz_29 hk_28 h3_zI_26 hrr_zI_26 hsh_zI_26 hit_zI_26 hrg_zI_26 hP hD hS hl
set_option maxHeartbeats 4000000 in
set_option maxRecDepth 100000 in
theorem lw_c29 {p : Program} {l : Launch} {e : Env} {s : State} {m : MethodId} {below : List Frame} {meth : Method} {c : Code} {b L : Nat} {xs : Nat → Int32} {A : Nat → Prop} {Q : State → Prop} (hx : p.tables.exec = Jvm.exec) (hb : c.code = cL_law) (hml : c.maxLocals = 4) (hown : s.vm.findClass RL = some m.cls) (hts : ∀ w ∈ wsL_law, w.before #[Value.ref b] s = true) (hX : va_X b L xs s s.heap) (hbl : b < s.heap.size) (hbA : ¬ A b) (hA : ∀ q : Nat, s.heap.size ≤ q → A q) (hL : L ≤ 3072) (dC : Nat → ClassId) (dI : Nat → Nat → Nat) (cy : Nat → ClassId) (zL : List Nat) (zT : Nat → Nat) (zR : Nat → Nat → Nat) (zI : Nat → Nat → Int32) (zJ : Nat → Nat → Int64) (zx zy : Nat) (zi9 : Int32) (hs : SKP zL zT zR) (hw : WT zT zR zI) (t_zx : zT zx = 11) (t_zy : zT zy = 18) (hj : JX zR zI zx) (hz : ZI (zI (zR zy 0))) (hk : (zI zy 23).toInt = 0 ∨ ZI (zI (zR zy 24))) (h3 : R3 zR zI zx zy) (hrr : RRn zR zI zx zy) (hsh : RSH zR zI zx zy) (hit : RIT zR zI zx zy) (hrg : RGn zR zI zy) (hK : va_K (dC, dI) vwCl (TY cy) s) (hN : N0 s) (b_zi9 : 0 ≤ zi9.toInt ∧ zi9.toInt ≤ 3066) (hi1 : zi9.toInt + 6 ≤ (L : Int))
    (kx : ∀ (zI2 : Nat → Nat → Int32) (zJ2 : Nat → Nat → Int64) (H : Heap) (locs : List Loc) (ls : Array Slot), WT zT zR zI2 → JX zR zI2 zx → ZI (zI2 (zR zy 0)) → ((zI2 zy 23).toInt = 0 ∨ ZI (zI2 (zR zy 24))) → (R3 zR zI2 zx zy) → (RRn zR zI2 zx zy) → (RSH zR zI2 zx zy) → (RIT zR zI2 zx zy) → (RGn zR zI2 zy) → va_P (dC, dI) vwCl (WL cy zL zT zR zI2 zJ2) H → va_D A (WL cy zL zT zR zI2 zJ2) → va_S A s.heap H locs → lv_has ls 4 [(0, .ref b), (1, .ref zx), (2, .ref zy), (3, .int zi9)] → W p l e room_1 s m #[Value.ref b] below meth c H locs 265 67857 Q (F0 m 1785 ls []))
    {H : Heap} {locs : List Loc} {ls : Array Slot} (hP : va_P (dC, dI) vwCl (WL cy zL zT zR zI zJ) H) (hD : va_D A (WL cy zL zT zR zI zJ)) (hS : va_S A s.heap H locs) (hl : lv_has ls 4 [(0, .ref b), (1, .ref zx), (2, .ref zy), (3, .int zi9)]) : W p l e room_1 s m #[Value.ref b] below meth c H locs 265 67857 Q (F0 m 1379 ls []) := by
  have h_zI : WM [1013, 1014, 1806, 1807, 1819, 3700, 3800, 3900, 4000, 4200, 4700, 10300, 10400, 10500, 10600, 10700, 10800] AL zT zR zI zI := WM.rf hw
  have t_1 : zT (zR zy 24) = 109 := sk_f hs t_zy (by decide) rfl (by decide)
  have t_2 : zT (zR zy 0) = 100 := sk_f hs t_zy (by decide) rfl (by decide)
  refine lv_aload_n hx hb dL_law_1379 rfl (lv_at hl 1 rfl) ?_
  refine lv_aload_n hx hb dL_law_1380 rfl (lv_at hl 0 rfl) ?_
  refine lv_iload_n hx hb dL_law_1381 rfl (lv_at hl 3 rfl) ?_
  refine lv_iconst (v := 1) hx hb dL_law_1382 (by decide) ?_
  refine lv_iadd hx hb dL_law_1383 ?_
  refine lv_topi (fun zi_3 ezi_3 => ?_)
  have tzi_3 : zi_3.toInt = zi9.toInt + (1 : Int) := by rw [ezi_3]; exact tiadd (rfl) (show (1 : Int32).toInt = 1 by decide) (by omega) (by omega)
  refine va_sld hx hb hX hbl hbA hS (vp_in_iff.mpr ⟨by omega, by omega⟩) dL_law_1384 ?_
  refine lv_topi (fun zi_4 ezi_4 => ?_)
  refine hj_l (ws := (WL cy zL zT zR zI zJ)) (w1 := fun (u : (Nat → Nat → Int32) × (Nat → Nat → Int64)) => (WL cy zL zT zR u.1 u.2)) (va_runV (As := [.int zi_4]) (rest := []) ⟨hx, hb, hml, hown, hts⟩ (t_X10_tie l dC dI cy H.size zL zT zR zI zJ zx zi_4 hs h_zI.1 t_zx hj) (cwV 1 hts gL_law_X10_tie rfl rfl rfl (by decide +kernel) ⟨(Nat.le_of_ble_eq_true rfl), (Nat.le_of_ble_eq_true rfl)⟩) (PRE.v hP hK hD hN (ht_recv hK hP hs t_zx (by decide) rfl rfl)) rfl rfl hl.1 rfl (lv_room (Nat.le_of_ble_eq_true rfl)) dL_law_1385 ⟨(Nat.le_of_ble_eq_true rfl), (Nat.le_of_ble_eq_true rfl)⟩) hP hD hS hA (fun zj_5 u_7 H locs hw_6 hP hD hS => ?_)
  obtain ⟨zI_8, zJ_9⟩ := u_7
  obtain ⟨k_zI_8, ps_10⟩ : (WM [1013, 1014, 3700, 3800, 3900, 4000, 4200, 4700] AL zT zR zI zI_8) ∧ (JX zR zI_8 zx) := hw_6
  have h_zI_8 : WM [1013, 1014, 1806, 1807, 1819, 3700, 3800, 3900, 4000, 4200, 4700, 10300, 10400, 10500, 10600, 10700, 10800] AL zT zR zI zI_8 := h_zI.tr k_zI_8 (by decide) (fun _ _ => trivial)
  have hk_11 : (zI_8 zy 23).toInt = 0 ∨ ZI (zI_8 (zR zy 24)) := by rw [k_zI_8.2 zy 23 (Or.inl (by rw [t_zy]; decide)), k_zI_8.2.row t_1 (by decide) (by decide)]; exact hk
  have hsh_zI_8 : RSH zR zI_8 zx zy := RSH.sm hsh hs t_zx t_zy k_zI_8.2 (by decide)
  have hit_zI_8 : RIT zR zI_8 zx zy := RIT.sm hit hs t_zx t_zy k_zI_8.2 (by decide)
  have hrr_zI_8 : RRn zR zI_8 zx zy := RRn.sm hrr hs t_zx t_zy k_zI_8.2 (by decide) (FQR.of (k_zI_8.2.row t_2 (by decide) (by decide)))
  have hrg_zI_8 : RGn zR zI_8 zy := RGn.sm hrg hs t_zy k_zI_8.2 (by decide) (FQR.of (k_zI_8.2.row t_2 (by decide) (by decide)))
  have h3_zI_8 : R3 zR zI_8 zx zy := R3.sm h3 hs t_zx t_zy k_zI_8.2 (by decide) (FQ3.of (k_zI_8.2.row t_2 (by decide) (by decide)))
  refine lv_pop2_2 hx hb dL_law_1388 rfl ?_
  refine lv_aload_n hx hb dL_law_1389 rfl (lv_at hl 2 rfl) ?_
  refine lv_aload_n hx hb dL_law_1390 rfl (lv_at hl 0 rfl) ?_
  refine lv_iload_n hx hb dL_law_1391 rfl (lv_at hl 3 rfl) ?_
  refine lv_iconst (v := 1) hx hb dL_law_1392 (by decide) ?_
  refine lv_iadd hx hb dL_law_1393 ?_
  refine lv_topi (fun zi_12 ezi_12 => ?_)
  have tzi_12 : zi_12.toInt = zi9.toInt + (1 : Int) := by rw [ezi_12]; exact tiadd (rfl) (show (1 : Int32).toInt = 1 by decide) (by omega) (by omega)
  obtain rfl : zi_3 = zi_12 := ezi_3.trans ezi_12.symm
  refine va_sld hx hb hX hbl hbA hS (vp_in_iff.mpr ⟨by omega, by omega⟩) dL_law_1394 ?_
  refine lv_topi (fun zi_13 ezi_13 => ?_)
  obtain rfl : zi_4 = zi_13 := ezi_4.trans ezi_13.symm
  have zz_14 : ZI (zI_8 (zR zy 0)) := by rw [(k_zI_8.2.row t_2 (by decide) (by decide))]; exact hz
  refine hj_l (ws := (WL cy zL zT zR zI_8 zJ_9)) (w1 := fun (u : (Nat → Nat → Int32) × (Nat → Nat → Int64)) => (WL cy zL zT zR u.1 u.2)) (va_runV (As := [.int zi_4]) (rest := []) ⟨hx, hb, hml, hown, hts⟩ (t_X11_tie l dC dI cy H.size zL zT zR zI_8 zJ_9 zy zi_4 hs h_zI_8.1 t_zy zz_14) (cwV 1 hts gL_law_X11_tie rfl rfl rfl (by decide +kernel) ⟨(Nat.le_of_ble_eq_true rfl), (Nat.le_of_ble_eq_true rfl)⟩) (PRE.v hP hK hD hN (ht_recv hK hP hs t_zy (by decide) rfl rfl)) rfl rfl hl.1 rfl (lv_room (Nat.le_of_ble_eq_true rfl)) dL_law_1395 ⟨(Nat.le_of_ble_eq_true rfl), (Nat.le_of_ble_eq_true rfl)⟩) hP hD hS hA (fun zj_15 u_17 H locs hw_16 hP hD hS => ?_)
  obtain ⟨zI_18, zJ_19⟩ := u_17
  have k_zI_18 : WM [1806, 1807, 1819, 10300, 10400, 10500, 10600, 10700, 10800] AL zT zR zI_8 zI_18 := hw_16
  have h_zI_18 : WM [1013, 1014, 1806, 1807, 1819, 3700, 3800, 3900, 4000, 4200, 4700, 10300, 10400, 10500, 10600, 10700, 10800] AL zT zR zI zI_18 := h_zI_8.tr k_zI_18 (by decide) (fun _ _ => trivial)
  have j_zI_18 : JX zR zI_18 zx := JX.sm ps_10 hs t_zx k_zI_18.2 (by decide) (by decide)
  have hk_20 : (zI_18 zy 23).toInt = 0 ∨ ZI (zI_18 (zR zy 24)) := by rw [k_zI_18.2 zy 23 (Or.inl (by rw [t_zy]; decide)), k_zI_18.2.row t_1 (by decide) (by decide)]; exact hk_11
  have hsh_zI_18 : RSH zR zI_18 zx zy := RSH.sm hsh_zI_8 hs t_zx t_zy k_zI_18.2 (by decide)
  have hit_zI_18 : RIT zR zI_18 zx zy := RIT.sm hit_zI_8 hs t_zx t_zy k_zI_18.2 (by decide)
  have hrr_zI_18 : RRn zR zI_18 zx zy := RRn.sm hrr_zI_8 hs t_zx t_zy k_zI_18.2 (by decide) (FQR.of (k_zI_18.2.row t_2 (by decide) (by decide)))
  have hrg_zI_18 : RGn zR zI_18 zy := RGn.sm hrg_zI_8 hs t_zy k_zI_18.2 (by decide) (FQR.of (k_zI_18.2.row t_2 (by decide) (by decide)))
  have h3_zI_18 : R3 zR zI_18 zx zy := R3.sm h3_zI_8 hs t_zx t_zy k_zI_18.2 (by decide) (FQ3.of (k_zI_18.2.row t_2 (by decide) (by decide)))
  refine lv_pop2_2 hx hb dL_law_1398 rfl ?_
  refine lv_goto (tgt := 1785) hx hb dL_law_1399 (by decide) ?_
  have zz_21 : ZI (zI_18 (zR zy 0)) := by rw [(k_zI_18.2.row t_2 (by decide) (by decide))]; exact zz_14
  exact kx _ _ _ _ _ h_zI_18.1 j_zI_18 zz_21 hk_20 h3_zI_18 hrr_zI_18 hsh_zI_18 hit_zI_18 hrg_zI_18 hP hD hS hl
set_option maxHeartbeats 4000000 in
set_option maxRecDepth 100000 in
theorem lw_c30 {p : Program} {l : Launch} {e : Env} {s : State} {m : MethodId} {below : List Frame} {meth : Method} {c : Code} {b L : Nat} {xs : Nat → Int32} {A : Nat → Prop} {Q : State → Prop} (hx : p.tables.exec = Jvm.exec) (hb : c.code = cL_law) (hml : c.maxLocals = 4) (hown : s.vm.findClass RL = some m.cls) (hts : ∀ w ∈ wsL_law, w.before #[Value.ref b] s = true) (hX : va_X b L xs s s.heap) (hbl : b < s.heap.size) (hbA : ¬ A b) (hA : ∀ q : Nat, s.heap.size ≤ q → A q) (hL : L ≤ 3072) (dC : Nat → ClassId) (dI : Nat → Nat → Nat) (cy : Nat → ClassId) (zL : List Nat) (zT : Nat → Nat) (zR : Nat → Nat → Nat) (zI : Nat → Nat → Int32) (zJ : Nat → Nat → Int64) (zx zy : Nat) (zi9 : Int32) (hs : SKP zL zT zR) (hw : WT zT zR zI) (t_zx : zT zx = 11) (t_zy : zT zy = 18) (hj : JX zR zI zx) (hz : ZI (zI (zR zy 0))) (hk : (zI zy 23).toInt = 0 ∨ ZI (zI (zR zy 24))) (h3 : R3 zR zI zx zy) (hrr : RRn zR zI zx zy) (hsh : RSH zR zI zx zy) (hit : RIT zR zI zx zy) (hrg : RGn zR zI zy) (hK : va_K (dC, dI) vwCl (TY cy) s) (hN : N0 s) (b_zi9 : 0 ≤ zi9.toInt ∧ zi9.toInt ≤ 3066) (hi1 : zi9.toInt + 6 ≤ (L : Int))
    (kx : ∀ (zI2 : Nat → Nat → Int32) (zJ2 : Nat → Nat → Int64) (H : Heap) (locs : List Loc) (ls : Array Slot), WT zT zR zI2 → JX zR zI2 zx → ZI (zI2 (zR zy 0)) → ((zI2 zy 23).toInt = 0 ∨ ZI (zI2 (zR zy 24))) → (R3 zR zI2 zx zy) → (RRn zR zI2 zx zy) → (RSH zR zI2 zx zy) → (RIT zR zI2 zx zy) → (RGn zR zI2 zy) → va_P (dC, dI) vwCl (WL cy zL zT zR zI2 zJ2) H → va_D A (WL cy zL zT zR zI2 zJ2) → va_S A s.heap H locs → lv_has ls 4 [(0, .ref b), (1, .ref zx), (2, .ref zy), (3, .int zi9)] → W p l e room_1 s m #[Value.ref b] below meth c H locs 265 67857 Q (F0 m 1785 ls []))
    {H : Heap} {locs : List Loc} {ls : Array Slot} (hP : va_P (dC, dI) vwCl (WL cy zL zT zR zI zJ) H) (hD : va_D A (WL cy zL zT zR zI zJ)) (hS : va_S A s.heap H locs) (hl : lv_has ls 4 [(0, .ref b), (1, .ref zx), (2, .ref zy), (3, .int zi9)]) : W p l e room_1 s m #[Value.ref b] below meth c H locs 265 67857 Q (F0 m 1402 ls []) := by
  have h_zI : WM [206, 207, 701, 702, 703, 907, 1802, 1803, 3100, 3200, 3300, 10000, 10200] AL zT zR zI zI := WM.rf hw
  have t_1 : zT (zR zy 24) = 109 := sk_f hs t_zy (by decide) rfl (by decide)
  have t_2 : zT (zR zy 0) = 100 := sk_f hs t_zy (by decide) rfl (by decide)
  refine lv_aload_n hx hb dL_law_1402 rfl (lv_at hl 1 rfl) ?_
  refine hj_i (ws := (WL cy zL zT zR zI zJ)) (w1 := fun (u : (Nat → Nat → Int32)) => (WL cy zL zT zR u zJ)) (va_runV (As := []) (rest := []) ⟨hx, hb, hml, hown, hts⟩ (t_X10_claim l dC dI cy H.size zL zT zR zI zJ zx hs h_zI.1 t_zx hj) (cwV 0 hts gL_law_X10_claim rfl rfl rfl (by decide +kernel) ⟨(Nat.le_of_ble_eq_true rfl), (Nat.le_of_ble_eq_true rfl)⟩) (PRE.v hP hK hD hN (ht_recv hK hP hs t_zx (by decide) rfl rfl)) rfl rfl hl.1 rfl (lv_room (Nat.le_of_ble_eq_true rfl)) dL_law_1403 ⟨(Nat.le_of_ble_eq_true rfl), (Nat.le_of_ble_eq_true rfl)⟩) hP hD hS hA (fun zi_3 zI_6 H locs hw_4 hP hD hS => ?_)
  obtain ⟨k_zI_6, ps_7⟩ : (WM [206, 207, 701, 702, 703, 907, 3100, 3200, 3300] AL zT zR zI zI_6) ∧ (JX zR zI_6 zx) := hw_4
  have h_zI_6 : WM [206, 207, 701, 702, 703, 907, 1802, 1803, 3100, 3200, 3300, 10000, 10200] AL zT zR zI zI_6 := h_zI.tr k_zI_6 (by decide) (fun _ _ => trivial)
  have hk_8 : (zI_6 zy 23).toInt = 0 ∨ ZI (zI_6 (zR zy 24)) := by rw [k_zI_6.2 zy 23 (Or.inl (by rw [t_zy]; decide)), k_zI_6.2.row t_1 (by decide) (by decide)]; exact hk
  have hsh_zI_6 : RSH zR zI_6 zx zy := RSH.sm hsh hs t_zx t_zy k_zI_6.2 (by decide)
  have hit_zI_6 : RIT zR zI_6 zx zy := RIT.sm hit hs t_zx t_zy k_zI_6.2 (by decide)
  have hrr_zI_6 : RRn zR zI_6 zx zy := RRn.sm hrr hs t_zx t_zy k_zI_6.2 (by decide) (FQR.of (k_zI_6.2.row t_2 (by decide) (by decide)))
  have hrg_zI_6 : RGn zR zI_6 zy := RGn.sm hrg hs t_zy k_zI_6.2 (by decide) (FQR.of (k_zI_6.2.row t_2 (by decide) (by decide)))
  have h3_zI_6 : R3 zR zI_6 zx zy := R3.sm h3 hs t_zx t_zy k_zI_6.2 (by decide) (FQ3.of (k_zI_6.2.row t_2 (by decide) (by decide)))
  have rzi_3 := rng zi_3
  refine lv_pop hx hb dL_law_1406 rfl ?_
  refine lv_aload_n hx hb dL_law_1407 rfl (lv_at hl 2 rfl) ?_
  have zz_9 : ZI (zI_6 (zR zy 0)) := by rw [(k_zI_6.2.row t_2 (by decide) (by decide))]; exact hz
  refine hj_i (ws := (WL cy zL zT zR zI_6 zJ)) (w1 := fun (u : (Nat → Nat → Int32)) => (WL cy zL zT zR u zJ)) (va_runV (As := []) (rest := []) ⟨hx, hb, hml, hown, hts⟩ (t_X11_claim l dC dI cy H.size zL zT zR zI_6 zJ zy hs h_zI_6.1 t_zy zz_9) (cwV 0 hts gL_law_X11_claim rfl rfl rfl (by decide +kernel) ⟨(Nat.le_of_ble_eq_true rfl), (Nat.le_of_ble_eq_true rfl)⟩) (PRE.v hP hK hD hN (ht_recv hK hP hs t_zy (by decide) rfl rfl)) rfl rfl hl.1 rfl (lv_room (Nat.le_of_ble_eq_true rfl)) dL_law_1408 ⟨(Nat.le_of_ble_eq_true rfl), (Nat.le_of_ble_eq_true rfl)⟩) hP hD hS hA (fun zi_10 zI_13 H locs hw_11 hP hD hS => ?_)
  obtain ⟨k_zI_13, b_zi_10, ps_14, ps_15⟩ : (WM [1802, 1803, 10000, 10200] AL zT zR zI_6 zI_13) ∧ ((-100) ≤ zi_10.toInt ∧ zi_10.toInt ≤ 4) ∧ (FQ (zI_6 (zR zy 0)) (zI_13 (zR zy 0))) ∧ (ZI (zI_13 (zR zy 0))) := hw_11
  have h_zI_13 : WM [206, 207, 701, 702, 703, 907, 1802, 1803, 3100, 3200, 3300, 10000, 10200] AL zT zR zI zI_13 := h_zI_6.tr k_zI_13 (by decide) (fun _ _ => trivial)
  have j_zI_13 : JX zR zI_13 zx := JX.sm ps_7 hs t_zx k_zI_13.2 (by decide) (by decide)
  have hk_16 : (zI_13 zy 23).toInt = 0 ∨ ZI (zI_13 (zR zy 24)) := by rw [k_zI_13.2 zy 23 (Or.inl (by rw [t_zy]; decide)), k_zI_13.2.row t_1 (by decide) (by decide)]; exact hk_8
  have hsh_zI_13 : RSH zR zI_13 zx zy := RSH.sm hsh_zI_6 hs t_zx t_zy k_zI_13.2 (by decide)
  have hit_zI_13 : RIT zR zI_13 zx zy := RIT.sm hit_zI_6 hs t_zx t_zy k_zI_13.2 (by decide)
  have hrr_zI_13 : RRn zR zI_13 zx zy := RRn.sm hrr_zI_6 hs t_zx t_zy k_zI_13.2 (by decide) (FQ.wR ps_14)
  have hrg_zI_13 : RGn zR zI_13 zy := RGn.sm hrg_zI_6 hs t_zy k_zI_13.2 (by decide) (FQ.wR ps_14)
  have h3_zI_13 : R3 zR zI_13 zx zy := R3.sm h3_zI_6 hs t_zx t_zy k_zI_13.2 (by decide) (FQ.w3 ps_14)
  refine lv_pop hx hb dL_law_1411 rfl ?_
  refine lv_goto (tgt := 1785) hx hb dL_law_1412 (by decide) ?_
  exact kx _ _ _ _ _ h_zI_13.1 j_zI_13 ps_15 hk_16 h3_zI_13 hrr_zI_13 hsh_zI_13 hit_zI_13 hrg_zI_13 hP hD hS hl
set_option maxHeartbeats 4000000 in
set_option maxRecDepth 100000 in
theorem lw_c31 {p : Program} {l : Launch} {e : Env} {s : State} {m : MethodId} {below : List Frame} {meth : Method} {c : Code} {b L : Nat} {xs : Nat → Int32} {A : Nat → Prop} {Q : State → Prop} (hx : p.tables.exec = Jvm.exec) (hb : c.code = cL_law) (hml : c.maxLocals = 4) (hown : s.vm.findClass RL = some m.cls) (hts : ∀ w ∈ wsL_law, w.before #[Value.ref b] s = true) (hX : va_X b L xs s s.heap) (hbl : b < s.heap.size) (hbA : ¬ A b) (hA : ∀ q : Nat, s.heap.size ≤ q → A q) (hL : L ≤ 3072) (dC : Nat → ClassId) (dI : Nat → Nat → Nat) (cy : Nat → ClassId) (zL : List Nat) (zT : Nat → Nat) (zR : Nat → Nat → Nat) (zI : Nat → Nat → Int32) (zJ : Nat → Nat → Int64) (zx zy : Nat) (zi9 : Int32) (hs : SKP zL zT zR) (hw : WT zT zR zI) (t_zx : zT zx = 11) (t_zy : zT zy = 18) (hj : JX zR zI zx) (hz : ZI (zI (zR zy 0))) (hk : (zI zy 23).toInt = 0 ∨ ZI (zI (zR zy 24))) (h3 : R3 zR zI zx zy) (hrr : RRn zR zI zx zy) (hsh : RSH zR zI zx zy) (hit : RIT zR zI zx zy) (hrg : RGn zR zI zy) (hK : va_K (dC, dI) vwCl (TY cy) s) (hN : N0 s) (b_zi9 : 0 ≤ zi9.toInt ∧ zi9.toInt ≤ 3066) (hi1 : zi9.toInt + 6 ≤ (L : Int))
    (kx : ∀ (zI2 : Nat → Nat → Int32) (zJ2 : Nat → Nat → Int64) (H : Heap) (locs : List Loc) (ls : Array Slot), WT zT zR zI2 → JX zR zI2 zx → ZI (zI2 (zR zy 0)) → ((zI2 zy 23).toInt = 0 ∨ ZI (zI2 (zR zy 24))) → (R3 zR zI2 zx zy) → (RRn zR zI2 zx zy) → (RSH zR zI2 zx zy) → (RIT zR zI2 zx zy) → (RGn zR zI2 zy) → va_P (dC, dI) vwCl (WL cy zL zT zR zI2 zJ2) H → va_D A (WL cy zL zT zR zI2 zJ2) → va_S A s.heap H locs → lv_has ls 4 [(0, .ref b), (1, .ref zx), (2, .ref zy), (3, .int zi9)] → W p l e room_1 s m #[Value.ref b] below meth c H locs 265 67857 Q (F0 m 1785 ls []))
    {H : Heap} {locs : List Loc} {ls : Array Slot} (hP : va_P (dC, dI) vwCl (WL cy zL zT zR zI zJ) H) (hD : va_D A (WL cy zL zT zR zI zJ)) (hS : va_S A s.heap H locs) (hl : lv_has ls 4 [(0, .ref b), (1, .ref zx), (2, .ref zy), (3, .int zi9)]) : W p l e room_1 s m #[Value.ref b] below meth c H locs 265 67857 Q (F0 m 1415 ls []) := by
  have h_zI : WM [607, 608, 1013, 1014, 1806, 1807, 3700, 3800, 3900, 4000, 4200, 4400, 4500, 4600, 4700, 10300, 10400, 10500, 10600, 10700] AL zT zR zI zI := WM.rf hw
  have t_1 : zT (zR zy 24) = 109 := sk_f hs t_zy (by decide) rfl (by decide)
  have t_2 : zT (zR zy 0) = 100 := sk_f hs t_zy (by decide) rfl (by decide)
  refine lv_aload_n hx hb dL_law_1415 rfl (lv_at hl 1 rfl) ?_
  refine lv_aload_n hx hb dL_law_1416 rfl (lv_at hl 0 rfl) ?_
  refine lv_iload_n hx hb dL_law_1417 rfl (lv_at hl 3 rfl) ?_
  refine lv_iconst (v := 1) hx hb dL_law_1418 (by decide) ?_
  refine lv_iadd hx hb dL_law_1419 ?_
  refine lv_topi (fun zi_3 ezi_3 => ?_)
  have tzi_3 : zi_3.toInt = zi9.toInt + (1 : Int) := by rw [ezi_3]; exact tiadd (rfl) (show (1 : Int32).toInt = 1 by decide) (by omega) (by omega)
  refine va_sld hx hb hX hbl hbA hS (vp_in_iff.mpr ⟨by omega, by omega⟩) dL_law_1420 ?_
  refine lv_topi (fun zi_4 ezi_4 => ?_)
  refine lv_aload_n hx hb dL_law_1421 rfl (lv_at hl 0 rfl) ?_
  refine lv_iload_n hx hb dL_law_1422 rfl (lv_at hl 3 rfl) ?_
  refine lv_iconst (v := 2) hx hb dL_law_1423 (by decide) ?_
  refine lv_iadd hx hb dL_law_1424 ?_
  refine lv_topi (fun zi_5 ezi_5 => ?_)
  have tzi_5 : zi_5.toInt = zi9.toInt + (2 : Int) := by rw [ezi_5]; exact tiadd (rfl) (show (2 : Int32).toInt = 2 by decide) (by omega) (by omega)
  refine va_sld hx hb hX hbl hbA hS (vp_in_iff.mpr ⟨by omega, by omega⟩) dL_law_1425 ?_
  refine lv_topi (fun zi_6 ezi_6 => ?_)
  refine lv_aload_n hx hb dL_law_1426 rfl (lv_at hl 0 rfl) ?_
  refine lv_iload_n hx hb dL_law_1427 rfl (lv_at hl 3 rfl) ?_
  refine lv_iconst (v := 3) hx hb dL_law_1428 (by decide) ?_
  refine lv_iadd hx hb dL_law_1429 ?_
  refine lv_topi (fun zi_7 ezi_7 => ?_)
  have tzi_7 : zi_7.toInt = zi9.toInt + (3 : Int) := by rw [ezi_7]; exact tiadd (rfl) (show (3 : Int32).toInt = 3 by decide) (by omega) (by omega)
  refine va_sld hx hb hX hbl hbA hS (vp_in_iff.mpr ⟨by omega, by omega⟩) dL_law_1430 ?_
  refine lv_topi (fun zi_8 ezi_8 => ?_)
  refine hj_l (ws := (WL cy zL zT zR zI zJ)) (w1 := fun (u : (Nat → Nat → Int32) × (Nat → Nat → Int64)) => (WL cy zL zT zR u.1 u.2)) (va_runV (As := [.int zi_4, .int zi_6, .int zi_8]) (rest := []) ⟨hx, hb, hml, hown, hts⟩ (t_X10_chance l dC dI cy H.size zL zT zR zI zJ zx zi_4 zi_6 zi_8 hs h_zI.1 t_zx hj) (cwV 3 hts gL_law_X10_chance rfl rfl rfl (by decide +kernel) ⟨(Nat.le_of_ble_eq_true rfl), (Nat.le_of_ble_eq_true rfl)⟩) (PRE.v hP hK hD hN (ht_recv hK hP hs t_zx (by decide) rfl rfl)) rfl rfl hl.1 rfl (lv_room (Nat.le_of_ble_eq_true rfl)) dL_law_1431 ⟨(Nat.le_of_ble_eq_true rfl), (Nat.le_of_ble_eq_true rfl)⟩) hP hD hS hA (fun zj_9 u_11 H locs hw_10 hP hD hS => ?_)
  obtain ⟨zI_12, zJ_13⟩ := u_11
  obtain ⟨k_zI_12, ps_14⟩ : (WM [607, 608, 1013, 1014, 3700, 3800, 3900, 4000, 4200, 4400, 4500, 4600, 4700] AL zT zR zI zI_12) ∧ (JX zR zI_12 zx) := hw_10
  have h_zI_12 : WM [607, 608, 1013, 1014, 1806, 1807, 3700, 3800, 3900, 4000, 4200, 4400, 4500, 4600, 4700, 10300, 10400, 10500, 10600, 10700] AL zT zR zI zI_12 := h_zI.tr k_zI_12 (by decide) (fun _ _ => trivial)
  have hk_15 : (zI_12 zy 23).toInt = 0 ∨ ZI (zI_12 (zR zy 24)) := by rw [k_zI_12.2 zy 23 (Or.inl (by rw [t_zy]; decide)), k_zI_12.2.row t_1 (by decide) (by decide)]; exact hk
  have hsh_zI_12 : RSH zR zI_12 zx zy := RSH.sm hsh hs t_zx t_zy k_zI_12.2 (by decide)
  have hit_zI_12 : RIT zR zI_12 zx zy := RIT.sm hit hs t_zx t_zy k_zI_12.2 (by decide)
  have hrr_zI_12 : RRn zR zI_12 zx zy := RRn.sm hrr hs t_zx t_zy k_zI_12.2 (by decide) (FQR.of (k_zI_12.2.row t_2 (by decide) (by decide)))
  have hrg_zI_12 : RGn zR zI_12 zy := RGn.sm hrg hs t_zy k_zI_12.2 (by decide) (FQR.of (k_zI_12.2.row t_2 (by decide) (by decide)))
  have h3_zI_12 : R3 zR zI_12 zx zy := R3.sm h3 hs t_zx t_zy k_zI_12.2 (by decide) (FQ3.of (k_zI_12.2.row t_2 (by decide) (by decide)))
  refine lv_pop2_2 hx hb dL_law_1434 rfl ?_
  refine lv_aload_n hx hb dL_law_1435 rfl (lv_at hl 2 rfl) ?_
  refine lv_aload_n hx hb dL_law_1436 rfl (lv_at hl 0 rfl) ?_
  refine lv_iload_n hx hb dL_law_1437 rfl (lv_at hl 3 rfl) ?_
  refine lv_iconst (v := 1) hx hb dL_law_1438 (by decide) ?_
  refine lv_iadd hx hb dL_law_1439 ?_
  refine lv_topi (fun zi_16 ezi_16 => ?_)
  have tzi_16 : zi_16.toInt = zi9.toInt + (1 : Int) := by rw [ezi_16]; exact tiadd (rfl) (show (1 : Int32).toInt = 1 by decide) (by omega) (by omega)
  obtain rfl : zi_3 = zi_16 := ezi_3.trans ezi_16.symm
  refine va_sld hx hb hX hbl hbA hS (vp_in_iff.mpr ⟨by omega, by omega⟩) dL_law_1440 ?_
  refine lv_topi (fun zi_17 ezi_17 => ?_)
  obtain rfl : zi_4 = zi_17 := ezi_4.trans ezi_17.symm
  refine lv_aload_n hx hb dL_law_1441 rfl (lv_at hl 0 rfl) ?_
  refine lv_iload_n hx hb dL_law_1442 rfl (lv_at hl 3 rfl) ?_
  refine lv_iconst (v := 2) hx hb dL_law_1443 (by decide) ?_
  refine lv_iadd hx hb dL_law_1444 ?_
  refine lv_topi (fun zi_18 ezi_18 => ?_)
  have tzi_18 : zi_18.toInt = zi9.toInt + (2 : Int) := by rw [ezi_18]; exact tiadd (rfl) (show (2 : Int32).toInt = 2 by decide) (by omega) (by omega)
  obtain rfl : zi_5 = zi_18 := ezi_5.trans ezi_18.symm
  refine va_sld hx hb hX hbl hbA hS (vp_in_iff.mpr ⟨by omega, by omega⟩) dL_law_1445 ?_
  refine lv_topi (fun zi_19 ezi_19 => ?_)
  obtain rfl : zi_6 = zi_19 := ezi_6.trans ezi_19.symm
  refine lv_aload_n hx hb dL_law_1446 rfl (lv_at hl 0 rfl) ?_
  refine lv_iload_n hx hb dL_law_1447 rfl (lv_at hl 3 rfl) ?_
  refine lv_iconst (v := 3) hx hb dL_law_1448 (by decide) ?_
  refine lv_iadd hx hb dL_law_1449 ?_
  refine lv_topi (fun zi_20 ezi_20 => ?_)
  have tzi_20 : zi_20.toInt = zi9.toInt + (3 : Int) := by rw [ezi_20]; exact tiadd (rfl) (show (3 : Int32).toInt = 3 by decide) (by omega) (by omega)
  obtain rfl : zi_7 = zi_20 := ezi_7.trans ezi_20.symm
  refine va_sld hx hb hX hbl hbA hS (vp_in_iff.mpr ⟨by omega, by omega⟩) dL_law_1450 ?_
  refine lv_topi (fun zi_21 ezi_21 => ?_)
  obtain rfl : zi_8 = zi_21 := ezi_8.trans ezi_21.symm
  have zz_22 : ZI (zI_12 (zR zy 0)) := by rw [(k_zI_12.2.row t_2 (by decide) (by decide))]; exact hz
  refine hj_l (ws := (WL cy zL zT zR zI_12 zJ_13)) (w1 := fun (u : (Nat → Nat → Int32) × (Nat → Nat → Int64)) => (WL cy zL zT zR u.1 u.2)) (va_runV (As := [.int zi_4, .int zi_6, .int zi_8]) (rest := []) ⟨hx, hb, hml, hown, hts⟩ (t_X11_chance l dC dI cy H.size zL zT zR zI_12 zJ_13 zy zi_4 zi_6 zi_8 hs h_zI_12.1 t_zy zz_22) (cwV 3 hts gL_law_X11_chance rfl rfl rfl (by decide +kernel) ⟨(Nat.le_of_ble_eq_true rfl), (Nat.le_of_ble_eq_true rfl)⟩) (PRE.v hP hK hD hN (ht_recv hK hP hs t_zy (by decide) rfl rfl)) rfl rfl hl.1 rfl (lv_room (Nat.le_of_ble_eq_true rfl)) dL_law_1451 ⟨(Nat.le_of_ble_eq_true rfl), (Nat.le_of_ble_eq_true rfl)⟩) hP hD hS hA (fun zj_23 u_25 H locs hw_24 hP hD hS => ?_)
  obtain ⟨zI_26, zJ_27⟩ := u_25
  have k_zI_26 : WM [1806, 1807, 10300, 10400, 10500, 10600, 10700] AL zT zR zI_12 zI_26 := hw_24
  have h_zI_26 : WM [607, 608, 1013, 1014, 1806, 1807, 3700, 3800, 3900, 4000, 4200, 4400, 4500, 4600, 4700, 10300, 10400, 10500, 10600, 10700] AL zT zR zI zI_26 := h_zI_12.tr k_zI_26 (by decide) (fun _ _ => trivial)
  have j_zI_26 : JX zR zI_26 zx := JX.sm ps_14 hs t_zx k_zI_26.2 (by decide) (by decide)
  have hk_28 : (zI_26 zy 23).toInt = 0 ∨ ZI (zI_26 (zR zy 24)) := by rw [k_zI_26.2 zy 23 (Or.inl (by rw [t_zy]; decide)), k_zI_26.2.row t_1 (by decide) (by decide)]; exact hk_15
  have hsh_zI_26 : RSH zR zI_26 zx zy := RSH.sm hsh_zI_12 hs t_zx t_zy k_zI_26.2 (by decide)
  have hit_zI_26 : RIT zR zI_26 zx zy := RIT.sm hit_zI_12 hs t_zx t_zy k_zI_26.2 (by decide)
  have hrr_zI_26 : RRn zR zI_26 zx zy := RRn.sm hrr_zI_12 hs t_zx t_zy k_zI_26.2 (by decide) (FQR.of (k_zI_26.2.row t_2 (by decide) (by decide)))
  have hrg_zI_26 : RGn zR zI_26 zy := RGn.sm hrg_zI_12 hs t_zy k_zI_26.2 (by decide) (FQR.of (k_zI_26.2.row t_2 (by decide) (by decide)))
  have h3_zI_26 : R3 zR zI_26 zx zy := R3.sm h3_zI_12 hs t_zx t_zy k_zI_26.2 (by decide) (FQ3.of (k_zI_26.2.row t_2 (by decide) (by decide)))
  refine lv_pop2_2 hx hb dL_law_1454 rfl ?_
  refine lv_goto (tgt := 1785) hx hb dL_law_1455 (by decide) ?_
  have zz_29 : ZI (zI_26 (zR zy 0)) := by rw [(k_zI_26.2.row t_2 (by decide) (by decide))]; exact zz_22
  exact kx _ _ _ _ _ h_zI_26.1 j_zI_26 zz_29 hk_28 h3_zI_26 hrr_zI_26 hsh_zI_26 hit_zI_26 hrg_zI_26 hP hD hS hl
set_option maxHeartbeats 4000000 in
set_option maxRecDepth 100000 in
theorem lw_c32 {p : Program} {l : Launch} {e : Env} {s : State} {m : MethodId} {below : List Frame} {meth : Method} {c : Code} {b L : Nat} {xs : Nat → Int32} {A : Nat → Prop} {Q : State → Prop} (hx : p.tables.exec = Jvm.exec) (hb : c.code = cL_law) (hml : c.maxLocals = 4) (hown : s.vm.findClass RL = some m.cls) (hts : ∀ w ∈ wsL_law, w.before #[Value.ref b] s = true) (hX : va_X b L xs s s.heap) (hbl : b < s.heap.size) (hbA : ¬ A b) (hA : ∀ q : Nat, s.heap.size ≤ q → A q) (hL : L ≤ 3072) (dC : Nat → ClassId) (dI : Nat → Nat → Nat) (cy : Nat → ClassId) (zL : List Nat) (zT : Nat → Nat) (zR : Nat → Nat → Nat) (zI : Nat → Nat → Int32) (zJ : Nat → Nat → Int64) (zx zy : Nat) (zi9 : Int32) (hs : SKP zL zT zR) (hw : WT zT zR zI) (t_zx : zT zx = 11) (t_zy : zT zy = 18) (hj : JX zR zI zx) (hz : ZI (zI (zR zy 0))) (hk : (zI zy 23).toInt = 0 ∨ ZI (zI (zR zy 24))) (h3 : R3 zR zI zx zy) (hrr : RRn zR zI zx zy) (hsh : RSH zR zI zx zy) (hit : RIT zR zI zx zy) (hrg : RGn zR zI zy) (hK : va_K (dC, dI) vwCl (TY cy) s) (hN : N0 s) (b_zi9 : 0 ≤ zi9.toInt ∧ zi9.toInt ≤ 3066) (hi1 : zi9.toInt + 6 ≤ (L : Int))
    (kx : ∀ (zI2 : Nat → Nat → Int32) (zJ2 : Nat → Nat → Int64) (H : Heap) (locs : List Loc) (ls : Array Slot), WT zT zR zI2 → JX zR zI2 zx → ZI (zI2 (zR zy 0)) → ((zI2 zy 23).toInt = 0 ∨ ZI (zI2 (zR zy 24))) → (R3 zR zI2 zx zy) → (RRn zR zI2 zx zy) → (RSH zR zI2 zx zy) → (RIT zR zI2 zx zy) → (RGn zR zI2 zy) → va_P (dC, dI) vwCl (WL cy zL zT zR zI2 zJ2) H → va_D A (WL cy zL zT zR zI2 zJ2) → va_S A s.heap H locs → lv_has ls 4 [(0, .ref b), (1, .ref zx), (2, .ref zy), (3, .int zi9)] → W p l e room_1 s m #[Value.ref b] below meth c H locs 265 67857 Q (F0 m 1785 ls []))
    {H : Heap} {locs : List Loc} {ls : Array Slot} (hP : va_P (dC, dI) vwCl (WL cy zL zT zR zI zJ) H) (hD : va_D A (WL cy zL zT zR zI zJ)) (hS : va_S A s.heap H locs) (hl : lv_has ls 4 [(0, .ref b), (1, .ref zx), (2, .ref zy), (3, .int zi9)]) : W p l e room_1 s m #[Value.ref b] below meth c H locs 265 67857 Q (F0 m 1458 ls []) := by
  have h_zI : WM [] AL zT zR zI zI := WM.rf hw
  have t_1 : zT (zR zy 24) = 109 := sk_f hs t_zy (by decide) rfl (by decide)
  have t_2 : zT (zR zy 0) = 100 := sk_f hs t_zy (by decide) rfl (by decide)
  refine lv_aload_n hx hb dL_law_1458 rfl (lv_at hl 1 rfl) ?_
  refine lv_aload_n hx hb dL_law_1459 rfl (lv_at hl 0 rfl) ?_
  refine lv_iload_n hx hb dL_law_1460 rfl (lv_at hl 3 rfl) ?_
  refine lv_iconst (v := 1) hx hb dL_law_1461 (by decide) ?_
  refine lv_iadd hx hb dL_law_1462 ?_
  refine lv_topi (fun zi_3 ezi_3 => ?_)
  have tzi_3 : zi_3.toInt = zi9.toInt + (1 : Int) := by rw [ezi_3]; exact tiadd (rfl) (show (1 : Int32).toInt = 1 by decide) (by omega) (by omega)
  refine va_sld hx hb hX hbl hbA hS (vp_in_iff.mpr ⟨by omega, by omega⟩) dL_law_1463 ?_
  refine lv_topi (fun zi_4 ezi_4 => ?_)
  refine lv_aload_n hx hb dL_law_1464 rfl (lv_at hl 0 rfl) ?_
  refine lv_iload_n hx hb dL_law_1465 rfl (lv_at hl 3 rfl) ?_
  refine lv_iconst (v := 2) hx hb dL_law_1466 (by decide) ?_
  refine lv_iadd hx hb dL_law_1467 ?_
  refine lv_topi (fun zi_5 ezi_5 => ?_)
  have tzi_5 : zi_5.toInt = zi9.toInt + (2 : Int) := by rw [ezi_5]; exact tiadd (rfl) (show (2 : Int32).toInt = 2 by decide) (by omega) (by omega)
  refine va_sld hx hb hX hbl hbA hS (vp_in_iff.mpr ⟨by omega, by omega⟩) dL_law_1468 ?_
  refine lv_topi (fun zi_6 ezi_6 => ?_)
  refine hj_i (ws := (WL cy zL zT zR zI zJ)) (w1 := fun (u : Unit) => (WL cy zL zT zR zI zJ)) (va_runV (As := [.int zi_4, .int zi_6]) (rest := []) ⟨hx, hb, hml, hown, hts⟩ (t_X10_holds l dC dI cy H.size zL zT zR zI zJ zx zi_4 zi_6 hs h_zI.1 t_zx hj) (cwV 2 hts gL_law_X10_holds rfl rfl rfl (by decide +kernel) ⟨(Nat.le_of_ble_eq_true rfl), (Nat.le_of_ble_eq_true rfl)⟩) (PRE.v hP hK hD hN (ht_recv hK hP hs t_zx (by decide) rfl rfl)) rfl rfl hl.1 rfl (lv_room (Nat.le_of_ble_eq_true rfl)) dL_law_1469 ⟨(Nat.le_of_ble_eq_true rfl), (Nat.le_of_ble_eq_true rfl)⟩) hP hD hS hA (fun zi_7 u_9 H locs hw_8 hP hD hS => ?_)
  obtain ⟨b_zi_7, ps_10⟩ : ((-2) ≤ zi_7.toInt ∧ zi_7.toInt ≤ 1) ∧ (JX zR zI zx) := hw_8
  refine lv_pop hx hb dL_law_1472 rfl ?_
  refine lv_aload_n hx hb dL_law_1473 rfl (lv_at hl 2 rfl) ?_
  refine lv_aload_n hx hb dL_law_1474 rfl (lv_at hl 0 rfl) ?_
  refine lv_iload_n hx hb dL_law_1475 rfl (lv_at hl 3 rfl) ?_
  refine lv_iconst (v := 1) hx hb dL_law_1476 (by decide) ?_
  refine lv_iadd hx hb dL_law_1477 ?_
  refine lv_topi (fun zi_11 ezi_11 => ?_)
  have tzi_11 : zi_11.toInt = zi9.toInt + (1 : Int) := by rw [ezi_11]; exact tiadd (rfl) (show (1 : Int32).toInt = 1 by decide) (by omega) (by omega)
  obtain rfl : zi_3 = zi_11 := ezi_3.trans ezi_11.symm
  refine va_sld hx hb hX hbl hbA hS (vp_in_iff.mpr ⟨by omega, by omega⟩) dL_law_1478 ?_
  refine lv_topi (fun zi_12 ezi_12 => ?_)
  obtain rfl : zi_4 = zi_12 := ezi_4.trans ezi_12.symm
  refine lv_aload_n hx hb dL_law_1479 rfl (lv_at hl 0 rfl) ?_
  refine lv_iload_n hx hb dL_law_1480 rfl (lv_at hl 3 rfl) ?_
  refine lv_iconst (v := 2) hx hb dL_law_1481 (by decide) ?_
  refine lv_iadd hx hb dL_law_1482 ?_
  refine lv_topi (fun zi_13 ezi_13 => ?_)
  have tzi_13 : zi_13.toInt = zi9.toInt + (2 : Int) := by rw [ezi_13]; exact tiadd (rfl) (show (2 : Int32).toInt = 2 by decide) (by omega) (by omega)
  obtain rfl : zi_5 = zi_13 := ezi_5.trans ezi_13.symm
  refine va_sld hx hb hX hbl hbA hS (vp_in_iff.mpr ⟨by omega, by omega⟩) dL_law_1483 ?_
  refine lv_topi (fun zi_14 ezi_14 => ?_)
  obtain rfl : zi_6 = zi_14 := ezi_6.trans ezi_14.symm
  refine hj_i (ws := (WL cy zL zT zR zI zJ)) (w1 := fun (u : Unit) => (WL cy zL zT zR zI zJ)) (va_runV (As := [.int zi_4, .int zi_6]) (rest := []) ⟨hx, hb, hml, hown, hts⟩ (t_X11_holds l dC dI cy H.size zL zT zR zI zJ zy zi_4 zi_6 hs h_zI.1 t_zy hz) (cwV 2 hts gL_law_X11_holds rfl rfl rfl (by decide +kernel) ⟨(Nat.le_of_ble_eq_true rfl), (Nat.le_of_ble_eq_true rfl)⟩) (PRE.v hP hK hD hN (ht_recv hK hP hs t_zy (by decide) rfl rfl)) rfl rfl hl.1 rfl (lv_room (Nat.le_of_ble_eq_true rfl)) dL_law_1484 ⟨(Nat.le_of_ble_eq_true rfl), (Nat.le_of_ble_eq_true rfl)⟩) hP hD hS hA (fun zi_15 u_17 H locs hw_16 hP hD hS => ?_)
  have b_zi_15 : (-2) ≤ zi_15.toInt ∧ zi_15.toInt ≤ 1 := hw_16
  refine lv_pop hx hb dL_law_1487 rfl ?_
  refine lv_goto (tgt := 1785) hx hb dL_law_1488 (by decide) ?_
  exact kx _ _ _ _ _ h_zI.1 ps_10 hz hk h3 hrr hsh hit hrg hP hD hS hl
set_option maxHeartbeats 4000000 in
set_option maxRecDepth 100000 in
theorem lw_c33 {p : Program} {l : Launch} {e : Env} {s : State} {m : MethodId} {below : List Frame} {meth : Method} {c : Code} {b L : Nat} {xs : Nat → Int32} {A : Nat → Prop} {Q : State → Prop} (hx : p.tables.exec = Jvm.exec) (hb : c.code = cL_law) (hml : c.maxLocals = 4) (hown : s.vm.findClass RL = some m.cls) (hts : ∀ w ∈ wsL_law, w.before #[Value.ref b] s = true) (hX : va_X b L xs s s.heap) (hbl : b < s.heap.size) (hbA : ¬ A b) (hA : ∀ q : Nat, s.heap.size ≤ q → A q) (hL : L ≤ 3072) (dC : Nat → ClassId) (dI : Nat → Nat → Nat) (cy : Nat → ClassId) (zL : List Nat) (zT : Nat → Nat) (zR : Nat → Nat → Nat) (zI : Nat → Nat → Int32) (zJ : Nat → Nat → Int64) (zx zy : Nat) (zi9 : Int32) (hs : SKP zL zT zR) (hw : WT zT zR zI) (t_zx : zT zx = 11) (t_zy : zT zy = 18) (hj : JX zR zI zx) (hz : ZI (zI (zR zy 0))) (hk : (zI zy 23).toInt = 0 ∨ ZI (zI (zR zy 24))) (h3 : R3 zR zI zx zy) (hrr : RRn zR zI zx zy) (hsh : RSH zR zI zx zy) (hit : RIT zR zI zx zy) (hrg : RGn zR zI zy) (hK : va_K (dC, dI) vwCl (TY cy) s) (hN : N0 s) (b_zi9 : 0 ≤ zi9.toInt ∧ zi9.toInt ≤ 3066) (hi1 : zi9.toInt + 6 ≤ (L : Int))
    (kx : ∀ (zI2 : Nat → Nat → Int32) (zJ2 : Nat → Nat → Int64) (H : Heap) (locs : List Loc) (ls : Array Slot), WT zT zR zI2 → JX zR zI2 zx → ZI (zI2 (zR zy 0)) → ((zI2 zy 23).toInt = 0 ∨ ZI (zI2 (zR zy 24))) → (R3 zR zI2 zx zy) → (RRn zR zI2 zx zy) → (RSH zR zI2 zx zy) → (RIT zR zI2 zx zy) → (RGn zR zI2 zy) → va_P (dC, dI) vwCl (WL cy zL zT zR zI2 zJ2) H → va_D A (WL cy zL zT zR zI2 zJ2) → va_S A s.heap H locs → lv_has ls 4 [(0, .ref b), (1, .ref zx), (2, .ref zy), (3, .int zi9)] → W p l e room_1 s m #[Value.ref b] below meth c H locs 265 67857 Q (F0 m 1785 ls []))
    {H : Heap} {locs : List Loc} {ls : Array Slot} (hP : va_P (dC, dI) vwCl (WL cy zL zT zR zI zJ) H) (hD : va_D A (WL cy zL zT zR zI zJ)) (hS : va_S A s.heap H locs) (hl : lv_has ls 4 [(0, .ref b), (1, .ref zx), (2, .ref zy), (3, .int zi9)]) : W p l e room_1 s m #[Value.ref b] below meth c H locs 265 67857 Q (F0 m 1491 ls []) := by
  have h_zI : WM [607, 608, 1013, 1014, 1806, 1807, 3700, 3800, 3900, 4000, 4200, 4400, 4500, 4600, 4700, 10300, 10400, 10500, 10600, 10700] AL zT zR zI zI := WM.rf hw
  have t_1 : zT (zR zy 24) = 109 := sk_f hs t_zy (by decide) rfl (by decide)
  have t_2 : zT (zR zy 0) = 100 := sk_f hs t_zy (by decide) rfl (by decide)
  refine lv_aload_n hx hb dL_law_1491 rfl (lv_at hl 1 rfl) ?_
  refine lv_aload_n hx hb dL_law_1492 rfl (lv_at hl 0 rfl) ?_
  refine lv_iload_n hx hb dL_law_1493 rfl (lv_at hl 3 rfl) ?_
  refine lv_iconst (v := 1) hx hb dL_law_1494 (by decide) ?_
  refine lv_iadd hx hb dL_law_1495 ?_
  refine lv_topi (fun zi_3 ezi_3 => ?_)
  have tzi_3 : zi_3.toInt = zi9.toInt + (1 : Int) := by rw [ezi_3]; exact tiadd (rfl) (show (1 : Int32).toInt = 1 by decide) (by omega) (by omega)
  refine va_sld hx hb hX hbl hbA hS (vp_in_iff.mpr ⟨by omega, by omega⟩) dL_law_1496 ?_
  refine lv_topi (fun zi_4 ezi_4 => ?_)
  refine lv_aload_n hx hb dL_law_1497 rfl (lv_at hl 0 rfl) ?_
  refine lv_iload_n hx hb dL_law_1498 rfl (lv_at hl 3 rfl) ?_
  refine lv_iconst (v := 2) hx hb dL_law_1499 (by decide) ?_
  refine lv_iadd hx hb dL_law_1500 ?_
  refine lv_topi (fun zi_5 ezi_5 => ?_)
  have tzi_5 : zi_5.toInt = zi9.toInt + (2 : Int) := by rw [ezi_5]; exact tiadd (rfl) (show (2 : Int32).toInt = 2 by decide) (by omega) (by omega)
  refine va_sld hx hb hX hbl hbA hS (vp_in_iff.mpr ⟨by omega, by omega⟩) dL_law_1501 ?_
  refine lv_topi (fun zi_6 ezi_6 => ?_)
  refine lv_aload_n hx hb dL_law_1502 rfl (lv_at hl 0 rfl) ?_
  refine lv_iload_n hx hb dL_law_1503 rfl (lv_at hl 3 rfl) ?_
  refine lv_iconst (v := 3) hx hb dL_law_1504 (by decide) ?_
  refine lv_iadd hx hb dL_law_1505 ?_
  refine lv_topi (fun zi_7 ezi_7 => ?_)
  have tzi_7 : zi_7.toInt = zi9.toInt + (3 : Int) := by rw [ezi_7]; exact tiadd (rfl) (show (3 : Int32).toInt = 3 by decide) (by omega) (by omega)
  refine va_sld hx hb hX hbl hbA hS (vp_in_iff.mpr ⟨by omega, by omega⟩) dL_law_1506 ?_
  refine lv_topi (fun zi_8 ezi_8 => ?_)
  refine lv_aload_n hx hb dL_law_1507 rfl (lv_at hl 0 rfl) ?_
  refine lv_iload_n hx hb dL_law_1508 rfl (lv_at hl 3 rfl) ?_
  refine lv_iconst (v := 4) hx hb dL_law_1509 (by decide) ?_
  refine lv_iadd hx hb dL_law_1510 ?_
  refine lv_topi (fun zi_9 ezi_9 => ?_)
  have tzi_9 : zi_9.toInt = zi9.toInt + (4 : Int) := by rw [ezi_9]; exact tiadd (rfl) (show (4 : Int32).toInt = 4 by decide) (by omega) (by omega)
  refine va_sld hx hb hX hbl hbA hS (vp_in_iff.mpr ⟨by omega, by omega⟩) dL_law_1511 ?_
  refine lv_topi (fun zi_10 ezi_10 => ?_)
  refine lv_aload_n hx hb dL_law_1512 rfl (lv_at hl 0 rfl) ?_
  refine lv_iload_n hx hb dL_law_1513 rfl (lv_at hl 3 rfl) ?_
  refine lv_iconst (v := 5) hx hb dL_law_1514 (by decide) ?_
  refine lv_iadd hx hb dL_law_1515 ?_
  refine lv_topi (fun zi_11 ezi_11 => ?_)
  have tzi_11 : zi_11.toInt = zi9.toInt + (5 : Int) := by rw [ezi_11]; exact tiadd (rfl) (show (5 : Int32).toInt = 5 by decide) (by omega) (by omega)
  refine va_sld hx hb hX hbl hbA hS (vp_in_iff.mpr ⟨by omega, by omega⟩) dL_law_1516 ?_
  refine lv_topi (fun zi_12 ezi_12 => ?_)
  refine hj_i (ws := (WL cy zL zT zR zI zJ)) (w1 := fun (u : (Nat → Nat → Int32) × (Nat → Nat → Int64)) => (WL cy zL zT zR u.1 u.2)) (va_runV (As := [.int zi_4, .int zi_6, .int zi_8, .int zi_10, .int zi_12]) (rest := []) ⟨hx, hb, hml, hown, hts⟩ (t_X10_looked l dC dI cy H.size zL zT zR zI zJ zx zi_4 zi_6 zi_8 zi_10 zi_12 hs h_zI.1 t_zx hj) (cwV 5 hts gL_law_X10_looked rfl rfl rfl (by decide +kernel) ⟨(Nat.le_of_ble_eq_true rfl), (Nat.le_of_ble_eq_true rfl)⟩) (PRE.v hP hK hD hN (ht_recv hK hP hs t_zx (by decide) rfl rfl)) rfl rfl hl.1 rfl (lv_room (Nat.le_of_ble_eq_true rfl)) dL_law_1517 ⟨(Nat.le_of_ble_eq_true rfl), (Nat.le_of_ble_eq_true rfl)⟩) hP hD hS hA (fun zi_13 u_15 H locs hw_14 hP hD hS => ?_)
  obtain ⟨zI_16, zJ_17⟩ := u_15
  obtain ⟨k_zI_16, ps_18⟩ : (WM [607, 608, 1013, 1014, 3700, 3800, 3900, 4000, 4200, 4400, 4500, 4600, 4700] AL zT zR zI zI_16) ∧ (JX zR zI_16 zx) := hw_14
  have h_zI_16 : WM [607, 608, 1013, 1014, 1806, 1807, 3700, 3800, 3900, 4000, 4200, 4400, 4500, 4600, 4700, 10300, 10400, 10500, 10600, 10700] AL zT zR zI zI_16 := h_zI.tr k_zI_16 (by decide) (fun _ _ => trivial)
  have hk_19 : (zI_16 zy 23).toInt = 0 ∨ ZI (zI_16 (zR zy 24)) := by rw [k_zI_16.2 zy 23 (Or.inl (by rw [t_zy]; decide)), k_zI_16.2.row t_1 (by decide) (by decide)]; exact hk
  have hsh_zI_16 : RSH zR zI_16 zx zy := RSH.sm hsh hs t_zx t_zy k_zI_16.2 (by decide)
  have hit_zI_16 : RIT zR zI_16 zx zy := RIT.sm hit hs t_zx t_zy k_zI_16.2 (by decide)
  have hrr_zI_16 : RRn zR zI_16 zx zy := RRn.sm hrr hs t_zx t_zy k_zI_16.2 (by decide) (FQR.of (k_zI_16.2.row t_2 (by decide) (by decide)))
  have hrg_zI_16 : RGn zR zI_16 zy := RGn.sm hrg hs t_zy k_zI_16.2 (by decide) (FQR.of (k_zI_16.2.row t_2 (by decide) (by decide)))
  have h3_zI_16 : R3 zR zI_16 zx zy := R3.sm h3 hs t_zx t_zy k_zI_16.2 (by decide) (FQ3.of (k_zI_16.2.row t_2 (by decide) (by decide)))
  have rzi_13 := rng zi_13
  refine lv_pop hx hb dL_law_1520 rfl ?_
  refine lv_aload_n hx hb dL_law_1521 rfl (lv_at hl 2 rfl) ?_
  refine lv_aload_n hx hb dL_law_1522 rfl (lv_at hl 0 rfl) ?_
  refine lv_iload_n hx hb dL_law_1523 rfl (lv_at hl 3 rfl) ?_
  refine lv_iconst (v := 1) hx hb dL_law_1524 (by decide) ?_
  refine lv_iadd hx hb dL_law_1525 ?_
  refine lv_topi (fun zi_20 ezi_20 => ?_)
  have tzi_20 : zi_20.toInt = zi9.toInt + (1 : Int) := by rw [ezi_20]; exact tiadd (rfl) (show (1 : Int32).toInt = 1 by decide) (by omega) (by omega)
  obtain rfl : zi_3 = zi_20 := ezi_3.trans ezi_20.symm
  refine va_sld hx hb hX hbl hbA hS (vp_in_iff.mpr ⟨by omega, by omega⟩) dL_law_1526 ?_
  refine lv_topi (fun zi_21 ezi_21 => ?_)
  obtain rfl : zi_4 = zi_21 := ezi_4.trans ezi_21.symm
  refine lv_aload_n hx hb dL_law_1527 rfl (lv_at hl 0 rfl) ?_
  refine lv_iload_n hx hb dL_law_1528 rfl (lv_at hl 3 rfl) ?_
  refine lv_iconst (v := 2) hx hb dL_law_1529 (by decide) ?_
  refine lv_iadd hx hb dL_law_1530 ?_
  refine lv_topi (fun zi_22 ezi_22 => ?_)
  have tzi_22 : zi_22.toInt = zi9.toInt + (2 : Int) := by rw [ezi_22]; exact tiadd (rfl) (show (2 : Int32).toInt = 2 by decide) (by omega) (by omega)
  obtain rfl : zi_5 = zi_22 := ezi_5.trans ezi_22.symm
  refine va_sld hx hb hX hbl hbA hS (vp_in_iff.mpr ⟨by omega, by omega⟩) dL_law_1531 ?_
  refine lv_topi (fun zi_23 ezi_23 => ?_)
  obtain rfl : zi_6 = zi_23 := ezi_6.trans ezi_23.symm
  refine lv_aload_n hx hb dL_law_1532 rfl (lv_at hl 0 rfl) ?_
  refine lv_iload_n hx hb dL_law_1533 rfl (lv_at hl 3 rfl) ?_
  refine lv_iconst (v := 3) hx hb dL_law_1534 (by decide) ?_
  refine lv_iadd hx hb dL_law_1535 ?_
  refine lv_topi (fun zi_24 ezi_24 => ?_)
  have tzi_24 : zi_24.toInt = zi9.toInt + (3 : Int) := by rw [ezi_24]; exact tiadd (rfl) (show (3 : Int32).toInt = 3 by decide) (by omega) (by omega)
  obtain rfl : zi_7 = zi_24 := ezi_7.trans ezi_24.symm
  refine va_sld hx hb hX hbl hbA hS (vp_in_iff.mpr ⟨by omega, by omega⟩) dL_law_1536 ?_
  refine lv_topi (fun zi_25 ezi_25 => ?_)
  obtain rfl : zi_8 = zi_25 := ezi_8.trans ezi_25.symm
  refine lv_aload_n hx hb dL_law_1537 rfl (lv_at hl 0 rfl) ?_
  refine lv_iload_n hx hb dL_law_1538 rfl (lv_at hl 3 rfl) ?_
  refine lv_iconst (v := 4) hx hb dL_law_1539 (by decide) ?_
  refine lv_iadd hx hb dL_law_1540 ?_
  refine lv_topi (fun zi_26 ezi_26 => ?_)
  have tzi_26 : zi_26.toInt = zi9.toInt + (4 : Int) := by rw [ezi_26]; exact tiadd (rfl) (show (4 : Int32).toInt = 4 by decide) (by omega) (by omega)
  obtain rfl : zi_9 = zi_26 := ezi_9.trans ezi_26.symm
  refine va_sld hx hb hX hbl hbA hS (vp_in_iff.mpr ⟨by omega, by omega⟩) dL_law_1541 ?_
  refine lv_topi (fun zi_27 ezi_27 => ?_)
  obtain rfl : zi_10 = zi_27 := ezi_10.trans ezi_27.symm
  refine lv_aload_n hx hb dL_law_1542 rfl (lv_at hl 0 rfl) ?_
  refine lv_iload_n hx hb dL_law_1543 rfl (lv_at hl 3 rfl) ?_
  refine lv_iconst (v := 5) hx hb dL_law_1544 (by decide) ?_
  refine lv_iadd hx hb dL_law_1545 ?_
  refine lv_topi (fun zi_28 ezi_28 => ?_)
  have tzi_28 : zi_28.toInt = zi9.toInt + (5 : Int) := by rw [ezi_28]; exact tiadd (rfl) (show (5 : Int32).toInt = 5 by decide) (by omega) (by omega)
  obtain rfl : zi_11 = zi_28 := ezi_11.trans ezi_28.symm
  refine va_sld hx hb hX hbl hbA hS (vp_in_iff.mpr ⟨by omega, by omega⟩) dL_law_1546 ?_
  refine lv_topi (fun zi_29 ezi_29 => ?_)
  obtain rfl : zi_12 = zi_29 := ezi_12.trans ezi_29.symm
  have zz_30 : ZI (zI_16 (zR zy 0)) := by rw [(k_zI_16.2.row t_2 (by decide) (by decide))]; exact hz
  refine hj_i (ws := (WL cy zL zT zR zI_16 zJ_17)) (w1 := fun (u : (Nat → Nat → Int32) × (Nat → Nat → Int64)) => (WL cy zL zT zR u.1 u.2)) (va_runV (As := [.int zi_4, .int zi_6, .int zi_8, .int zi_10, .int zi_12]) (rest := []) ⟨hx, hb, hml, hown, hts⟩ (t_X11_looked l dC dI cy H.size zL zT zR zI_16 zJ_17 zy zi_4 zi_6 zi_8 zi_10 zi_12 hs h_zI_16.1 t_zy zz_30) (cwV 5 hts gL_law_X11_looked rfl rfl rfl (by decide +kernel) ⟨(Nat.le_of_ble_eq_true rfl), (Nat.le_of_ble_eq_true rfl)⟩) (PRE.v hP hK hD hN (ht_recv hK hP hs t_zy (by decide) rfl rfl)) rfl rfl hl.1 rfl (lv_room (Nat.le_of_ble_eq_true rfl)) dL_law_1547 ⟨(Nat.le_of_ble_eq_true rfl), (Nat.le_of_ble_eq_true rfl)⟩) hP hD hS hA (fun zi_31 u_33 H locs hw_32 hP hD hS => ?_)
  obtain ⟨zI_34, zJ_35⟩ := u_33
  have k_zI_34 : WM [1806, 1807, 10300, 10400, 10500, 10600, 10700] AL zT zR zI_16 zI_34 := hw_32
  have h_zI_34 : WM [607, 608, 1013, 1014, 1806, 1807, 3700, 3800, 3900, 4000, 4200, 4400, 4500, 4600, 4700, 10300, 10400, 10500, 10600, 10700] AL zT zR zI zI_34 := h_zI_16.tr k_zI_34 (by decide) (fun _ _ => trivial)
  have j_zI_34 : JX zR zI_34 zx := JX.sm ps_18 hs t_zx k_zI_34.2 (by decide) (by decide)
  have hk_36 : (zI_34 zy 23).toInt = 0 ∨ ZI (zI_34 (zR zy 24)) := by rw [k_zI_34.2 zy 23 (Or.inl (by rw [t_zy]; decide)), k_zI_34.2.row t_1 (by decide) (by decide)]; exact hk_19
  have hsh_zI_34 : RSH zR zI_34 zx zy := RSH.sm hsh_zI_16 hs t_zx t_zy k_zI_34.2 (by decide)
  have hit_zI_34 : RIT zR zI_34 zx zy := RIT.sm hit_zI_16 hs t_zx t_zy k_zI_34.2 (by decide)
  have hrr_zI_34 : RRn zR zI_34 zx zy := RRn.sm hrr_zI_16 hs t_zx t_zy k_zI_34.2 (by decide) (FQR.of (k_zI_34.2.row t_2 (by decide) (by decide)))
  have hrg_zI_34 : RGn zR zI_34 zy := RGn.sm hrg_zI_16 hs t_zy k_zI_34.2 (by decide) (FQR.of (k_zI_34.2.row t_2 (by decide) (by decide)))
  have h3_zI_34 : R3 zR zI_34 zx zy := R3.sm h3_zI_16 hs t_zx t_zy k_zI_34.2 (by decide) (FQ3.of (k_zI_34.2.row t_2 (by decide) (by decide)))
  have rzi_31 := rng zi_31
  refine lv_pop hx hb dL_law_1550 rfl ?_
  refine lv_goto (tgt := 1785) hx hb dL_law_1551 (by decide) ?_
  have zz_37 : ZI (zI_34 (zR zy 0)) := by rw [(k_zI_34.2.row t_2 (by decide) (by decide))]; exact zz_30
  exact kx _ _ _ _ _ h_zI_34.1 j_zI_34 zz_37 hk_36 h3_zI_34 hrr_zI_34 hsh_zI_34 hit_zI_34 hrg_zI_34 hP hD hS hl
set_option maxHeartbeats 4000000 in
set_option maxRecDepth 100000 in
theorem lw_c34 {p : Program} {l : Launch} {e : Env} {s : State} {m : MethodId} {below : List Frame} {meth : Method} {c : Code} {b L : Nat} {xs : Nat → Int32} {A : Nat → Prop} {Q : State → Prop} (hx : p.tables.exec = Jvm.exec) (hb : c.code = cL_law) (hml : c.maxLocals = 4) (hown : s.vm.findClass RL = some m.cls) (hts : ∀ w ∈ wsL_law, w.before #[Value.ref b] s = true) (hX : va_X b L xs s s.heap) (hbl : b < s.heap.size) (hbA : ¬ A b) (hA : ∀ q : Nat, s.heap.size ≤ q → A q) (hL : L ≤ 3072) (dC : Nat → ClassId) (dI : Nat → Nat → Nat) (cy : Nat → ClassId) (zL : List Nat) (zT : Nat → Nat) (zR : Nat → Nat → Nat) (zI : Nat → Nat → Int32) (zJ : Nat → Nat → Int64) (zx zy : Nat) (zi9 : Int32) (hs : SKP zL zT zR) (hw : WT zT zR zI) (t_zx : zT zx = 11) (t_zy : zT zy = 18) (hj : JX zR zI zx) (hz : ZI (zI (zR zy 0))) (hk : (zI zy 23).toInt = 0 ∨ ZI (zI (zR zy 24))) (h3 : R3 zR zI zx zy) (hrr : RRn zR zI zx zy) (hsh : RSH zR zI zx zy) (hit : RIT zR zI zx zy) (hrg : RGn zR zI zy) (hK : va_K (dC, dI) vwCl (TY cy) s) (hN : N0 s) (b_zi9 : 0 ≤ zi9.toInt ∧ zi9.toInt ≤ 3066) (hi1 : zi9.toInt + 6 ≤ (L : Int))
    (kx : ∀ (zI2 : Nat → Nat → Int32) (zJ2 : Nat → Nat → Int64) (H : Heap) (locs : List Loc) (ls : Array Slot), WT zT zR zI2 → JX zR zI2 zx → ZI (zI2 (zR zy 0)) → ((zI2 zy 23).toInt = 0 ∨ ZI (zI2 (zR zy 24))) → (R3 zR zI2 zx zy) → (RRn zR zI2 zx zy) → (RSH zR zI2 zx zy) → (RIT zR zI2 zx zy) → (RGn zR zI2 zy) → va_P (dC, dI) vwCl (WL cy zL zT zR zI2 zJ2) H → va_D A (WL cy zL zT zR zI2 zJ2) → va_S A s.heap H locs → lv_has ls 4 [(0, .ref b), (1, .ref zx), (2, .ref zy), (3, .int zi9)] → W p l e room_1 s m #[Value.ref b] below meth c H locs 265 67857 Q (F0 m 1785 ls []))
    {H : Heap} {locs : List Loc} {ls : Array Slot} (hP : va_P (dC, dI) vwCl (WL cy zL zT zR zI zJ) H) (hD : va_D A (WL cy zL zT zR zI zJ)) (hS : va_S A s.heap H locs) (hl : lv_has ls 4 [(0, .ref b), (1, .ref zx), (2, .ref zy), (3, .int zi9)]) : W p l e room_1 s m #[Value.ref b] below meth c H locs 265 67857 Q (F0 m 1554 ls []) := by
  have h_zI : WM [908, 4800, 10000] AL zT zR zI zI := WM.rf hw
  have t_1 : zT (zR zy 24) = 109 := sk_f hs t_zy (by decide) rfl (by decide)
  have t_2 : zT (zR zy 0) = 100 := sk_f hs t_zy (by decide) rfl (by decide)
  refine lv_aload_n hx hb dL_law_1554 rfl (lv_at hl 1 rfl) ?_
  refine lv_aload_n hx hb dL_law_1555 rfl (lv_at hl 0 rfl) ?_
  refine lv_iload_n hx hb dL_law_1556 rfl (lv_at hl 3 rfl) ?_
  refine lv_iconst (v := 1) hx hb dL_law_1557 (by decide) ?_
  refine lv_iadd hx hb dL_law_1558 ?_
  refine lv_topi (fun zi_3 ezi_3 => ?_)
  have tzi_3 : zi_3.toInt = zi9.toInt + (1 : Int) := by rw [ezi_3]; exact tiadd (rfl) (show (1 : Int32).toInt = 1 by decide) (by omega) (by omega)
  refine va_sld hx hb hX hbl hbA hS (vp_in_iff.mpr ⟨by omega, by omega⟩) dL_law_1559 ?_
  refine lv_topi (fun zi_4 ezi_4 => ?_)
  refine lv_aload_n hx hb dL_law_1560 rfl (lv_at hl 0 rfl) ?_
  refine lv_iload_n hx hb dL_law_1561 rfl (lv_at hl 3 rfl) ?_
  refine lv_iconst (v := 2) hx hb dL_law_1562 (by decide) ?_
  refine lv_iadd hx hb dL_law_1563 ?_
  refine lv_topi (fun zi_5 ezi_5 => ?_)
  have tzi_5 : zi_5.toInt = zi9.toInt + (2 : Int) := by rw [ezi_5]; exact tiadd (rfl) (show (2 : Int32).toInt = 2 by decide) (by omega) (by omega)
  refine va_sld hx hb hX hbl hbA hS (vp_in_iff.mpr ⟨by omega, by omega⟩) dL_law_1564 ?_
  refine lv_topi (fun zi_6 ezi_6 => ?_)
  refine hj_i (ws := (WL cy zL zT zR zI zJ)) (w1 := fun (u : (Nat → Nat → Int32)) => (WL cy zL zT zR u zJ)) (va_runV (As := [.int zi_4, .int zi_6]) (rest := []) ⟨hx, hb, hml, hown, hts⟩ (t_X10_cause l dC dI cy H.size zL zT zR zI zJ zx zi_4 zi_6 hs h_zI.1 t_zx hj) (cwV 2 hts gL_law_X10_cause rfl rfl rfl (by decide +kernel) ⟨(Nat.le_of_ble_eq_true rfl), (Nat.le_of_ble_eq_true rfl)⟩) (PRE.v hP hK hD hN (ht_recv hK hP hs t_zx (by decide) rfl rfl)) rfl rfl hl.1 rfl (lv_room (Nat.le_of_ble_eq_true rfl)) dL_law_1565 ⟨(Nat.le_of_ble_eq_true rfl), (Nat.le_of_ble_eq_true rfl)⟩) hP hD hS hA (fun zi_7 zI_10 H locs hw_8 hP hD hS => ?_)
  obtain ⟨k_zI_10, b_zi_7, ps_11, ps_12, ps_13, ps_14⟩ : (WM [908, 4800] AL zT zR zI zI_10) ∧ ((-3) ≤ zi_7.toInt ∧ zi_7.toInt ≤ 4) ∧ (JX zR zI_10 zx) ∧ (¬ (CSok zi_4.toInt zi_6.toInt) → (zi_7.toInt = -1 ∧ zI_10 = zI)) ∧ (CSok zi_4.toInt zi_6.toInt → (zI (zR zx 0) 8).toInt = 5 → (zi_7.toInt = -3 ∧ zI_10 = zI)) ∧ (CSok zi_4.toInt zi_6.toInt → ¬ (zI (zR zx 0) 8).toInt = 5 → (zi_7.toInt = (zI (zR zx 0) 8).toInt ∧ (zI_10 (zR zx 0) 8).toInt = (zI (zR zx 0) 8).toInt + 1)) := hw_8
  have h_zI_10 : WM [908, 4800, 10000] AL zT zR zI zI_10 := h_zI.tr k_zI_10 (by decide) (fun _ _ => trivial)
  have hk_15 : (zI_10 zy 23).toInt = 0 ∨ ZI (zI_10 (zR zy 24)) := by rw [k_zI_10.2 zy 23 (Or.inl (by rw [t_zy]; decide)), k_zI_10.2.row t_1 (by decide) (by decide)]; exact hk
  have hsh_zI_10 : RSH zR zI_10 zx zy := RSH.sm hsh hs t_zx t_zy k_zI_10.2 (by decide)
  have hit_zI_10 : RIT zR zI_10 zx zy := RIT.sm hit hs t_zx t_zy k_zI_10.2 (by decide)
  have hrr_zI_10 : RRn zR zI_10 zx zy := RRn.sm hrr hs t_zx t_zy k_zI_10.2 (by decide) (FQR.of (k_zI_10.2.row t_2 (by decide) (by decide)))
  have hrg_zI_10 : RGn zR zI_10 zy := RGn.sm hrg hs t_zy k_zI_10.2 (by decide) (FQR.of (k_zI_10.2.row t_2 (by decide) (by decide)))
  refine lv_pop hx hb dL_law_1568 rfl ?_
  refine lv_aload_n hx hb dL_law_1569 rfl (lv_at hl 2 rfl) ?_
  refine lv_aload_n hx hb dL_law_1570 rfl (lv_at hl 0 rfl) ?_
  refine lv_iload_n hx hb dL_law_1571 rfl (lv_at hl 3 rfl) ?_
  refine lv_iconst (v := 1) hx hb dL_law_1572 (by decide) ?_
  refine lv_iadd hx hb dL_law_1573 ?_
  refine lv_topi (fun zi_16 ezi_16 => ?_)
  have tzi_16 : zi_16.toInt = zi9.toInt + (1 : Int) := by rw [ezi_16]; exact tiadd (rfl) (show (1 : Int32).toInt = 1 by decide) (by omega) (by omega)
  obtain rfl : zi_3 = zi_16 := ezi_3.trans ezi_16.symm
  refine va_sld hx hb hX hbl hbA hS (vp_in_iff.mpr ⟨by omega, by omega⟩) dL_law_1574 ?_
  refine lv_topi (fun zi_17 ezi_17 => ?_)
  obtain rfl : zi_4 = zi_17 := ezi_4.trans ezi_17.symm
  refine lv_aload_n hx hb dL_law_1575 rfl (lv_at hl 0 rfl) ?_
  refine lv_iload_n hx hb dL_law_1576 rfl (lv_at hl 3 rfl) ?_
  refine lv_iconst (v := 2) hx hb dL_law_1577 (by decide) ?_
  refine lv_iadd hx hb dL_law_1578 ?_
  refine lv_topi (fun zi_18 ezi_18 => ?_)
  have tzi_18 : zi_18.toInt = zi9.toInt + (2 : Int) := by rw [ezi_18]; exact tiadd (rfl) (show (2 : Int32).toInt = 2 by decide) (by omega) (by omega)
  obtain rfl : zi_5 = zi_18 := ezi_5.trans ezi_18.symm
  refine va_sld hx hb hX hbl hbA hS (vp_in_iff.mpr ⟨by omega, by omega⟩) dL_law_1579 ?_
  refine lv_topi (fun zi_19 ezi_19 => ?_)
  obtain rfl : zi_6 = zi_19 := ezi_6.trans ezi_19.symm
  have zz_20 : ZI (zI_10 (zR zy 0)) := by rw [(k_zI_10.2.row t_2 (by decide) (by decide))]; exact hz
  refine hj_i (ws := (WL cy zL zT zR zI_10 zJ)) (w1 := fun (u : (Nat → Nat → Int32)) => (WL cy zL zT zR u zJ)) (va_runV (As := [.int zi_4, .int zi_6]) (rest := []) ⟨hx, hb, hml, hown, hts⟩ (t_X11_cause l dC dI cy H.size zL zT zR zI_10 zJ zy zi_4 zi_6 hs h_zI_10.1 t_zy zz_20) (cwV 2 hts gL_law_X11_cause rfl rfl rfl (by decide +kernel) ⟨(Nat.le_of_ble_eq_true rfl), (Nat.le_of_ble_eq_true rfl)⟩) (PRE.v hP hK hD hN (ht_recv hK hP hs t_zy (by decide) rfl rfl)) rfl rfl hl.1 rfl (lv_room (Nat.le_of_ble_eq_true rfl)) dL_law_1580 ⟨(Nat.le_of_ble_eq_true rfl), (Nat.le_of_ble_eq_true rfl)⟩) hP hD hS hA (fun zi_21 zI_24 H locs hw_22 hP hD hS => ?_)
  obtain ⟨k_zI_24, b_zi_21, ps_25, ps_26, ps_27, ps_28⟩ : (WM [10000] AL zT zR zI_10 zI_24) ∧ ((-3) ≤ zi_21.toInt ∧ zi_21.toInt ≤ 4) ∧ (¬ (CSok zi_4.toInt zi_6.toInt) → (zi_21.toInt = -1 ∧ zI_24 = zI_10)) ∧ (CSok zi_4.toInt zi_6.toInt → zA (zI_10 (zR zy 0)) (13) = 5 → (zi_21.toInt = -3 ∧ zI_24 = zI_10)) ∧ (CSok zi_4.toInt zi_6.toInt → ¬ zA (zI_10 (zR zy 0)) (13) = 5 → (zi_21.toInt = zA (zI_10 (zR zy 0)) (13) ∧ zA (zI_24 (zR zy 0)) (13) = zA (zI_10 (zR zy 0)) (13) + 1 ∧ (∀ j : Int, 0 ≤ j → (j ≤ 1 ∨ (3 ≤ j ∧ j ≤ 4) ∨ j = 13 ∨ (20 ≤ j ∧ j ≤ 91)) → ¬ j = 13 → zA (zI_24 (zR zy 0)) j = zA (zI_10 (zR zy 0)) j))) ∧ (ZI (zI_24 (zR zy 0))) := hw_22
  have h_zI_24 : WM [908, 4800, 10000] AL zT zR zI zI_24 := h_zI_10.tr k_zI_24 (by decide) (fun _ _ => trivial)
  have j_zI_24 : JX zR zI_24 zx := JX.sm ps_11 hs t_zx k_zI_24.2 (by decide) (by decide)
  have hk_29 : (zI_24 zy 23).toInt = 0 ∨ ZI (zI_24 (zR zy 24)) := by rw [k_zI_24.2 zy 23 (Or.inl (by rw [t_zy]; decide)), k_zI_24.2.row t_1 (by decide) (by decide)]; exact hk_15
  have hsh_zI_24 : RSH zR zI_24 zx zy := RSH.sm hsh_zI_10 hs t_zx t_zy k_zI_24.2 (by decide)
  have hit_zI_24 : RIT zR zI_24 zx zy := RIT.sm hit_zI_10 hs t_zx t_zy k_zI_24.2 (by decide)
  have hrr_zI_24 : RRn zR zI_24 zx zy := RRn.sm hrr_zI_10 hs t_zx t_zy k_zI_24.2 (by decide) (fqr_cs (P := CSok zi_4.toInt zi_6.toInt) (fun h9 => congrFun (ps_25 h9).2 _) (fun h8 h9 => congrFun (ps_26 h8 h9).2 _) (fun h8 h9 => (ps_27 h8 h9).2.2))
  have hrg_zI_24 : RGn zR zI_24 zy := RGn.sm hrg_zI_10 hs t_zy k_zI_24.2 (by decide) (fqr_cs (P := CSok zi_4.toInt zi_6.toInt) (fun h9 => congrFun (ps_25 h9).2 _) (fun h8 h9 => congrFun (ps_26 h8 h9).2 _) (fun h8 h9 => (ps_27 h8 h9).2.2))
  obtain ⟨eq_zI_24, h3_zI_24⟩ := CS.both h3 hs t_zx t_zy k_zI_10.2 (by decide) ps_12 ps_13 ps_14 k_zI_24.2 (by decide) ps_25 ps_26 ps_27
  refine lv_pop hx hb dL_law_1583 rfl ?_
  refine lv_goto (tgt := 1785) hx hb dL_law_1584 (by decide) ?_
  exact kx _ _ _ _ _ h_zI_24.1 j_zI_24 ps_28 hk_29 h3_zI_24 hrr_zI_24 hsh_zI_24 hit_zI_24 hrg_zI_24 hP hD hS hl
set_option maxHeartbeats 4000000 in
set_option maxRecDepth 100000 in
theorem lw_c35 {p : Program} {l : Launch} {e : Env} {s : State} {m : MethodId} {below : List Frame} {meth : Method} {c : Code} {b L : Nat} {xs : Nat → Int32} {A : Nat → Prop} {Q : State → Prop} (hx : p.tables.exec = Jvm.exec) (hb : c.code = cL_law) (hml : c.maxLocals = 4) (hown : s.vm.findClass RL = some m.cls) (hts : ∀ w ∈ wsL_law, w.before #[Value.ref b] s = true) (hX : va_X b L xs s s.heap) (hbl : b < s.heap.size) (hbA : ¬ A b) (hA : ∀ q : Nat, s.heap.size ≤ q → A q) (hL : L ≤ 3072) (dC : Nat → ClassId) (dI : Nat → Nat → Nat) (cy : Nat → ClassId) (zL : List Nat) (zT : Nat → Nat) (zR : Nat → Nat → Nat) (zI : Nat → Nat → Int32) (zJ : Nat → Nat → Int64) (zx zy : Nat) (zi9 : Int32) (hs : SKP zL zT zR) (hw : WT zT zR zI) (t_zx : zT zx = 11) (t_zy : zT zy = 18) (hj : JX zR zI zx) (hz : ZI (zI (zR zy 0))) (hk : (zI zy 23).toInt = 0 ∨ ZI (zI (zR zy 24))) (h3 : R3 zR zI zx zy) (hrr : RRn zR zI zx zy) (hsh : RSH zR zI zx zy) (hit : RIT zR zI zx zy) (hrg : RGn zR zI zy) (hK : va_K (dC, dI) vwCl (TY cy) s) (hN : N0 s) (b_zi9 : 0 ≤ zi9.toInt ∧ zi9.toInt ≤ 3066) (hi1 : zi9.toInt + 6 ≤ (L : Int))
    (kx : ∀ (zI2 : Nat → Nat → Int32) (zJ2 : Nat → Nat → Int64) (H : Heap) (locs : List Loc) (ls : Array Slot), WT zT zR zI2 → JX zR zI2 zx → ZI (zI2 (zR zy 0)) → ((zI2 zy 23).toInt = 0 ∨ ZI (zI2 (zR zy 24))) → (R3 zR zI2 zx zy) → (RRn zR zI2 zx zy) → (RSH zR zI2 zx zy) → (RIT zR zI2 zx zy) → (RGn zR zI2 zy) → va_P (dC, dI) vwCl (WL cy zL zT zR zI2 zJ2) H → va_D A (WL cy zL zT zR zI2 zJ2) → va_S A s.heap H locs → lv_has ls 4 [(0, .ref b), (1, .ref zx), (2, .ref zy), (3, .int zi9)] → W p l e room_1 s m #[Value.ref b] below meth c H locs 265 67857 Q (F0 m 1785 ls []))
    {H : Heap} {locs : List Loc} {ls : Array Slot} (hP : va_P (dC, dI) vwCl (WL cy zL zT zR zI zJ) H) (hD : va_D A (WL cy zL zT zR zI zJ)) (hS : va_S A s.heap H locs) (hl : lv_has ls 4 [(0, .ref b), (1, .ref zx), (2, .ref zy), (3, .int zi9)]) : W p l e room_1 s m #[Value.ref b] below meth c H locs 265 67857 Q (F0 m 1587 ls []) := by
  have h_zI : WM [] AL zT zR zI zI := WM.rf hw
  have t_1 : zT (zR zy 24) = 109 := sk_f hs t_zy (by decide) rfl (by decide)
  have t_2 : zT (zR zy 0) = 100 := sk_f hs t_zy (by decide) rfl (by decide)
  refine lv_aload_n hx hb dL_law_1587 rfl (lv_at hl 1 rfl) ?_
  refine lv_aload_n hx hb dL_law_1588 rfl (lv_at hl 0 rfl) ?_
  refine lv_iload_n hx hb dL_law_1589 rfl (lv_at hl 3 rfl) ?_
  refine lv_iconst (v := 1) hx hb dL_law_1590 (by decide) ?_
  refine lv_iadd hx hb dL_law_1591 ?_
  refine lv_topi (fun zi_3 ezi_3 => ?_)
  have tzi_3 : zi_3.toInt = zi9.toInt + (1 : Int) := by rw [ezi_3]; exact tiadd (rfl) (show (1 : Int32).toInt = 1 by decide) (by omega) (by omega)
  refine va_sld hx hb hX hbl hbA hS (vp_in_iff.mpr ⟨by omega, by omega⟩) dL_law_1592 ?_
  refine lv_topi (fun zi_4 ezi_4 => ?_)
  refine lv_aload_n hx hb dL_law_1593 rfl (lv_at hl 0 rfl) ?_
  refine lv_iload_n hx hb dL_law_1594 rfl (lv_at hl 3 rfl) ?_
  refine lv_iconst (v := 2) hx hb dL_law_1595 (by decide) ?_
  refine lv_iadd hx hb dL_law_1596 ?_
  refine lv_topi (fun zi_5 ezi_5 => ?_)
  have tzi_5 : zi_5.toInt = zi9.toInt + (2 : Int) := by rw [ezi_5]; exact tiadd (rfl) (show (2 : Int32).toInt = 2 by decide) (by omega) (by omega)
  refine va_sld hx hb hX hbl hbA hS (vp_in_iff.mpr ⟨by omega, by omega⟩) dL_law_1597 ?_
  refine lv_topi (fun zi_6 ezi_6 => ?_)
  refine lv_aload_n hx hb dL_law_1598 rfl (lv_at hl 0 rfl) ?_
  refine lv_iload_n hx hb dL_law_1599 rfl (lv_at hl 3 rfl) ?_
  refine lv_iconst (v := 3) hx hb dL_law_1600 (by decide) ?_
  refine lv_iadd hx hb dL_law_1601 ?_
  refine lv_topi (fun zi_7 ezi_7 => ?_)
  have tzi_7 : zi_7.toInt = zi9.toInt + (3 : Int) := by rw [ezi_7]; exact tiadd (rfl) (show (3 : Int32).toInt = 3 by decide) (by omega) (by omega)
  refine va_sld hx hb hX hbl hbA hS (vp_in_iff.mpr ⟨by omega, by omega⟩) dL_law_1602 ?_
  refine lv_topi (fun zi_8 ezi_8 => ?_)
  refine lv_aload_n hx hb dL_law_1603 rfl (lv_at hl 0 rfl) ?_
  refine lv_iload_n hx hb dL_law_1604 rfl (lv_at hl 3 rfl) ?_
  refine lv_iconst (v := 4) hx hb dL_law_1605 (by decide) ?_
  refine lv_iadd hx hb dL_law_1606 ?_
  refine lv_topi (fun zi_9 ezi_9 => ?_)
  have tzi_9 : zi_9.toInt = zi9.toInt + (4 : Int) := by rw [ezi_9]; exact tiadd (rfl) (show (4 : Int32).toInt = 4 by decide) (by omega) (by omega)
  refine va_sld hx hb hX hbl hbA hS (vp_in_iff.mpr ⟨by omega, by omega⟩) dL_law_1607 ?_
  refine lv_topi (fun zi_10 ezi_10 => ?_)
  refine hj_i (ws := (WL cy zL zT zR zI zJ)) (w1 := fun (u : Unit) => (WL cy zL zT zR zI zJ)) (va_runV (As := [.int zi_4, .int zi_6, .int zi_8, .int zi_10]) (rest := []) ⟨hx, hb, hml, hown, hts⟩ (t_X10_says l dC dI cy H.size zL zT zR zI zJ zx zi_4 zi_6 zi_8 zi_10 hs h_zI.1 t_zx hj) (cwV 4 hts gL_law_X10_says rfl rfl rfl (by decide +kernel) ⟨(Nat.le_of_ble_eq_true rfl), (Nat.le_of_ble_eq_true rfl)⟩) (PRE.v hP hK hD hN (ht_recv hK hP hs t_zx (by decide) rfl rfl)) rfl rfl hl.1 rfl (lv_room (Nat.le_of_ble_eq_true rfl)) dL_law_1608 ⟨(Nat.le_of_ble_eq_true rfl), (Nat.le_of_ble_eq_true rfl)⟩) hP hD hS hA (fun zi_11 u_13 H locs hw_12 hP hD hS => ?_)
  have ps_14 : JX zR zI zx := hw_12
  have rzi_11 := rng zi_11
  refine lv_pop hx hb dL_law_1611 rfl ?_
  refine lv_aload_n hx hb dL_law_1612 rfl (lv_at hl 2 rfl) ?_
  refine lv_aload_n hx hb dL_law_1613 rfl (lv_at hl 0 rfl) ?_
  refine lv_iload_n hx hb dL_law_1614 rfl (lv_at hl 3 rfl) ?_
  refine lv_iconst (v := 1) hx hb dL_law_1615 (by decide) ?_
  refine lv_iadd hx hb dL_law_1616 ?_
  refine lv_topi (fun zi_15 ezi_15 => ?_)
  have tzi_15 : zi_15.toInt = zi9.toInt + (1 : Int) := by rw [ezi_15]; exact tiadd (rfl) (show (1 : Int32).toInt = 1 by decide) (by omega) (by omega)
  obtain rfl : zi_3 = zi_15 := ezi_3.trans ezi_15.symm
  refine va_sld hx hb hX hbl hbA hS (vp_in_iff.mpr ⟨by omega, by omega⟩) dL_law_1617 ?_
  refine lv_topi (fun zi_16 ezi_16 => ?_)
  obtain rfl : zi_4 = zi_16 := ezi_4.trans ezi_16.symm
  refine lv_aload_n hx hb dL_law_1618 rfl (lv_at hl 0 rfl) ?_
  refine lv_iload_n hx hb dL_law_1619 rfl (lv_at hl 3 rfl) ?_
  refine lv_iconst (v := 2) hx hb dL_law_1620 (by decide) ?_
  refine lv_iadd hx hb dL_law_1621 ?_
  refine lv_topi (fun zi_17 ezi_17 => ?_)
  have tzi_17 : zi_17.toInt = zi9.toInt + (2 : Int) := by rw [ezi_17]; exact tiadd (rfl) (show (2 : Int32).toInt = 2 by decide) (by omega) (by omega)
  obtain rfl : zi_5 = zi_17 := ezi_5.trans ezi_17.symm
  refine va_sld hx hb hX hbl hbA hS (vp_in_iff.mpr ⟨by omega, by omega⟩) dL_law_1622 ?_
  refine lv_topi (fun zi_18 ezi_18 => ?_)
  obtain rfl : zi_6 = zi_18 := ezi_6.trans ezi_18.symm
  refine lv_aload_n hx hb dL_law_1623 rfl (lv_at hl 0 rfl) ?_
  refine lv_iload_n hx hb dL_law_1624 rfl (lv_at hl 3 rfl) ?_
  refine lv_iconst (v := 3) hx hb dL_law_1625 (by decide) ?_
  refine lv_iadd hx hb dL_law_1626 ?_
  refine lv_topi (fun zi_19 ezi_19 => ?_)
  have tzi_19 : zi_19.toInt = zi9.toInt + (3 : Int) := by rw [ezi_19]; exact tiadd (rfl) (show (3 : Int32).toInt = 3 by decide) (by omega) (by omega)
  obtain rfl : zi_7 = zi_19 := ezi_7.trans ezi_19.symm
  refine va_sld hx hb hX hbl hbA hS (vp_in_iff.mpr ⟨by omega, by omega⟩) dL_law_1627 ?_
  refine lv_topi (fun zi_20 ezi_20 => ?_)
  obtain rfl : zi_8 = zi_20 := ezi_8.trans ezi_20.symm
  refine lv_aload_n hx hb dL_law_1628 rfl (lv_at hl 0 rfl) ?_
  refine lv_iload_n hx hb dL_law_1629 rfl (lv_at hl 3 rfl) ?_
  refine lv_iconst (v := 4) hx hb dL_law_1630 (by decide) ?_
  refine lv_iadd hx hb dL_law_1631 ?_
  refine lv_topi (fun zi_21 ezi_21 => ?_)
  have tzi_21 : zi_21.toInt = zi9.toInt + (4 : Int) := by rw [ezi_21]; exact tiadd (rfl) (show (4 : Int32).toInt = 4 by decide) (by omega) (by omega)
  obtain rfl : zi_9 = zi_21 := ezi_9.trans ezi_21.symm
  refine va_sld hx hb hX hbl hbA hS (vp_in_iff.mpr ⟨by omega, by omega⟩) dL_law_1632 ?_
  refine lv_topi (fun zi_22 ezi_22 => ?_)
  obtain rfl : zi_10 = zi_22 := ezi_10.trans ezi_22.symm
  refine hj_i (ws := (WL cy zL zT zR zI zJ)) (w1 := fun (u : Unit) => (WL cy zL zT zR zI zJ)) (va_runV (As := [.int zi_4, .int zi_6, .int zi_8, .int zi_10]) (rest := []) ⟨hx, hb, hml, hown, hts⟩ (t_X11_says l dC dI cy H.size zL zT zR zI zJ zy zi_4 zi_6 zi_8 zi_10 hs h_zI.1 t_zy hz) (cwV 4 hts gL_law_X11_says rfl rfl rfl (by decide +kernel) ⟨(Nat.le_of_ble_eq_true rfl), (Nat.le_of_ble_eq_true rfl)⟩) (PRE.v hP hK hD hN (ht_recv hK hP hs t_zy (by decide) rfl rfl)) rfl rfl hl.1 rfl (lv_room (Nat.le_of_ble_eq_true rfl)) dL_law_1633 ⟨(Nat.le_of_ble_eq_true rfl), (Nat.le_of_ble_eq_true rfl)⟩) hP hD hS hA (fun zi_23 u_25 H locs hw_24 hP hD hS => ?_)
  have rzi_23 := rng zi_23
  refine lv_pop hx hb dL_law_1636 rfl ?_
  refine lv_goto (tgt := 1785) hx hb dL_law_1637 (by decide) ?_
  exact kx _ _ _ _ _ h_zI.1 ps_14 hz hk h3 hrr hsh hit hrg hP hD hS hl
set_option maxHeartbeats 4000000 in
set_option maxRecDepth 100000 in
theorem lw_c36 {p : Program} {l : Launch} {e : Env} {s : State} {m : MethodId} {below : List Frame} {meth : Method} {c : Code} {b L : Nat} {xs : Nat → Int32} {A : Nat → Prop} {Q : State → Prop} (hx : p.tables.exec = Jvm.exec) (hb : c.code = cL_law) (hml : c.maxLocals = 4) (hown : s.vm.findClass RL = some m.cls) (hts : ∀ w ∈ wsL_law, w.before #[Value.ref b] s = true) (hX : va_X b L xs s s.heap) (hbl : b < s.heap.size) (hbA : ¬ A b) (hA : ∀ q : Nat, s.heap.size ≤ q → A q) (hL : L ≤ 3072) (dC : Nat → ClassId) (dI : Nat → Nat → Nat) (cy : Nat → ClassId) (zL : List Nat) (zT : Nat → Nat) (zR : Nat → Nat → Nat) (zI : Nat → Nat → Int32) (zJ : Nat → Nat → Int64) (zx zy : Nat) (zi9 : Int32) (hs : SKP zL zT zR) (hw : WT zT zR zI) (t_zx : zT zx = 11) (t_zy : zT zy = 18) (hj : JX zR zI zx) (hz : ZI (zI (zR zy 0))) (hk : (zI zy 23).toInt = 0 ∨ ZI (zI (zR zy 24))) (h3 : R3 zR zI zx zy) (hrr : RRn zR zI zx zy) (hsh : RSH zR zI zx zy) (hit : RIT zR zI zx zy) (hrg : RGn zR zI zy) (hK : va_K (dC, dI) vwCl (TY cy) s) (hN : N0 s) (b_zi9 : 0 ≤ zi9.toInt ∧ zi9.toInt ≤ 3066) (hi1 : zi9.toInt + 6 ≤ (L : Int))
    (kx : ∀ (zI2 : Nat → Nat → Int32) (zJ2 : Nat → Nat → Int64) (H : Heap) (locs : List Loc) (ls : Array Slot), WT zT zR zI2 → JX zR zI2 zx → ZI (zI2 (zR zy 0)) → ((zI2 zy 23).toInt = 0 ∨ ZI (zI2 (zR zy 24))) → (R3 zR zI2 zx zy) → (RRn zR zI2 zx zy) → (RSH zR zI2 zx zy) → (RIT zR zI2 zx zy) → (RGn zR zI2 zy) → va_P (dC, dI) vwCl (WL cy zL zT zR zI2 zJ2) H → va_D A (WL cy zL zT zR zI2 zJ2) → va_S A s.heap H locs → lv_has ls 4 [(0, .ref b), (1, .ref zx), (2, .ref zy), (3, .int zi9)] → W p l e room_1 s m #[Value.ref b] below meth c H locs 265 67857 Q (F0 m 1785 ls []))
    {H : Heap} {locs : List Loc} {ls : Array Slot} (hP : va_P (dC, dI) vwCl (WL cy zL zT zR zI zJ) H) (hD : va_D A (WL cy zL zT zR zI zJ)) (hS : va_S A s.heap H locs) (hl : lv_has ls 4 [(0, .ref b), (1, .ref zx), (2, .ref zy), (3, .int zi9)]) : W p l e room_1 s m #[Value.ref b] below meth c H locs 265 67857 Q (F0 m 1640 ls []) := by
  have h_zI : WM [1109, 1207, 1208, 1301, 1302, 1405, 1507, 1508, 1509, 1510, 1606, 1706, 1707, 1823, 7000, 7100, 7200, 7300, 7400, 7500, 7600, 7700, 7900, 8000, 8100, 8200, 8300, 8400, 9800, 10900] AL zT zR zI zI := WM.rf hw
  have t_1 : zT (zR zy 24) = 109 := sk_f hs t_zy (by decide) rfl (by decide)
  have t_2 : zT (zR zy 0) = 100 := sk_f hs t_zy (by decide) rfl (by decide)
  refine lv_aload_n hx hb dL_law_1640 rfl (lv_at hl 1 rfl) ?_
  refine hj_i (ws := (WL cy zL zT zR zI zJ)) (w1 := fun (u : (Nat → Nat → Int32)) => (WL cy zL zT zR u zJ)) (va_runV (As := []) (rest := []) ⟨hx, hb, hml, hown, hts⟩ (t_X10_image l dC dI cy H.size zL zT zR zI zJ zx hs h_zI.1 t_zx hj) (cwV 0 hts gL_law_X10_image rfl rfl rfl (by decide +kernel) ⟨(Nat.le_of_ble_eq_true rfl), (Nat.le_of_ble_eq_true rfl)⟩) (PRE.v hP hK hD hN (ht_recv hK hP hs t_zx (by decide) rfl rfl)) rfl rfl hl.1 rfl (lv_room (Nat.le_of_ble_eq_true rfl)) dL_law_1641 ⟨(Nat.le_of_ble_eq_true rfl), (Nat.le_of_ble_eq_true rfl)⟩) hP hD hS hA (fun zi_3 zI_6 H locs hw_4 hP hD hS => ?_)
  obtain ⟨k_zI_6, ps_7, ps_8, ps_9, ps_10⟩ : (WM [1109, 1207, 1208, 1301, 1302, 1405, 1507, 1508, 1509, 1510, 1606, 1706, 1707, 7000, 7100, 7200, 7300, 7400, 7500, 7600, 7700, 7900, 8000, 8100, 8200, 8300, 8400, 9800] AL zT zR zI zI_6) ∧ (zi_3 = 1) ∧ (JX zR zI_6 zx) ∧ ((zI_6 zx 9).toInt = 1) ∧ (TKS zR zI zI_6 (zR zx 1) (zR zx 0)) := hw_4
  have h_zI_6 : WM [1109, 1207, 1208, 1301, 1302, 1405, 1507, 1508, 1509, 1510, 1606, 1706, 1707, 1823, 7000, 7100, 7200, 7300, 7400, 7500, 7600, 7700, 7900, 8000, 8100, 8200, 8300, 8400, 9800, 10900] AL zT zR zI zI_6 := h_zI.tr k_zI_6 (by decide) (fun _ _ => trivial)
  obtain ⟨zi_11, ezi_11⟩ : ∃ y : Int32, y = zI_6 zx 9 := ⟨_, rfl⟩
  have tzi_11 : 0 ≤ zi_11.toInt ∧ zi_11.toInt ≤ 1 := by rw [ezi_11]; exact h_zI_6.at t_zx _ rfl
  have lk_12 : (zI_6 zx 9).toInt = zi_11.toInt := congrArg Int32.toInt ezi_11.symm
  have hk_13 : (zI_6 zy 23).toInt = 0 ∨ ZI (zI_6 (zR zy 24)) := by rw [k_zI_6.2 zy 23 (Or.inl (by rw [t_zy]; decide)), k_zI_6.2.row t_1 (by decide) (by decide)]; exact hk
  have hsh_zI_6 : RSH zR zI_6 zx zy := RSH.sm hsh hs t_zx t_zy k_zI_6.2 (by decide)
  have hit_zI_6 : RIT zR zI_6 zx zy := RIT.sm hit hs t_zx t_zy k_zI_6.2 (by decide)
  have hrg_zI_6 : RGn zR zI_6 zy := RGn.sm hrg hs t_zy k_zI_6.2 (by decide) (FQR.of (k_zI_6.2.row t_2 (by decide) (by decide)))
  obtain rfl : zi_3 = 1 := ps_7
  refine lv_pop hx hb dL_law_1644 rfl ?_
  refine lv_aload_n hx hb dL_law_1645 rfl (lv_at hl 2 rfl) ?_
  have zz_14 : ZI (zI_6 (zR zy 0)) := by rw [(k_zI_6.2.row t_2 (by decide) (by decide))]; exact hz
  refine hj_i (ws := (WL cy zL zT zR zI_6 zJ)) (w1 := fun (u : (Nat → Nat → Int32)) => (WL cy zL zT zR u zJ)) (va_runV (As := []) (rest := []) ⟨hx, hb, hml, hown, hts⟩ (t_X11_image l dC dI cy H.size zL zT zR zI_6 zJ zy hs h_zI_6.1 t_zy zz_14) (cwV 0 hts gL_law_X11_image rfl rfl rfl (by decide +kernel) ⟨(Nat.le_of_ble_eq_true rfl), (Nat.le_of_ble_eq_true rfl)⟩) (PRE.v hP hK hD hN (ht_recv hK hP hs t_zy (by decide) rfl rfl)) rfl rfl hl.1 rfl (lv_room (Nat.le_of_ble_eq_true rfl)) dL_law_1646 ⟨(Nat.le_of_ble_eq_true rfl), (Nat.le_of_ble_eq_true rfl)⟩) hP hD hS hA (fun zi_15 zI_18 H locs hw_16 hP hD hS => ?_)
  obtain ⟨k_zI_18, ps_19, ps_20, ps_21, ps_22⟩ : (WM [1823, 10900] AL zT zR zI_6 zI_18) ∧ (zi_15 = 1) ∧ (ZI (zI_18 (zR zy 24))) ∧ ((zI_18 zy 23).toInt = 1) ∧ (∀ j : Int, 0 ≤ j → j < 392 → zA (zI_18 (zR zy 24)) j = zA (zI_6 (zR zy 0)) j) := hw_16
  have h_zI_18 : WM [1109, 1207, 1208, 1301, 1302, 1405, 1507, 1508, 1509, 1510, 1606, 1706, 1707, 1823, 7000, 7100, 7200, 7300, 7400, 7500, 7600, 7700, 7900, 8000, 8100, 8200, 8300, 8400, 9800, 10900] AL zT zR zI zI_18 := h_zI_6.tr k_zI_18 (by decide) (fun _ _ => trivial)
  obtain ⟨zi_23, ezi_23⟩ : ∃ y : Int32, y = zI_18 zy 23 := ⟨_, rfl⟩
  have tzi_23 : 0 ≤ zi_23.toInt ∧ zi_23.toInt ≤ 1 := by rw [ezi_23]; exact h_zI_18.at t_zy _ rfl
  have lk_24 : (zI_18 zy 23).toInt = zi_23.toInt := congrArg Int32.toInt ezi_23.symm
  have j_zI_18 : JX zR zI_18 zx := JX.sm ps_8 hs t_zx k_zI_18.2 (by decide) (by decide)
  have hk_25 : (zI_18 zy 23).toInt = 0 ∨ ZI (zI_18 (zR zy 24)) := Or.inr ps_20
  have hsh_zI_18 : RSH zR zI_18 zx zy := RSH.sm hsh_zI_6 hs t_zx t_zy k_zI_18.2 (by decide)
  have hit_zI_18 : RIT zR zI_18 zx zy := RIT.sm hit_zI_6 hs t_zx t_zy k_zI_18.2 (by decide)
  have hrr_zI_18 : RRn zR zI_18 zx zy := RRn.image hrr hs t_zx t_zy k_zI_6.2 (by decide) ps_10 k_zI_18.2 (by decide) ps_22
  have hrg_zI_18 : RGn zR zI_18 zy := RGn.image hrg_zI_6 hs t_zy k_zI_18.2 (by decide) ps_22
  have h3_zI_18 : R3 zR zI_18 zx zy := R3.image h3 hs t_zx t_zy k_zI_6.2 (by decide) ps_10 ps_9 k_zI_18.2 (by decide) ps_22 ps_21
  obtain rfl : zi_15 = 1 := ps_19
  refine lv_pop hx hb dL_law_1649 rfl ?_
  refine lv_goto (tgt := 1785) hx hb dL_law_1650 (by decide) ?_
  have zz_26 : ZI (zI_18 (zR zy 0)) := by rw [(k_zI_18.2.row t_2 (by decide) (by decide))]; exact zz_14
  exact kx _ _ _ _ _ h_zI_18.1 j_zI_18 zz_26 hk_25 h3_zI_18 hrr_zI_18 hsh_zI_18 hit_zI_18 hrg_zI_18 hP hD hS hl
set_option maxHeartbeats 4000000 in
set_option maxRecDepth 100000 in
theorem lw_c37 {p : Program} {l : Launch} {e : Env} {s : State} {m : MethodId} {below : List Frame} {meth : Method} {c : Code} {b L : Nat} {xs : Nat → Int32} {A : Nat → Prop} {Q : State → Prop} (hx : p.tables.exec = Jvm.exec) (hb : c.code = cL_law) (hml : c.maxLocals = 4) (hown : s.vm.findClass RL = some m.cls) (hts : ∀ w ∈ wsL_law, w.before #[Value.ref b] s = true) (hX : va_X b L xs s s.heap) (hbl : b < s.heap.size) (hbA : ¬ A b) (hA : ∀ q : Nat, s.heap.size ≤ q → A q) (hL : L ≤ 3072) (dC : Nat → ClassId) (dI : Nat → Nat → Nat) (cy : Nat → ClassId) (zL : List Nat) (zT : Nat → Nat) (zR : Nat → Nat → Nat) (zI : Nat → Nat → Int32) (zJ : Nat → Nat → Int64) (zx zy : Nat) (zi9 : Int32) (hs : SKP zL zT zR) (hw : WT zT zR zI) (t_zx : zT zx = 11) (t_zy : zT zy = 18) (hj : JX zR zI zx) (hz : ZI (zI (zR zy 0))) (hk : (zI zy 23).toInt = 0 ∨ ZI (zI (zR zy 24))) (h3 : R3 zR zI zx zy) (hrr : RRn zR zI zx zy) (hsh : RSH zR zI zx zy) (hit : RIT zR zI zx zy) (hrg : RGn zR zI zy) (hK : va_K (dC, dI) vwCl (TY cy) s) (hN : N0 s) (b_zi9 : 0 ≤ zi9.toInt ∧ zi9.toInt ≤ 3066) (hi1 : zi9.toInt + 6 ≤ (L : Int))
    (kx : ∀ (zI2 : Nat → Nat → Int32) (zJ2 : Nat → Nat → Int64) (H : Heap) (locs : List Loc) (ls : Array Slot), WT zT zR zI2 → JX zR zI2 zx → ZI (zI2 (zR zy 0)) → ((zI2 zy 23).toInt = 0 ∨ ZI (zI2 (zR zy 24))) → (R3 zR zI2 zx zy) → (RRn zR zI2 zx zy) → (RSH zR zI2 zx zy) → (RIT zR zI2 zx zy) → (RGn zR zI2 zy) → va_P (dC, dI) vwCl (WL cy zL zT zR zI2 zJ2) H → va_D A (WL cy zL zT zR zI2 zJ2) → va_S A s.heap H locs → lv_has ls 4 [(0, .ref b), (1, .ref zx), (2, .ref zy), (3, .int zi9)] → W p l e room_1 s m #[Value.ref b] below meth c H locs 265 67857 Q (F0 m 1785 ls []))
    {H : Heap} {locs : List Loc} {ls : Array Slot} (hP : va_P (dC, dI) vwCl (WL cy zL zT zR zI zJ) H) (hD : va_D A (WL cy zL zT zR zI zJ)) (hS : va_S A s.heap H locs) (hl : lv_has ls 4 [(0, .ref b), (1, .ref zx), (2, .ref zy), (3, .int zi9)]) : W p l e room_1 s m #[Value.ref b] below meth c H locs 265 67857 Q (F0 m 1653 ls []) := by
  have h_zI : WM [107, 108, 109, 110, 206, 207, 306, 401, 402, 505, 907, 908, 2000, 2100, 2200, 2300, 2400, 2500, 2600, 2700, 2900, 3000, 3100, 3200, 3300, 3400, 4700, 4800, 10000] AL zT zR zI zI := WM.rf hw
  have t_1 : zT (zR zy 24) = 109 := sk_f hs t_zy (by decide) rfl (by decide)
  have t_2 : zT (zR zy 0) = 100 := sk_f hs t_zy (by decide) rfl (by decide)
  refine lv_aload_n hx hb dL_law_1653 rfl (lv_at hl 1 rfl) ?_
  refine hj_i (ws := (WL cy zL zT zR zI zJ)) (w1 := fun (u : (Nat → Nat → Int32)) => (WL cy zL zT zR u zJ)) (va_runV (As := []) (rest := []) ⟨hx, hb, hml, hown, hts⟩ (t_X10_restore l dC dI cy H.size zL zT zR zI zJ zx hs h_zI.1 t_zx hj) (cwV 0 hts gL_law_X10_restore rfl rfl rfl (by decide +kernel) ⟨(Nat.le_of_ble_eq_true rfl), (Nat.le_of_ble_eq_true rfl)⟩) (PRE.v hP hK hD hN (ht_recv hK hP hs t_zx (by decide) rfl rfl)) rfl rfl hl.1 rfl (lv_room (Nat.le_of_ble_eq_true rfl)) dL_law_1654 ⟨(Nat.le_of_ble_eq_true rfl), (Nat.le_of_ble_eq_true rfl)⟩) hP hD hS hA (fun zi_3 zI_6 H locs hw_4 hP hD hS => ?_)
  obtain ⟨k_zI_6, b_zi_3, ps_7, ps_8, ps_9, ps_10⟩ : (WM [107, 108, 109, 110, 206, 207, 306, 401, 402, 505, 907, 908, 2000, 2100, 2200, 2300, 2400, 2500, 2600, 2700, 2900, 3000, 3100, 3200, 3300, 3400, 4700, 4800] AL zT zR zI zI_6) ∧ ((-4) ≤ zi_3.toInt ∧ zi_3.toInt ≤ 1) ∧ (JX zR zI_6 zx) ∧ (zi_3.toInt = RSv (zI zx 9).toInt) ∧ (¬ (zI zx 9).toInt = 0 → TKS zR zI zI_6 (zR zx 0) (zR zx 1)) ∧ ((zI zx 9).toInt = 0 → zI_6 = zI) := hw_4
  have h_zI_6 : WM [107, 108, 109, 110, 206, 207, 306, 401, 402, 505, 907, 908, 2000, 2100, 2200, 2300, 2400, 2500, 2600, 2700, 2900, 3000, 3100, 3200, 3300, 3400, 4700, 4800, 10000] AL zT zR zI zI_6 := h_zI.tr k_zI_6 (by decide) (fun _ _ => trivial)
  have hk_11 : (zI_6 zy 23).toInt = 0 ∨ ZI (zI_6 (zR zy 24)) := by rw [k_zI_6.2 zy 23 (Or.inl (by rw [t_zy]; decide)), k_zI_6.2.row t_1 (by decide) (by decide)]; exact hk
  have hsh_zI_6 : RSH zR zI_6 zx zy := RSH.sm hsh hs t_zx t_zy k_zI_6.2 (by decide)
  have hit_zI_6 : RIT zR zI_6 zx zy := RIT.sm hit hs t_zx t_zy k_zI_6.2 (by decide)
  have hrg_zI_6 : RGn zR zI_6 zy := RGn.sm hrg hs t_zy k_zI_6.2 (by decide) (FQR.of (k_zI_6.2.row t_2 (by decide) (by decide)))
  refine lv_pop hx hb dL_law_1657 rfl ?_
  refine lv_aload_n hx hb dL_law_1658 rfl (lv_at hl 2 rfl) ?_
  have zz_12 : ZI (zI_6 (zR zy 0)) := by rw [(k_zI_6.2.row t_2 (by decide) (by decide))]; exact hz
  refine hj_i (ws := (WL cy zL zT zR zI_6 zJ)) (w1 := fun (u : (Nat → Nat → Int32)) => (WL cy zL zT zR u zJ)) (va_runV (As := []) (rest := []) ⟨hx, hb, hml, hown, hts⟩ (t_X11_restore l dC dI cy H.size zL zT zR zI_6 zJ zy hs h_zI_6.1 t_zy zz_12 hk_11) (cwV 0 hts gL_law_X11_restore rfl rfl rfl (by decide +kernel) ⟨(Nat.le_of_ble_eq_true rfl), (Nat.le_of_ble_eq_true rfl)⟩) (PRE.v hP hK hD hN (ht_recv hK hP hs t_zy (by decide) rfl rfl)) rfl rfl hl.1 rfl (lv_room (Nat.le_of_ble_eq_true rfl)) dL_law_1659 ⟨(Nat.le_of_ble_eq_true rfl), (Nat.le_of_ble_eq_true rfl)⟩) hP hD hS hA (fun zi_13 zI_16 H locs hw_14 hP hD hS => ?_)
  obtain ⟨k_zI_16, b_zi_13, ps_17, ps_18, ps_19, ps_20⟩ : (WM [10000] AL zT zR zI_6 zI_16) ∧ ((-4) ≤ zi_13.toInt ∧ zi_13.toInt ≤ 1) ∧ (zi_13.toInt = RSv (zI_6 zy 23).toInt) ∧ (¬ (zI_6 zy 23).toInt = 0 → (∀ j : Int, 0 ≤ j → j < 392 → zA (zI_16 (zR zy 0)) j = zA (zI_6 (zR zy 24)) j)) ∧ ((zI_6 zy 23).toInt = 0 → zI_16 = zI_6) ∧ (ZI (zI_16 (zR zy 0))) := hw_14
  have h_zI_16 : WM [107, 108, 109, 110, 206, 207, 306, 401, 402, 505, 907, 908, 2000, 2100, 2200, 2300, 2400, 2500, 2600, 2700, 2900, 3000, 3100, 3200, 3300, 3400, 4700, 4800, 10000] AL zT zR zI zI_16 := h_zI_6.tr k_zI_16 (by decide) (fun _ _ => trivial)
  have j_zI_16 : JX zR zI_16 zx := JX.sm ps_7 hs t_zx k_zI_16.2 (by decide) (by decide)
  have hk_21 : (zI_16 zy 23).toInt = 0 ∨ ZI (zI_16 (zR zy 24)) := by rw [k_zI_16.2 zy 23 (Or.inl (by rw [t_zy]; decide)), k_zI_16.2.row t_1 (by decide) (by decide)]; exact hk_11
  have hsh_zI_16 : RSH zR zI_16 zx zy := RSH.sm hsh_zI_6 hs t_zx t_zy k_zI_16.2 (by decide)
  have hit_zI_16 : RIT zR zI_16 zx zy := RIT.sm hit_zI_6 hs t_zx t_zy k_zI_16.2 (by decide)
  have hrr_zI_16 : RRn zR zI_16 zx zy := RRn.restore hrr h3.2.1 hs t_zx t_zy k_zI_6.2 (by decide) ps_9 ps_10 k_zI_16.2 (by decide) ps_18 ps_19
  have hrg_zI_16 : RGn zR zI_16 zy := RGn.restore hrg_zI_6 hs t_zy k_zI_16.2 (by decide) ps_18 ps_19
  have h3_zI_16 : R3 zR zI_16 zx zy := R3.restore h3 hs t_zx t_zy k_zI_6.2 (by decide) ps_9 ps_10 k_zI_16.2 (by decide) ps_18 ps_19
  refine lv_pop hx hb dL_law_1662 rfl ?_
  refine lv_goto (tgt := 1785) hx hb dL_law_1663 (by decide) ?_
  exact kx _ _ _ _ _ h_zI_16.1 j_zI_16 ps_20 hk_21 h3_zI_16 hrr_zI_16 hsh_zI_16 hit_zI_16 hrg_zI_16 hP hD hS hl
set_option maxHeartbeats 4000000 in
set_option maxRecDepth 100000 in
theorem lw_c38 {p : Program} {l : Launch} {e : Env} {s : State} {m : MethodId} {below : List Frame} {meth : Method} {c : Code} {b L : Nat} {xs : Nat → Int32} {A : Nat → Prop} {Q : State → Prop} (hx : p.tables.exec = Jvm.exec) (hb : c.code = cL_law) (hml : c.maxLocals = 4) (hown : s.vm.findClass RL = some m.cls) (hts : ∀ w ∈ wsL_law, w.before #[Value.ref b] s = true) (hX : va_X b L xs s s.heap) (hbl : b < s.heap.size) (hbA : ¬ A b) (hA : ∀ q : Nat, s.heap.size ≤ q → A q) (hL : L ≤ 3072) (dC : Nat → ClassId) (dI : Nat → Nat → Nat) (cy : Nat → ClassId) (zL : List Nat) (zT : Nat → Nat) (zR : Nat → Nat → Nat) (zI : Nat → Nat → Int32) (zJ : Nat → Nat → Int64) (zx zy : Nat) (zi9 : Int32) (hs : SKP zL zT zR) (hw : WT zT zR zI) (t_zx : zT zx = 11) (t_zy : zT zy = 18) (hj : JX zR zI zx) (hz : ZI (zI (zR zy 0))) (hk : (zI zy 23).toInt = 0 ∨ ZI (zI (zR zy 24))) (h3 : R3 zR zI zx zy) (hrr : RRn zR zI zx zy) (hsh : RSH zR zI zx zy) (hit : RIT zR zI zx zy) (hrg : RGn zR zI zy) (hK : va_K (dC, dI) vwCl (TY cy) s) (hN : N0 s) (b_zi9 : 0 ≤ zi9.toInt ∧ zi9.toInt ≤ 3066) (hi1 : zi9.toInt + 6 ≤ (L : Int))
    (kx : ∀ (zI2 : Nat → Nat → Int32) (zJ2 : Nat → Nat → Int64) (H : Heap) (locs : List Loc) (ls : Array Slot), WT zT zR zI2 → JX zR zI2 zx → ZI (zI2 (zR zy 0)) → ((zI2 zy 23).toInt = 0 ∨ ZI (zI2 (zR zy 24))) → (R3 zR zI2 zx zy) → (RRn zR zI2 zx zy) → (RSH zR zI2 zx zy) → (RIT zR zI2 zx zy) → (RGn zR zI2 zy) → va_P (dC, dI) vwCl (WL cy zL zT zR zI2 zJ2) H → va_D A (WL cy zL zT zR zI2 zJ2) → va_S A s.heap H locs → lv_has ls 4 [(0, .ref b), (1, .ref zx), (2, .ref zy), (3, .int zi9)] → W p l e room_1 s m #[Value.ref b] below meth c H locs 265 67857 Q (F0 m 1785 ls []))
    {H : Heap} {locs : List Loc} {ls : Array Slot} (hP : va_P (dC, dI) vwCl (WL cy zL zT zR zI zJ) H) (hD : va_D A (WL cy zL zT zR zI zJ)) (hS : va_S A s.heap H locs) (hl : lv_has ls 4 [(0, .ref b), (1, .ref zx), (2, .ref zy), (3, .int zi9)]) : W p l e room_1 s m #[Value.ref b] below meth c H locs 265 67857 Q (F0 m 1666 ls []) := by
  have h_zI : WM [801, 802, 803, 3600, 11000, 11100, 11200] AL zT zR zI zI := WM.rf hw
  have t_1 : zT (zR zy 24) = 109 := sk_f hs t_zy (by decide) rfl (by decide)
  have t_2 : zT (zR zy 0) = 100 := sk_f hs t_zy (by decide) rfl (by decide)
  refine lv_aload_n hx hb dL_law_1666 rfl (lv_at hl 1 rfl) ?_
  refine lv_aload_n hx hb dL_law_1667 rfl (lv_at hl 0 rfl) ?_
  refine lv_iload_n hx hb dL_law_1668 rfl (lv_at hl 3 rfl) ?_
  refine lv_iconst (v := 1) hx hb dL_law_1669 (by decide) ?_
  refine lv_iadd hx hb dL_law_1670 ?_
  refine lv_topi (fun zi_3 ezi_3 => ?_)
  have tzi_3 : zi_3.toInt = zi9.toInt + (1 : Int) := by rw [ezi_3]; exact tiadd (rfl) (show (1 : Int32).toInt = 1 by decide) (by omega) (by omega)
  refine va_sld hx hb hX hbl hbA hS (vp_in_iff.mpr ⟨by omega, by omega⟩) dL_law_1671 ?_
  refine lv_topi (fun zi_4 ezi_4 => ?_)
  refine lv_aload_n hx hb dL_law_1672 rfl (lv_at hl 0 rfl) ?_
  refine lv_iload_n hx hb dL_law_1673 rfl (lv_at hl 3 rfl) ?_
  refine lv_iconst (v := 2) hx hb dL_law_1674 (by decide) ?_
  refine lv_iadd hx hb dL_law_1675 ?_
  refine lv_topi (fun zi_5 ezi_5 => ?_)
  have tzi_5 : zi_5.toInt = zi9.toInt + (2 : Int) := by rw [ezi_5]; exact tiadd (rfl) (show (2 : Int32).toInt = 2 by decide) (by omega) (by omega)
  refine va_sld hx hb hX hbl hbA hS (vp_in_iff.mpr ⟨by omega, by omega⟩) dL_law_1676 ?_
  refine lv_topi (fun zi_6 ezi_6 => ?_)
  refine lv_aload_n hx hb dL_law_1677 rfl (lv_at hl 0 rfl) ?_
  refine lv_iload_n hx hb dL_law_1678 rfl (lv_at hl 3 rfl) ?_
  refine lv_iconst (v := 3) hx hb dL_law_1679 (by decide) ?_
  refine lv_iadd hx hb dL_law_1680 ?_
  refine lv_topi (fun zi_7 ezi_7 => ?_)
  have tzi_7 : zi_7.toInt = zi9.toInt + (3 : Int) := by rw [ezi_7]; exact tiadd (rfl) (show (3 : Int32).toInt = 3 by decide) (by omega) (by omega)
  refine va_sld hx hb hX hbl hbA hS (vp_in_iff.mpr ⟨by omega, by omega⟩) dL_law_1681 ?_
  refine lv_topi (fun zi_8 ezi_8 => ?_)
  refine hj_i (ws := (WL cy zL zT zR zI zJ)) (w1 := fun (u : (Nat → Nat → Int32)) => (WL cy zL zT zR u zJ)) (va_runV (As := [.int zi_4, .int zi_6, .int zi_8]) (rest := []) ⟨hx, hb, hml, hown, hts⟩ (t_X10_sheet l dC dI cy H.size zL zT zR zI zJ zx zi_4 zi_6 zi_8 hs h_zI.1 t_zx hj) (cwV 3 hts gL_law_X10_sheet rfl rfl rfl (by decide +kernel) ⟨(Nat.le_of_ble_eq_true rfl), (Nat.le_of_ble_eq_true rfl)⟩) (PRE.v hP hK hD hN (ht_recv hK hP hs t_zx (by decide) rfl rfl)) rfl rfl hl.1 rfl (lv_room (Nat.le_of_ble_eq_true rfl)) dL_law_1682 ⟨(Nat.le_of_ble_eq_true rfl), (Nat.le_of_ble_eq_true rfl)⟩) hP hD hS hA (fun zi_9 zI_12 H locs hw_10 hP hD hS => ?_)
  obtain ⟨k_zI_12, b_zi_9, ps_13, ps_14, ps_15, ps_16, ps_17, ps_18⟩ : (WM [801, 802, 803, 3600] AL zT zR zI zI_12) ∧ ((-14) ≤ zi_9.toInt ∧ zi_9.toInt ≤ 24) ∧ (JX zR zI_12 zx) ∧ (zi_9.toInt = SHv zi_4.toInt zi_6.toInt zi_8.toInt) ∧ (zi_9.toInt < 0 ∨ ((zI_12 (zR (zR zx 5) zi_4.toNatClampNeg) 1).toInt = zi_6.toInt ∧ (zI_12 (zR (zR zx 5) zi_4.toNatClampNeg) 2).toInt = zi_8.toInt ∧ (zI_12 (zR (zR zx 5) zi_4.toNatClampNeg) 3).toInt = 1)) ∧ (OTH zT zI zI_12 (zR (zR zx 5) zi_4.toNatClampNeg)) ∧ (0 ≤ zi_9.toInt ∨ zI_12 = zI) ∧ (zi_9.toInt < 0 ∨ FZW zT zI zI_12 (zR (zR (zR zx 5) zi_4.toNatClampNeg) 0)) := hw_10
  have h_zI_12 : WM [801, 802, 803, 3600, 11000, 11100, 11200] AL zT zR zI zI_12 := h_zI.tr k_zI_12 (by decide) (fun _ _ => trivial)
  have hk_19 : (zI_12 zy 23).toInt = 0 ∨ ZI (zI_12 (zR zy 24)) := by rw [k_zI_12.2 zy 23 (Or.inl (by rw [t_zy]; decide)), k_zI_12.2.row t_1 (by decide) (by decide)]; exact hk
  have hrr_zI_12 : RRn zR zI_12 zx zy := RRn.sm hrr hs t_zx t_zy k_zI_12.2 (by decide) (FQR.of (k_zI_12.2.row t_2 (by decide) (by decide)))
  have hrg_zI_12 : RGn zR zI_12 zy := RGn.sm hrg hs t_zy k_zI_12.2 (by decide) (FQR.of (k_zI_12.2.row t_2 (by decide) (by decide)))
  have h3_zI_12 : R3 zR zI_12 zx zy := R3.sm h3 hs t_zx t_zy k_zI_12.2 (by decide) (FQ3.of (k_zI_12.2.row t_2 (by decide) (by decide)))
  refine lv_pop hx hb dL_law_1685 rfl ?_
  refine lv_aload_n hx hb dL_law_1686 rfl (lv_at hl 2 rfl) ?_
  refine lv_aload_n hx hb dL_law_1687 rfl (lv_at hl 0 rfl) ?_
  refine lv_iload_n hx hb dL_law_1688 rfl (lv_at hl 3 rfl) ?_
  refine lv_iconst (v := 1) hx hb dL_law_1689 (by decide) ?_
  refine lv_iadd hx hb dL_law_1690 ?_
  refine lv_topi (fun zi_20 ezi_20 => ?_)
  have tzi_20 : zi_20.toInt = zi9.toInt + (1 : Int) := by rw [ezi_20]; exact tiadd (rfl) (show (1 : Int32).toInt = 1 by decide) (by omega) (by omega)
  obtain rfl : zi_3 = zi_20 := ezi_3.trans ezi_20.symm
  refine va_sld hx hb hX hbl hbA hS (vp_in_iff.mpr ⟨by omega, by omega⟩) dL_law_1691 ?_
  refine lv_topi (fun zi_21 ezi_21 => ?_)
  obtain rfl : zi_4 = zi_21 := ezi_4.trans ezi_21.symm
  refine lv_aload_n hx hb dL_law_1692 rfl (lv_at hl 0 rfl) ?_
  refine lv_iload_n hx hb dL_law_1693 rfl (lv_at hl 3 rfl) ?_
  refine lv_iconst (v := 2) hx hb dL_law_1694 (by decide) ?_
  refine lv_iadd hx hb dL_law_1695 ?_
  refine lv_topi (fun zi_22 ezi_22 => ?_)
  have tzi_22 : zi_22.toInt = zi9.toInt + (2 : Int) := by rw [ezi_22]; exact tiadd (rfl) (show (2 : Int32).toInt = 2 by decide) (by omega) (by omega)
  obtain rfl : zi_5 = zi_22 := ezi_5.trans ezi_22.symm
  refine va_sld hx hb hX hbl hbA hS (vp_in_iff.mpr ⟨by omega, by omega⟩) dL_law_1696 ?_
  refine lv_topi (fun zi_23 ezi_23 => ?_)
  obtain rfl : zi_6 = zi_23 := ezi_6.trans ezi_23.symm
  refine lv_aload_n hx hb dL_law_1697 rfl (lv_at hl 0 rfl) ?_
  refine lv_iload_n hx hb dL_law_1698 rfl (lv_at hl 3 rfl) ?_
  refine lv_iconst (v := 3) hx hb dL_law_1699 (by decide) ?_
  refine lv_iadd hx hb dL_law_1700 ?_
  refine lv_topi (fun zi_24 ezi_24 => ?_)
  have tzi_24 : zi_24.toInt = zi9.toInt + (3 : Int) := by rw [ezi_24]; exact tiadd (rfl) (show (3 : Int32).toInt = 3 by decide) (by omega) (by omega)
  obtain rfl : zi_7 = zi_24 := ezi_7.trans ezi_24.symm
  refine va_sld hx hb hX hbl hbA hS (vp_in_iff.mpr ⟨by omega, by omega⟩) dL_law_1701 ?_
  refine lv_topi (fun zi_25 ezi_25 => ?_)
  obtain rfl : zi_8 = zi_25 := ezi_8.trans ezi_25.symm
  refine hj_i (ws := (WL cy zL zT zR zI_12 zJ)) (w1 := fun (u : (Nat → Nat → Int32)) => (WL cy zL zT zR u zJ)) (va_runV (As := [.int zi_4, .int zi_6, .int zi_8]) (rest := []) ⟨hx, hb, hml, hown, hts⟩ (t_X11_sheet l dC dI cy H.size zL zT zR zI_12 zJ zy zi_4 zi_6 zi_8 hs h_zI_12.1 t_zy) (cwV 3 hts gL_law_X11_sheet rfl rfl rfl (by decide +kernel) ⟨(Nat.le_of_ble_eq_true rfl), (Nat.le_of_ble_eq_true rfl)⟩) (PRE.v hP hK hD hN (ht_recv hK hP hs t_zy (by decide) rfl rfl)) rfl rfl hl.1 rfl (lv_room (Nat.le_of_ble_eq_true rfl)) dL_law_1702 ⟨(Nat.le_of_ble_eq_true rfl), (Nat.le_of_ble_eq_true rfl)⟩) hP hD hS hA (fun zi_26 zI_29 H locs hw_27 hP hD hS => ?_)
  obtain ⟨k_zI_29, b_zi_26, ps_30, ps_31, ps_32, ps_33, ps_34⟩ : (WM [11000, 11100, 11200] AL zT zR zI_12 zI_29) ∧ ((-14) ≤ zi_26.toInt ∧ zi_26.toInt ≤ 24) ∧ (zi_26.toInt = SHv zi_4.toInt zi_6.toInt zi_8.toInt) ∧ (zi_26.toInt < 0 ∨ ((zI_29 (zR zy 25) zi_4.toNatClampNeg).toInt = zi_6.toInt ∧ (zI_29 (zR zy 26) zi_4.toNatClampNeg).toInt = zi_8.toInt)) ∧ (∀ j : Nat, ¬ j = zi_4.toNatClampNeg → zI_29 (zR zy 25) j = zI_12 (zR zy 25) j ∧ zI_29 (zR zy 26) j = zI_12 (zR zy 26) j) ∧ (0 ≤ zi_26.toInt ∨ zI_29 = zI_12) ∧ (zi_26.toInt < 0 ∨ FZI (zI_12 (zR zy 27)) (zI_29 (zR zy 27)) (24 * zi_4.toInt) 24) := hw_27
  have h_zI_29 : WM [801, 802, 803, 3600, 11000, 11100, 11200] AL zT zR zI zI_29 := h_zI_12.tr k_zI_29 (by decide) (fun _ _ => trivial)
  have j_zI_29 : JX zR zI_29 zx := JX.sm ps_13 hs t_zx k_zI_29.2 (by decide) (by decide)
  have hk_35 : (zI_29 zy 23).toInt = 0 ∨ ZI (zI_29 (zR zy 24)) := by rw [k_zI_29.2 zy 23 (Or.inl (by rw [t_zy]; decide)), k_zI_29.2.row t_1 (by decide) (by decide)]; exact hk_19
  have hsh_zI_29 : RSH zR zI_29 zx zy := RSH.sheet hsh hs t_zx t_zy k_zI_12.2 (by decide) k_zI_29.2 (by decide) ps_14 ps_15 ps_16 ps_17 ps_30 ps_31 ps_32 ps_33
  have hrr_zI_29 : RRn zR zI_29 zx zy := RRn.sm hrr_zI_12 hs t_zx t_zy k_zI_29.2 (by decide) (FQR.of (k_zI_29.2.row t_2 (by decide) (by decide)))
  have hit_zI_29 : RIT zR zI_29 zx zy := RIT.sheet hit hs t_zx t_zy k_zI_12.2 (by decide) k_zI_29.2 (by decide) ps_14 ps_30 ps_18 ps_17 ps_34 ps_33
  have hrg_zI_29 : RGn zR zI_29 zy := RGn.sm hrg_zI_12 hs t_zy k_zI_29.2 (by decide) (FQR.of (k_zI_29.2.row t_2 (by decide) (by decide)))
  have h3_zI_29 : R3 zR zI_29 zx zy := R3.sm h3_zI_12 hs t_zx t_zy k_zI_29.2 (by decide) (FQ3.of (k_zI_29.2.row t_2 (by decide) (by decide)))
  refine lv_pop hx hb dL_law_1705 rfl ?_
  refine lv_goto (tgt := 1785) hx hb dL_law_1706 (by decide) ?_
  have zz_36 : ZI (zI_29 (zR zy 0)) := by rw [(k_zI_29.2.row t_2 (by decide) (by decide)), (k_zI_12.2.row t_2 (by decide) (by decide))]; exact hz
  exact kx _ _ _ _ _ h_zI_29.1 j_zI_29 zz_36 hk_35 h3_zI_29 hrr_zI_29 hsh_zI_29 hit_zI_29 hrg_zI_29 hP hD hS hl
set_option maxHeartbeats 4000000 in
set_option maxRecDepth 100000 in
theorem lw_c39 {p : Program} {l : Launch} {e : Env} {s : State} {m : MethodId} {below : List Frame} {meth : Method} {c : Code} {b L : Nat} {xs : Nat → Int32} {A : Nat → Prop} {Q : State → Prop} (hx : p.tables.exec = Jvm.exec) (hb : c.code = cL_law) (hml : c.maxLocals = 4) (hown : s.vm.findClass RL = some m.cls) (hts : ∀ w ∈ wsL_law, w.before #[Value.ref b] s = true) (hX : va_X b L xs s s.heap) (hbl : b < s.heap.size) (hbA : ¬ A b) (hA : ∀ q : Nat, s.heap.size ≤ q → A q) (hL : L ≤ 3072) (dC : Nat → ClassId) (dI : Nat → Nat → Nat) (cy : Nat → ClassId) (zL : List Nat) (zT : Nat → Nat) (zR : Nat → Nat → Nat) (zI : Nat → Nat → Int32) (zJ : Nat → Nat → Int64) (zx zy : Nat) (zi9 : Int32) (hs : SKP zL zT zR) (hw : WT zT zR zI) (t_zx : zT zx = 11) (t_zy : zT zy = 18) (hj : JX zR zI zx) (hz : ZI (zI (zR zy 0))) (hk : (zI zy 23).toInt = 0 ∨ ZI (zI (zR zy 24))) (h3 : R3 zR zI zx zy) (hrr : RRn zR zI zx zy) (hsh : RSH zR zI zx zy) (hit : RIT zR zI zx zy) (hrg : RGn zR zI zy) (hK : va_K (dC, dI) vwCl (TY cy) s) (hN : N0 s) (b_zi9 : 0 ≤ zi9.toInt ∧ zi9.toInt ≤ 3066) (hi1 : zi9.toInt + 6 ≤ (L : Int))
    (kx : ∀ (zI2 : Nat → Nat → Int32) (zJ2 : Nat → Nat → Int64) (H : Heap) (locs : List Loc) (ls : Array Slot), WT zT zR zI2 → JX zR zI2 zx → ZI (zI2 (zR zy 0)) → ((zI2 zy 23).toInt = 0 ∨ ZI (zI2 (zR zy 24))) → (R3 zR zI2 zx zy) → (RRn zR zI2 zx zy) → (RSH zR zI2 zx zy) → (RIT zR zI2 zx zy) → (RGn zR zI2 zy) → va_P (dC, dI) vwCl (WL cy zL zT zR zI2 zJ2) H → va_D A (WL cy zL zT zR zI2 zJ2) → va_S A s.heap H locs → lv_has ls 4 [(0, .ref b), (1, .ref zx), (2, .ref zy), (3, .int zi9)] → W p l e room_1 s m #[Value.ref b] below meth c H locs 265 67857 Q (F0 m 1785 ls []))
    {H : Heap} {locs : List Loc} {ls : Array Slot} (hP : va_P (dC, dI) vwCl (WL cy zL zT zR zI zJ) H) (hD : va_D A (WL cy zL zT zR zI zJ)) (hS : va_S A s.heap H locs) (hl : lv_has ls 4 [(0, .ref b), (1, .ref zx), (2, .ref zy), (3, .int zi9)]) : W p l e room_1 s m #[Value.ref b] below meth c H locs 265 67857 Q (F0 m 1709 ls []) := by
  have h_zI : WM [803, 11000] AL zT zR zI zI := WM.rf hw
  have t_1 : zT (zR zy 24) = 109 := sk_f hs t_zy (by decide) rfl (by decide)
  have t_2 : zT (zR zy 0) = 100 := sk_f hs t_zy (by decide) rfl (by decide)
  refine lv_aload_n hx hb dL_law_1709 rfl (lv_at hl 1 rfl) ?_
  refine lv_aload_n hx hb dL_law_1710 rfl (lv_at hl 0 rfl) ?_
  refine lv_iload_n hx hb dL_law_1711 rfl (lv_at hl 3 rfl) ?_
  refine lv_iconst (v := 1) hx hb dL_law_1712 (by decide) ?_
  refine lv_iadd hx hb dL_law_1713 ?_
  refine lv_topi (fun zi_3 ezi_3 => ?_)
  have tzi_3 : zi_3.toInt = zi9.toInt + (1 : Int) := by rw [ezi_3]; exact tiadd (rfl) (show (1 : Int32).toInt = 1 by decide) (by omega) (by omega)
  refine va_sld hx hb hX hbl hbA hS (vp_in_iff.mpr ⟨by omega, by omega⟩) dL_law_1714 ?_
  refine lv_topi (fun zi_4 ezi_4 => ?_)
  refine hj_i (ws := (WL cy zL zT zR zI zJ)) (w1 := fun (u : (Nat → Nat → Int32)) => (WL cy zL zT zR u zJ)) (va_runV (As := [.int zi_4]) (rest := []) ⟨hx, hb, hml, hown, hts⟩ (t_X10_drop l dC dI cy H.size zL zT zR zI zJ zx zi_4 hs h_zI.1 t_zx hj) (cwV 1 hts gL_law_X10_drop rfl rfl rfl (by decide +kernel) ⟨(Nat.le_of_ble_eq_true rfl), (Nat.le_of_ble_eq_true rfl)⟩) (PRE.v hP hK hD hN (ht_recv hK hP hs t_zx (by decide) rfl rfl)) rfl rfl hl.1 rfl (lv_room (Nat.le_of_ble_eq_true rfl)) dL_law_1715 ⟨(Nat.le_of_ble_eq_true rfl), (Nat.le_of_ble_eq_true rfl)⟩) hP hD hS hA (fun zi_5 zI_8 H locs hw_6 hP hD hS => ?_)
  obtain ⟨k_zI_8, b_zi_5, ps_9, ps_10, ps_11, ps_12, ps_13, ps_14⟩ : (WM [803] AL zT zR zI zI_8) ∧ ((-11) ≤ zi_5.toInt ∧ zi_5.toInt ≤ 24) ∧ (JX zR zI_8 zx) ∧ (zi_5.toInt = DRv zi_4.toInt (zI (zR (zR zx 5) zi_4.toNatClampNeg) 3).toInt (zI (zR (zR zx 5) zi_4.toNatClampNeg) 2).toInt) ∧ (zi_5.toInt = -1 ∨ (zI_8 (zR (zR zx 5) zi_4.toNatClampNeg) 3).toInt = 0) ∧ (zI_8 (zR (zR zx 5) zi_4.toNatClampNeg) 1 = zI (zR (zR zx 5) zi_4.toNatClampNeg) 1 ∧ zI_8 (zR (zR zx 5) zi_4.toNatClampNeg) 2 = zI (zR (zR zx 5) zi_4.toNatClampNeg) 2) ∧ (OTH zT zI zI_8 (zR (zR zx 5) zi_4.toNatClampNeg)) ∧ (¬ (zi_5.toInt = -1) ∨ zI_8 = zI) := hw_6
  have h_zI_8 : WM [803, 11000] AL zT zR zI zI_8 := h_zI.tr k_zI_8 (by decide) (fun _ _ => trivial)
  have hk_15 : (zI_8 zy 23).toInt = 0 ∨ ZI (zI_8 (zR zy 24)) := by rw [k_zI_8.2 zy 23 (Or.inl (by rw [t_zy]; decide)), k_zI_8.2.row t_1 (by decide) (by decide)]; exact hk
  have hit_zI_8 : RIT zR zI_8 zx zy := RIT.sm hit hs t_zx t_zy k_zI_8.2 (by decide)
  have hrr_zI_8 : RRn zR zI_8 zx zy := RRn.sm hrr hs t_zx t_zy k_zI_8.2 (by decide) (FQR.of (k_zI_8.2.row t_2 (by decide) (by decide)))
  have hrg_zI_8 : RGn zR zI_8 zy := RGn.sm hrg hs t_zy k_zI_8.2 (by decide) (FQR.of (k_zI_8.2.row t_2 (by decide) (by decide)))
  have h3_zI_8 : R3 zR zI_8 zx zy := R3.sm h3 hs t_zx t_zy k_zI_8.2 (by decide) (FQ3.of (k_zI_8.2.row t_2 (by decide) (by decide)))
  refine lv_pop hx hb dL_law_1718 rfl ?_
  refine lv_aload_n hx hb dL_law_1719 rfl (lv_at hl 2 rfl) ?_
  refine lv_aload_n hx hb dL_law_1720 rfl (lv_at hl 0 rfl) ?_
  refine lv_iload_n hx hb dL_law_1721 rfl (lv_at hl 3 rfl) ?_
  refine lv_iconst (v := 1) hx hb dL_law_1722 (by decide) ?_
  refine lv_iadd hx hb dL_law_1723 ?_
  refine lv_topi (fun zi_16 ezi_16 => ?_)
  have tzi_16 : zi_16.toInt = zi9.toInt + (1 : Int) := by rw [ezi_16]; exact tiadd (rfl) (show (1 : Int32).toInt = 1 by decide) (by omega) (by omega)
  obtain rfl : zi_3 = zi_16 := ezi_3.trans ezi_16.symm
  refine va_sld hx hb hX hbl hbA hS (vp_in_iff.mpr ⟨by omega, by omega⟩) dL_law_1724 ?_
  refine lv_topi (fun zi_17 ezi_17 => ?_)
  obtain rfl : zi_4 = zi_17 := ezi_4.trans ezi_17.symm
  refine hj_i (ws := (WL cy zL zT zR zI_8 zJ)) (w1 := fun (u : (Nat → Nat → Int32)) => (WL cy zL zT zR u zJ)) (va_runV (As := [.int zi_4]) (rest := []) ⟨hx, hb, hml, hown, hts⟩ (t_X11_drop l dC dI cy H.size zL zT zR zI_8 zJ zy zi_4 hs h_zI_8.1 t_zy) (cwV 1 hts gL_law_X11_drop rfl rfl rfl (by decide +kernel) ⟨(Nat.le_of_ble_eq_true rfl), (Nat.le_of_ble_eq_true rfl)⟩) (PRE.v hP hK hD hN (ht_recv hK hP hs t_zy (by decide) rfl rfl)) rfl rfl hl.1 rfl (lv_room (Nat.le_of_ble_eq_true rfl)) dL_law_1725 ⟨(Nat.le_of_ble_eq_true rfl), (Nat.le_of_ble_eq_true rfl)⟩) hP hD hS hA (fun zi_18 zI_21 H locs hw_19 hP hD hS => ?_)
  obtain ⟨k_zI_21, b_zi_18, ps_22, ps_23, ps_24, ps_25⟩ : (WM [11000] AL zT zR zI_8 zI_21) ∧ ((-11) ≤ zi_18.toInt ∧ zi_18.toInt ≤ 24) ∧ (zi_18.toInt = DRw zi_4.toInt (zI_8 (zR zy 25) zi_4.toNatClampNeg).toInt (zI_8 (zR zy 26) zi_4.toNatClampNeg).toInt) ∧ (zi_18.toInt = -1 ∨ (zI_21 (zR zy 25) zi_4.toNatClampNeg).toInt < 0) ∧ (∀ j : Nat, ¬ j = zi_4.toNatClampNeg → zI_21 (zR zy 25) j = zI_8 (zR zy 25) j) ∧ (¬ (zi_18.toInt = -1) ∨ zI_21 = zI_8) := hw_19
  have h_zI_21 : WM [803, 11000] AL zT zR zI zI_21 := h_zI_8.tr k_zI_21 (by decide) (fun _ _ => trivial)
  have j_zI_21 : JX zR zI_21 zx := JX.sm ps_9 hs t_zx k_zI_21.2 (by decide) (by decide)
  have hk_26 : (zI_21 zy 23).toInt = 0 ∨ ZI (zI_21 (zR zy 24)) := by rw [k_zI_21.2 zy 23 (Or.inl (by rw [t_zy]; decide)), k_zI_21.2.row t_1 (by decide) (by decide)]; exact hk_15
  have t_27 : zT (zR zy 25) = 110 := sk_f hs t_zy (by decide) rfl (by decide)
  have t_28 : zT (zR zy 26) = 111 := sk_f hs t_zy (by decide) rfl (by decide)
  have dq_29 : zi_5.toInt = zi_18.toInt := by rw [ps_10, ps_22, show zI_8 (zR zy 25) = zI (zR zy 25) from k_zI_8.2.row t_27 (by decide) (by decide), show zI_8 (zR zy 26) = zI (zR zy 26) from k_zI_8.2.row t_28 (by decide) (by decide)]; exact DR.eq (a := zi_4) hsh
  have hsh_zI_21 : RSH zR zI_21 zx zy := RSH.drop hsh hs t_zx t_zy k_zI_8.2 (by decide) k_zI_21.2 (by decide) dq_29 (DR.in ps_10) ps_11 ps_12 ps_13 ps_14 ps_23 ps_24 ps_25
  have hit_zI_21 : RIT zR zI_21 zx zy := RIT.sm hit_zI_8 hs t_zx t_zy k_zI_21.2 (by decide)
  have hrr_zI_21 : RRn zR zI_21 zx zy := RRn.sm hrr_zI_8 hs t_zx t_zy k_zI_21.2 (by decide) (FQR.of (k_zI_21.2.row t_2 (by decide) (by decide)))
  have hrg_zI_21 : RGn zR zI_21 zy := RGn.sm hrg_zI_8 hs t_zy k_zI_21.2 (by decide) (FQR.of (k_zI_21.2.row t_2 (by decide) (by decide)))
  have h3_zI_21 : R3 zR zI_21 zx zy := R3.sm h3_zI_8 hs t_zx t_zy k_zI_21.2 (by decide) (FQ3.of (k_zI_21.2.row t_2 (by decide) (by decide)))
  refine lv_pop hx hb dL_law_1728 rfl ?_
  refine lv_goto (tgt := 1785) hx hb dL_law_1729 (by decide) ?_
  have zz_30 : ZI (zI_21 (zR zy 0)) := by rw [(k_zI_21.2.row t_2 (by decide) (by decide)), (k_zI_8.2.row t_2 (by decide) (by decide))]; exact hz
  exact kx _ _ _ _ _ h_zI_21.1 j_zI_21 zz_30 hk_26 h3_zI_21 hrr_zI_21 hsh_zI_21 hit_zI_21 hrg_zI_21 hP hD hS hl
set_option maxHeartbeats 4000000 in
set_option maxRecDepth 100000 in
theorem lw_c40 {p : Program} {l : Launch} {e : Env} {s : State} {m : MethodId} {below : List Frame} {meth : Method} {c : Code} {b L : Nat} {xs : Nat → Int32} {A : Nat → Prop} {Q : State → Prop} (hx : p.tables.exec = Jvm.exec) (hb : c.code = cL_law) (hml : c.maxLocals = 4) (hown : s.vm.findClass RL = some m.cls) (hts : ∀ w ∈ wsL_law, w.before #[Value.ref b] s = true) (hX : va_X b L xs s s.heap) (hbl : b < s.heap.size) (hbA : ¬ A b) (hA : ∀ q : Nat, s.heap.size ≤ q → A q) (hL : L ≤ 3072) (dC : Nat → ClassId) (dI : Nat → Nat → Nat) (cy : Nat → ClassId) (zL : List Nat) (zT : Nat → Nat) (zR : Nat → Nat → Nat) (zI : Nat → Nat → Int32) (zJ : Nat → Nat → Int64) (zx zy : Nat) (zi9 : Int32) (hs : SKP zL zT zR) (hw : WT zT zR zI) (t_zx : zT zx = 11) (t_zy : zT zy = 18) (hj : JX zR zI zx) (hz : ZI (zI (zR zy 0))) (hk : (zI zy 23).toInt = 0 ∨ ZI (zI (zR zy 24))) (h3 : R3 zR zI zx zy) (hrr : RRn zR zI zx zy) (hsh : RSH zR zI zx zy) (hit : RIT zR zI zx zy) (hrg : RGn zR zI zy) (hK : va_K (dC, dI) vwCl (TY cy) s) (hN : N0 s) (b_zi9 : 0 ≤ zi9.toInt ∧ zi9.toInt ≤ 3066) (hi1 : zi9.toInt + 6 ≤ (L : Int))
    (kx : ∀ (zI2 : Nat → Nat → Int32) (zJ2 : Nat → Nat → Int64) (H : Heap) (locs : List Loc) (ls : Array Slot), WT zT zR zI2 → JX zR zI2 zx → ZI (zI2 (zR zy 0)) → ((zI2 zy 23).toInt = 0 ∨ ZI (zI2 (zR zy 24))) → (R3 zR zI2 zx zy) → (RRn zR zI2 zx zy) → (RSH zR zI2 zx zy) → (RIT zR zI2 zx zy) → (RGn zR zI2 zy) → va_P (dC, dI) vwCl (WL cy zL zT zR zI2 zJ2) H → va_D A (WL cy zL zT zR zI2 zJ2) → va_S A s.heap H locs → lv_has ls 4 [(0, .ref b), (1, .ref zx), (2, .ref zy), (3, .int zi9)] → W p l e room_1 s m #[Value.ref b] below meth c H locs 265 67857 Q (F0 m 1785 ls []))
    {H : Heap} {locs : List Loc} {ls : Array Slot} (hP : va_P (dC, dI) vwCl (WL cy zL zT zR zI zJ) H) (hD : va_D A (WL cy zL zT zR zI zJ)) (hS : va_S A s.heap H locs) (hl : lv_has ls 4 [(0, .ref b), (1, .ref zx), (2, .ref zy), (3, .int zi9)]) : W p l e room_1 s m #[Value.ref b] below meth c H locs 265 67857 Q (F0 m 1732 ls []) := by
  have h_zI : WM [3600, 11200] AL zT zR zI zI := WM.rf hw
  have t_1 : zT (zR zy 24) = 109 := sk_f hs t_zy (by decide) rfl (by decide)
  have t_2 : zT (zR zy 0) = 100 := sk_f hs t_zy (by decide) rfl (by decide)
  refine lv_aload_n hx hb dL_law_1732 rfl (lv_at hl 1 rfl) ?_
  refine lv_aload_n hx hb dL_law_1733 rfl (lv_at hl 0 rfl) ?_
  refine lv_iload_n hx hb dL_law_1734 rfl (lv_at hl 3 rfl) ?_
  refine lv_iconst (v := 1) hx hb dL_law_1735 (by decide) ?_
  refine lv_iadd hx hb dL_law_1736 ?_
  refine lv_topi (fun zi_3 ezi_3 => ?_)
  have tzi_3 : zi_3.toInt = zi9.toInt + (1 : Int) := by rw [ezi_3]; exact tiadd (rfl) (show (1 : Int32).toInt = 1 by decide) (by omega) (by omega)
  refine va_sld hx hb hX hbl hbA hS (vp_in_iff.mpr ⟨by omega, by omega⟩) dL_law_1737 ?_
  refine lv_topi (fun zi_4 ezi_4 => ?_)
  refine lv_aload_n hx hb dL_law_1738 rfl (lv_at hl 0 rfl) ?_
  refine lv_iload_n hx hb dL_law_1739 rfl (lv_at hl 3 rfl) ?_
  refine lv_iconst (v := 2) hx hb dL_law_1740 (by decide) ?_
  refine lv_iadd hx hb dL_law_1741 ?_
  refine lv_topi (fun zi_5 ezi_5 => ?_)
  have tzi_5 : zi_5.toInt = zi9.toInt + (2 : Int) := by rw [ezi_5]; exact tiadd (rfl) (show (2 : Int32).toInt = 2 by decide) (by omega) (by omega)
  refine va_sld hx hb hX hbl hbA hS (vp_in_iff.mpr ⟨by omega, by omega⟩) dL_law_1742 ?_
  refine lv_topi (fun zi_6 ezi_6 => ?_)
  refine lv_aload_n hx hb dL_law_1743 rfl (lv_at hl 0 rfl) ?_
  refine lv_iload_n hx hb dL_law_1744 rfl (lv_at hl 3 rfl) ?_
  refine lv_iconst (v := 3) hx hb dL_law_1745 (by decide) ?_
  refine lv_iadd hx hb dL_law_1746 ?_
  refine lv_topi (fun zi_7 ezi_7 => ?_)
  have tzi_7 : zi_7.toInt = zi9.toInt + (3 : Int) := by rw [ezi_7]; exact tiadd (rfl) (show (3 : Int32).toInt = 3 by decide) (by omega) (by omega)
  refine va_sld hx hb hX hbl hbA hS (vp_in_iff.mpr ⟨by omega, by omega⟩) dL_law_1747 ?_
  refine lv_topi (fun zi_8 ezi_8 => ?_)
  refine lv_aload_n hx hb dL_law_1748 rfl (lv_at hl 0 rfl) ?_
  refine lv_iload_n hx hb dL_law_1749 rfl (lv_at hl 3 rfl) ?_
  refine lv_iconst (v := 4) hx hb dL_law_1750 (by decide) ?_
  refine lv_iadd hx hb dL_law_1751 ?_
  refine lv_topi (fun zi_9 ezi_9 => ?_)
  have tzi_9 : zi_9.toInt = zi9.toInt + (4 : Int) := by rw [ezi_9]; exact tiadd (rfl) (show (4 : Int32).toInt = 4 by decide) (by omega) (by omega)
  refine va_sld hx hb hX hbl hbA hS (vp_in_iff.mpr ⟨by omega, by omega⟩) dL_law_1752 ?_
  refine lv_topi (fun zi_10 ezi_10 => ?_)
  refine hj_i (ws := (WL cy zL zT zR zI zJ)) (w1 := fun (u : (Nat → Nat → Int32)) => (WL cy zL zT zR u zJ)) (va_runV (As := [.int zi_4, .int zi_6, .int zi_8, .int zi_10]) (rest := []) ⟨hx, hb, hml, hown, hts⟩ (t_X10_item l dC dI cy H.size zL zT zR zI zJ zx zi_4 zi_6 zi_8 zi_10 hs h_zI.1 t_zx hj) (cwV 4 hts gL_law_X10_item rfl rfl rfl (by decide +kernel) ⟨(Nat.le_of_ble_eq_true rfl), (Nat.le_of_ble_eq_true rfl)⟩) (PRE.v hP hK hD hN (ht_recv hK hP hs t_zx (by decide) rfl rfl)) rfl rfl hl.1 rfl (lv_room (Nat.le_of_ble_eq_true rfl)) dL_law_1753 ⟨(Nat.le_of_ble_eq_true rfl), (Nat.le_of_ble_eq_true rfl)⟩) hP hD hS hA (fun zi_11 zI_14 H locs hw_12 hP hD hS => ?_)
  obtain ⟨k_zI_14, b_zi_11, ps_15, ps_16, ps_17, ps_18⟩ : (WM [3600] AL zT zR zI zI_14) ∧ ((-13) ≤ zi_11.toInt ∧ zi_11.toInt ≤ 1) ∧ (JX zR zI_14 zx) ∧ (zi_11.toInt = ITv zi_4.toInt zi_6.toInt (RFS (zI (zR (zR zx 5) zi_4.toNatClampNeg) 3).toInt (zI (zR (zR zx 5) zi_4.toNatClampNeg) 1).toInt (zI (zR (zR zx 5) zi_4.toNatClampNeg) 2).toInt zi_6.toInt zi_8.toInt (1 : Int32).toInt)) ∧ (zi_11.toInt = 1 → WRT zT zI zI_14 (zR (zR (zR zx 5) zi_4.toNatClampNeg) 0) zi_8.toNatClampNeg (NAR (zI (zR (zR zx 5) zi_4.toNatClampNeg) 1).toInt zi_10)) ∧ (¬ zi_11.toInt = 1 → zI_14 = zI) := hw_12
  have h_zI_14 : WM [3600, 11200] AL zT zR zI zI_14 := h_zI.tr k_zI_14 (by decide) (fun _ _ => trivial)
  have hk_19 : (zI_14 zy 23).toInt = 0 ∨ ZI (zI_14 (zR zy 24)) := by rw [k_zI_14.2 zy 23 (Or.inl (by rw [t_zy]; decide)), k_zI_14.2.row t_1 (by decide) (by decide)]; exact hk
  have hsh_zI_14 : RSH zR zI_14 zx zy := RSH.sm hsh hs t_zx t_zy k_zI_14.2 (by decide)
  have hrr_zI_14 : RRn zR zI_14 zx zy := RRn.sm hrr hs t_zx t_zy k_zI_14.2 (by decide) (FQR.of (k_zI_14.2.row t_2 (by decide) (by decide)))
  have hrg_zI_14 : RGn zR zI_14 zy := RGn.sm hrg hs t_zy k_zI_14.2 (by decide) (FQR.of (k_zI_14.2.row t_2 (by decide) (by decide)))
  have h3_zI_14 : R3 zR zI_14 zx zy := R3.sm h3 hs t_zx t_zy k_zI_14.2 (by decide) (FQ3.of (k_zI_14.2.row t_2 (by decide) (by decide)))
  refine lv_pop hx hb dL_law_1756 rfl ?_
  refine lv_aload_n hx hb dL_law_1757 rfl (lv_at hl 2 rfl) ?_
  refine lv_aload_n hx hb dL_law_1758 rfl (lv_at hl 0 rfl) ?_
  refine lv_iload_n hx hb dL_law_1759 rfl (lv_at hl 3 rfl) ?_
  refine lv_iconst (v := 1) hx hb dL_law_1760 (by decide) ?_
  refine lv_iadd hx hb dL_law_1761 ?_
  refine lv_topi (fun zi_20 ezi_20 => ?_)
  have tzi_20 : zi_20.toInt = zi9.toInt + (1 : Int) := by rw [ezi_20]; exact tiadd (rfl) (show (1 : Int32).toInt = 1 by decide) (by omega) (by omega)
  obtain rfl : zi_3 = zi_20 := ezi_3.trans ezi_20.symm
  refine va_sld hx hb hX hbl hbA hS (vp_in_iff.mpr ⟨by omega, by omega⟩) dL_law_1762 ?_
  refine lv_topi (fun zi_21 ezi_21 => ?_)
  obtain rfl : zi_4 = zi_21 := ezi_4.trans ezi_21.symm
  refine lv_aload_n hx hb dL_law_1763 rfl (lv_at hl 0 rfl) ?_
  refine lv_iload_n hx hb dL_law_1764 rfl (lv_at hl 3 rfl) ?_
  refine lv_iconst (v := 2) hx hb dL_law_1765 (by decide) ?_
  refine lv_iadd hx hb dL_law_1766 ?_
  refine lv_topi (fun zi_22 ezi_22 => ?_)
  have tzi_22 : zi_22.toInt = zi9.toInt + (2 : Int) := by rw [ezi_22]; exact tiadd (rfl) (show (2 : Int32).toInt = 2 by decide) (by omega) (by omega)
  obtain rfl : zi_5 = zi_22 := ezi_5.trans ezi_22.symm
  refine va_sld hx hb hX hbl hbA hS (vp_in_iff.mpr ⟨by omega, by omega⟩) dL_law_1767 ?_
  refine lv_topi (fun zi_23 ezi_23 => ?_)
  obtain rfl : zi_6 = zi_23 := ezi_6.trans ezi_23.symm
  refine lv_aload_n hx hb dL_law_1768 rfl (lv_at hl 0 rfl) ?_
  refine lv_iload_n hx hb dL_law_1769 rfl (lv_at hl 3 rfl) ?_
  refine lv_iconst (v := 3) hx hb dL_law_1770 (by decide) ?_
  refine lv_iadd hx hb dL_law_1771 ?_
  refine lv_topi (fun zi_24 ezi_24 => ?_)
  have tzi_24 : zi_24.toInt = zi9.toInt + (3 : Int) := by rw [ezi_24]; exact tiadd (rfl) (show (3 : Int32).toInt = 3 by decide) (by omega) (by omega)
  obtain rfl : zi_7 = zi_24 := ezi_7.trans ezi_24.symm
  refine va_sld hx hb hX hbl hbA hS (vp_in_iff.mpr ⟨by omega, by omega⟩) dL_law_1772 ?_
  refine lv_topi (fun zi_25 ezi_25 => ?_)
  obtain rfl : zi_8 = zi_25 := ezi_8.trans ezi_25.symm
  refine lv_aload_n hx hb dL_law_1773 rfl (lv_at hl 0 rfl) ?_
  refine lv_iload_n hx hb dL_law_1774 rfl (lv_at hl 3 rfl) ?_
  refine lv_iconst (v := 4) hx hb dL_law_1775 (by decide) ?_
  refine lv_iadd hx hb dL_law_1776 ?_
  refine lv_topi (fun zi_26 ezi_26 => ?_)
  have tzi_26 : zi_26.toInt = zi9.toInt + (4 : Int) := by rw [ezi_26]; exact tiadd (rfl) (show (4 : Int32).toInt = 4 by decide) (by omega) (by omega)
  obtain rfl : zi_9 = zi_26 := ezi_9.trans ezi_26.symm
  refine va_sld hx hb hX hbl hbA hS (vp_in_iff.mpr ⟨by omega, by omega⟩) dL_law_1777 ?_
  refine lv_topi (fun zi_27 ezi_27 => ?_)
  obtain rfl : zi_10 = zi_27 := ezi_10.trans ezi_27.symm
  refine hj_i (ws := (WL cy zL zT zR zI_14 zJ)) (w1 := fun (u : (Nat → Nat → Int32)) => (WL cy zL zT zR u zJ)) (va_runV (As := [.int zi_4, .int zi_6, .int zi_8, .int zi_10]) (rest := []) ⟨hx, hb, hml, hown, hts⟩ (t_X11_item l dC dI cy H.size zL zT zR zI_14 zJ zy zi_4 zi_6 zi_8 zi_10 hs h_zI_14.1 t_zy) (cwV 4 hts gL_law_X11_item rfl rfl rfl (by decide +kernel) ⟨(Nat.le_of_ble_eq_true rfl), (Nat.le_of_ble_eq_true rfl)⟩) (PRE.v hP hK hD hN (ht_recv hK hP hs t_zy (by decide) rfl rfl)) rfl rfl hl.1 rfl (lv_room (Nat.le_of_ble_eq_true rfl)) dL_law_1778 ⟨(Nat.le_of_ble_eq_true rfl), (Nat.le_of_ble_eq_true rfl)⟩) hP hD hS hA (fun zi_28 zI_31 H locs hw_29 hP hD hS => ?_)
  obtain ⟨k_zI_31, b_zi_28, ps_32, ps_33, ps_34⟩ : (WM [11200] AL zT zR zI_14 zI_31) ∧ ((-13) ≤ zi_28.toInt ∧ zi_28.toInt ≤ 1) ∧ (zi_28.toInt = ITv zi_4.toInt zi_6.toInt (LKS (zI_14 (zR zy 25) zi_4.toNatClampNeg).toInt (zI_14 (zR zy 26) zi_4.toNatClampNeg).toInt zi_6.toInt zi_8.toInt (1 : Int32).toInt)) ∧ (zi_28.toInt = 1 → WRI (zI_14 (zR zy 27)) (zI_31 (zR zy 27)) (24 * zi_4.toInt + zi_8.toInt) (NARz zi_6.toInt zi_10)) ∧ (¬ zi_28.toInt = 1 → zI_31 = zI_14) := hw_29
  have h_zI_31 : WM [3600, 11200] AL zT zR zI zI_31 := h_zI_14.tr k_zI_31 (by decide) (fun _ _ => trivial)
  have j_zI_31 : JX zR zI_31 zx := JX.sm ps_15 hs t_zx k_zI_31.2 (by decide) (by decide)
  have hk_35 : (zI_31 zy 23).toInt = 0 ∨ ZI (zI_31 (zR zy 24)) := by rw [k_zI_31.2 zy 23 (Or.inl (by rw [t_zy]; decide)), k_zI_31.2.row t_1 (by decide) (by decide)]; exact hk_19
  have hsh_zI_31 : RSH zR zI_31 zx zy := RSH.sm hsh_zI_14 hs t_zx t_zy k_zI_31.2 (by decide)
  have hrr_zI_31 : RRn zR zI_31 zx zy := RRn.sm hrr_zI_14 hs t_zx t_zy k_zI_31.2 (by decide) (FQR.of (k_zI_31.2.row t_2 (by decide) (by decide)))
  have t_36 : zT (zR zy 25) = 110 := sk_f hs t_zy (by decide) rfl (by decide)
  have t_37 : zT (zR zy 26) = 111 := sk_f hs t_zy (by decide) rfl (by decide)
  have it_zI_31 : zi_11.toInt = zi_28.toInt := (by rw [ps_16, ps_32, show zI_14 (zR zy 25) = zI (zR zy 25) from k_zI_14.2.row t_36 (by decide) (by decide), show zI_14 (zR zy 26) = zI (zR zy 26) from k_zI_14.2.row t_37 (by decide) (by decide)]; exact IT.eq hsh)
  have hit_zI_31 : RIT zR zI_31 zx zy := RIT.item hit h_zI.1 hs t_zx t_zy k_zI_14.2 (by decide) k_zI_31.2 (by decide) it_zI_31 ps_16 ps_17 ps_18 ps_33 ps_34
  have hrg_zI_31 : RGn zR zI_31 zy := RGn.sm hrg_zI_14 hs t_zy k_zI_31.2 (by decide) (FQR.of (k_zI_31.2.row t_2 (by decide) (by decide)))
  have h3_zI_31 : R3 zR zI_31 zx zy := R3.sm h3_zI_14 hs t_zx t_zy k_zI_31.2 (by decide) (FQ3.of (k_zI_31.2.row t_2 (by decide) (by decide)))
  refine lv_pop hx hb dL_law_1781 rfl ?_
  refine lv_goto (tgt := 1785) hx hb dL_law_1782 (by decide) ?_
  have zz_38 : ZI (zI_31 (zR zy 0)) := by rw [(k_zI_31.2.row t_2 (by decide) (by decide)), (k_zI_14.2.row t_2 (by decide) (by decide))]; exact hz
  exact kx _ _ _ _ _ h_zI_31.1 j_zI_31 zz_38 hk_35 h3_zI_31 hrr_zI_31 hsh_zI_31 hit_zI_31 hrg_zI_31 hP hD hS hl
