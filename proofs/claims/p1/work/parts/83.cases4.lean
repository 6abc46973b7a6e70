set_option maxHeartbeats 4000000 in
set_option maxRecDepth 100000 in
theorem lw_c28 {p : Program} {l : Launch} {e : Env} {s : State} {m : MethodId} {below : List Frame} {meth : Method} {c : Code} {b : Nat} {xs : Nat → Int32} {A : Nat → Prop} {Q : State → Prop} (hx : p.tables.exec = Jvm.exec) (hb : c.code = cL_law) (hml : c.maxLocals = 4) (hown : s.vm.findClass RL = some m.cls) (hts : ∀ w ∈ wsL_law, w.before #[Value.ref b] s = true) (hX : va_X b 6 xs s s.heap) (hbl : b < s.heap.size) (hbA : ¬ A b) (hA : ∀ q : Nat, s.heap.size ≤ q → A q) (dC : Nat → ClassId) (dI : Nat → Nat → Nat) (cy : Nat → ClassId) (zx : Nat) (zy : Nat) (zn : Nat) (zk : Nat) (zr : Nat) (zl : Nat) (zc : Nat) (zs : Nat) (zw : Nat) (zt : Nat) (zm : Nat) (znh : Nat) (znl : Nat) (znc : Nat) (znd : Nat) (znm : Nat) (zno : Nat) (zni : Nat) (znc0 : Nat) (znc1 : Nat) (znc0k : Nat) (znc0w : Nat) (znc0y : Nat) (znc0s : Nat) (znc0f : Nat) (znc0l : Nat) (znc0z : Nat) (znc1k : Nat) (znc1w : Nat) (znc1y : Nat) (znc1s : Nat) (znc1f : Nat) (znc1l : Nat) (znc1z : Nat) (zy0 : Nat) (zy1 : Nat) (zy5 : Nat) (zy8 : Nat) (zy9 : Nat) (zy10 : Nat) (zy11 : Nat) (zy12 : Nat) (zy13 : Nat) (zy14 : Nat) (zy16 : Nat) (zy17 : Nat) (zy18 : Nat) (zy21 : Nat) (zy22 : Nat) (zy24 : Nat) (zy25 : Nat) (zy26 : Nat) (zy27 : Nat) (hK : va_K (dC, dI) vwCl (TY cy) s) (hN : N0 s)
    (kx : ∀ (H : Heap) (locs : List Loc) (ls : Array Slot), va_S A s.heap H locs → lv_has ls 4 [(0, .ref b), (1, .ref zx), (2, .ref zy), (3, .int 0)] → W p l e room_1 s m #[Value.ref b] below meth c H locs 265 67857 Q (F0 m 1792 ls []))
    {H : Heap} {locs : List Loc} {ls : Array Slot} (hP : va_P (dC, dI) vwCl [(zx, .inr (10, [.ref zn, .ref zk, .ref zr, .ref zl, .ref zc, .ref zs, .ref zw, .ref zt, .ref zm, .int 0])), (zn, .inr (8, [.ref znh, .ref znl, .ref znc, .ref znd, .ref znm, .ref zno, .ref zni, .int 0, .int 0])), (znc, .inl (cy 3, 2, .inr (.inr (.inr (.inr (va_up (va_up (fun _ => none) (0 : Int32).toNatClampNeg (some znc0)) (1 : Int32).toNatClampNeg (some znc1))))))), (znc0, .inr (0, [.ref znc0k, .ref znc0w, .ref znc0y, .ref znc0s, .ref znc0f, .ref znc0l, .ref znc0z, .int 0, .int 0, .int 2, .int 0])), (znc1, .inr (0, [.ref znc1k, .ref znc1w, .ref znc1y, .ref znc1s, .ref znc1f, .ref znc1l, .ref znc1z, .int 0, .int 0, .int 2, .int 0])), (zy, .inr (11, [.ref zy0, .ref zy1, .int 0, .int 0, .int 0, .ref zy5, .int 0, .int 0, .ref zy8, .ref zy9, .ref zy10, .ref zy11, .ref zy12, .ref zy13, .ref zy14, .long 0, .ref zy16, .ref zy17, .ref zy18, .int 0, .long 0, .ref zy21, .ref zy22, .int 0, .ref zy24, .ref zy25, .ref zy26, .ref zy27])), (zy0, .inl (cy 0, 392, .inl zz))] H) (hD : va_D A [(zx, .inr (10, [.ref zn, .ref zk, .ref zr, .ref zl, .ref zc, .ref zs, .ref zw, .ref zt, .ref zm, .int 0])), (zn, .inr (8, [.ref znh, .ref znl, .ref znc, .ref znd, .ref znm, .ref zno, .ref zni, .int 0, .int 0])), (znc, .inl (cy 3, 2, .inr (.inr (.inr (.inr (va_up (va_up (fun _ => none) (0 : Int32).toNatClampNeg (some znc0)) (1 : Int32).toNatClampNeg (some znc1))))))), (znc0, .inr (0, [.ref znc0k, .ref znc0w, .ref znc0y, .ref znc0s, .ref znc0f, .ref znc0l, .ref znc0z, .int 0, .int 0, .int 2, .int 0])), (znc1, .inr (0, [.ref znc1k, .ref znc1w, .ref znc1y, .ref znc1s, .ref znc1f, .ref znc1l, .ref znc1z, .int 0, .int 0, .int 2, .int 0])), (zy, .inr (11, [.ref zy0, .ref zy1, .int 0, .int 0, .int 0, .ref zy5, .int 0, .int 0, .ref zy8, .ref zy9, .ref zy10, .ref zy11, .ref zy12, .ref zy13, .ref zy14, .long 0, .ref zy16, .ref zy17, .ref zy18, .int 0, .long 0, .ref zy21, .ref zy22, .int 0, .ref zy24, .ref zy25, .ref zy26, .ref zy27])), (zy0, .inl (cy 0, 392, .inl zz))]) (hS : va_S A s.heap H locs) (hl : lv_has ls 4 [(0, .ref b), (1, .ref zx), (2, .ref zy), (3, .int 0)]) : W p l e room_1 s m #[Value.ref b] below meth c H locs 265 67857 Q (F0 m 1340 ls []) := by
  refine lv_aload_n hx hb dL_law_1340 rfl (lv_at hl 1 rfl) ?_
  refine lv_aload_n hx hb dL_law_1341 rfl (lv_at hl 0 rfl) ?_
  refine lv_iload_n hx hb dL_law_1342 rfl (lv_at hl 3 rfl) ?_
  refine lv_iconst (v := 1) hx hb dL_law_1343 (by decide) ?_
  refine lv_iadd hx hb dL_law_1344 ?_
  refine lv_topi (fun v_1 ev_1 => ?_)
  obtain rfl : v_1 = (1 : Int32) := ev_1.trans (by decide)
  refine va_sld hx hb hX hbl hbA hS (vp_in_iff.mpr ⟨by decide, by decide⟩) dL_law_1345 ?_
  refine W.eq (g2 := F0 m 1346 ls [.int (xs 1), .ref zx]) rfl ?_
  refine lv_aload_n hx hb dL_law_1346 rfl (lv_at hl 0 rfl) ?_
  refine lv_iload_n hx hb dL_law_1347 rfl (lv_at hl 3 rfl) ?_
  refine lv_iconst (v := 2) hx hb dL_law_1348 (by decide) ?_
  refine lv_iadd hx hb dL_law_1349 ?_
  refine lv_topi (fun v_2 ev_2 => ?_)
  obtain rfl : v_2 = (2 : Int32) := ev_2.trans (by decide)
  refine va_sld hx hb hX hbl hbA hS (vp_in_iff.mpr ⟨by decide, by decide⟩) dL_law_1350 ?_
  refine W.eq (g2 := F0 m 1351 ls [.int (xs 2), .int (xs 1), .ref zx]) rfl ?_
  refine lv_aload_n hx hb dL_law_1351 rfl (lv_at hl 0 rfl) ?_
  refine lv_iload_n hx hb dL_law_1352 rfl (lv_at hl 3 rfl) ?_
  refine lv_iconst (v := 3) hx hb dL_law_1353 (by decide) ?_
  refine lv_iadd hx hb dL_law_1354 ?_
  refine lv_topi (fun v_3 ev_3 => ?_)
  obtain rfl : v_3 = (3 : Int32) := ev_3.trans (by decide)
  refine va_sld hx hb hX hbl hbA hS (vp_in_iff.mpr ⟨by decide, by decide⟩) dL_law_1355 ?_
  refine W.eq (g2 := F0 m 1356 ls [.int (xs 3), .int (xs 2), .int (xs 1), .ref zx]) rfl ?_
  refine cj_l (wc := [(zx, .inr (10, [.ref zn, .ref zk, .ref zr, .ref zl, .ref zc, .ref zs, .ref zw, .ref zt, .ref zm, .int 0])), (zn, .inr (8, [.ref znh, .ref znl, .ref znc, .ref znd, .ref znm, .ref zno, .ref zni, .int 0, .int 0])), (znc, .inl (cy 3, 2, .inr (.inr (.inr (.inr (va_up (va_up (fun _ => none) (0 : Int32).toNatClampNeg (some znc0)) (1 : Int32).toNatClampNeg (some znc1))))))), (znc0, .inr (0, [.ref znc0k, .ref znc0w, .ref znc0y, .ref znc0s, .ref znc0f, .ref znc0l, .ref znc0z, .int 0, .int 0, .int 2, .int 0])), (znc1, .inr (0, [.ref znc1k, .ref znc1w, .ref znc1y, .ref znc1s, .ref znc1f, .ref znc1l, .ref znc1z, .int 0, .int 0, .int 2, .int 0]))]) (wr := [(zy, .inr (11, [.ref zy0, .ref zy1, .int 0, .int 0, .int 0, .ref zy5, .int 0, .int 0, .ref zy8, .ref zy9, .ref zy10, .ref zy11, .ref zy12, .ref zy13, .ref zy14, .long 0, .ref zy16, .ref zy17, .ref zy18, .int 0, .long 0, .ref zy21, .ref zy22, .int 0, .ref zy24, .ref zy25, .ref zy26, .ref zy27])), (zy0, .inl (cy 0, 392, .inl zz))]) (w1 := fun (_ : Unit) => []) (va_runV (As := [.int (xs 1), .int (xs 2), .int (xs 3)]) (rest := []) ⟨hx, hb, hml, hown, hts⟩ (c_X10_oneYear l dC dI cy H.size zx (xs 1) (xs 2) (xs 3) zn zk zr zl zc zs zw zt zm znh znl znc znd znm zno zni znc0 znc1 znc0k znc0w znc0y znc0s znc0f znc0l znc0z znc1k znc1w znc1y znc1s znc1f znc1l znc1z) (cwV 3 hts gL_law_X10_oneYear rfl rfl rfl (by decide +kernel) ⟨(Nat.le_of_ble_eq_true rfl), (Nat.le_of_ble_eq_true rfl)⟩) (PRE.v (hP.sub [0, 1, 2, 3, 4] rfl) hK (hD.sub [0, 1, 2, 3, 4] (by decide) rfl) hN (va_recv hK hP (ci := 10) (q0 := 0) rfl rfl)) rfl rfl hl.1 rfl (lv_room (Nat.le_of_ble_eq_true rfl)) dL_law_1356 ⟨(Nat.le_of_ble_eq_true rfl), (Nat.le_of_ble_eq_true rfl)⟩) hP hD hS hA [0, 1, 2, 3, 4] [5, 6] rfl rfl rfl (by decide) (fun r_5 u_4 H locs hw_6 hP hD hS => ?_)
  have hP : va_P (dC, dI) vwCl [(zy, .inr (11, [.ref zy0, .ref zy1, .int 0, .int 0, .int 0, .ref zy5, .int 0, .int 0, .ref zy8, .ref zy9, .ref zy10, .ref zy11, .ref zy12, .ref zy13, .ref zy14, .long 0, .ref zy16, .ref zy17, .ref zy18, .int 0, .long 0, .ref zy21, .ref zy22, .int 0, .ref zy24, .ref zy25, .ref zy26, .ref zy27])), (zy0, .inl (cy 0, 392, .inl zz))] H := hP
  have hD : va_D A [(zy, .inr (11, [.ref zy0, .ref zy1, .int 0, .int 0, .int 0, .ref zy5, .int 0, .int 0, .ref zy8, .ref zy9, .ref zy10, .ref zy11, .ref zy12, .ref zy13, .ref zy14, .long 0, .ref zy16, .ref zy17, .ref zy18, .int 0, .long 0, .ref zy21, .ref zy22, .int 0, .ref zy24, .ref zy25, .ref zy26, .ref zy27])), (zy0, .inl (cy 0, 392, .inl zz))] := hD
  obtain rfl : r_5 = (-1) := hw_6
  refine lv_aload_n hx hb dL_law_1359 rfl (lv_at hl 2 rfl) ?_
  refine lv_aload_n hx hb dL_law_1360 rfl (lv_at hl 0 rfl) ?_
  refine lv_iload_n hx hb dL_law_1361 rfl (lv_at hl 3 rfl) ?_
  refine lv_iconst (v := 1) hx hb dL_law_1362 (by decide) ?_
  refine lv_iadd hx hb dL_law_1363 ?_
  refine lv_topi (fun v_7 ev_7 => ?_)
  obtain rfl : v_7 = (1 : Int32) := ev_7.trans (by decide)
  refine va_sld hx hb hX hbl hbA hS (vp_in_iff.mpr ⟨by decide, by decide⟩) dL_law_1364 ?_
  refine W.eq (g2 := F0 m 1365 ls [.int (xs 1), .ref zy, .long (-1)]) rfl ?_
  refine lv_aload_n hx hb dL_law_1365 rfl (lv_at hl 0 rfl) ?_
  refine lv_iload_n hx hb dL_law_1366 rfl (lv_at hl 3 rfl) ?_
  refine lv_iconst (v := 2) hx hb dL_law_1367 (by decide) ?_
  refine lv_iadd hx hb dL_law_1368 ?_
  refine lv_topi (fun v_8 ev_8 => ?_)
  obtain rfl : v_8 = (2 : Int32) := ev_8.trans (by decide)
  refine va_sld hx hb hX hbl hbA hS (vp_in_iff.mpr ⟨by decide, by decide⟩) dL_law_1369 ?_
  refine W.eq (g2 := F0 m 1370 ls [.int (xs 2), .int (xs 1), .ref zy, .long (-1)]) rfl ?_
  refine lv_aload_n hx hb dL_law_1370 rfl (lv_at hl 0 rfl) ?_
  refine lv_iload_n hx hb dL_law_1371 rfl (lv_at hl 3 rfl) ?_
  refine lv_iconst (v := 3) hx hb dL_law_1372 (by decide) ?_
  refine lv_iadd hx hb dL_law_1373 ?_
  refine lv_topi (fun v_9 ev_9 => ?_)
  obtain rfl : v_9 = (3 : Int32) := ev_9.trans (by decide)
  refine va_sld hx hb hX hbl hbA hS (vp_in_iff.mpr ⟨by decide, by decide⟩) dL_law_1374 ?_
  refine W.eq (g2 := F0 m 1375 ls [.int (xs 3), .int (xs 2), .int (xs 1), .ref zy, .long (-1)]) rfl ?_
  refine cj_l (wc := [(zy, .inr (11, [.ref zy0, .ref zy1, .int 0, .int 0, .int 0, .ref zy5, .int 0, .int 0, .ref zy8, .ref zy9, .ref zy10, .ref zy11, .ref zy12, .ref zy13, .ref zy14, .long 0, .ref zy16, .ref zy17, .ref zy18, .int 0, .long 0, .ref zy21, .ref zy22, .int 0, .ref zy24, .ref zy25, .ref zy26, .ref zy27])), (zy0, .inl (cy 0, 392, .inl zz))]) (wr := []) (w1 := fun (_ : Unit) => []) (va_runV (As := [.int (xs 1), .int (xs 2), .int (xs 3)]) (rest := [.long (-1)]) ⟨hx, hb, hml, hown, hts⟩ (c_X11_oneYear l dC dI cy H.size zy (xs 1) (xs 2) (xs 3) zy0 zy1 zy5 zy8 zy9 zy10 zy11 zy12 zy13 zy14 zy16 zy17 zy18 zy21 zy22 zy24 zy25 zy26 zy27) (cwV 3 hts gL_law_X11_oneYear rfl rfl rfl (by decide +kernel) ⟨(Nat.le_of_ble_eq_true rfl), (Nat.le_of_ble_eq_true rfl)⟩) (PRE.v (hP.sub [0, 1] rfl) hK (hD.sub [0, 1] (by decide) rfl) hN (va_recv hK hP (ci := 11) (q0 := 0) rfl rfl)) rfl rfl hl.1 rfl (lv_room (Nat.le_of_ble_eq_true rfl)) dL_law_1375 ⟨(Nat.le_of_ble_eq_true rfl), (Nat.le_of_ble_eq_true rfl)⟩) hP hD hS hA [0, 1] [] rfl rfl rfl (by decide) (fun r_11 u_10 H locs hw_12 hP hD hS => ?_)
  have hP : va_P (dC, dI) vwCl [] H := hP
  have hD : va_D A [] := hD
  obtain rfl : r_11 = (-1) := hw_12
  refine W.lcmp hx hb dL_law_1378 ?_
  refine lv_topi (fun v_13 ev_13 => ?_)
  obtain rfl : v_13 = (0 : Int32) := ev_13.trans (by decide)
  refine lv_if_eq (tgt := 1792) hx hb dL_law_1379 (by decide) (fun c_15 => ?_) (fun c_15 => absurd (by decide) c_15)
  exact kx _ _ _ hS hl
set_option maxHeartbeats 4000000 in
set_option maxRecDepth 100000 in
theorem lw_c29 {p : Program} {l : Launch} {e : Env} {s : State} {m : MethodId} {below : List Frame} {meth : Method} {c : Code} {b : Nat} {xs : Nat → Int32} {A : Nat → Prop} {Q : State → Prop} (hx : p.tables.exec = Jvm.exec) (hb : c.code = cL_law) (hml : c.maxLocals = 4) (hown : s.vm.findClass RL = some m.cls) (hts : ∀ w ∈ wsL_law, w.before #[Value.ref b] s = true) (hX : va_X b 6 xs s s.heap) (hbl : b < s.heap.size) (hbA : ¬ A b) (hA : ∀ q : Nat, s.heap.size ≤ q → A q) (dC : Nat → ClassId) (dI : Nat → Nat → Nat) (cy : Nat → ClassId) (zx : Nat) (zy : Nat) (zn : Nat) (zk : Nat) (zr : Nat) (zl : Nat) (zc : Nat) (zs : Nat) (zw : Nat) (zt : Nat) (zm : Nat) (znh : Nat) (znl : Nat) (znc : Nat) (znd : Nat) (znm : Nat) (zno : Nat) (zni : Nat) (znc0 : Nat) (znc1 : Nat) (znc0k : Nat) (znc0w : Nat) (znc0y : Nat) (znc0s : Nat) (znc0f : Nat) (znc0l : Nat) (znc0z : Nat) (zy0 : Nat) (zy1 : Nat) (zy5 : Nat) (zy8 : Nat) (zy9 : Nat) (zy10 : Nat) (zy11 : Nat) (zy12 : Nat) (zy13 : Nat) (zy14 : Nat) (zy16 : Nat) (zy17 : Nat) (zy18 : Nat) (zy21 : Nat) (zy22 : Nat) (zy24 : Nat) (zy25 : Nat) (zy26 : Nat) (zy27 : Nat) (hK : va_K (dC, dI) vwCl (TY cy) s) (hN : N0 s)
    (kx : ∀ (H : Heap) (locs : List Loc) (ls : Array Slot), va_S A s.heap H locs → lv_has ls 4 [(0, .ref b), (1, .ref zx), (2, .ref zy), (3, .int 0)] → W p l e room_1 s m #[Value.ref b] below meth c H locs 265 67857 Q (F0 m 1792 ls []))
    {H : Heap} {locs : List Loc} {ls : Array Slot} (hP : va_P (dC, dI) vwCl [(zx, .inr (10, [.ref zn, .ref zk, .ref zr, .ref zl, .ref zc, .ref zs, .ref zw, .ref zt, .ref zm, .int 0])), (zn, .inr (8, [.ref znh, .ref znl, .ref znc, .ref znd, .ref znm, .ref zno, .ref zni, .int 0, .int 0])), (znc, .inl (cy 3, 2, .inr (.inr (.inr (.inr (va_up (va_up (fun _ => none) (0 : Int32).toNatClampNeg (some znc0)) (1 : Int32).toNatClampNeg (some znc1))))))), (znc0, .inr (0, [.ref znc0k, .ref znc0w, .ref znc0y, .ref znc0s, .ref znc0f, .ref znc0l, .ref znc0z, .int 0, .int 0, .int 2, .int 0])), (zy, .inr (11, [.ref zy0, .ref zy1, .int 0, .int 0, .int 0, .ref zy5, .int 0, .int 0, .ref zy8, .ref zy9, .ref zy10, .ref zy11, .ref zy12, .ref zy13, .ref zy14, .long 0, .ref zy16, .ref zy17, .ref zy18, .int 0, .long 0, .ref zy21, .ref zy22, .int 0, .ref zy24, .ref zy25, .ref zy26, .ref zy27])), (zy0, .inl (cy 0, 392, .inl zz))] H) (hD : va_D A [(zx, .inr (10, [.ref zn, .ref zk, .ref zr, .ref zl, .ref zc, .ref zs, .ref zw, .ref zt, .ref zm, .int 0])), (zn, .inr (8, [.ref znh, .ref znl, .ref znc, .ref znd, .ref znm, .ref zno, .ref zni, .int 0, .int 0])), (znc, .inl (cy 3, 2, .inr (.inr (.inr (.inr (va_up (va_up (fun _ => none) (0 : Int32).toNatClampNeg (some znc0)) (1 : Int32).toNatClampNeg (some znc1))))))), (znc0, .inr (0, [.ref znc0k, .ref znc0w, .ref znc0y, .ref znc0s, .ref znc0f, .ref znc0l, .ref znc0z, .int 0, .int 0, .int 2, .int 0])), (zy, .inr (11, [.ref zy0, .ref zy1, .int 0, .int 0, .int 0, .ref zy5, .int 0, .int 0, .ref zy8, .ref zy9, .ref zy10, .ref zy11, .ref zy12, .ref zy13, .ref zy14, .long 0, .ref zy16, .ref zy17, .ref zy18, .int 0, .long 0, .ref zy21, .ref zy22, .int 0, .ref zy24, .ref zy25, .ref zy26, .ref zy27])), (zy0, .inl (cy 0, 392, .inl zz))]) (hS : va_S A s.heap H locs) (hl : lv_has ls 4 [(0, .ref b), (1, .ref zx), (2, .ref zy), (3, .int 0)]) : W p l e room_1 s m #[Value.ref b] below meth c H locs 265 67857 Q (F0 m 1384 ls []) := by
  refine lv_aload_n hx hb dL_law_1384 rfl (lv_at hl 1 rfl) ?_
  refine lv_aload_n hx hb dL_law_1385 rfl (lv_at hl 0 rfl) ?_
  refine lv_iload_n hx hb dL_law_1386 rfl (lv_at hl 3 rfl) ?_
  refine lv_iconst (v := 1) hx hb dL_law_1387 (by decide) ?_
  refine lv_iadd hx hb dL_law_1388 ?_
  refine lv_topi (fun v_1 ev_1 => ?_)
  obtain rfl : v_1 = (1 : Int32) := ev_1.trans (by decide)
  refine va_sld hx hb hX hbl hbA hS (vp_in_iff.mpr ⟨by decide, by decide⟩) dL_law_1389 ?_
  refine W.eq (g2 := F0 m 1390 ls [.int (xs 1), .ref zx]) rfl ?_
  refine cj_l (wc := [(zx, .inr (10, [.ref zn, .ref zk, .ref zr, .ref zl, .ref zc, .ref zs, .ref zw, .ref zt, .ref zm, .int 0])), (zn, .inr (8, [.ref znh, .ref znl, .ref znc, .ref znd, .ref znm, .ref zno, .ref zni, .int 0, .int 0])), (znc, .inl (cy 3, 2, .inr (.inr (.inr (.inr (va_up (va_up (fun _ => none) (0 : Int32).toNatClampNeg (some znc0)) (1 : Int32).toNatClampNeg (some znc1))))))), (znc0, .inr (0, [.ref znc0k, .ref znc0w, .ref znc0y, .ref znc0s, .ref znc0f, .ref znc0l, .ref znc0z, .int 0, .int 0, .int 2, .int 0]))]) (wr := [(zy, .inr (11, [.ref zy0, .ref zy1, .int 0, .int 0, .int 0, .ref zy5, .int 0, .int 0, .ref zy8, .ref zy9, .ref zy10, .ref zy11, .ref zy12, .ref zy13, .ref zy14, .long 0, .ref zy16, .ref zy17, .ref zy18, .int 0, .long 0, .ref zy21, .ref zy22, .int 0, .ref zy24, .ref zy25, .ref zy26, .ref zy27])), (zy0, .inl (cy 0, 392, .inl zz))]) (w1 := fun (_ : Unit) => []) (va_runV (As := [.int (xs 1)]) (rest := []) ⟨hx, hb, hml, hown, hts⟩ (c_X10_tie l dC dI cy H.size zx (xs 1) zn zk zr zl zc zs zw zt zm znh znl znc znd znm zno zni znc0 znc1 znc0k znc0w znc0y znc0s znc0f znc0l znc0z) (cwV 1 hts gL_law_X10_tie rfl rfl rfl (by decide +kernel) ⟨(Nat.le_of_ble_eq_true rfl), (Nat.le_of_ble_eq_true rfl)⟩) (PRE.v (hP.sub [0, 1, 2, 3] rfl) hK (hD.sub [0, 1, 2, 3] (by decide) rfl) hN (va_recv hK hP (ci := 10) (q0 := 0) rfl rfl)) rfl rfl hl.1 rfl (lv_room (Nat.le_of_ble_eq_true rfl)) dL_law_1390 ⟨(Nat.le_of_ble_eq_true rfl), (Nat.le_of_ble_eq_true rfl)⟩) hP hD hS hA [0, 1, 2, 3] [4, 5] rfl rfl rfl (by decide) (fun r_3 u_2 H locs hw_4 hP hD hS => ?_)
  have hP : va_P (dC, dI) vwCl [(zy, .inr (11, [.ref zy0, .ref zy1, .int 0, .int 0, .int 0, .ref zy5, .int 0, .int 0, .ref zy8, .ref zy9, .ref zy10, .ref zy11, .ref zy12, .ref zy13, .ref zy14, .long 0, .ref zy16, .ref zy17, .ref zy18, .int 0, .long 0, .ref zy21, .ref zy22, .int 0, .ref zy24, .ref zy25, .ref zy26, .ref zy27])), (zy0, .inl (cy 0, 392, .inl zz))] H := hP
  have hD : va_D A [(zy, .inr (11, [.ref zy0, .ref zy1, .int 0, .int 0, .int 0, .ref zy5, .int 0, .int 0, .ref zy8, .ref zy9, .ref zy10, .ref zy11, .ref zy12, .ref zy13, .ref zy14, .long 0, .ref zy16, .ref zy17, .ref zy18, .int 0, .long 0, .ref zy21, .ref zy22, .int 0, .ref zy24, .ref zy25, .ref zy26, .ref zy27])), (zy0, .inl (cy 0, 392, .inl zz))] := hD
  have hw_4 : r_3 = an_tie (xs 1) := hw_4
  refine lv_aload_n hx hb dL_law_1393 rfl (lv_at hl 2 rfl) ?_
  refine lv_aload_n hx hb dL_law_1394 rfl (lv_at hl 0 rfl) ?_
  refine lv_iload_n hx hb dL_law_1395 rfl (lv_at hl 3 rfl) ?_
  refine lv_iconst (v := 1) hx hb dL_law_1396 (by decide) ?_
  refine lv_iadd hx hb dL_law_1397 ?_
  refine lv_topi (fun v_5 ev_5 => ?_)
  obtain rfl : v_5 = (1 : Int32) := ev_5.trans (by decide)
  refine va_sld hx hb hX hbl hbA hS (vp_in_iff.mpr ⟨by decide, by decide⟩) dL_law_1398 ?_
  refine W.eq (g2 := F0 m 1399 ls [.int (xs 1), .ref zy, .long r_3]) rfl ?_
  refine cj_l (wc := [(zy, .inr (11, [.ref zy0, .ref zy1, .int 0, .int 0, .int 0, .ref zy5, .int 0, .int 0, .ref zy8, .ref zy9, .ref zy10, .ref zy11, .ref zy12, .ref zy13, .ref zy14, .long 0, .ref zy16, .ref zy17, .ref zy18, .int 0, .long 0, .ref zy21, .ref zy22, .int 0, .ref zy24, .ref zy25, .ref zy26, .ref zy27])), (zy0, .inl (cy 0, 392, .inl zz))]) (wr := []) (w1 := fun (_ : Unit) => []) (va_runV (As := [.int (xs 1)]) (rest := [.long r_3]) ⟨hx, hb, hml, hown, hts⟩ (c_X11_tie l dC dI cy H.size zy (xs 1) zy0 zy1 zy5 zy8 zy9 zy10 zy11 zy12 zy13 zy14 zy16 zy17 zy18 zy21 zy22 zy24 zy25 zy26 zy27) (cwV 1 hts gL_law_X11_tie rfl rfl rfl (by decide +kernel) ⟨(Nat.le_of_ble_eq_true rfl), (Nat.le_of_ble_eq_true rfl)⟩) (PRE.v (hP.sub [0, 1] rfl) hK (hD.sub [0, 1] (by decide) rfl) hN (va_recv hK hP (ci := 11) (q0 := 0) rfl rfl)) rfl rfl hl.1 rfl (lv_room (Nat.le_of_ble_eq_true rfl)) dL_law_1399 ⟨(Nat.le_of_ble_eq_true rfl), (Nat.le_of_ble_eq_true rfl)⟩) hP hD hS hA [0, 1] [] rfl rfl rfl (by decide) (fun r_7 u_6 H locs hw_8 hP hD hS => ?_)
  have hP : va_P (dC, dI) vwCl [] H := hP
  have hD : va_D A [] := hD
  have hw_8 : r_7 = an_tie (xs 1) := hw_8
  refine W.lcmp hx hb dL_law_1402 ?_
  refine lv_topi (fun v_9 ev_9 => ?_)
  refine lv_if_eq (tgt := 1792) hx hb dL_law_1403 (by decide) (fun c_10 => ?_) (fun c_10 => absurd (ev_9.trans ((lg_cmp_eq _ _).mpr (hw_4.trans hw_8.symm))) c_10)
  exact kx _ _ _ hS hl
set_option maxHeartbeats 4000000 in
set_option maxRecDepth 100000 in
theorem lw_c30 {p : Program} {l : Launch} {e : Env} {s : State} {m : MethodId} {below : List Frame} {meth : Method} {c : Code} {b : Nat} {xs : Nat → Int32} {A : Nat → Prop} {Q : State → Prop} (hx : p.tables.exec = Jvm.exec) (hb : c.code = cL_law) (hml : c.maxLocals = 4) (hown : s.vm.findClass RL = some m.cls) (hts : ∀ w ∈ wsL_law, w.before #[Value.ref b] s = true) (hX : va_X b 6 xs s s.heap) (hbl : b < s.heap.size) (hbA : ¬ A b) (hA : ∀ q : Nat, s.heap.size ≤ q → A q) (dC : Nat → ClassId) (dI : Nat → Nat → Nat) (cy : Nat → ClassId) (zx : Nat) (zy : Nat) (zn : Nat) (zk : Nat) (zr : Nat) (zl : Nat) (zc : Nat) (zs : Nat) (zw : Nat) (zt : Nat) (zm : Nat) (zrt : Nat) (zct : Nat) (zcw : Nat) (zcf : Nat) (zcl : Nat) (zcg : Nat) (zcn : Nat) (zy0 : Nat) (zy1 : Nat) (zy5 : Nat) (zy8 : Nat) (zy9 : Nat) (zy10 : Nat) (zy11 : Nat) (zy12 : Nat) (zy13 : Nat) (zy14 : Nat) (zy16 : Nat) (zy17 : Nat) (zy18 : Nat) (zy21 : Nat) (zy22 : Nat) (zy24 : Nat) (zy25 : Nat) (zy26 : Nat) (zy27 : Nat) (hK : va_K (dC, dI) vwCl (TY cy) s) (hN : N0 s)
    (kx : ∀ (H : Heap) (locs : List Loc) (ls : Array Slot), va_S A s.heap H locs → lv_has ls 4 [(0, .ref b), (1, .ref zx), (2, .ref zy), (3, .int 0)] → W p l e room_1 s m #[Value.ref b] below meth c H locs 265 67857 Q (F0 m 1792 ls []))
    {H : Heap} {locs : List Loc} {ls : Array Slot} (hP : va_P (dC, dI) vwCl [(zx, .inr (10, [.ref zn, .ref zk, .ref zr, .ref zl, .ref zc, .ref zs, .ref zw, .ref zt, .ref zm, .int 0])), (zr, .inr (6, [.ref zrt, .int 0, .int 0, .int 0])), (zc, .inr (1, [.ref zct, .ref zcw, .ref zcf, .ref zcl, .ref zcg, .ref zcn, .int 0, .int 0])), (zct, .inl (cy 0, 2, .inl (fun _ => 0))), (zcn, .inl (cy 2, 2, .inl (fun _ => 0))), (zy, .inr (11, [.ref zy0, .ref zy1, .int 0, .int 0, .int 0, .ref zy5, .int 0, .int 0, .ref zy8, .ref zy9, .ref zy10, .ref zy11, .ref zy12, .ref zy13, .ref zy14, .long 0, .ref zy16, .ref zy17, .ref zy18, .int 0, .long 0, .ref zy21, .ref zy22, .int 0, .ref zy24, .ref zy25, .ref zy26, .ref zy27])), (zy5, .inl (cy 0, 66, .inl (fun _ => 0)))] H) (hD : va_D A [(zx, .inr (10, [.ref zn, .ref zk, .ref zr, .ref zl, .ref zc, .ref zs, .ref zw, .ref zt, .ref zm, .int 0])), (zr, .inr (6, [.ref zrt, .int 0, .int 0, .int 0])), (zc, .inr (1, [.ref zct, .ref zcw, .ref zcf, .ref zcl, .ref zcg, .ref zcn, .int 0, .int 0])), (zct, .inl (cy 0, 2, .inl (fun _ => 0))), (zcn, .inl (cy 2, 2, .inl (fun _ => 0))), (zy, .inr (11, [.ref zy0, .ref zy1, .int 0, .int 0, .int 0, .ref zy5, .int 0, .int 0, .ref zy8, .ref zy9, .ref zy10, .ref zy11, .ref zy12, .ref zy13, .ref zy14, .long 0, .ref zy16, .ref zy17, .ref zy18, .int 0, .long 0, .ref zy21, .ref zy22, .int 0, .ref zy24, .ref zy25, .ref zy26, .ref zy27])), (zy5, .inl (cy 0, 66, .inl (fun _ => 0)))]) (hS : va_S A s.heap H locs) (hl : lv_has ls 4 [(0, .ref b), (1, .ref zx), (2, .ref zy), (3, .int 0)]) : W p l e room_1 s m #[Value.ref b] below meth c H locs 265 67857 Q (F0 m 1408 ls []) := by
  refine lv_aload_n hx hb dL_law_1408 rfl (lv_at hl 1 rfl) ?_
  refine cj_i (wc := [(zx, .inr (10, [.ref zn, .ref zk, .ref zr, .ref zl, .ref zc, .ref zs, .ref zw, .ref zt, .ref zm, .int 0])), (zr, .inr (6, [.ref zrt, .int 0, .int 0, .int 0])), (zc, .inr (1, [.ref zct, .ref zcw, .ref zcf, .ref zcl, .ref zcg, .ref zcn, .int 0, .int 0])), (zct, .inl (cy 0, 2, .inl (fun _ => 0))), (zcn, .inl (cy 2, 2, .inl (fun _ => 0)))]) (wr := [(zy, .inr (11, [.ref zy0, .ref zy1, .int 0, .int 0, .int 0, .ref zy5, .int 0, .int 0, .ref zy8, .ref zy9, .ref zy10, .ref zy11, .ref zy12, .ref zy13, .ref zy14, .long 0, .ref zy16, .ref zy17, .ref zy18, .int 0, .long 0, .ref zy21, .ref zy22, .int 0, .ref zy24, .ref zy25, .ref zy26, .ref zy27])), (zy5, .inl (cy 0, 66, .inl (fun _ => 0)))]) (w1 := fun (_ : Unit) => []) (va_runV (As := []) (rest := []) ⟨hx, hb, hml, hown, hts⟩ (c_X10_claim l dC dI cy H.size zx zn zk zr zl zc zs zw zt zm zrt zct zcw zcf zcl zcg zcn) (cwV 0 hts gL_law_X10_claim rfl rfl rfl (by decide +kernel) ⟨(Nat.le_of_ble_eq_true rfl), (Nat.le_of_ble_eq_true rfl)⟩) (PRE.v (hP.sub [0, 1, 2, 3, 4] rfl) hK (hD.sub [0, 1, 2, 3, 4] (by decide) rfl) hN (va_recv hK hP (ci := 10) (q0 := 0) rfl rfl)) rfl rfl hl.1 rfl (lv_room (Nat.le_of_ble_eq_true rfl)) dL_law_1409 ⟨(Nat.le_of_ble_eq_true rfl), (Nat.le_of_ble_eq_true rfl)⟩) hP hD hS hA [0, 1, 2, 3, 4] [5, 6] rfl rfl rfl (by decide) (fun r_2 u_1 H locs hw_3 hP hD hS => ?_)
  have hP : va_P (dC, dI) vwCl [(zy, .inr (11, [.ref zy0, .ref zy1, .int 0, .int 0, .int 0, .ref zy5, .int 0, .int 0, .ref zy8, .ref zy9, .ref zy10, .ref zy11, .ref zy12, .ref zy13, .ref zy14, .long 0, .ref zy16, .ref zy17, .ref zy18, .int 0, .long 0, .ref zy21, .ref zy22, .int 0, .ref zy24, .ref zy25, .ref zy26, .ref zy27])), (zy5, .inl (cy 0, 66, .inl (fun _ => 0)))] H := hP
  have hD : va_D A [(zy, .inr (11, [.ref zy0, .ref zy1, .int 0, .int 0, .int 0, .ref zy5, .int 0, .int 0, .ref zy8, .ref zy9, .ref zy10, .ref zy11, .ref zy12, .ref zy13, .ref zy14, .long 0, .ref zy16, .ref zy17, .ref zy18, .int 0, .long 0, .ref zy21, .ref zy22, .int 0, .ref zy24, .ref zy25, .ref zy26, .ref zy27])), (zy5, .inl (cy 0, 66, .inl (fun _ => 0)))] := hD
  obtain rfl : r_2 = (-20) := hw_3
  refine lv_aload_n hx hb dL_law_1412 rfl (lv_at hl 2 rfl) ?_
  refine cj_i (wc := [(zy, .inr (11, [.ref zy0, .ref zy1, .int 0, .int 0, .int 0, .ref zy5, .int 0, .int 0, .ref zy8, .ref zy9, .ref zy10, .ref zy11, .ref zy12, .ref zy13, .ref zy14, .long 0, .ref zy16, .ref zy17, .ref zy18, .int 0, .long 0, .ref zy21, .ref zy22, .int 0, .ref zy24, .ref zy25, .ref zy26, .ref zy27])), (zy5, .inl (cy 0, 66, .inl (fun _ => 0)))]) (wr := []) (w1 := fun (_ : Unit) => []) (va_runV (As := []) (rest := [.int (-20)]) ⟨hx, hb, hml, hown, hts⟩ (c_X11_claim l dC dI cy H.size zy zy0 zy1 zy5 zy8 zy9 zy10 zy11 zy12 zy13 zy14 zy16 zy17 zy18 zy21 zy22 zy24 zy25 zy26 zy27) (cwV 0 hts gL_law_X11_claim rfl rfl rfl (by decide +kernel) ⟨(Nat.le_of_ble_eq_true rfl), (Nat.le_of_ble_eq_true rfl)⟩) (PRE.v (hP.sub [0, 1] rfl) hK (hD.sub [0, 1] (by decide) rfl) hN (va_recv hK hP (ci := 11) (q0 := 0) rfl rfl)) rfl rfl hl.1 rfl (lv_room (Nat.le_of_ble_eq_true rfl)) dL_law_1413 ⟨(Nat.le_of_ble_eq_true rfl), (Nat.le_of_ble_eq_true rfl)⟩) hP hD hS hA [0, 1] [] rfl rfl rfl (by decide) (fun r_5 u_4 H locs hw_6 hP hD hS => ?_)
  have hP : va_P (dC, dI) vwCl [] H := hP
  have hD : va_D A [] := hD
  obtain rfl : r_5 = (-20) := hw_6
  refine lv_icmp_eq (tgt := 1792) hx hb dL_law_1416 (by decide) (fun c_8 => ?_) (fun c_8 => absurd (by decide) c_8)
  exact kx _ _ _ hS hl
set_option maxHeartbeats 4000000 in
set_option maxRecDepth 100000 in
theorem lw_c31 {p : Program} {l : Launch} {e : Env} {s : State} {m : MethodId} {below : List Frame} {meth : Method} {c : Code} {b : Nat} {xs : Nat → Int32} {A : Nat → Prop} {Q : State → Prop} (hx : p.tables.exec = Jvm.exec) (hb : c.code = cL_law) (hml : c.maxLocals = 4) (hown : s.vm.findClass RL = some m.cls) (hts : ∀ w ∈ wsL_law, w.before #[Value.ref b] s = true) (hX : va_X b 6 xs s s.heap) (hbl : b < s.heap.size) (hbA : ¬ A b) (hA : ∀ q : Nat, s.heap.size ≤ q → A q) (dC : Nat → ClassId) (dI : Nat → Nat → Nat) (cy : Nat → ClassId) (zx : Nat) (zy : Nat) (zn : Nat) (zk : Nat) (zr : Nat) (zl : Nat) (zc : Nat) (zs : Nat) (zw : Nat) (zt : Nat) (zm : Nat) (znh : Nat) (znl : Nat) (znc : Nat) (znd : Nat) (znm : Nat) (zno : Nat) (zni : Nat) (zy0 : Nat) (zy1 : Nat) (zy5 : Nat) (zy8 : Nat) (zy9 : Nat) (zy10 : Nat) (zy11 : Nat) (zy12 : Nat) (zy13 : Nat) (zy14 : Nat) (zy16 : Nat) (zy17 : Nat) (zy18 : Nat) (zy21 : Nat) (zy22 : Nat) (zy24 : Nat) (zy25 : Nat) (zy26 : Nat) (zy27 : Nat) (hK : va_K (dC, dI) vwCl (TY cy) s) (hN : N0 s)
    (kx : ∀ (H : Heap) (locs : List Loc) (ls : Array Slot), va_S A s.heap H locs → lv_has ls 4 [(0, .ref b), (1, .ref zx), (2, .ref zy), (3, .int 0)] → W p l e room_1 s m #[Value.ref b] below meth c H locs 265 67857 Q (F0 m 1792 ls []))
    {H : Heap} {locs : List Loc} {ls : Array Slot} (hP : va_P (dC, dI) vwCl [(zx, .inr (10, [.ref zn, .ref zk, .ref zr, .ref zl, .ref zc, .ref zs, .ref zw, .ref zt, .ref zm, .int 0])), (zn, .inr (8, [.ref znh, .ref znl, .ref znc, .ref znd, .ref znm, .ref zno, .ref zni, .int 0, .int 0])), (zy, .inr (11, [.ref zy0, .ref zy1, .int 0, .int 0, .int 0, .ref zy5, .int 0, .int 0, .ref zy8, .ref zy9, .ref zy10, .ref zy11, .ref zy12, .ref zy13, .ref zy14, .long 0, .ref zy16, .ref zy17, .ref zy18, .int 0, .long 0, .ref zy21, .ref zy22, .int 0, .ref zy24, .ref zy25, .ref zy26, .ref zy27])), (zy0, .inl (cy 0, 392, .inl zz))] H) (hD : va_D A [(zx, .inr (10, [.ref zn, .ref zk, .ref zr, .ref zl, .ref zc, .ref zs, .ref zw, .ref zt, .ref zm, .int 0])), (zn, .inr (8, [.ref znh, .ref znl, .ref znc, .ref znd, .ref znm, .ref zno, .ref zni, .int 0, .int 0])), (zy, .inr (11, [.ref zy0, .ref zy1, .int 0, .int 0, .int 0, .ref zy5, .int 0, .int 0, .ref zy8, .ref zy9, .ref zy10, .ref zy11, .ref zy12, .ref zy13, .ref zy14, .long 0, .ref zy16, .ref zy17, .ref zy18, .int 0, .long 0, .ref zy21, .ref zy22, .int 0, .ref zy24, .ref zy25, .ref zy26, .ref zy27])), (zy0, .inl (cy 0, 392, .inl zz))]) (hS : va_S A s.heap H locs) (hl : lv_has ls 4 [(0, .ref b), (1, .ref zx), (2, .ref zy), (3, .int 0)]) : W p l e room_1 s m #[Value.ref b] below meth c H locs 265 67857 Q (F0 m 1421 ls []) := by
  refine lv_aload_n hx hb dL_law_1421 rfl (lv_at hl 1 rfl) ?_
  refine lv_aload_n hx hb dL_law_1422 rfl (lv_at hl 0 rfl) ?_
  refine lv_iload_n hx hb dL_law_1423 rfl (lv_at hl 3 rfl) ?_
  refine lv_iconst (v := 1) hx hb dL_law_1424 (by decide) ?_
  refine lv_iadd hx hb dL_law_1425 ?_
  refine lv_topi (fun v_1 ev_1 => ?_)
  obtain rfl : v_1 = (1 : Int32) := ev_1.trans (by decide)
  refine va_sld hx hb hX hbl hbA hS (vp_in_iff.mpr ⟨by decide, by decide⟩) dL_law_1426 ?_
  refine W.eq (g2 := F0 m 1427 ls [.int (xs 1), .ref zx]) rfl ?_
  refine lv_aload_n hx hb dL_law_1427 rfl (lv_at hl 0 rfl) ?_
  refine lv_iload_n hx hb dL_law_1428 rfl (lv_at hl 3 rfl) ?_
  refine lv_iconst (v := 2) hx hb dL_law_1429 (by decide) ?_
  refine lv_iadd hx hb dL_law_1430 ?_
  refine lv_topi (fun v_2 ev_2 => ?_)
  obtain rfl : v_2 = (2 : Int32) := ev_2.trans (by decide)
  refine va_sld hx hb hX hbl hbA hS (vp_in_iff.mpr ⟨by decide, by decide⟩) dL_law_1431 ?_
  refine W.eq (g2 := F0 m 1432 ls [.int (xs 2), .int (xs 1), .ref zx]) rfl ?_
  refine lv_aload_n hx hb dL_law_1432 rfl (lv_at hl 0 rfl) ?_
  refine lv_iload_n hx hb dL_law_1433 rfl (lv_at hl 3 rfl) ?_
  refine lv_iconst (v := 3) hx hb dL_law_1434 (by decide) ?_
  refine lv_iadd hx hb dL_law_1435 ?_
  refine lv_topi (fun v_3 ev_3 => ?_)
  obtain rfl : v_3 = (3 : Int32) := ev_3.trans (by decide)
  refine va_sld hx hb hX hbl hbA hS (vp_in_iff.mpr ⟨by decide, by decide⟩) dL_law_1436 ?_
  refine W.eq (g2 := F0 m 1437 ls [.int (xs 3), .int (xs 2), .int (xs 1), .ref zx]) rfl ?_
  refine cj_l (wc := [(zx, .inr (10, [.ref zn, .ref zk, .ref zr, .ref zl, .ref zc, .ref zs, .ref zw, .ref zt, .ref zm, .int 0])), (zn, .inr (8, [.ref znh, .ref znl, .ref znc, .ref znd, .ref znm, .ref zno, .ref zni, .int 0, .int 0]))]) (wr := [(zy, .inr (11, [.ref zy0, .ref zy1, .int 0, .int 0, .int 0, .ref zy5, .int 0, .int 0, .ref zy8, .ref zy9, .ref zy10, .ref zy11, .ref zy12, .ref zy13, .ref zy14, .long 0, .ref zy16, .ref zy17, .ref zy18, .int 0, .long 0, .ref zy21, .ref zy22, .int 0, .ref zy24, .ref zy25, .ref zy26, .ref zy27])), (zy0, .inl (cy 0, 392, .inl zz))]) (w1 := fun (_ : Unit) => []) (va_runV (As := [.int (xs 1), .int (xs 2), .int (xs 3)]) (rest := []) ⟨hx, hb, hml, hown, hts⟩ (c_X10_chance l dC dI cy H.size zx (xs 1) (xs 2) (xs 3) zn zk zr zl zc zs zw zt zm znh znl znc znd znm zno zni) (cwV 3 hts gL_law_X10_chance rfl rfl rfl (by decide +kernel) ⟨(Nat.le_of_ble_eq_true rfl), (Nat.le_of_ble_eq_true rfl)⟩) (PRE.v (hP.sub [0, 1] rfl) hK (hD.sub [0, 1] (by decide) rfl) hN (va_recv hK hP (ci := 10) (q0 := 0) rfl rfl)) rfl rfl hl.1 rfl (lv_room (Nat.le_of_ble_eq_true rfl)) dL_law_1437 ⟨(Nat.le_of_ble_eq_true rfl), (Nat.le_of_ble_eq_true rfl)⟩) hP hD hS hA [0, 1] [2, 3] rfl rfl rfl (by decide) (fun r_5 u_4 H locs hw_6 hP hD hS => ?_)
  have hP : va_P (dC, dI) vwCl [(zy, .inr (11, [.ref zy0, .ref zy1, .int 0, .int 0, .int 0, .ref zy5, .int 0, .int 0, .ref zy8, .ref zy9, .ref zy10, .ref zy11, .ref zy12, .ref zy13, .ref zy14, .long 0, .ref zy16, .ref zy17, .ref zy18, .int 0, .long 0, .ref zy21, .ref zy22, .int 0, .ref zy24, .ref zy25, .ref zy26, .ref zy27])), (zy0, .inl (cy 0, 392, .inl zz))] H := hP
  have hD : va_D A [(zy, .inr (11, [.ref zy0, .ref zy1, .int 0, .int 0, .int 0, .ref zy5, .int 0, .int 0, .ref zy8, .ref zy9, .ref zy10, .ref zy11, .ref zy12, .ref zy13, .ref zy14, .long 0, .ref zy16, .ref zy17, .ref zy18, .int 0, .long 0, .ref zy21, .ref zy22, .int 0, .ref zy24, .ref zy25, .ref zy26, .ref zy27])), (zy0, .inl (cy 0, 392, .inl zz))] := hD
  obtain rfl : r_5 = (-1) := hw_6
  refine lv_aload_n hx hb dL_law_1440 rfl (lv_at hl 2 rfl) ?_
  refine lv_aload_n hx hb dL_law_1441 rfl (lv_at hl 0 rfl) ?_
  refine lv_iload_n hx hb dL_law_1442 rfl (lv_at hl 3 rfl) ?_
  refine lv_iconst (v := 1) hx hb dL_law_1443 (by decide) ?_
  refine lv_iadd hx hb dL_law_1444 ?_
  refine lv_topi (fun v_7 ev_7 => ?_)
  obtain rfl : v_7 = (1 : Int32) := ev_7.trans (by decide)
  refine va_sld hx hb hX hbl hbA hS (vp_in_iff.mpr ⟨by decide, by decide⟩) dL_law_1445 ?_
  refine W.eq (g2 := F0 m 1446 ls [.int (xs 1), .ref zy, .long (-1)]) rfl ?_
  refine lv_aload_n hx hb dL_law_1446 rfl (lv_at hl 0 rfl) ?_
  refine lv_iload_n hx hb dL_law_1447 rfl (lv_at hl 3 rfl) ?_
  refine lv_iconst (v := 2) hx hb dL_law_1448 (by decide) ?_
  refine lv_iadd hx hb dL_law_1449 ?_
  refine lv_topi (fun v_8 ev_8 => ?_)
  obtain rfl : v_8 = (2 : Int32) := ev_8.trans (by decide)
  refine va_sld hx hb hX hbl hbA hS (vp_in_iff.mpr ⟨by decide, by decide⟩) dL_law_1450 ?_
  refine W.eq (g2 := F0 m 1451 ls [.int (xs 2), .int (xs 1), .ref zy, .long (-1)]) rfl ?_
  refine lv_aload_n hx hb dL_law_1451 rfl (lv_at hl 0 rfl) ?_
  refine lv_iload_n hx hb dL_law_1452 rfl (lv_at hl 3 rfl) ?_
  refine lv_iconst (v := 3) hx hb dL_law_1453 (by decide) ?_
  refine lv_iadd hx hb dL_law_1454 ?_
  refine lv_topi (fun v_9 ev_9 => ?_)
  obtain rfl : v_9 = (3 : Int32) := ev_9.trans (by decide)
  refine va_sld hx hb hX hbl hbA hS (vp_in_iff.mpr ⟨by decide, by decide⟩) dL_law_1455 ?_
  refine W.eq (g2 := F0 m 1456 ls [.int (xs 3), .int (xs 2), .int (xs 1), .ref zy, .long (-1)]) rfl ?_
  refine cj_l (wc := [(zy, .inr (11, [.ref zy0, .ref zy1, .int 0, .int 0, .int 0, .ref zy5, .int 0, .int 0, .ref zy8, .ref zy9, .ref zy10, .ref zy11, .ref zy12, .ref zy13, .ref zy14, .long 0, .ref zy16, .ref zy17, .ref zy18, .int 0, .long 0, .ref zy21, .ref zy22, .int 0, .ref zy24, .ref zy25, .ref zy26, .ref zy27])), (zy0, .inl (cy 0, 392, .inl zz))]) (wr := []) (w1 := fun (_ : Unit) => []) (va_runV (As := [.int (xs 1), .int (xs 2), .int (xs 3)]) (rest := [.long (-1)]) ⟨hx, hb, hml, hown, hts⟩ (c_X11_chance l dC dI cy H.size zy (xs 1) (xs 2) (xs 3) zy0 zy1 zy5 zy8 zy9 zy10 zy11 zy12 zy13 zy14 zy16 zy17 zy18 zy21 zy22 zy24 zy25 zy26 zy27) (cwV 3 hts gL_law_X11_chance rfl rfl rfl (by decide +kernel) ⟨(Nat.le_of_ble_eq_true rfl), (Nat.le_of_ble_eq_true rfl)⟩) (PRE.v (hP.sub [0, 1] rfl) hK (hD.sub [0, 1] (by decide) rfl) hN (va_recv hK hP (ci := 11) (q0 := 0) rfl rfl)) rfl rfl hl.1 rfl (lv_room (Nat.le_of_ble_eq_true rfl)) dL_law_1456 ⟨(Nat.le_of_ble_eq_true rfl), (Nat.le_of_ble_eq_true rfl)⟩) hP hD hS hA [0, 1] [] rfl rfl rfl (by decide) (fun r_11 u_10 H locs hw_12 hP hD hS => ?_)
  have hP : va_P (dC, dI) vwCl [] H := hP
  have hD : va_D A [] := hD
  obtain rfl : r_11 = (-1) := hw_12
  refine W.lcmp hx hb dL_law_1459 ?_
  refine lv_topi (fun v_13 ev_13 => ?_)
  obtain rfl : v_13 = (0 : Int32) := ev_13.trans (by decide)
  refine lv_if_eq (tgt := 1792) hx hb dL_law_1460 (by decide) (fun c_15 => ?_) (fun c_15 => absurd (by decide) c_15)
  exact kx _ _ _ hS hl
set_option maxHeartbeats 4000000 in
set_option maxRecDepth 100000 in
theorem lw_c32 {p : Program} {l : Launch} {e : Env} {s : State} {m : MethodId} {below : List Frame} {meth : Method} {c : Code} {b : Nat} {xs : Nat → Int32} {A : Nat → Prop} {Q : State → Prop} (hx : p.tables.exec = Jvm.exec) (hb : c.code = cL_law) (hml : c.maxLocals = 4) (hown : s.vm.findClass RL = some m.cls) (hts : ∀ w ∈ wsL_law, w.before #[Value.ref b] s = true) (hX : va_X b 6 xs s s.heap) (hbl : b < s.heap.size) (hbA : ¬ A b) (hA : ∀ q : Nat, s.heap.size ≤ q → A q) (dC : Nat → ClassId) (dI : Nat → Nat → Nat) (cy : Nat → ClassId) (zx : Nat) (zy : Nat) (zn : Nat) (zk : Nat) (zr : Nat) (zl : Nat) (zc : Nat) (zs : Nat) (zw : Nat) (zt : Nat) (zm : Nat) (znh : Nat) (znl : Nat) (znc : Nat) (znd : Nat) (znm : Nat) (zno : Nat) (zni : Nat) (zy0 : Nat) (zy1 : Nat) (zy5 : Nat) (zy8 : Nat) (zy9 : Nat) (zy10 : Nat) (zy11 : Nat) (zy12 : Nat) (zy13 : Nat) (zy14 : Nat) (zy16 : Nat) (zy17 : Nat) (zy18 : Nat) (zy21 : Nat) (zy22 : Nat) (zy24 : Nat) (zy25 : Nat) (zy26 : Nat) (zy27 : Nat) (hK : va_K (dC, dI) vwCl (TY cy) s) (hN : N0 s)
    (kx : ∀ (H : Heap) (locs : List Loc) (ls : Array Slot), va_S A s.heap H locs → lv_has ls 4 [(0, .ref b), (1, .ref zx), (2, .ref zy), (3, .int 0)] → W p l e room_1 s m #[Value.ref b] below meth c H locs 265 67857 Q (F0 m 1792 ls []))
    {H : Heap} {locs : List Loc} {ls : Array Slot} (hP : va_P (dC, dI) vwCl [(zx, .inr (10, [.ref zn, .ref zk, .ref zr, .ref zl, .ref zc, .ref zs, .ref zw, .ref zt, .ref zm, .int 0])), (zn, .inr (8, [.ref znh, .ref znl, .ref znc, .ref znd, .ref znm, .ref zno, .ref zni, .int 0, .int 0])), (zy, .inr (11, [.ref zy0, .ref zy1, .int 0, .int 0, .int 0, .ref zy5, .int 0, .int 0, .ref zy8, .ref zy9, .ref zy10, .ref zy11, .ref zy12, .ref zy13, .ref zy14, .long 0, .ref zy16, .ref zy17, .ref zy18, .int 0, .long 0, .ref zy21, .ref zy22, .int 0, .ref zy24, .ref zy25, .ref zy26, .ref zy27])), (zy0, .inl (cy 0, 392, .inl zz))] H) (hD : va_D A [(zx, .inr (10, [.ref zn, .ref zk, .ref zr, .ref zl, .ref zc, .ref zs, .ref zw, .ref zt, .ref zm, .int 0])), (zn, .inr (8, [.ref znh, .ref znl, .ref znc, .ref znd, .ref znm, .ref zno, .ref zni, .int 0, .int 0])), (zy, .inr (11, [.ref zy0, .ref zy1, .int 0, .int 0, .int 0, .ref zy5, .int 0, .int 0, .ref zy8, .ref zy9, .ref zy10, .ref zy11, .ref zy12, .ref zy13, .ref zy14, .long 0, .ref zy16, .ref zy17, .ref zy18, .int 0, .long 0, .ref zy21, .ref zy22, .int 0, .ref zy24, .ref zy25, .ref zy26, .ref zy27])), (zy0, .inl (cy 0, 392, .inl zz))]) (hS : va_S A s.heap H locs) (hl : lv_has ls 4 [(0, .ref b), (1, .ref zx), (2, .ref zy), (3, .int 0)]) : W p l e room_1 s m #[Value.ref b] below meth c H locs 265 67857 Q (F0 m 1465 ls []) := by
  refine lv_aload_n hx hb dL_law_1465 rfl (lv_at hl 1 rfl) ?_
  refine lv_aload_n hx hb dL_law_1466 rfl (lv_at hl 0 rfl) ?_
  refine lv_iload_n hx hb dL_law_1467 rfl (lv_at hl 3 rfl) ?_
  refine lv_iconst (v := 1) hx hb dL_law_1468 (by decide) ?_
  refine lv_iadd hx hb dL_law_1469 ?_
  refine lv_topi (fun v_1 ev_1 => ?_)
  obtain rfl : v_1 = (1 : Int32) := ev_1.trans (by decide)
  refine va_sld hx hb hX hbl hbA hS (vp_in_iff.mpr ⟨by decide, by decide⟩) dL_law_1470 ?_
  refine W.eq (g2 := F0 m 1471 ls [.int (xs 1), .ref zx]) rfl ?_
  refine lv_aload_n hx hb dL_law_1471 rfl (lv_at hl 0 rfl) ?_
  refine lv_iload_n hx hb dL_law_1472 rfl (lv_at hl 3 rfl) ?_
  refine lv_iconst (v := 2) hx hb dL_law_1473 (by decide) ?_
  refine lv_iadd hx hb dL_law_1474 ?_
  refine lv_topi (fun v_2 ev_2 => ?_)
  obtain rfl : v_2 = (2 : Int32) := ev_2.trans (by decide)
  refine va_sld hx hb hX hbl hbA hS (vp_in_iff.mpr ⟨by decide, by decide⟩) dL_law_1475 ?_
  refine W.eq (g2 := F0 m 1476 ls [.int (xs 2), .int (xs 1), .ref zx]) rfl ?_
  refine cj_i (wc := [(zx, .inr (10, [.ref zn, .ref zk, .ref zr, .ref zl, .ref zc, .ref zs, .ref zw, .ref zt, .ref zm, .int 0])), (zn, .inr (8, [.ref znh, .ref znl, .ref znc, .ref znd, .ref znm, .ref zno, .ref zni, .int 0, .int 0]))]) (wr := [(zy, .inr (11, [.ref zy0, .ref zy1, .int 0, .int 0, .int 0, .ref zy5, .int 0, .int 0, .ref zy8, .ref zy9, .ref zy10, .ref zy11, .ref zy12, .ref zy13, .ref zy14, .long 0, .ref zy16, .ref zy17, .ref zy18, .int 0, .long 0, .ref zy21, .ref zy22, .int 0, .ref zy24, .ref zy25, .ref zy26, .ref zy27])), (zy0, .inl (cy 0, 392, .inl zz))]) (w1 := fun (_ : Unit) => []) (va_runV (As := [.int (xs 1), .int (xs 2)]) (rest := []) ⟨hx, hb, hml, hown, hts⟩ (c_X10_holds l dC dI cy H.size zx (xs 1) (xs 2) zn zk zr zl zc zs zw zt zm znh znl znc znd znm zno zni) (cwV 2 hts gL_law_X10_holds rfl rfl rfl (by decide +kernel) ⟨(Nat.le_of_ble_eq_true rfl), (Nat.le_of_ble_eq_true rfl)⟩) (PRE.v (hP.sub [0, 1] rfl) hK (hD.sub [0, 1] (by decide) rfl) hN (va_recv hK hP (ci := 10) (q0 := 0) rfl rfl)) rfl rfl hl.1 rfl (lv_room (Nat.le_of_ble_eq_true rfl)) dL_law_1476 ⟨(Nat.le_of_ble_eq_true rfl), (Nat.le_of_ble_eq_true rfl)⟩) hP hD hS hA [0, 1] [2, 3] rfl rfl rfl (by decide) (fun r_4 u_3 H locs hw_5 hP hD hS => ?_)
  have hP : va_P (dC, dI) vwCl [(zy, .inr (11, [.ref zy0, .ref zy1, .int 0, .int 0, .int 0, .ref zy5, .int 0, .int 0, .ref zy8, .ref zy9, .ref zy10, .ref zy11, .ref zy12, .ref zy13, .ref zy14, .long 0, .ref zy16, .ref zy17, .ref zy18, .int 0, .long 0, .ref zy21, .ref zy22, .int 0, .ref zy24, .ref zy25, .ref zy26, .ref zy27])), (zy0, .inl (cy 0, 392, .inl zz))] H := hP
  have hD : va_D A [(zy, .inr (11, [.ref zy0, .ref zy1, .int 0, .int 0, .int 0, .ref zy5, .int 0, .int 0, .ref zy8, .ref zy9, .ref zy10, .ref zy11, .ref zy12, .ref zy13, .ref zy14, .long 0, .ref zy16, .ref zy17, .ref zy18, .int 0, .long 0, .ref zy21, .ref zy22, .int 0, .ref zy24, .ref zy25, .ref zy26, .ref zy27])), (zy0, .inl (cy 0, 392, .inl zz))] := hD
  obtain rfl : r_4 = (-1) := hw_5
  refine lv_aload_n hx hb dL_law_1479 rfl (lv_at hl 2 rfl) ?_
  refine lv_aload_n hx hb dL_law_1480 rfl (lv_at hl 0 rfl) ?_
  refine lv_iload_n hx hb dL_law_1481 rfl (lv_at hl 3 rfl) ?_
  refine lv_iconst (v := 1) hx hb dL_law_1482 (by decide) ?_
  refine lv_iadd hx hb dL_law_1483 ?_
  refine lv_topi (fun v_6 ev_6 => ?_)
  obtain rfl : v_6 = (1 : Int32) := ev_6.trans (by decide)
  refine va_sld hx hb hX hbl hbA hS (vp_in_iff.mpr ⟨by decide, by decide⟩) dL_law_1484 ?_
  refine W.eq (g2 := F0 m 1485 ls [.int (xs 1), .ref zy, .int (-1)]) rfl ?_
  refine lv_aload_n hx hb dL_law_1485 rfl (lv_at hl 0 rfl) ?_
  refine lv_iload_n hx hb dL_law_1486 rfl (lv_at hl 3 rfl) ?_
  refine lv_iconst (v := 2) hx hb dL_law_1487 (by decide) ?_
  refine lv_iadd hx hb dL_law_1488 ?_
  refine lv_topi (fun v_7 ev_7 => ?_)
  obtain rfl : v_7 = (2 : Int32) := ev_7.trans (by decide)
  refine va_sld hx hb hX hbl hbA hS (vp_in_iff.mpr ⟨by decide, by decide⟩) dL_law_1489 ?_
  refine W.eq (g2 := F0 m 1490 ls [.int (xs 2), .int (xs 1), .ref zy, .int (-1)]) rfl ?_
  refine cj_i (wc := [(zy, .inr (11, [.ref zy0, .ref zy1, .int 0, .int 0, .int 0, .ref zy5, .int 0, .int 0, .ref zy8, .ref zy9, .ref zy10, .ref zy11, .ref zy12, .ref zy13, .ref zy14, .long 0, .ref zy16, .ref zy17, .ref zy18, .int 0, .long 0, .ref zy21, .ref zy22, .int 0, .ref zy24, .ref zy25, .ref zy26, .ref zy27])), (zy0, .inl (cy 0, 392, .inl zz))]) (wr := []) (w1 := fun (_ : Unit) => []) (va_runV (As := [.int (xs 1), .int (xs 2)]) (rest := [.int (-1)]) ⟨hx, hb, hml, hown, hts⟩ (c_X11_holds l dC dI cy H.size zy (xs 1) (xs 2) zy0 zy1 zy5 zy8 zy9 zy10 zy11 zy12 zy13 zy14 zy16 zy17 zy18 zy21 zy22 zy24 zy25 zy26 zy27) (cwV 2 hts gL_law_X11_holds rfl rfl rfl (by decide +kernel) ⟨(Nat.le_of_ble_eq_true rfl), (Nat.le_of_ble_eq_true rfl)⟩) (PRE.v (hP.sub [0, 1] rfl) hK (hD.sub [0, 1] (by decide) rfl) hN (va_recv hK hP (ci := 11) (q0 := 0) rfl rfl)) rfl rfl hl.1 rfl (lv_room (Nat.le_of_ble_eq_true rfl)) dL_law_1490 ⟨(Nat.le_of_ble_eq_true rfl), (Nat.le_of_ble_eq_true rfl)⟩) hP hD hS hA [0, 1] [] rfl rfl rfl (by decide) (fun r_9 u_8 H locs hw_10 hP hD hS => ?_)
  have hP : va_P (dC, dI) vwCl [] H := hP
  have hD : va_D A [] := hD
  obtain rfl : r_9 = (-1) := hw_10
  refine lv_icmp_eq (tgt := 1792) hx hb dL_law_1493 (by decide) (fun c_12 => ?_) (fun c_12 => absurd (by decide) c_12)
  exact kx _ _ _ hS hl
set_option maxHeartbeats 4000000 in
set_option maxRecDepth 100000 in
theorem lw_c33 {p : Program} {l : Launch} {e : Env} {s : State} {m : MethodId} {below : List Frame} {meth : Method} {c : Code} {b : Nat} {xs : Nat → Int32} {A : Nat → Prop} {Q : State → Prop} (hx : p.tables.exec = Jvm.exec) (hb : c.code = cL_law) (hml : c.maxLocals = 4) (hown : s.vm.findClass RL = some m.cls) (hts : ∀ w ∈ wsL_law, w.before #[Value.ref b] s = true) (hX : va_X b 6 xs s s.heap) (hbl : b < s.heap.size) (hbA : ¬ A b) (hA : ∀ q : Nat, s.heap.size ≤ q → A q) (dC : Nat → ClassId) (dI : Nat → Nat → Nat) (cy : Nat → ClassId) (zx : Nat) (zy : Nat) (zn : Nat) (zk : Nat) (zr : Nat) (zl : Nat) (zc : Nat) (zs : Nat) (zw : Nat) (zt : Nat) (zm : Nat) (znh : Nat) (znl : Nat) (znc : Nat) (znd : Nat) (znm : Nat) (zno : Nat) (zni : Nat) (zy0 : Nat) (zy1 : Nat) (zy5 : Nat) (zy8 : Nat) (zy9 : Nat) (zy10 : Nat) (zy11 : Nat) (zy12 : Nat) (zy13 : Nat) (zy14 : Nat) (zy16 : Nat) (zy17 : Nat) (zy18 : Nat) (zy21 : Nat) (zy22 : Nat) (zy24 : Nat) (zy25 : Nat) (zy26 : Nat) (zy27 : Nat) (hK : va_K (dC, dI) vwCl (TY cy) s) (hN : N0 s)
    (kx : ∀ (H : Heap) (locs : List Loc) (ls : Array Slot), va_S A s.heap H locs → lv_has ls 4 [(0, .ref b), (1, .ref zx), (2, .ref zy), (3, .int 0)] → W p l e room_1 s m #[Value.ref b] below meth c H locs 265 67857 Q (F0 m 1792 ls []))
    {H : Heap} {locs : List Loc} {ls : Array Slot} (hP : va_P (dC, dI) vwCl [(zx, .inr (10, [.ref zn, .ref zk, .ref zr, .ref zl, .ref zc, .ref zs, .ref zw, .ref zt, .ref zm, .int 0])), (zn, .inr (8, [.ref znh, .ref znl, .ref znc, .ref znd, .ref znm, .ref zno, .ref zni, .int 0, .int 0])), (zy, .inr (11, [.ref zy0, .ref zy1, .int 0, .int 0, .int 0, .ref zy5, .int 0, .int 0, .ref zy8, .ref zy9, .ref zy10, .ref zy11, .ref zy12, .ref zy13, .ref zy14, .long 0, .ref zy16, .ref zy17, .ref zy18, .int 0, .long 0, .ref zy21, .ref zy22, .int 0, .ref zy24, .ref zy25, .ref zy26, .ref zy27])), (zy0, .inl (cy 0, 392, .inl zz))] H) (hD : va_D A [(zx, .inr (10, [.ref zn, .ref zk, .ref zr, .ref zl, .ref zc, .ref zs, .ref zw, .ref zt, .ref zm, .int 0])), (zn, .inr (8, [.ref znh, .ref znl, .ref znc, .ref znd, .ref znm, .ref zno, .ref zni, .int 0, .int 0])), (zy, .inr (11, [.ref zy0, .ref zy1, .int 0, .int 0, .int 0, .ref zy5, .int 0, .int 0, .ref zy8, .ref zy9, .ref zy10, .ref zy11, .ref zy12, .ref zy13, .ref zy14, .long 0, .ref zy16, .ref zy17, .ref zy18, .int 0, .long 0, .ref zy21, .ref zy22, .int 0, .ref zy24, .ref zy25, .ref zy26, .ref zy27])), (zy0, .inl (cy 0, 392, .inl zz))]) (hS : va_S A s.heap H locs) (hl : lv_has ls 4 [(0, .ref b), (1, .ref zx), (2, .ref zy), (3, .int 0)]) : W p l e room_1 s m #[Value.ref b] below meth c H locs 265 67857 Q (F0 m 1498 ls []) := by
  refine lv_aload_n hx hb dL_law_1498 rfl (lv_at hl 1 rfl) ?_
  refine lv_aload_n hx hb dL_law_1499 rfl (lv_at hl 0 rfl) ?_
  refine lv_iload_n hx hb dL_law_1500 rfl (lv_at hl 3 rfl) ?_
  refine lv_iconst (v := 1) hx hb dL_law_1501 (by decide) ?_
  refine lv_iadd hx hb dL_law_1502 ?_
  refine lv_topi (fun v_1 ev_1 => ?_)
  obtain rfl : v_1 = (1 : Int32) := ev_1.trans (by decide)
  refine va_sld hx hb hX hbl hbA hS (vp_in_iff.mpr ⟨by decide, by decide⟩) dL_law_1503 ?_
  refine W.eq (g2 := F0 m 1504 ls [.int (xs 1), .ref zx]) rfl ?_
  refine lv_aload_n hx hb dL_law_1504 rfl (lv_at hl 0 rfl) ?_
  refine lv_iload_n hx hb dL_law_1505 rfl (lv_at hl 3 rfl) ?_
  refine lv_iconst (v := 2) hx hb dL_law_1506 (by decide) ?_
  refine lv_iadd hx hb dL_law_1507 ?_
  refine lv_topi (fun v_2 ev_2 => ?_)
  obtain rfl : v_2 = (2 : Int32) := ev_2.trans (by decide)
  refine va_sld hx hb hX hbl hbA hS (vp_in_iff.mpr ⟨by decide, by decide⟩) dL_law_1508 ?_
  refine W.eq (g2 := F0 m 1509 ls [.int (xs 2), .int (xs 1), .ref zx]) rfl ?_
  refine lv_aload_n hx hb dL_law_1509 rfl (lv_at hl 0 rfl) ?_
  refine lv_iload_n hx hb dL_law_1510 rfl (lv_at hl 3 rfl) ?_
  refine lv_iconst (v := 3) hx hb dL_law_1511 (by decide) ?_
  refine lv_iadd hx hb dL_law_1512 ?_
  refine lv_topi (fun v_3 ev_3 => ?_)
  obtain rfl : v_3 = (3 : Int32) := ev_3.trans (by decide)
  refine va_sld hx hb hX hbl hbA hS (vp_in_iff.mpr ⟨by decide, by decide⟩) dL_law_1513 ?_
  refine W.eq (g2 := F0 m 1514 ls [.int (xs 3), .int (xs 2), .int (xs 1), .ref zx]) rfl ?_
  refine lv_aload_n hx hb dL_law_1514 rfl (lv_at hl 0 rfl) ?_
  refine lv_iload_n hx hb dL_law_1515 rfl (lv_at hl 3 rfl) ?_
  refine lv_iconst (v := 4) hx hb dL_law_1516 (by decide) ?_
  refine lv_iadd hx hb dL_law_1517 ?_
  refine lv_topi (fun v_4 ev_4 => ?_)
  obtain rfl : v_4 = (4 : Int32) := ev_4.trans (by decide)
  refine va_sld hx hb hX hbl hbA hS (vp_in_iff.mpr ⟨by decide, by decide⟩) dL_law_1518 ?_
  refine W.eq (g2 := F0 m 1519 ls [.int (xs 4), .int (xs 3), .int (xs 2), .int (xs 1), .ref zx]) rfl ?_
  refine lv_aload_n hx hb dL_law_1519 rfl (lv_at hl 0 rfl) ?_
  refine lv_iload_n hx hb dL_law_1520 rfl (lv_at hl 3 rfl) ?_
  refine lv_iconst (v := 5) hx hb dL_law_1521 (by decide) ?_
  refine lv_iadd hx hb dL_law_1522 ?_
  refine lv_topi (fun v_5 ev_5 => ?_)
  obtain rfl : v_5 = (5 : Int32) := ev_5.trans (by decide)
  refine va_sld hx hb hX hbl hbA hS (vp_in_iff.mpr ⟨by decide, by decide⟩) dL_law_1523 ?_
  refine W.eq (g2 := F0 m 1524 ls [.int (xs 5), .int (xs 4), .int (xs 3), .int (xs 2), .int (xs 1), .ref zx]) rfl ?_
  refine cj_i (wc := [(zx, .inr (10, [.ref zn, .ref zk, .ref zr, .ref zl, .ref zc, .ref zs, .ref zw, .ref zt, .ref zm, .int 0])), (zn, .inr (8, [.ref znh, .ref znl, .ref znc, .ref znd, .ref znm, .ref zno, .ref zni, .int 0, .int 0]))]) (wr := [(zy, .inr (11, [.ref zy0, .ref zy1, .int 0, .int 0, .int 0, .ref zy5, .int 0, .int 0, .ref zy8, .ref zy9, .ref zy10, .ref zy11, .ref zy12, .ref zy13, .ref zy14, .long 0, .ref zy16, .ref zy17, .ref zy18, .int 0, .long 0, .ref zy21, .ref zy22, .int 0, .ref zy24, .ref zy25, .ref zy26, .ref zy27])), (zy0, .inl (cy 0, 392, .inl zz))]) (w1 := fun (_ : Unit) => []) (va_runV (As := [.int (xs 1), .int (xs 2), .int (xs 3), .int (xs 4), .int (xs 5)]) (rest := []) ⟨hx, hb, hml, hown, hts⟩ (c_X10_looked l dC dI cy H.size zx (xs 1) (xs 2) (xs 3) (xs 4) (xs 5) zn zk zr zl zc zs zw zt zm znh znl znc znd znm zno zni) (cwV 5 hts gL_law_X10_looked rfl rfl rfl (by decide +kernel) ⟨(Nat.le_of_ble_eq_true rfl), (Nat.le_of_ble_eq_true rfl)⟩) (PRE.v (hP.sub [0, 1] rfl) hK (hD.sub [0, 1] (by decide) rfl) hN (va_recv hK hP (ci := 10) (q0 := 0) rfl rfl)) rfl rfl hl.1 rfl (lv_room (Nat.le_of_ble_eq_true rfl)) dL_law_1524 ⟨(Nat.le_of_ble_eq_true rfl), (Nat.le_of_ble_eq_true rfl)⟩) hP hD hS hA [0, 1] [2, 3] rfl rfl rfl (by decide) (fun r_7 u_6 H locs hw_8 hP hD hS => ?_)
  have hP : va_P (dC, dI) vwCl [(zy, .inr (11, [.ref zy0, .ref zy1, .int 0, .int 0, .int 0, .ref zy5, .int 0, .int 0, .ref zy8, .ref zy9, .ref zy10, .ref zy11, .ref zy12, .ref zy13, .ref zy14, .long 0, .ref zy16, .ref zy17, .ref zy18, .int 0, .long 0, .ref zy21, .ref zy22, .int 0, .ref zy24, .ref zy25, .ref zy26, .ref zy27])), (zy0, .inl (cy 0, 392, .inl zz))] H := hP
  have hD : va_D A [(zy, .inr (11, [.ref zy0, .ref zy1, .int 0, .int 0, .int 0, .ref zy5, .int 0, .int 0, .ref zy8, .ref zy9, .ref zy10, .ref zy11, .ref zy12, .ref zy13, .ref zy14, .long 0, .ref zy16, .ref zy17, .ref zy18, .int 0, .long 0, .ref zy21, .ref zy22, .int 0, .ref zy24, .ref zy25, .ref zy26, .ref zy27])), (zy0, .inl (cy 0, 392, .inl zz))] := hD
  obtain rfl : r_7 = (-1) := hw_8
  refine lv_aload_n hx hb dL_law_1527 rfl (lv_at hl 2 rfl) ?_
  refine lv_aload_n hx hb dL_law_1528 rfl (lv_at hl 0 rfl) ?_
  refine lv_iload_n hx hb dL_law_1529 rfl (lv_at hl 3 rfl) ?_
  refine lv_iconst (v := 1) hx hb dL_law_1530 (by decide) ?_
  refine lv_iadd hx hb dL_law_1531 ?_
  refine lv_topi (fun v_9 ev_9 => ?_)
  obtain rfl : v_9 = (1 : Int32) := ev_9.trans (by decide)
  refine va_sld hx hb hX hbl hbA hS (vp_in_iff.mpr ⟨by decide, by decide⟩) dL_law_1532 ?_
  refine W.eq (g2 := F0 m 1533 ls [.int (xs 1), .ref zy, .int (-1)]) rfl ?_
  refine lv_aload_n hx hb dL_law_1533 rfl (lv_at hl 0 rfl) ?_
  refine lv_iload_n hx hb dL_law_1534 rfl (lv_at hl 3 rfl) ?_
  refine lv_iconst (v := 2) hx hb dL_law_1535 (by decide) ?_
  refine lv_iadd hx hb dL_law_1536 ?_
  refine lv_topi (fun v_10 ev_10 => ?_)
  obtain rfl : v_10 = (2 : Int32) := ev_10.trans (by decide)
  refine va_sld hx hb hX hbl hbA hS (vp_in_iff.mpr ⟨by decide, by decide⟩) dL_law_1537 ?_
  refine W.eq (g2 := F0 m 1538 ls [.int (xs 2), .int (xs 1), .ref zy, .int (-1)]) rfl ?_
  refine lv_aload_n hx hb dL_law_1538 rfl (lv_at hl 0 rfl) ?_
  refine lv_iload_n hx hb dL_law_1539 rfl (lv_at hl 3 rfl) ?_
  refine lv_iconst (v := 3) hx hb dL_law_1540 (by decide) ?_
  refine lv_iadd hx hb dL_law_1541 ?_
  refine lv_topi (fun v_11 ev_11 => ?_)
  obtain rfl : v_11 = (3 : Int32) := ev_11.trans (by decide)
  refine va_sld hx hb hX hbl hbA hS (vp_in_iff.mpr ⟨by decide, by decide⟩) dL_law_1542 ?_
  refine W.eq (g2 := F0 m 1543 ls [.int (xs 3), .int (xs 2), .int (xs 1), .ref zy, .int (-1)]) rfl ?_
  refine lv_aload_n hx hb dL_law_1543 rfl (lv_at hl 0 rfl) ?_
  refine lv_iload_n hx hb dL_law_1544 rfl (lv_at hl 3 rfl) ?_
  refine lv_iconst (v := 4) hx hb dL_law_1545 (by decide) ?_
  refine lv_iadd hx hb dL_law_1546 ?_
  refine lv_topi (fun v_12 ev_12 => ?_)
  obtain rfl : v_12 = (4 : Int32) := ev_12.trans (by decide)
  refine va_sld hx hb hX hbl hbA hS (vp_in_iff.mpr ⟨by decide, by decide⟩) dL_law_1547 ?_
  refine W.eq (g2 := F0 m 1548 ls [.int (xs 4), .int (xs 3), .int (xs 2), .int (xs 1), .ref zy, .int (-1)]) rfl ?_
  refine lv_aload_n hx hb dL_law_1548 rfl (lv_at hl 0 rfl) ?_
  refine lv_iload_n hx hb dL_law_1549 rfl (lv_at hl 3 rfl) ?_
  refine lv_iconst (v := 5) hx hb dL_law_1550 (by decide) ?_
  refine lv_iadd hx hb dL_law_1551 ?_
  refine lv_topi (fun v_13 ev_13 => ?_)
  obtain rfl : v_13 = (5 : Int32) := ev_13.trans (by decide)
  refine va_sld hx hb hX hbl hbA hS (vp_in_iff.mpr ⟨by decide, by decide⟩) dL_law_1552 ?_
  refine W.eq (g2 := F0 m 1553 ls [.int (xs 5), .int (xs 4), .int (xs 3), .int (xs 2), .int (xs 1), .ref zy, .int (-1)]) rfl ?_
  refine cj_i (wc := [(zy, .inr (11, [.ref zy0, .ref zy1, .int 0, .int 0, .int 0, .ref zy5, .int 0, .int 0, .ref zy8, .ref zy9, .ref zy10, .ref zy11, .ref zy12, .ref zy13, .ref zy14, .long 0, .ref zy16, .ref zy17, .ref zy18, .int 0, .long 0, .ref zy21, .ref zy22, .int 0, .ref zy24, .ref zy25, .ref zy26, .ref zy27])), (zy0, .inl (cy 0, 392, .inl zz))]) (wr := []) (w1 := fun (_ : Unit) => []) (va_runV (As := [.int (xs 1), .int (xs 2), .int (xs 3), .int (xs 4), .int (xs 5)]) (rest := [.int (-1)]) ⟨hx, hb, hml, hown, hts⟩ (c_X11_looked l dC dI cy H.size zy (xs 1) (xs 2) (xs 3) (xs 4) (xs 5) zy0 zy1 zy5 zy8 zy9 zy10 zy11 zy12 zy13 zy14 zy16 zy17 zy18 zy21 zy22 zy24 zy25 zy26 zy27) (cwV 5 hts gL_law_X11_looked rfl rfl rfl (by decide +kernel) ⟨(Nat.le_of_ble_eq_true rfl), (Nat.le_of_ble_eq_true rfl)⟩) (PRE.v (hP.sub [0, 1] rfl) hK (hD.sub [0, 1] (by decide) rfl) hN (va_recv hK hP (ci := 11) (q0 := 0) rfl rfl)) rfl rfl hl.1 rfl (lv_room (Nat.le_of_ble_eq_true rfl)) dL_law_1553 ⟨(Nat.le_of_ble_eq_true rfl), (Nat.le_of_ble_eq_true rfl)⟩) hP hD hS hA [0, 1] [] rfl rfl rfl (by decide) (fun r_15 u_14 H locs hw_16 hP hD hS => ?_)
  have hP : va_P (dC, dI) vwCl [] H := hP
  have hD : va_D A [] := hD
  obtain rfl : r_15 = (-1) := hw_16
  refine lv_icmp_eq (tgt := 1792) hx hb dL_law_1556 (by decide) (fun c_18 => ?_) (fun c_18 => absurd (by decide) c_18)
  exact kx _ _ _ hS hl
set_option maxHeartbeats 4000000 in
set_option maxRecDepth 100000 in
theorem lw_c34 {p : Program} {l : Launch} {e : Env} {s : State} {m : MethodId} {below : List Frame} {meth : Method} {c : Code} {b : Nat} {xs : Nat → Int32} {A : Nat → Prop} {Q : State → Prop} (hx : p.tables.exec = Jvm.exec) (hb : c.code = cL_law) (hml : c.maxLocals = 4) (hown : s.vm.findClass RL = some m.cls) (hts : ∀ w ∈ wsL_law, w.before #[Value.ref b] s = true) (hX : va_X b 6 xs s s.heap) (hbl : b < s.heap.size) (hbA : ¬ A b) (hA : ∀ q : Nat, s.heap.size ≤ q → A q) (dC : Nat → ClassId) (dI : Nat → Nat → Nat) (cy : Nat → ClassId) (zx : Nat) (zy : Nat) (zn : Nat) (zk : Nat) (zr : Nat) (zl : Nat) (zc : Nat) (zs : Nat) (zw : Nat) (zt : Nat) (zm : Nat) (znh : Nat) (znl : Nat) (znc : Nat) (znd : Nat) (znm : Nat) (zno : Nat) (zni : Nat) (zy0 : Nat) (zy1 : Nat) (zy5 : Nat) (zy8 : Nat) (zy9 : Nat) (zy10 : Nat) (zy11 : Nat) (zy12 : Nat) (zy13 : Nat) (zy14 : Nat) (zy16 : Nat) (zy17 : Nat) (zy18 : Nat) (zy21 : Nat) (zy22 : Nat) (zy24 : Nat) (zy25 : Nat) (zy26 : Nat) (zy27 : Nat) (hK : va_K (dC, dI) vwCl (TY cy) s) (hN : N0 s)
    (kx : ∀ (H : Heap) (locs : List Loc) (ls : Array Slot), va_S A s.heap H locs → lv_has ls 4 [(0, .ref b), (1, .ref zx), (2, .ref zy), (3, .int 0)] → W p l e room_1 s m #[Value.ref b] below meth c H locs 265 67857 Q (F0 m 1792 ls []))
    {H : Heap} {locs : List Loc} {ls : Array Slot} (hP : va_P (dC, dI) vwCl [(zx, .inr (10, [.ref zn, .ref zk, .ref zr, .ref zl, .ref zc, .ref zs, .ref zw, .ref zt, .ref zm, .int 0])), (zn, .inr (8, [.ref znh, .ref znl, .ref znc, .ref znd, .ref znm, .ref zno, .ref zni, .int 0, .int 0])), (zno, .inl (cy 0, 5, .inl (fun _ => 0))), (zni, .inl (cy 0, 5, .inl (fun _ => 0))), (zy, .inr (11, [.ref zy0, .ref zy1, .int 0, .int 0, .int 0, .ref zy5, .int 0, .int 0, .ref zy8, .ref zy9, .ref zy10, .ref zy11, .ref zy12, .ref zy13, .ref zy14, .long 0, .ref zy16, .ref zy17, .ref zy18, .int 0, .long 0, .ref zy21, .ref zy22, .int 0, .ref zy24, .ref zy25, .ref zy26, .ref zy27])), (zy0, .inl (cy 0, 392, .inl zz))] H) (hD : va_D A [(zx, .inr (10, [.ref zn, .ref zk, .ref zr, .ref zl, .ref zc, .ref zs, .ref zw, .ref zt, .ref zm, .int 0])), (zn, .inr (8, [.ref znh, .ref znl, .ref znc, .ref znd, .ref znm, .ref zno, .ref zni, .int 0, .int 0])), (zno, .inl (cy 0, 5, .inl (fun _ => 0))), (zni, .inl (cy 0, 5, .inl (fun _ => 0))), (zy, .inr (11, [.ref zy0, .ref zy1, .int 0, .int 0, .int 0, .ref zy5, .int 0, .int 0, .ref zy8, .ref zy9, .ref zy10, .ref zy11, .ref zy12, .ref zy13, .ref zy14, .long 0, .ref zy16, .ref zy17, .ref zy18, .int 0, .long 0, .ref zy21, .ref zy22, .int 0, .ref zy24, .ref zy25, .ref zy26, .ref zy27])), (zy0, .inl (cy 0, 392, .inl zz))]) (hS : va_S A s.heap H locs) (hl : lv_has ls 4 [(0, .ref b), (1, .ref zx), (2, .ref zy), (3, .int 0)]) : W p l e room_1 s m #[Value.ref b] below meth c H locs 265 67857 Q (F0 m 1561 ls []) := by
  refine lv_aload_n hx hb dL_law_1561 rfl (lv_at hl 1 rfl) ?_
  refine lv_aload_n hx hb dL_law_1562 rfl (lv_at hl 0 rfl) ?_
  refine lv_iload_n hx hb dL_law_1563 rfl (lv_at hl 3 rfl) ?_
  refine lv_iconst (v := 1) hx hb dL_law_1564 (by decide) ?_
  refine lv_iadd hx hb dL_law_1565 ?_
  refine lv_topi (fun v_1 ev_1 => ?_)
  obtain rfl : v_1 = (1 : Int32) := ev_1.trans (by decide)
  refine va_sld hx hb hX hbl hbA hS (vp_in_iff.mpr ⟨by decide, by decide⟩) dL_law_1566 ?_
  refine W.eq (g2 := F0 m 1567 ls [.int (xs 1), .ref zx]) rfl ?_
  refine lv_aload_n hx hb dL_law_1567 rfl (lv_at hl 0 rfl) ?_
  refine lv_iload_n hx hb dL_law_1568 rfl (lv_at hl 3 rfl) ?_
  refine lv_iconst (v := 2) hx hb dL_law_1569 (by decide) ?_
  refine lv_iadd hx hb dL_law_1570 ?_
  refine lv_topi (fun v_2 ev_2 => ?_)
  obtain rfl : v_2 = (2 : Int32) := ev_2.trans (by decide)
  refine va_sld hx hb hX hbl hbA hS (vp_in_iff.mpr ⟨by decide, by decide⟩) dL_law_1571 ?_
  refine W.eq (g2 := F0 m 1572 ls [.int (xs 2), .int (xs 1), .ref zx]) rfl ?_
  refine cj_i (wc := [(zx, .inr (10, [.ref zn, .ref zk, .ref zr, .ref zl, .ref zc, .ref zs, .ref zw, .ref zt, .ref zm, .int 0])), (zn, .inr (8, [.ref znh, .ref znl, .ref znc, .ref znd, .ref znm, .ref zno, .ref zni, .int 0, .int 0])), (zno, .inl (cy 0, 5, .inl (fun _ => 0))), (zni, .inl (cy 0, 5, .inl (fun _ => 0)))]) (wr := [(zy, .inr (11, [.ref zy0, .ref zy1, .int 0, .int 0, .int 0, .ref zy5, .int 0, .int 0, .ref zy8, .ref zy9, .ref zy10, .ref zy11, .ref zy12, .ref zy13, .ref zy14, .long 0, .ref zy16, .ref zy17, .ref zy18, .int 0, .long 0, .ref zy21, .ref zy22, .int 0, .ref zy24, .ref zy25, .ref zy26, .ref zy27])), (zy0, .inl (cy 0, 392, .inl zz))]) (w1 := fun (_ : Unit) => []) (va_runV (As := [.int (xs 1), .int (xs 2)]) (rest := []) ⟨hx, hb, hml, hown, hts⟩ (c_X10_cause l dC dI cy H.size zx (xs 1) (xs 2) zn zk zr zl zc zs zw zt zm znh znl znc znd znm zno zni) (cwV 2 hts gL_law_X10_cause rfl rfl rfl (by decide +kernel) ⟨(Nat.le_of_ble_eq_true rfl), (Nat.le_of_ble_eq_true rfl)⟩) (PRE.v (hP.sub [0, 1, 2, 3] rfl) hK (hD.sub [0, 1, 2, 3] (by decide) rfl) hN (va_recv hK hP (ci := 10) (q0 := 0) rfl rfl)) rfl rfl hl.1 rfl (lv_room (Nat.le_of_ble_eq_true rfl)) dL_law_1572 ⟨(Nat.le_of_ble_eq_true rfl), (Nat.le_of_ble_eq_true rfl)⟩) hP hD hS hA [0, 1, 2, 3] [4, 5] rfl rfl rfl (by decide) (fun r_4 u_3 H locs hw_5 hP hD hS => ?_)
  have hP : va_P (dC, dI) vwCl [(zy, .inr (11, [.ref zy0, .ref zy1, .int 0, .int 0, .int 0, .ref zy5, .int 0, .int 0, .ref zy8, .ref zy9, .ref zy10, .ref zy11, .ref zy12, .ref zy13, .ref zy14, .long 0, .ref zy16, .ref zy17, .ref zy18, .int 0, .long 0, .ref zy21, .ref zy22, .int 0, .ref zy24, .ref zy25, .ref zy26, .ref zy27])), (zy0, .inl (cy 0, 392, .inl zz))] H := hP
  have hD : va_D A [(zy, .inr (11, [.ref zy0, .ref zy1, .int 0, .int 0, .int 0, .ref zy5, .int 0, .int 0, .ref zy8, .ref zy9, .ref zy10, .ref zy11, .ref zy12, .ref zy13, .ref zy14, .long 0, .ref zy16, .ref zy17, .ref zy18, .int 0, .long 0, .ref zy21, .ref zy22, .int 0, .ref zy24, .ref zy25, .ref zy26, .ref zy27])), (zy0, .inl (cy 0, 392, .inl zz))] := hD
  have hw_5 : r_4 = an_cause (xs 1) (xs 2) := hw_5
  refine lv_aload_n hx hb dL_law_1575 rfl (lv_at hl 2 rfl) ?_
  refine lv_aload_n hx hb dL_law_1576 rfl (lv_at hl 0 rfl) ?_
  refine lv_iload_n hx hb dL_law_1577 rfl (lv_at hl 3 rfl) ?_
  refine lv_iconst (v := 1) hx hb dL_law_1578 (by decide) ?_
  refine lv_iadd hx hb dL_law_1579 ?_
  refine lv_topi (fun v_6 ev_6 => ?_)
  obtain rfl : v_6 = (1 : Int32) := ev_6.trans (by decide)
  refine va_sld hx hb hX hbl hbA hS (vp_in_iff.mpr ⟨by decide, by decide⟩) dL_law_1580 ?_
  refine W.eq (g2 := F0 m 1581 ls [.int (xs 1), .ref zy, .int r_4]) rfl ?_
  refine lv_aload_n hx hb dL_law_1581 rfl (lv_at hl 0 rfl) ?_
  refine lv_iload_n hx hb dL_law_1582 rfl (lv_at hl 3 rfl) ?_
  refine lv_iconst (v := 2) hx hb dL_law_1583 (by decide) ?_
  refine lv_iadd hx hb dL_law_1584 ?_
  refine lv_topi (fun v_7 ev_7 => ?_)
  obtain rfl : v_7 = (2 : Int32) := ev_7.trans (by decide)
  refine va_sld hx hb hX hbl hbA hS (vp_in_iff.mpr ⟨by decide, by decide⟩) dL_law_1585 ?_
  refine W.eq (g2 := F0 m 1586 ls [.int (xs 2), .int (xs 1), .ref zy, .int r_4]) rfl ?_
  refine cj_i (wc := [(zy, .inr (11, [.ref zy0, .ref zy1, .int 0, .int 0, .int 0, .ref zy5, .int 0, .int 0, .ref zy8, .ref zy9, .ref zy10, .ref zy11, .ref zy12, .ref zy13, .ref zy14, .long 0, .ref zy16, .ref zy17, .ref zy18, .int 0, .long 0, .ref zy21, .ref zy22, .int 0, .ref zy24, .ref zy25, .ref zy26, .ref zy27])), (zy0, .inl (cy 0, 392, .inl zz))]) (wr := []) (w1 := fun (_ : Unit) => []) (va_runV (As := [.int (xs 1), .int (xs 2)]) (rest := [.int r_4]) ⟨hx, hb, hml, hown, hts⟩ (c_X11_cause l dC dI cy H.size zy (xs 1) (xs 2) zy0 zy1 zy5 zy8 zy9 zy10 zy11 zy12 zy13 zy14 zy16 zy17 zy18 zy21 zy22 zy24 zy25 zy26 zy27) (cwV 2 hts gL_law_X11_cause rfl rfl rfl (by decide +kernel) ⟨(Nat.le_of_ble_eq_true rfl), (Nat.le_of_ble_eq_true rfl)⟩) (PRE.v (hP.sub [0, 1] rfl) hK (hD.sub [0, 1] (by decide) rfl) hN (va_recv hK hP (ci := 11) (q0 := 0) rfl rfl)) rfl rfl hl.1 rfl (lv_room (Nat.le_of_ble_eq_true rfl)) dL_law_1586 ⟨(Nat.le_of_ble_eq_true rfl), (Nat.le_of_ble_eq_true rfl)⟩) hP hD hS hA [0, 1] [] rfl rfl rfl (by decide) (fun r_9 u_8 H locs hw_10 hP hD hS => ?_)
  have hP : va_P (dC, dI) vwCl [] H := hP
  have hD : va_D A [] := hD
  have hw_10 : r_9 = an_cause (xs 1) (xs 2) := hw_10
  refine lv_icmp_eq (tgt := 1792) hx hb dL_law_1589 (by decide) (fun c_11 => ?_) (fun c_11 => absurd (hw_5.trans hw_10.symm) c_11)
  exact kx _ _ _ hS hl
