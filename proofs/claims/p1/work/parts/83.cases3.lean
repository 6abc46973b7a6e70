set_option maxHeartbeats 4000000 in
set_option maxRecDepth 100000 in
theorem lw_c21 {p : Program} {l : Launch} {e : Env} {s : State} {m : MethodId} {below : List Frame} {meth : Method} {c : Code} {b : Nat} {xs : Nat → Int32} {A : Nat → Prop} {Q : State → Prop} (hx : p.tables.exec = Jvm.exec) (hb : c.code = cL_law) (hml : c.maxLocals = 4) (hown : s.vm.findClass RL = some m.cls) (hts : ∀ w ∈ wsL_law, w.before #[Value.ref b] s = true) (hX : va_X b 6 xs s s.heap) (hbl : b < s.heap.size) (hbA : ¬ A b) (hA : ∀ q : Nat, s.heap.size ≤ q → A q) (dC : Nat → ClassId) (dI : Nat → Nat → Nat) (cy : Nat → ClassId) (zx : Nat) (zy : Nat) (zn : Nat) (zk : Nat) (zr : Nat) (zl : Nat) (zc : Nat) (zs : Nat) (zw : Nat) (zt : Nat) (zm : Nat) (znh : Nat) (znl : Nat) (znc : Nat) (znd : Nat) (znm : Nat) (zno : Nat) (zni : Nat) (znc0 : Nat) (znc1 : Nat) (znc0k : Nat) (znc0w : Nat) (znc0y : Nat) (znc0s : Nat) (znc0f : Nat) (znc0l : Nat) (znc0z : Nat) (znc1k : Nat) (znc1w : Nat) (znc1y : Nat) (znc1s : Nat) (znc1f : Nat) (znc1l : Nat) (znc1z : Nat) (zy0 : Nat) (zy1 : Nat) (zy5 : Nat) (zy8 : Nat) (zy9 : Nat) (zy10 : Nat) (zy11 : Nat) (zy12 : Nat) (zy13 : Nat) (zy14 : Nat) (zy16 : Nat) (zy17 : Nat) (zy18 : Nat) (zy21 : Nat) (zy22 : Nat) (zy24 : Nat) (zy25 : Nat) (zy26 : Nat) (zy27 : Nat) (hK : va_K (dC, dI) vwCl (TY cy) s) (hN : N0 s)
    (kx : ∀ (H : Heap) (locs : List Loc) (ls : Array Slot), va_S A s.heap H locs → lv_has ls 4 [(0, .ref b), (1, .ref zx), (2, .ref zy), (3, .int 0)] → W p l e room_1 s m #[Value.ref b] below meth c H locs 265 67857 Q (F0 m 1792 ls []))
    {H : Heap} {locs : List Loc} {ls : Array Slot} (hP : va_P (dC, dI) vwCl [(zx, .inr (10, [.ref zn, .ref zk, .ref zr, .ref zl, .ref zc, .ref zs, .ref zw, .ref zt, .ref zm, .int 0])), (zn, .inr (8, [.ref znh, .ref znl, .ref znc, .ref znd, .ref znm, .ref zno, .ref zni, .int 0, .int 0])), (znc, .inl (cy 3, 2, .inr (.inr (.inr (.inr (va_up (va_up (fun _ => none) (0 : Int32).toNatClampNeg (some znc0)) (1 : Int32).toNatClampNeg (some znc1))))))), (znc0, .inr (0, [.ref znc0k, .ref znc0w, .ref znc0y, .ref znc0s, .ref znc0f, .ref znc0l, .ref znc0z, .int 0, .int 0, .int 2, .int 0])), (znc1, .inr (0, [.ref znc1k, .ref znc1w, .ref znc1y, .ref znc1s, .ref znc1f, .ref znc1l, .ref znc1z, .int 0, .int 0, .int 2, .int 0])), (zy, .inr (11, [.ref zy0, .ref zy1, .int 0, .int 0, .int 0, .ref zy5, .int 0, .int 0, .ref zy8, .ref zy9, .ref zy10, .ref zy11, .ref zy12, .ref zy13, .ref zy14, .long 0, .ref zy16, .ref zy17, .ref zy18, .int 0, .long 0, .ref zy21, .ref zy22, .int 0, .ref zy24, .ref zy25, .ref zy26, .ref zy27])), (zy0, .inl (cy 0, 392, .inl zz))] H) (hD : va_D A [(zx, .inr (10, [.ref zn, .ref zk, .ref zr, .ref zl, .ref zc, .ref zs, .ref zw, .ref zt, .ref zm, .int 0])), (zn, .inr (8, [.ref znh, .ref znl, .ref znc, .ref znd, .ref znm, .ref zno, .ref zni, .int 0, .int 0])), (znc, .inl (cy 3, 2, .inr (.inr (.inr (.inr (va_up (va_up (fun _ => none) (0 : Int32).toNatClampNeg (some znc0)) (1 : Int32).toNatClampNeg (some znc1))))))), (znc0, .inr (0, [.ref znc0k, .ref znc0w, .ref znc0y, .ref znc0s, .ref znc0f, .ref znc0l, .ref znc0z, .int 0, .int 0, .int 2, .int 0])), (znc1, .inr (0, [.ref znc1k, .ref znc1w, .ref znc1y, .ref znc1s, .ref znc1f, .ref znc1l, .ref znc1z, .int 0, .int 0, .int 2, .int 0])), (zy, .inr (11, [.ref zy0, .ref zy1, .int 0, .int 0, .int 0, .ref zy5, .int 0, .int 0, .ref zy8, .ref zy9, .ref zy10, .ref zy11, .ref zy12, .ref zy13, .ref zy14, .long 0, .ref zy16, .ref zy17, .ref zy18, .int 0, .long 0, .ref zy21, .ref zy22, .int 0, .ref zy24, .ref zy25, .ref zy26, .ref zy27])), (zy0, .inl (cy 0, 392, .inl zz))]) (hS : va_S A s.heap H locs) (hl : lv_has ls 4 [(0, .ref b), (1, .ref zx), (2, .ref zy), (3, .int 0)]) : W p l e room_1 s m #[Value.ref b] below meth c H locs 265 67857 Q (F0 m 1016 ls []) := by
  refine lv_aload_n hx hb dL_law_1016 rfl (lv_at hl 1 rfl) ?_
  refine lv_aload_n hx hb dL_law_1017 rfl (lv_at hl 0 rfl) ?_
  refine lv_iload_n hx hb dL_law_1018 rfl (lv_at hl 3 rfl) ?_
  refine lv_iconst (v := 1) hx hb dL_law_1019 (by decide) ?_
  refine lv_iadd hx hb dL_law_1020 ?_
  refine lv_topi (fun v_1 ev_1 => ?_)
  obtain rfl : v_1 = (1 : Int32) := ev_1.trans (by decide)
  refine va_sld hx hb hX hbl hbA hS (vp_in_iff.mpr ⟨by decide, by decide⟩) dL_law_1021 ?_
  refine W.eq (g2 := F0 m 1022 ls [.int (xs 1), .ref zx]) rfl ?_
  refine lv_aload_n hx hb dL_law_1022 rfl (lv_at hl 0 rfl) ?_
  refine lv_iload_n hx hb dL_law_1023 rfl (lv_at hl 3 rfl) ?_
  refine lv_iconst (v := 2) hx hb dL_law_1024 (by decide) ?_
  refine lv_iadd hx hb dL_law_1025 ?_
  refine lv_topi (fun v_2 ev_2 => ?_)
  obtain rfl : v_2 = (2 : Int32) := ev_2.trans (by decide)
  refine va_sld hx hb hX hbl hbA hS (vp_in_iff.mpr ⟨by decide, by decide⟩) dL_law_1026 ?_
  refine W.eq (g2 := F0 m 1027 ls [.int (xs 2), .int (xs 1), .ref zx]) rfl ?_
  refine lv_aload_n hx hb dL_law_1027 rfl (lv_at hl 0 rfl) ?_
  refine lv_iload_n hx hb dL_law_1028 rfl (lv_at hl 3 rfl) ?_
  refine lv_iconst (v := 3) hx hb dL_law_1029 (by decide) ?_
  refine lv_iadd hx hb dL_law_1030 ?_
  refine lv_topi (fun v_3 ev_3 => ?_)
  obtain rfl : v_3 = (3 : Int32) := ev_3.trans (by decide)
  refine va_sld hx hb hX hbl hbA hS (vp_in_iff.mpr ⟨by decide, by decide⟩) dL_law_1031 ?_
  refine W.eq (g2 := F0 m 1032 ls [.int (xs 3), .int (xs 2), .int (xs 1), .ref zx]) rfl ?_
  refine lv_aload_n hx hb dL_law_1032 rfl (lv_at hl 0 rfl) ?_
  refine lv_iload_n hx hb dL_law_1033 rfl (lv_at hl 3 rfl) ?_
  refine lv_iconst (v := 4) hx hb dL_law_1034 (by decide) ?_
  refine lv_iadd hx hb dL_law_1035 ?_
  refine lv_topi (fun v_4 ev_4 => ?_)
  obtain rfl : v_4 = (4 : Int32) := ev_4.trans (by decide)
  refine va_sld hx hb hX hbl hbA hS (vp_in_iff.mpr ⟨by decide, by decide⟩) dL_law_1036 ?_
  refine W.eq (g2 := F0 m 1037 ls [.int (xs 4), .int (xs 3), .int (xs 2), .int (xs 1), .ref zx]) rfl ?_
  refine cj_l (wc := [(zx, .inr (10, [.ref zn, .ref zk, .ref zr, .ref zl, .ref zc, .ref zs, .ref zw, .ref zt, .ref zm, .int 0])), (zn, .inr (8, [.ref znh, .ref znl, .ref znc, .ref znd, .ref znm, .ref zno, .ref zni, .int 0, .int 0])), (znc, .inl (cy 3, 2, .inr (.inr (.inr (.inr (va_up (va_up (fun _ => none) (0 : Int32).toNatClampNeg (some znc0)) (1 : Int32).toNatClampNeg (some znc1))))))), (znc0, .inr (0, [.ref znc0k, .ref znc0w, .ref znc0y, .ref znc0s, .ref znc0f, .ref znc0l, .ref znc0z, .int 0, .int 0, .int 2, .int 0])), (znc1, .inr (0, [.ref znc1k, .ref znc1w, .ref znc1y, .ref znc1s, .ref znc1f, .ref znc1l, .ref znc1z, .int 0, .int 0, .int 2, .int 0]))]) (wr := [(zy, .inr (11, [.ref zy0, .ref zy1, .int 0, .int 0, .int 0, .ref zy5, .int 0, .int 0, .ref zy8, .ref zy9, .ref zy10, .ref zy11, .ref zy12, .ref zy13, .ref zy14, .long 0, .ref zy16, .ref zy17, .ref zy18, .int 0, .long 0, .ref zy21, .ref zy22, .int 0, .ref zy24, .ref zy25, .ref zy26, .ref zy27])), (zy0, .inl (cy 0, 392, .inl zz))]) (w1 := fun (_ : Unit) => []) (va_runV (As := [.int (xs 1), .int (xs 2), .int (xs 3), .int (xs 4)]) (rest := []) ⟨hx, hb, hml, hown, hts⟩ (c_X10_odds l dC dI cy H.size zx (xs 1) (xs 2) (xs 3) (xs 4) zn zk zr zl zc zs zw zt zm znh znl znc znd znm zno zni znc0 znc1 znc0k znc0w znc0y znc0s znc0f znc0l znc0z znc1k znc1w znc1y znc1s znc1f znc1l znc1z) (cwV 4 hts gL_law_X10_odds rfl rfl rfl (by decide +kernel) ⟨(Nat.le_of_ble_eq_true rfl), (Nat.le_of_ble_eq_true rfl)⟩) (PRE.v (hP.sub [0, 1, 2, 3, 4] rfl) hK (hD.sub [0, 1, 2, 3, 4] (by decide) rfl) hN (va_recv hK hP (ci := 10) (q0 := 0) rfl rfl)) rfl rfl hl.1 rfl (lv_room (Nat.le_of_ble_eq_true rfl)) dL_law_1037 ⟨(Nat.le_of_ble_eq_true rfl), (Nat.le_of_ble_eq_true rfl)⟩) hP hD hS hA [0, 1, 2, 3, 4] [5, 6] rfl rfl rfl (by decide) (fun r_6 u_5 H locs hw_7 hP hD hS => ?_)
  have hP : va_P (dC, dI) vwCl [(zy, .inr (11, [.ref zy0, .ref zy1, .int 0, .int 0, .int 0, .ref zy5, .int 0, .int 0, .ref zy8, .ref zy9, .ref zy10, .ref zy11, .ref zy12, .ref zy13, .ref zy14, .long 0, .ref zy16, .ref zy17, .ref zy18, .int 0, .long 0, .ref zy21, .ref zy22, .int 0, .ref zy24, .ref zy25, .ref zy26, .ref zy27])), (zy0, .inl (cy 0, 392, .inl zz))] H := hP
  have hD : va_D A [(zy, .inr (11, [.ref zy0, .ref zy1, .int 0, .int 0, .int 0, .ref zy5, .int 0, .int 0, .ref zy8, .ref zy9, .ref zy10, .ref zy11, .ref zy12, .ref zy13, .ref zy14, .long 0, .ref zy16, .ref zy17, .ref zy18, .int 0, .long 0, .ref zy21, .ref zy22, .int 0, .ref zy24, .ref zy25, .ref zy26, .ref zy27])), (zy0, .inl (cy 0, 392, .inl zz))] := hD
  obtain rfl : r_6 = (-1) := hw_7
  refine lv_aload_n hx hb dL_law_1040 rfl (lv_at hl 2 rfl) ?_
  refine lv_aload_n hx hb dL_law_1041 rfl (lv_at hl 0 rfl) ?_
  refine lv_iload_n hx hb dL_law_1042 rfl (lv_at hl 3 rfl) ?_
  refine lv_iconst (v := 1) hx hb dL_law_1043 (by decide) ?_
  refine lv_iadd hx hb dL_law_1044 ?_
  refine lv_topi (fun v_8 ev_8 => ?_)
  obtain rfl : v_8 = (1 : Int32) := ev_8.trans (by decide)
  refine va_sld hx hb hX hbl hbA hS (vp_in_iff.mpr ⟨by decide, by decide⟩) dL_law_1045 ?_
  refine W.eq (g2 := F0 m 1046 ls [.int (xs 1), .ref zy, .long (-1)]) rfl ?_
  refine lv_aload_n hx hb dL_law_1046 rfl (lv_at hl 0 rfl) ?_
  refine lv_iload_n hx hb dL_law_1047 rfl (lv_at hl 3 rfl) ?_
  refine lv_iconst (v := 2) hx hb dL_law_1048 (by decide) ?_
  refine lv_iadd hx hb dL_law_1049 ?_
  refine lv_topi (fun v_9 ev_9 => ?_)
  obtain rfl : v_9 = (2 : Int32) := ev_9.trans (by decide)
  refine va_sld hx hb hX hbl hbA hS (vp_in_iff.mpr ⟨by decide, by decide⟩) dL_law_1050 ?_
  refine W.eq (g2 := F0 m 1051 ls [.int (xs 2), .int (xs 1), .ref zy, .long (-1)]) rfl ?_
  refine lv_aload_n hx hb dL_law_1051 rfl (lv_at hl 0 rfl) ?_
  refine lv_iload_n hx hb dL_law_1052 rfl (lv_at hl 3 rfl) ?_
  refine lv_iconst (v := 3) hx hb dL_law_1053 (by decide) ?_
  refine lv_iadd hx hb dL_law_1054 ?_
  refine lv_topi (fun v_10 ev_10 => ?_)
  obtain rfl : v_10 = (3 : Int32) := ev_10.trans (by decide)
  refine va_sld hx hb hX hbl hbA hS (vp_in_iff.mpr ⟨by decide, by decide⟩) dL_law_1055 ?_
  refine W.eq (g2 := F0 m 1056 ls [.int (xs 3), .int (xs 2), .int (xs 1), .ref zy, .long (-1)]) rfl ?_
  refine lv_aload_n hx hb dL_law_1056 rfl (lv_at hl 0 rfl) ?_
  refine lv_iload_n hx hb dL_law_1057 rfl (lv_at hl 3 rfl) ?_
  refine lv_iconst (v := 4) hx hb dL_law_1058 (by decide) ?_
  refine lv_iadd hx hb dL_law_1059 ?_
  refine lv_topi (fun v_11 ev_11 => ?_)
  obtain rfl : v_11 = (4 : Int32) := ev_11.trans (by decide)
  refine va_sld hx hb hX hbl hbA hS (vp_in_iff.mpr ⟨by decide, by decide⟩) dL_law_1060 ?_
  refine W.eq (g2 := F0 m 1061 ls [.int (xs 4), .int (xs 3), .int (xs 2), .int (xs 1), .ref zy, .long (-1)]) rfl ?_
  refine cj_l (wc := [(zy, .inr (11, [.ref zy0, .ref zy1, .int 0, .int 0, .int 0, .ref zy5, .int 0, .int 0, .ref zy8, .ref zy9, .ref zy10, .ref zy11, .ref zy12, .ref zy13, .ref zy14, .long 0, .ref zy16, .ref zy17, .ref zy18, .int 0, .long 0, .ref zy21, .ref zy22, .int 0, .ref zy24, .ref zy25, .ref zy26, .ref zy27])), (zy0, .inl (cy 0, 392, .inl zz))]) (wr := []) (w1 := fun (_ : Unit) => []) (va_runV (As := [.int (xs 1), .int (xs 2), .int (xs 3), .int (xs 4)]) (rest := [.long (-1)]) ⟨hx, hb, hml, hown, hts⟩ (c_X11_odds l dC dI cy H.size zy (xs 1) (xs 2) (xs 3) (xs 4) zy0 zy1 zy5 zy8 zy9 zy10 zy11 zy12 zy13 zy14 zy16 zy17 zy18 zy21 zy22 zy24 zy25 zy26 zy27) (cwV 4 hts gL_law_X11_odds rfl rfl rfl (by decide +kernel) ⟨(Nat.le_of_ble_eq_true rfl), (Nat.le_of_ble_eq_true rfl)⟩) (PRE.v (hP.sub [0, 1] rfl) hK (hD.sub [0, 1] (by decide) rfl) hN (va_recv hK hP (ci := 11) (q0 := 0) rfl rfl)) rfl rfl hl.1 rfl (lv_room (Nat.le_of_ble_eq_true rfl)) dL_law_1061 ⟨(Nat.le_of_ble_eq_true rfl), (Nat.le_of_ble_eq_true rfl)⟩) hP hD hS hA [0, 1] [] rfl rfl rfl (by decide) (fun r_13 u_12 H locs hw_14 hP hD hS => ?_)
  have hP : va_P (dC, dI) vwCl [] H := hP
  have hD : va_D A [] := hD
  obtain rfl : r_13 = (-1) := hw_14
  refine W.lcmp hx hb dL_law_1064 ?_
  refine lv_topi (fun v_15 ev_15 => ?_)
  obtain rfl : v_15 = (0 : Int32) := ev_15.trans (by decide)
  refine lv_if_eq (tgt := 1792) hx hb dL_law_1065 (by decide) (fun c_17 => ?_) (fun c_17 => absurd (by decide) c_17)
  exact kx _ _ _ hS hl
set_option maxHeartbeats 4000000 in
set_option maxRecDepth 100000 in
theorem lw_c22 {p : Program} {l : Launch} {e : Env} {s : State} {m : MethodId} {below : List Frame} {meth : Method} {c : Code} {b : Nat} {xs : Nat → Int32} {A : Nat → Prop} {Q : State → Prop} (hx : p.tables.exec = Jvm.exec) (hb : c.code = cL_law) (hml : c.maxLocals = 4) (hown : s.vm.findClass RL = some m.cls) (hts : ∀ w ∈ wsL_law, w.before #[Value.ref b] s = true) (hX : va_X b 6 xs s s.heap) (hbl : b < s.heap.size) (hbA : ¬ A b) (hA : ∀ q : Nat, s.heap.size ≤ q → A q) (dC : Nat → ClassId) (dI : Nat → Nat → Nat) (cy : Nat → ClassId) (zx : Nat) (zy : Nat) (zn : Nat) (zk : Nat) (zr : Nat) (zl : Nat) (zc : Nat) (zs : Nat) (zw : Nat) (zt : Nat) (zm : Nat) (znh : Nat) (znl : Nat) (znc : Nat) (znd : Nat) (znm : Nat) (zno : Nat) (zni : Nat) (znc0 : Nat) (znc1 : Nat) (znc0k : Nat) (znc0w : Nat) (znc0y : Nat) (znc0s : Nat) (znc0f : Nat) (znc0l : Nat) (znc0z : Nat) (znc1k : Nat) (znc1w : Nat) (znc1y : Nat) (znc1s : Nat) (znc1f : Nat) (znc1l : Nat) (znc1z : Nat) (zy0 : Nat) (zy1 : Nat) (zy5 : Nat) (zy8 : Nat) (zy9 : Nat) (zy10 : Nat) (zy11 : Nat) (zy12 : Nat) (zy13 : Nat) (zy14 : Nat) (zy16 : Nat) (zy17 : Nat) (zy18 : Nat) (zy21 : Nat) (zy22 : Nat) (zy24 : Nat) (zy25 : Nat) (zy26 : Nat) (zy27 : Nat) (hK : va_K (dC, dI) vwCl (TY cy) s) (hN : N0 s)
    (kx : ∀ (H : Heap) (locs : List Loc) (ls : Array Slot), va_S A s.heap H locs → lv_has ls 4 [(0, .ref b), (1, .ref zx), (2, .ref zy), (3, .int 0)] → W p l e room_1 s m #[Value.ref b] below meth c H locs 265 67857 Q (F0 m 1792 ls []))
    {H : Heap} {locs : List Loc} {ls : Array Slot} (hP : va_P (dC, dI) vwCl [(zx, .inr (10, [.ref zn, .ref zk, .ref zr, .ref zl, .ref zc, .ref zs, .ref zw, .ref zt, .ref zm, .int 0])), (zn, .inr (8, [.ref znh, .ref znl, .ref znc, .ref znd, .ref znm, .ref zno, .ref zni, .int 0, .int 0])), (znc, .inl (cy 3, 2, .inr (.inr (.inr (.inr (va_up (va_up (fun _ => none) (0 : Int32).toNatClampNeg (some znc0)) (1 : Int32).toNatClampNeg (some znc1))))))), (znc0, .inr (0, [.ref znc0k, .ref znc0w, .ref znc0y, .ref znc0s, .ref znc0f, .ref znc0l, .ref znc0z, .int 0, .int 0, .int 2, .int 0])), (znc1, .inr (0, [.ref znc1k, .ref znc1w, .ref znc1y, .ref znc1s, .ref znc1f, .ref znc1l, .ref znc1z, .int 0, .int 0, .int 2, .int 0])), (zy, .inr (11, [.ref zy0, .ref zy1, .int 0, .int 0, .int 0, .ref zy5, .int 0, .int 0, .ref zy8, .ref zy9, .ref zy10, .ref zy11, .ref zy12, .ref zy13, .ref zy14, .long 0, .ref zy16, .ref zy17, .ref zy18, .int 0, .long 0, .ref zy21, .ref zy22, .int 0, .ref zy24, .ref zy25, .ref zy26, .ref zy27])), (zy0, .inl (cy 0, 392, .inl zz))] H) (hD : va_D A [(zx, .inr (10, [.ref zn, .ref zk, .ref zr, .ref zl, .ref zc, .ref zs, .ref zw, .ref zt, .ref zm, .int 0])), (zn, .inr (8, [.ref znh, .ref znl, .ref znc, .ref znd, .ref znm, .ref zno, .ref zni, .int 0, .int 0])), (znc, .inl (cy 3, 2, .inr (.inr (.inr (.inr (va_up (va_up (fun _ => none) (0 : Int32).toNatClampNeg (some znc0)) (1 : Int32).toNatClampNeg (some znc1))))))), (znc0, .inr (0, [.ref znc0k, .ref znc0w, .ref znc0y, .ref znc0s, .ref znc0f, .ref znc0l, .ref znc0z, .int 0, .int 0, .int 2, .int 0])), (znc1, .inr (0, [.ref znc1k, .ref znc1w, .ref znc1y, .ref znc1s, .ref znc1f, .ref znc1l, .ref znc1z, .int 0, .int 0, .int 2, .int 0])), (zy, .inr (11, [.ref zy0, .ref zy1, .int 0, .int 0, .int 0, .ref zy5, .int 0, .int 0, .ref zy8, .ref zy9, .ref zy10, .ref zy11, .ref zy12, .ref zy13, .ref zy14, .long 0, .ref zy16, .ref zy17, .ref zy18, .int 0, .long 0, .ref zy21, .ref zy22, .int 0, .ref zy24, .ref zy25, .ref zy26, .ref zy27])), (zy0, .inl (cy 0, 392, .inl zz))]) (hS : va_S A s.heap H locs) (hl : lv_has ls 4 [(0, .ref b), (1, .ref zx), (2, .ref zy), (3, .int 0)]) : W p l e room_1 s m #[Value.ref b] below meth c H locs 265 67857 Q (F0 m 1070 ls []) := by
  refine lv_aload_n hx hb dL_law_1070 rfl (lv_at hl 1 rfl) ?_
  refine lv_aload_n hx hb dL_law_1071 rfl (lv_at hl 0 rfl) ?_
  refine lv_iload_n hx hb dL_law_1072 rfl (lv_at hl 3 rfl) ?_
  refine lv_iconst (v := 1) hx hb dL_law_1073 (by decide) ?_
  refine lv_iadd hx hb dL_law_1074 ?_
  refine lv_topi (fun v_1 ev_1 => ?_)
  obtain rfl : v_1 = (1 : Int32) := ev_1.trans (by decide)
  refine va_sld hx hb hX hbl hbA hS (vp_in_iff.mpr ⟨by decide, by decide⟩) dL_law_1075 ?_
  refine W.eq (g2 := F0 m 1076 ls [.int (xs 1), .ref zx]) rfl ?_
  refine lv_aload_n hx hb dL_law_1076 rfl (lv_at hl 0 rfl) ?_
  refine lv_iload_n hx hb dL_law_1077 rfl (lv_at hl 3 rfl) ?_
  refine lv_iconst (v := 2) hx hb dL_law_1078 (by decide) ?_
  refine lv_iadd hx hb dL_law_1079 ?_
  refine lv_topi (fun v_2 ev_2 => ?_)
  obtain rfl : v_2 = (2 : Int32) := ev_2.trans (by decide)
  refine va_sld hx hb hX hbl hbA hS (vp_in_iff.mpr ⟨by decide, by decide⟩) dL_law_1080 ?_
  refine W.eq (g2 := F0 m 1081 ls [.int (xs 2), .int (xs 1), .ref zx]) rfl ?_
  refine lv_aload_n hx hb dL_law_1081 rfl (lv_at hl 0 rfl) ?_
  refine lv_iload_n hx hb dL_law_1082 rfl (lv_at hl 3 rfl) ?_
  refine lv_iconst (v := 3) hx hb dL_law_1083 (by decide) ?_
  refine lv_iadd hx hb dL_law_1084 ?_
  refine lv_topi (fun v_3 ev_3 => ?_)
  obtain rfl : v_3 = (3 : Int32) := ev_3.trans (by decide)
  refine va_sld hx hb hX hbl hbA hS (vp_in_iff.mpr ⟨by decide, by decide⟩) dL_law_1085 ?_
  refine W.eq (g2 := F0 m 1086 ls [.int (xs 3), .int (xs 2), .int (xs 1), .ref zx]) rfl ?_
  refine lv_aload_n hx hb dL_law_1086 rfl (lv_at hl 0 rfl) ?_
  refine lv_iload_n hx hb dL_law_1087 rfl (lv_at hl 3 rfl) ?_
  refine lv_iconst (v := 4) hx hb dL_law_1088 (by decide) ?_
  refine lv_iadd hx hb dL_law_1089 ?_
  refine lv_topi (fun v_4 ev_4 => ?_)
  obtain rfl : v_4 = (4 : Int32) := ev_4.trans (by decide)
  refine va_sld hx hb hX hbl hbA hS (vp_in_iff.mpr ⟨by decide, by decide⟩) dL_law_1090 ?_
  refine W.eq (g2 := F0 m 1091 ls [.int (xs 4), .int (xs 3), .int (xs 2), .int (xs 1), .ref zx]) rfl ?_
  refine cj_i (wc := [(zx, .inr (10, [.ref zn, .ref zk, .ref zr, .ref zl, .ref zc, .ref zs, .ref zw, .ref zt, .ref zm, .int 0])), (zn, .inr (8, [.ref znh, .ref znl, .ref znc, .ref znd, .ref znm, .ref zno, .ref zni, .int 0, .int 0])), (znc, .inl (cy 3, 2, .inr (.inr (.inr (.inr (va_up (va_up (fun _ => none) (0 : Int32).toNatClampNeg (some znc0)) (1 : Int32).toNatClampNeg (some znc1))))))), (znc0, .inr (0, [.ref znc0k, .ref znc0w, .ref znc0y, .ref znc0s, .ref znc0f, .ref znc0l, .ref znc0z, .int 0, .int 0, .int 2, .int 0])), (znc1, .inr (0, [.ref znc1k, .ref znc1w, .ref znc1y, .ref znc1s, .ref znc1f, .ref znc1l, .ref znc1z, .int 0, .int 0, .int 2, .int 0]))]) (wr := [(zy, .inr (11, [.ref zy0, .ref zy1, .int 0, .int 0, .int 0, .ref zy5, .int 0, .int 0, .ref zy8, .ref zy9, .ref zy10, .ref zy11, .ref zy12, .ref zy13, .ref zy14, .long 0, .ref zy16, .ref zy17, .ref zy18, .int 0, .long 0, .ref zy21, .ref zy22, .int 0, .ref zy24, .ref zy25, .ref zy26, .ref zy27])), (zy0, .inl (cy 0, 392, .inl zz))]) (w1 := fun (_ : Unit) => []) (va_runV (As := [.int (xs 1), .int (xs 2), .int (xs 3), .int (xs 4)]) (rest := []) ⟨hx, hb, hml, hown, hts⟩ (c_X10_span l dC dI cy H.size zx (xs 1) (xs 2) (xs 3) (xs 4) zn zk zr zl zc zs zw zt zm znh znl znc znd znm zno zni znc0 znc1 znc0k znc0w znc0y znc0s znc0f znc0l znc0z znc1k znc1w znc1y znc1s znc1f znc1l znc1z) (cwV 4 hts gL_law_X10_span rfl rfl rfl (by decide +kernel) ⟨(Nat.le_of_ble_eq_true rfl), (Nat.le_of_ble_eq_true rfl)⟩) (PRE.v (hP.sub [0, 1, 2, 3, 4] rfl) hK (hD.sub [0, 1, 2, 3, 4] (by decide) rfl) hN (va_recv hK hP (ci := 10) (q0 := 0) rfl rfl)) rfl rfl hl.1 rfl (lv_room (Nat.le_of_ble_eq_true rfl)) dL_law_1091 ⟨(Nat.le_of_ble_eq_true rfl), (Nat.le_of_ble_eq_true rfl)⟩) hP hD hS hA [0, 1, 2, 3, 4] [5, 6] rfl rfl rfl (by decide) (fun r_6 u_5 H locs hw_7 hP hD hS => ?_)
  have hP : va_P (dC, dI) vwCl [(zy, .inr (11, [.ref zy0, .ref zy1, .int 0, .int 0, .int 0, .ref zy5, .int 0, .int 0, .ref zy8, .ref zy9, .ref zy10, .ref zy11, .ref zy12, .ref zy13, .ref zy14, .long 0, .ref zy16, .ref zy17, .ref zy18, .int 0, .long 0, .ref zy21, .ref zy22, .int 0, .ref zy24, .ref zy25, .ref zy26, .ref zy27])), (zy0, .inl (cy 0, 392, .inl zz))] H := hP
  have hD : va_D A [(zy, .inr (11, [.ref zy0, .ref zy1, .int 0, .int 0, .int 0, .ref zy5, .int 0, .int 0, .ref zy8, .ref zy9, .ref zy10, .ref zy11, .ref zy12, .ref zy13, .ref zy14, .long 0, .ref zy16, .ref zy17, .ref zy18, .int 0, .long 0, .ref zy21, .ref zy22, .int 0, .ref zy24, .ref zy25, .ref zy26, .ref zy27])), (zy0, .inl (cy 0, 392, .inl zz))] := hD
  obtain rfl : r_6 = (-1) := hw_7
  refine lv_aload_n hx hb dL_law_1094 rfl (lv_at hl 2 rfl) ?_
  refine lv_aload_n hx hb dL_law_1095 rfl (lv_at hl 0 rfl) ?_
  refine lv_iload_n hx hb dL_law_1096 rfl (lv_at hl 3 rfl) ?_
  refine lv_iconst (v := 1) hx hb dL_law_1097 (by decide) ?_
  refine lv_iadd hx hb dL_law_1098 ?_
  refine lv_topi (fun v_8 ev_8 => ?_)
  obtain rfl : v_8 = (1 : Int32) := ev_8.trans (by decide)
  refine va_sld hx hb hX hbl hbA hS (vp_in_iff.mpr ⟨by decide, by decide⟩) dL_law_1099 ?_
  refine W.eq (g2 := F0 m 1100 ls [.int (xs 1), .ref zy, .int (-1)]) rfl ?_
  refine lv_aload_n hx hb dL_law_1100 rfl (lv_at hl 0 rfl) ?_
  refine lv_iload_n hx hb dL_law_1101 rfl (lv_at hl 3 rfl) ?_
  refine lv_iconst (v := 2) hx hb dL_law_1102 (by decide) ?_
  refine lv_iadd hx hb dL_law_1103 ?_
  refine lv_topi (fun v_9 ev_9 => ?_)
  obtain rfl : v_9 = (2 : Int32) := ev_9.trans (by decide)
  refine va_sld hx hb hX hbl hbA hS (vp_in_iff.mpr ⟨by decide, by decide⟩) dL_law_1104 ?_
  refine W.eq (g2 := F0 m 1105 ls [.int (xs 2), .int (xs 1), .ref zy, .int (-1)]) rfl ?_
  refine lv_aload_n hx hb dL_law_1105 rfl (lv_at hl 0 rfl) ?_
  refine lv_iload_n hx hb dL_law_1106 rfl (lv_at hl 3 rfl) ?_
  refine lv_iconst (v := 3) hx hb dL_law_1107 (by decide) ?_
  refine lv_iadd hx hb dL_law_1108 ?_
  refine lv_topi (fun v_10 ev_10 => ?_)
  obtain rfl : v_10 = (3 : Int32) := ev_10.trans (by decide)
  refine va_sld hx hb hX hbl hbA hS (vp_in_iff.mpr ⟨by decide, by decide⟩) dL_law_1109 ?_
  refine W.eq (g2 := F0 m 1110 ls [.int (xs 3), .int (xs 2), .int (xs 1), .ref zy, .int (-1)]) rfl ?_
  refine lv_aload_n hx hb dL_law_1110 rfl (lv_at hl 0 rfl) ?_
  refine lv_iload_n hx hb dL_law_1111 rfl (lv_at hl 3 rfl) ?_
  refine lv_iconst (v := 4) hx hb dL_law_1112 (by decide) ?_
  refine lv_iadd hx hb dL_law_1113 ?_
  refine lv_topi (fun v_11 ev_11 => ?_)
  obtain rfl : v_11 = (4 : Int32) := ev_11.trans (by decide)
  refine va_sld hx hb hX hbl hbA hS (vp_in_iff.mpr ⟨by decide, by decide⟩) dL_law_1114 ?_
  refine W.eq (g2 := F0 m 1115 ls [.int (xs 4), .int (xs 3), .int (xs 2), .int (xs 1), .ref zy, .int (-1)]) rfl ?_
  refine cj_i (wc := [(zy, .inr (11, [.ref zy0, .ref zy1, .int 0, .int 0, .int 0, .ref zy5, .int 0, .int 0, .ref zy8, .ref zy9, .ref zy10, .ref zy11, .ref zy12, .ref zy13, .ref zy14, .long 0, .ref zy16, .ref zy17, .ref zy18, .int 0, .long 0, .ref zy21, .ref zy22, .int 0, .ref zy24, .ref zy25, .ref zy26, .ref zy27])), (zy0, .inl (cy 0, 392, .inl zz))]) (wr := []) (w1 := fun (_ : Unit) => []) (va_runV (As := [.int (xs 1), .int (xs 2), .int (xs 3), .int (xs 4)]) (rest := [.int (-1)]) ⟨hx, hb, hml, hown, hts⟩ (c_X11_span l dC dI cy H.size zy (xs 1) (xs 2) (xs 3) (xs 4) zy0 zy1 zy5 zy8 zy9 zy10 zy11 zy12 zy13 zy14 zy16 zy17 zy18 zy21 zy22 zy24 zy25 zy26 zy27) (cwV 4 hts gL_law_X11_span rfl rfl rfl (by decide +kernel) ⟨(Nat.le_of_ble_eq_true rfl), (Nat.le_of_ble_eq_true rfl)⟩) (PRE.v (hP.sub [0, 1] rfl) hK (hD.sub [0, 1] (by decide) rfl) hN (va_recv hK hP (ci := 11) (q0 := 0) rfl rfl)) rfl rfl hl.1 rfl (lv_room (Nat.le_of_ble_eq_true rfl)) dL_law_1115 ⟨(Nat.le_of_ble_eq_true rfl), (Nat.le_of_ble_eq_true rfl)⟩) hP hD hS hA [0, 1] [] rfl rfl rfl (by decide) (fun r_13 u_12 H locs hw_14 hP hD hS => ?_)
  have hP : va_P (dC, dI) vwCl [] H := hP
  have hD : va_D A [] := hD
  obtain rfl : r_13 = (-1) := hw_14
  refine lv_icmp_eq (tgt := 1792) hx hb dL_law_1118 (by decide) (fun c_16 => ?_) (fun c_16 => absurd (by decide) c_16)
  exact kx _ _ _ hS hl
set_option maxHeartbeats 4000000 in
set_option maxRecDepth 100000 in
theorem lw_c23 {p : Program} {l : Launch} {e : Env} {s : State} {m : MethodId} {below : List Frame} {meth : Method} {c : Code} {b : Nat} {xs : Nat → Int32} {A : Nat → Prop} {Q : State → Prop} (hx : p.tables.exec = Jvm.exec) (hb : c.code = cL_law) (hml : c.maxLocals = 4) (hown : s.vm.findClass RL = some m.cls) (hts : ∀ w ∈ wsL_law, w.before #[Value.ref b] s = true) (hX : va_X b 6 xs s s.heap) (hbl : b < s.heap.size) (hbA : ¬ A b) (hA : ∀ q : Nat, s.heap.size ≤ q → A q) (dC : Nat → ClassId) (dI : Nat → Nat → Nat) (cy : Nat → ClassId) (zx : Nat) (zy : Nat) (zn : Nat) (zk : Nat) (zr : Nat) (zl : Nat) (zc : Nat) (zs : Nat) (zw : Nat) (zt : Nat) (zm : Nat) (znh : Nat) (znl : Nat) (znc : Nat) (znd : Nat) (znm : Nat) (zno : Nat) (zni : Nat) (znc0 : Nat) (znc1 : Nat) (znc0k : Nat) (znc0w : Nat) (znc0y : Nat) (znc0s : Nat) (znc0f : Nat) (znc0l : Nat) (znc0z : Nat) (znc1k : Nat) (znc1w : Nat) (znc1y : Nat) (znc1s : Nat) (znc1f : Nat) (znc1l : Nat) (znc1z : Nat) (zy0 : Nat) (zy1 : Nat) (zy5 : Nat) (zy8 : Nat) (zy9 : Nat) (zy10 : Nat) (zy11 : Nat) (zy12 : Nat) (zy13 : Nat) (zy14 : Nat) (zy16 : Nat) (zy17 : Nat) (zy18 : Nat) (zy21 : Nat) (zy22 : Nat) (zy24 : Nat) (zy25 : Nat) (zy26 : Nat) (zy27 : Nat) (hK : va_K (dC, dI) vwCl (TY cy) s) (hN : N0 s)
    (kx : ∀ (H : Heap) (locs : List Loc) (ls : Array Slot), va_S A s.heap H locs → lv_has ls 4 [(0, .ref b), (1, .ref zx), (2, .ref zy), (3, .int 0)] → W p l e room_1 s m #[Value.ref b] below meth c H locs 265 67857 Q (F0 m 1792 ls []))
    {H : Heap} {locs : List Loc} {ls : Array Slot} (hP : va_P (dC, dI) vwCl [(zx, .inr (10, [.ref zn, .ref zk, .ref zr, .ref zl, .ref zc, .ref zs, .ref zw, .ref zt, .ref zm, .int 0])), (zn, .inr (8, [.ref znh, .ref znl, .ref znc, .ref znd, .ref znm, .ref zno, .ref zni, .int 0, .int 0])), (znc, .inl (cy 3, 2, .inr (.inr (.inr (.inr (va_up (va_up (fun _ => none) (0 : Int32).toNatClampNeg (some znc0)) (1 : Int32).toNatClampNeg (some znc1))))))), (znc0, .inr (0, [.ref znc0k, .ref znc0w, .ref znc0y, .ref znc0s, .ref znc0f, .ref znc0l, .ref znc0z, .int 0, .int 0, .int 2, .int 0])), (znc1, .inr (0, [.ref znc1k, .ref znc1w, .ref znc1y, .ref znc1s, .ref znc1f, .ref znc1l, .ref znc1z, .int 0, .int 0, .int 2, .int 0])), (zy, .inr (11, [.ref zy0, .ref zy1, .int 0, .int 0, .int 0, .ref zy5, .int 0, .int 0, .ref zy8, .ref zy9, .ref zy10, .ref zy11, .ref zy12, .ref zy13, .ref zy14, .long 0, .ref zy16, .ref zy17, .ref zy18, .int 0, .long 0, .ref zy21, .ref zy22, .int 0, .ref zy24, .ref zy25, .ref zy26, .ref zy27])), (zy0, .inl (cy 0, 392, .inl zz))] H) (hD : va_D A [(zx, .inr (10, [.ref zn, .ref zk, .ref zr, .ref zl, .ref zc, .ref zs, .ref zw, .ref zt, .ref zm, .int 0])), (zn, .inr (8, [.ref znh, .ref znl, .ref znc, .ref znd, .ref znm, .ref zno, .ref zni, .int 0, .int 0])), (znc, .inl (cy 3, 2, .inr (.inr (.inr (.inr (va_up (va_up (fun _ => none) (0 : Int32).toNatClampNeg (some znc0)) (1 : Int32).toNatClampNeg (some znc1))))))), (znc0, .inr (0, [.ref znc0k, .ref znc0w, .ref znc0y, .ref znc0s, .ref znc0f, .ref znc0l, .ref znc0z, .int 0, .int 0, .int 2, .int 0])), (znc1, .inr (0, [.ref znc1k, .ref znc1w, .ref znc1y, .ref znc1s, .ref znc1f, .ref znc1l, .ref znc1z, .int 0, .int 0, .int 2, .int 0])), (zy, .inr (11, [.ref zy0, .ref zy1, .int 0, .int 0, .int 0, .ref zy5, .int 0, .int 0, .ref zy8, .ref zy9, .ref zy10, .ref zy11, .ref zy12, .ref zy13, .ref zy14, .long 0, .ref zy16, .ref zy17, .ref zy18, .int 0, .long 0, .ref zy21, .ref zy22, .int 0, .ref zy24, .ref zy25, .ref zy26, .ref zy27])), (zy0, .inl (cy 0, 392, .inl zz))]) (hS : va_S A s.heap H locs) (hl : lv_has ls 4 [(0, .ref b), (1, .ref zx), (2, .ref zy), (3, .int 0)]) : W p l e room_1 s m #[Value.ref b] below meth c H locs 265 67857 Q (F0 m 1123 ls []) := by
  refine lv_aload_n hx hb dL_law_1123 rfl (lv_at hl 1 rfl) ?_
  refine lv_aload_n hx hb dL_law_1124 rfl (lv_at hl 0 rfl) ?_
  refine lv_iload_n hx hb dL_law_1125 rfl (lv_at hl 3 rfl) ?_
  refine lv_iconst (v := 1) hx hb dL_law_1126 (by decide) ?_
  refine lv_iadd hx hb dL_law_1127 ?_
  refine lv_topi (fun v_1 ev_1 => ?_)
  obtain rfl : v_1 = (1 : Int32) := ev_1.trans (by decide)
  refine va_sld hx hb hX hbl hbA hS (vp_in_iff.mpr ⟨by decide, by decide⟩) dL_law_1128 ?_
  refine W.eq (g2 := F0 m 1129 ls [.int (xs 1), .ref zx]) rfl ?_
  refine lv_aload_n hx hb dL_law_1129 rfl (lv_at hl 0 rfl) ?_
  refine lv_iload_n hx hb dL_law_1130 rfl (lv_at hl 3 rfl) ?_
  refine lv_iconst (v := 2) hx hb dL_law_1131 (by decide) ?_
  refine lv_iadd hx hb dL_law_1132 ?_
  refine lv_topi (fun v_2 ev_2 => ?_)
  obtain rfl : v_2 = (2 : Int32) := ev_2.trans (by decide)
  refine va_sld hx hb hX hbl hbA hS (vp_in_iff.mpr ⟨by decide, by decide⟩) dL_law_1133 ?_
  refine W.eq (g2 := F0 m 1134 ls [.int (xs 2), .int (xs 1), .ref zx]) rfl ?_
  refine lv_aload_n hx hb dL_law_1134 rfl (lv_at hl 0 rfl) ?_
  refine lv_iload_n hx hb dL_law_1135 rfl (lv_at hl 3 rfl) ?_
  refine lv_iconst (v := 3) hx hb dL_law_1136 (by decide) ?_
  refine lv_iadd hx hb dL_law_1137 ?_
  refine lv_topi (fun v_3 ev_3 => ?_)
  obtain rfl : v_3 = (3 : Int32) := ev_3.trans (by decide)
  refine va_sld hx hb hX hbl hbA hS (vp_in_iff.mpr ⟨by decide, by decide⟩) dL_law_1138 ?_
  refine W.eq (g2 := F0 m 1139 ls [.int (xs 3), .int (xs 2), .int (xs 1), .ref zx]) rfl ?_
  refine lv_aload_n hx hb dL_law_1139 rfl (lv_at hl 0 rfl) ?_
  refine lv_iload_n hx hb dL_law_1140 rfl (lv_at hl 3 rfl) ?_
  refine lv_iconst (v := 4) hx hb dL_law_1141 (by decide) ?_
  refine lv_iadd hx hb dL_law_1142 ?_
  refine lv_topi (fun v_4 ev_4 => ?_)
  obtain rfl : v_4 = (4 : Int32) := ev_4.trans (by decide)
  refine va_sld hx hb hX hbl hbA hS (vp_in_iff.mpr ⟨by decide, by decide⟩) dL_law_1143 ?_
  refine W.eq (g2 := F0 m 1144 ls [.int (xs 4), .int (xs 3), .int (xs 2), .int (xs 1), .ref zx]) rfl ?_
  refine lv_aload_n hx hb dL_law_1144 rfl (lv_at hl 0 rfl) ?_
  refine lv_iload_n hx hb dL_law_1145 rfl (lv_at hl 3 rfl) ?_
  refine lv_iconst (v := 5) hx hb dL_law_1146 (by decide) ?_
  refine lv_iadd hx hb dL_law_1147 ?_
  refine lv_topi (fun v_5 ev_5 => ?_)
  obtain rfl : v_5 = (5 : Int32) := ev_5.trans (by decide)
  refine va_sld hx hb hX hbl hbA hS (vp_in_iff.mpr ⟨by decide, by decide⟩) dL_law_1148 ?_
  refine W.eq (g2 := F0 m 1149 ls [.int (xs 5), .int (xs 4), .int (xs 3), .int (xs 2), .int (xs 1), .ref zx]) rfl ?_
  refine cj_l (wc := [(zx, .inr (10, [.ref zn, .ref zk, .ref zr, .ref zl, .ref zc, .ref zs, .ref zw, .ref zt, .ref zm, .int 0])), (zn, .inr (8, [.ref znh, .ref znl, .ref znc, .ref znd, .ref znm, .ref zno, .ref zni, .int 0, .int 0])), (znc, .inl (cy 3, 2, .inr (.inr (.inr (.inr (va_up (va_up (fun _ => none) (0 : Int32).toNatClampNeg (some znc0)) (1 : Int32).toNatClampNeg (some znc1))))))), (znc0, .inr (0, [.ref znc0k, .ref znc0w, .ref znc0y, .ref znc0s, .ref znc0f, .ref znc0l, .ref znc0z, .int 0, .int 0, .int 2, .int 0])), (znc1, .inr (0, [.ref znc1k, .ref znc1w, .ref znc1y, .ref znc1s, .ref znc1f, .ref znc1l, .ref znc1z, .int 0, .int 0, .int 2, .int 0]))]) (wr := [(zy, .inr (11, [.ref zy0, .ref zy1, .int 0, .int 0, .int 0, .ref zy5, .int 0, .int 0, .ref zy8, .ref zy9, .ref zy10, .ref zy11, .ref zy12, .ref zy13, .ref zy14, .long 0, .ref zy16, .ref zy17, .ref zy18, .int 0, .long 0, .ref zy21, .ref zy22, .int 0, .ref zy24, .ref zy25, .ref zy26, .ref zy27])), (zy0, .inl (cy 0, 392, .inl zz))]) (w1 := fun (_ : Unit) => []) (va_runV (As := [.int (xs 1), .int (xs 2), .int (xs 3), .int (xs 4), .int (xs 5)]) (rest := []) ⟨hx, hb, hml, hown, hts⟩ (c_X10_apart l dC dI cy H.size zx (xs 1) (xs 2) (xs 3) (xs 4) (xs 5) zn zk zr zl zc zs zw zt zm znh znl znc znd znm zno zni znc0 znc1 znc0k znc0w znc0y znc0s znc0f znc0l znc0z znc1k znc1w znc1y znc1s znc1f znc1l znc1z) (cwV 5 hts gL_law_X10_apart rfl rfl rfl (by decide +kernel) ⟨(Nat.le_of_ble_eq_true rfl), (Nat.le_of_ble_eq_true rfl)⟩) (PRE.v (hP.sub [0, 1, 2, 3, 4] rfl) hK (hD.sub [0, 1, 2, 3, 4] (by decide) rfl) hN (va_recv hK hP (ci := 10) (q0 := 0) rfl rfl)) rfl rfl hl.1 rfl (lv_room (Nat.le_of_ble_eq_true rfl)) dL_law_1149 ⟨(Nat.le_of_ble_eq_true rfl), (Nat.le_of_ble_eq_true rfl)⟩) hP hD hS hA [0, 1, 2, 3, 4] [5, 6] rfl rfl rfl (by decide) (fun r_7 u_6 H locs hw_8 hP hD hS => ?_)
  have hP : va_P (dC, dI) vwCl [(zy, .inr (11, [.ref zy0, .ref zy1, .int 0, .int 0, .int 0, .ref zy5, .int 0, .int 0, .ref zy8, .ref zy9, .ref zy10, .ref zy11, .ref zy12, .ref zy13, .ref zy14, .long 0, .ref zy16, .ref zy17, .ref zy18, .int 0, .long 0, .ref zy21, .ref zy22, .int 0, .ref zy24, .ref zy25, .ref zy26, .ref zy27])), (zy0, .inl (cy 0, 392, .inl zz))] H := hP
  have hD : va_D A [(zy, .inr (11, [.ref zy0, .ref zy1, .int 0, .int 0, .int 0, .ref zy5, .int 0, .int 0, .ref zy8, .ref zy9, .ref zy10, .ref zy11, .ref zy12, .ref zy13, .ref zy14, .long 0, .ref zy16, .ref zy17, .ref zy18, .int 0, .long 0, .ref zy21, .ref zy22, .int 0, .ref zy24, .ref zy25, .ref zy26, .ref zy27])), (zy0, .inl (cy 0, 392, .inl zz))] := hD
  obtain rfl : r_7 = (-1) := hw_8
  refine lv_aload_n hx hb dL_law_1152 rfl (lv_at hl 2 rfl) ?_
  refine lv_aload_n hx hb dL_law_1153 rfl (lv_at hl 0 rfl) ?_
  refine lv_iload_n hx hb dL_law_1154 rfl (lv_at hl 3 rfl) ?_
  refine lv_iconst (v := 1) hx hb dL_law_1155 (by decide) ?_
  refine lv_iadd hx hb dL_law_1156 ?_
  refine lv_topi (fun v_9 ev_9 => ?_)
  obtain rfl : v_9 = (1 : Int32) := ev_9.trans (by decide)
  refine va_sld hx hb hX hbl hbA hS (vp_in_iff.mpr ⟨by decide, by decide⟩) dL_law_1157 ?_
  refine W.eq (g2 := F0 m 1158 ls [.int (xs 1), .ref zy, .long (-1)]) rfl ?_
  refine lv_aload_n hx hb dL_law_1158 rfl (lv_at hl 0 rfl) ?_
  refine lv_iload_n hx hb dL_law_1159 rfl (lv_at hl 3 rfl) ?_
  refine lv_iconst (v := 2) hx hb dL_law_1160 (by decide) ?_
  refine lv_iadd hx hb dL_law_1161 ?_
  refine lv_topi (fun v_10 ev_10 => ?_)
  obtain rfl : v_10 = (2 : Int32) := ev_10.trans (by decide)
  refine va_sld hx hb hX hbl hbA hS (vp_in_iff.mpr ⟨by decide, by decide⟩) dL_law_1162 ?_
  refine W.eq (g2 := F0 m 1163 ls [.int (xs 2), .int (xs 1), .ref zy, .long (-1)]) rfl ?_
  refine lv_aload_n hx hb dL_law_1163 rfl (lv_at hl 0 rfl) ?_
  refine lv_iload_n hx hb dL_law_1164 rfl (lv_at hl 3 rfl) ?_
  refine lv_iconst (v := 3) hx hb dL_law_1165 (by decide) ?_
  refine lv_iadd hx hb dL_law_1166 ?_
  refine lv_topi (fun v_11 ev_11 => ?_)
  obtain rfl : v_11 = (3 : Int32) := ev_11.trans (by decide)
  refine va_sld hx hb hX hbl hbA hS (vp_in_iff.mpr ⟨by decide, by decide⟩) dL_law_1167 ?_
  refine W.eq (g2 := F0 m 1168 ls [.int (xs 3), .int (xs 2), .int (xs 1), .ref zy, .long (-1)]) rfl ?_
  refine lv_aload_n hx hb dL_law_1168 rfl (lv_at hl 0 rfl) ?_
  refine lv_iload_n hx hb dL_law_1169 rfl (lv_at hl 3 rfl) ?_
  refine lv_iconst (v := 4) hx hb dL_law_1170 (by decide) ?_
  refine lv_iadd hx hb dL_law_1171 ?_
  refine lv_topi (fun v_12 ev_12 => ?_)
  obtain rfl : v_12 = (4 : Int32) := ev_12.trans (by decide)
  refine va_sld hx hb hX hbl hbA hS (vp_in_iff.mpr ⟨by decide, by decide⟩) dL_law_1172 ?_
  refine W.eq (g2 := F0 m 1173 ls [.int (xs 4), .int (xs 3), .int (xs 2), .int (xs 1), .ref zy, .long (-1)]) rfl ?_
  refine lv_aload_n hx hb dL_law_1173 rfl (lv_at hl 0 rfl) ?_
  refine lv_iload_n hx hb dL_law_1174 rfl (lv_at hl 3 rfl) ?_
  refine lv_iconst (v := 5) hx hb dL_law_1175 (by decide) ?_
  refine lv_iadd hx hb dL_law_1176 ?_
  refine lv_topi (fun v_13 ev_13 => ?_)
  obtain rfl : v_13 = (5 : Int32) := ev_13.trans (by decide)
  refine va_sld hx hb hX hbl hbA hS (vp_in_iff.mpr ⟨by decide, by decide⟩) dL_law_1177 ?_
  refine W.eq (g2 := F0 m 1178 ls [.int (xs 5), .int (xs 4), .int (xs 3), .int (xs 2), .int (xs 1), .ref zy, .long (-1)]) rfl ?_
  refine cj_l (wc := [(zy, .inr (11, [.ref zy0, .ref zy1, .int 0, .int 0, .int 0, .ref zy5, .int 0, .int 0, .ref zy8, .ref zy9, .ref zy10, .ref zy11, .ref zy12, .ref zy13, .ref zy14, .long 0, .ref zy16, .ref zy17, .ref zy18, .int 0, .long 0, .ref zy21, .ref zy22, .int 0, .ref zy24, .ref zy25, .ref zy26, .ref zy27])), (zy0, .inl (cy 0, 392, .inl zz))]) (wr := []) (w1 := fun (_ : Unit) => []) (va_runV (As := [.int (xs 1), .int (xs 2), .int (xs 3), .int (xs 4), .int (xs 5)]) (rest := [.long (-1)]) ⟨hx, hb, hml, hown, hts⟩ (c_X11_apart l dC dI cy H.size zy (xs 1) (xs 2) (xs 3) (xs 4) (xs 5) zy0 zy1 zy5 zy8 zy9 zy10 zy11 zy12 zy13 zy14 zy16 zy17 zy18 zy21 zy22 zy24 zy25 zy26 zy27) (cwV 5 hts gL_law_X11_apart rfl rfl rfl (by decide +kernel) ⟨(Nat.le_of_ble_eq_true rfl), (Nat.le_of_ble_eq_true rfl)⟩) (PRE.v (hP.sub [0, 1] rfl) hK (hD.sub [0, 1] (by decide) rfl) hN (va_recv hK hP (ci := 11) (q0 := 0) rfl rfl)) rfl rfl hl.1 rfl (lv_room (Nat.le_of_ble_eq_true rfl)) dL_law_1178 ⟨(Nat.le_of_ble_eq_true rfl), (Nat.le_of_ble_eq_true rfl)⟩) hP hD hS hA [0, 1] [] rfl rfl rfl (by decide) (fun r_15 u_14 H locs hw_16 hP hD hS => ?_)
  have hP : va_P (dC, dI) vwCl [] H := hP
  have hD : va_D A [] := hD
  obtain rfl : r_15 = (-1) := hw_16
  refine W.lcmp hx hb dL_law_1181 ?_
  refine lv_topi (fun v_17 ev_17 => ?_)
  obtain rfl : v_17 = (0 : Int32) := ev_17.trans (by decide)
  refine lv_if_eq (tgt := 1792) hx hb dL_law_1182 (by decide) (fun c_19 => ?_) (fun c_19 => absurd (by decide) c_19)
  exact kx _ _ _ hS hl
set_option maxHeartbeats 4000000 in
set_option maxRecDepth 100000 in
theorem lw_c24 {p : Program} {l : Launch} {e : Env} {s : State} {m : MethodId} {below : List Frame} {meth : Method} {c : Code} {b : Nat} {xs : Nat → Int32} {A : Nat → Prop} {Q : State → Prop} (hx : p.tables.exec = Jvm.exec) (hb : c.code = cL_law) (hml : c.maxLocals = 4) (hown : s.vm.findClass RL = some m.cls) (hts : ∀ w ∈ wsL_law, w.before #[Value.ref b] s = true) (hX : va_X b 6 xs s s.heap) (hbl : b < s.heap.size) (hbA : ¬ A b) (hA : ∀ q : Nat, s.heap.size ≤ q → A q) (dC : Nat → ClassId) (dI : Nat → Nat → Nat) (cy : Nat → ClassId) (zx : Nat) (zy : Nat) (zn : Nat) (zk : Nat) (zr : Nat) (zl : Nat) (zc : Nat) (zs : Nat) (zw : Nat) (zt : Nat) (zm : Nat) (znh : Nat) (znl : Nat) (znc : Nat) (znd : Nat) (znm : Nat) (zno : Nat) (zni : Nat) (znc0 : Nat) (znc1 : Nat) (znc0k : Nat) (znc0w : Nat) (znc0y : Nat) (znc0s : Nat) (znc0f : Nat) (znc0l : Nat) (znc0z : Nat) (znc1k : Nat) (znc1w : Nat) (znc1y : Nat) (znc1s : Nat) (znc1f : Nat) (znc1l : Nat) (znc1z : Nat) (zy0 : Nat) (zy1 : Nat) (zy5 : Nat) (zy8 : Nat) (zy9 : Nat) (zy10 : Nat) (zy11 : Nat) (zy12 : Nat) (zy13 : Nat) (zy14 : Nat) (zy16 : Nat) (zy17 : Nat) (zy18 : Nat) (zy21 : Nat) (zy22 : Nat) (zy24 : Nat) (zy25 : Nat) (zy26 : Nat) (zy27 : Nat) (hK : va_K (dC, dI) vwCl (TY cy) s) (hN : N0 s)
    (kx : ∀ (H : Heap) (locs : List Loc) (ls : Array Slot), va_S A s.heap H locs → lv_has ls 4 [(0, .ref b), (1, .ref zx), (2, .ref zy), (3, .int 0)] → W p l e room_1 s m #[Value.ref b] below meth c H locs 265 67857 Q (F0 m 1792 ls []))
    {H : Heap} {locs : List Loc} {ls : Array Slot} (hP : va_P (dC, dI) vwCl [(zx, .inr (10, [.ref zn, .ref zk, .ref zr, .ref zl, .ref zc, .ref zs, .ref zw, .ref zt, .ref zm, .int 0])), (zn, .inr (8, [.ref znh, .ref znl, .ref znc, .ref znd, .ref znm, .ref zno, .ref zni, .int 0, .int 0])), (znc, .inl (cy 3, 2, .inr (.inr (.inr (.inr (va_up (va_up (fun _ => none) (0 : Int32).toNatClampNeg (some znc0)) (1 : Int32).toNatClampNeg (some znc1))))))), (znc0, .inr (0, [.ref znc0k, .ref znc0w, .ref znc0y, .ref znc0s, .ref znc0f, .ref znc0l, .ref znc0z, .int 0, .int 0, .int 2, .int 0])), (znc1, .inr (0, [.ref znc1k, .ref znc1w, .ref znc1y, .ref znc1s, .ref znc1f, .ref znc1l, .ref znc1z, .int 0, .int 0, .int 2, .int 0])), (zy, .inr (11, [.ref zy0, .ref zy1, .int 0, .int 0, .int 0, .ref zy5, .int 0, .int 0, .ref zy8, .ref zy9, .ref zy10, .ref zy11, .ref zy12, .ref zy13, .ref zy14, .long 0, .ref zy16, .ref zy17, .ref zy18, .int 0, .long 0, .ref zy21, .ref zy22, .int 0, .ref zy24, .ref zy25, .ref zy26, .ref zy27])), (zy0, .inl (cy 0, 392, .inl zz))] H) (hD : va_D A [(zx, .inr (10, [.ref zn, .ref zk, .ref zr, .ref zl, .ref zc, .ref zs, .ref zw, .ref zt, .ref zm, .int 0])), (zn, .inr (8, [.ref znh, .ref znl, .ref znc, .ref znd, .ref znm, .ref zno, .ref zni, .int 0, .int 0])), (znc, .inl (cy 3, 2, .inr (.inr (.inr (.inr (va_up (va_up (fun _ => none) (0 : Int32).toNatClampNeg (some znc0)) (1 : Int32).toNatClampNeg (some znc1))))))), (znc0, .inr (0, [.ref znc0k, .ref znc0w, .ref znc0y, .ref znc0s, .ref znc0f, .ref znc0l, .ref znc0z, .int 0, .int 0, .int 2, .int 0])), (znc1, .inr (0, [.ref znc1k, .ref znc1w, .ref znc1y, .ref znc1s, .ref znc1f, .ref znc1l, .ref znc1z, .int 0, .int 0, .int 2, .int 0])), (zy, .inr (11, [.ref zy0, .ref zy1, .int 0, .int 0, .int 0, .ref zy5, .int 0, .int 0, .ref zy8, .ref zy9, .ref zy10, .ref zy11, .ref zy12, .ref zy13, .ref zy14, .long 0, .ref zy16, .ref zy17, .ref zy18, .int 0, .long 0, .ref zy21, .ref zy22, .int 0, .ref zy24, .ref zy25, .ref zy26, .ref zy27])), (zy0, .inl (cy 0, 392, .inl zz))]) (hS : va_S A s.heap H locs) (hl : lv_has ls 4 [(0, .ref b), (1, .ref zx), (2, .ref zy), (3, .int 0)]) : W p l e room_1 s m #[Value.ref b] below meth c H locs 265 67857 Q (F0 m 1187 ls []) := by
  refine lv_aload_n hx hb dL_law_1187 rfl (lv_at hl 1 rfl) ?_
  refine lv_aload_n hx hb dL_law_1188 rfl (lv_at hl 0 rfl) ?_
  refine lv_iload_n hx hb dL_law_1189 rfl (lv_at hl 3 rfl) ?_
  refine lv_iconst (v := 1) hx hb dL_law_1190 (by decide) ?_
  refine lv_iadd hx hb dL_law_1191 ?_
  refine lv_topi (fun v_1 ev_1 => ?_)
  obtain rfl : v_1 = (1 : Int32) := ev_1.trans (by decide)
  refine va_sld hx hb hX hbl hbA hS (vp_in_iff.mpr ⟨by decide, by decide⟩) dL_law_1192 ?_
  refine W.eq (g2 := F0 m 1193 ls [.int (xs 1), .ref zx]) rfl ?_
  refine lv_aload_n hx hb dL_law_1193 rfl (lv_at hl 0 rfl) ?_
  refine lv_iload_n hx hb dL_law_1194 rfl (lv_at hl 3 rfl) ?_
  refine lv_iconst (v := 2) hx hb dL_law_1195 (by decide) ?_
  refine lv_iadd hx hb dL_law_1196 ?_
  refine lv_topi (fun v_2 ev_2 => ?_)
  obtain rfl : v_2 = (2 : Int32) := ev_2.trans (by decide)
  refine va_sld hx hb hX hbl hbA hS (vp_in_iff.mpr ⟨by decide, by decide⟩) dL_law_1197 ?_
  refine W.eq (g2 := F0 m 1198 ls [.int (xs 2), .int (xs 1), .ref zx]) rfl ?_
  refine cj_l (wc := [(zx, .inr (10, [.ref zn, .ref zk, .ref zr, .ref zl, .ref zc, .ref zs, .ref zw, .ref zt, .ref zm, .int 0])), (zn, .inr (8, [.ref znh, .ref znl, .ref znc, .ref znd, .ref znm, .ref zno, .ref zni, .int 0, .int 0])), (znc, .inl (cy 3, 2, .inr (.inr (.inr (.inr (va_up (va_up (fun _ => none) (0 : Int32).toNatClampNeg (some znc0)) (1 : Int32).toNatClampNeg (some znc1))))))), (znc0, .inr (0, [.ref znc0k, .ref znc0w, .ref znc0y, .ref znc0s, .ref znc0f, .ref znc0l, .ref znc0z, .int 0, .int 0, .int 2, .int 0])), (znc1, .inr (0, [.ref znc1k, .ref znc1w, .ref znc1y, .ref znc1s, .ref znc1f, .ref znc1l, .ref znc1z, .int 0, .int 0, .int 2, .int 0]))]) (wr := [(zy, .inr (11, [.ref zy0, .ref zy1, .int 0, .int 0, .int 0, .ref zy5, .int 0, .int 0, .ref zy8, .ref zy9, .ref zy10, .ref zy11, .ref zy12, .ref zy13, .ref zy14, .long 0, .ref zy16, .ref zy17, .ref zy18, .int 0, .long 0, .ref zy21, .ref zy22, .int 0, .ref zy24, .ref zy25, .ref zy26, .ref zy27])), (zy0, .inl (cy 0, 392, .inl zz))]) (w1 := fun (_ : Unit) => []) (va_runV (As := [.int (xs 1), .int (xs 2)]) (rest := []) ⟨hx, hb, hml, hown, hts⟩ (c_X10_next l dC dI cy H.size zx (xs 1) (xs 2) zn zk zr zl zc zs zw zt zm znh znl znc znd znm zno zni znc0 znc1 znc0k znc0w znc0y znc0s znc0f znc0l znc0z znc1k znc1w znc1y znc1s znc1f znc1l znc1z) (cwV 2 hts gL_law_X10_next rfl rfl rfl (by decide +kernel) ⟨(Nat.le_of_ble_eq_true rfl), (Nat.le_of_ble_eq_true rfl)⟩) (PRE.v (hP.sub [0, 1, 2, 3, 4] rfl) hK (hD.sub [0, 1, 2, 3, 4] (by decide) rfl) hN (va_recv hK hP (ci := 10) (q0 := 0) rfl rfl)) rfl rfl hl.1 rfl (lv_room (Nat.le_of_ble_eq_true rfl)) dL_law_1198 ⟨(Nat.le_of_ble_eq_true rfl), (Nat.le_of_ble_eq_true rfl)⟩) hP hD hS hA [0, 1, 2, 3, 4] [5, 6] rfl rfl rfl (by decide) (fun r_4 u_3 H locs hw_5 hP hD hS => ?_)
  have hP : va_P (dC, dI) vwCl [(zy, .inr (11, [.ref zy0, .ref zy1, .int 0, .int 0, .int 0, .ref zy5, .int 0, .int 0, .ref zy8, .ref zy9, .ref zy10, .ref zy11, .ref zy12, .ref zy13, .ref zy14, .long 0, .ref zy16, .ref zy17, .ref zy18, .int 0, .long 0, .ref zy21, .ref zy22, .int 0, .ref zy24, .ref zy25, .ref zy26, .ref zy27])), (zy0, .inl (cy 0, 392, .inl zz))] H := hP
  have hD : va_D A [(zy, .inr (11, [.ref zy0, .ref zy1, .int 0, .int 0, .int 0, .ref zy5, .int 0, .int 0, .ref zy8, .ref zy9, .ref zy10, .ref zy11, .ref zy12, .ref zy13, .ref zy14, .long 0, .ref zy16, .ref zy17, .ref zy18, .int 0, .long 0, .ref zy21, .ref zy22, .int 0, .ref zy24, .ref zy25, .ref zy26, .ref zy27])), (zy0, .inl (cy 0, 392, .inl zz))] := hD
  have hw_5 : r_4 = an_next (xs 1) (xs 2) := hw_5
  refine lv_aload_n hx hb dL_law_1201 rfl (lv_at hl 2 rfl) ?_
  refine lv_aload_n hx hb dL_law_1202 rfl (lv_at hl 0 rfl) ?_
  refine lv_iload_n hx hb dL_law_1203 rfl (lv_at hl 3 rfl) ?_
  refine lv_iconst (v := 1) hx hb dL_law_1204 (by decide) ?_
  refine lv_iadd hx hb dL_law_1205 ?_
  refine lv_topi (fun v_6 ev_6 => ?_)
  obtain rfl : v_6 = (1 : Int32) := ev_6.trans (by decide)
  refine va_sld hx hb hX hbl hbA hS (vp_in_iff.mpr ⟨by decide, by decide⟩) dL_law_1206 ?_
  refine W.eq (g2 := F0 m 1207 ls [.int (xs 1), .ref zy, .long r_4]) rfl ?_
  refine lv_aload_n hx hb dL_law_1207 rfl (lv_at hl 0 rfl) ?_
  refine lv_iload_n hx hb dL_law_1208 rfl (lv_at hl 3 rfl) ?_
  refine lv_iconst (v := 2) hx hb dL_law_1209 (by decide) ?_
  refine lv_iadd hx hb dL_law_1210 ?_
  refine lv_topi (fun v_7 ev_7 => ?_)
  obtain rfl : v_7 = (2 : Int32) := ev_7.trans (by decide)
  refine va_sld hx hb hX hbl hbA hS (vp_in_iff.mpr ⟨by decide, by decide⟩) dL_law_1211 ?_
  refine W.eq (g2 := F0 m 1212 ls [.int (xs 2), .int (xs 1), .ref zy, .long r_4]) rfl ?_
  refine cj_l (wc := [(zy, .inr (11, [.ref zy0, .ref zy1, .int 0, .int 0, .int 0, .ref zy5, .int 0, .int 0, .ref zy8, .ref zy9, .ref zy10, .ref zy11, .ref zy12, .ref zy13, .ref zy14, .long 0, .ref zy16, .ref zy17, .ref zy18, .int 0, .long 0, .ref zy21, .ref zy22, .int 0, .ref zy24, .ref zy25, .ref zy26, .ref zy27])), (zy0, .inl (cy 0, 392, .inl zz))]) (wr := []) (w1 := fun (_ : Unit) => []) (va_runV (As := [.int (xs 1), .int (xs 2)]) (rest := [.long r_4]) ⟨hx, hb, hml, hown, hts⟩ (c_X11_next l dC dI cy H.size zy (xs 1) (xs 2) zy0 zy1 zy5 zy8 zy9 zy10 zy11 zy12 zy13 zy14 zy16 zy17 zy18 zy21 zy22 zy24 zy25 zy26 zy27) (cwV 2 hts gL_law_X11_next rfl rfl rfl (by decide +kernel) ⟨(Nat.le_of_ble_eq_true rfl), (Nat.le_of_ble_eq_true rfl)⟩) (PRE.v (hP.sub [0, 1] rfl) hK (hD.sub [0, 1] (by decide) rfl) hN (va_recv hK hP (ci := 11) (q0 := 0) rfl rfl)) rfl rfl hl.1 rfl (lv_room (Nat.le_of_ble_eq_true rfl)) dL_law_1212 ⟨(Nat.le_of_ble_eq_true rfl), (Nat.le_of_ble_eq_true rfl)⟩) hP hD hS hA [0, 1] [] rfl rfl rfl (by decide) (fun r_9 u_8 H locs hw_10 hP hD hS => ?_)
  have hP : va_P (dC, dI) vwCl [] H := hP
  have hD : va_D A [] := hD
  have hw_10 : r_9 = an_next (xs 1) (xs 2) := hw_10
  refine W.lcmp hx hb dL_law_1215 ?_
  refine lv_topi (fun v_11 ev_11 => ?_)
  refine lv_if_eq (tgt := 1792) hx hb dL_law_1216 (by decide) (fun c_12 => ?_) (fun c_12 => absurd (ev_11.trans ((lg_cmp_eq _ _).mpr (hw_5.trans hw_10.symm))) c_12)
  exact kx _ _ _ hS hl
set_option maxHeartbeats 4000000 in
set_option maxRecDepth 100000 in
theorem lw_c25 {p : Program} {l : Launch} {e : Env} {s : State} {m : MethodId} {below : List Frame} {meth : Method} {c : Code} {b : Nat} {xs : Nat → Int32} {A : Nat → Prop} {Q : State → Prop} (hx : p.tables.exec = Jvm.exec) (hb : c.code = cL_law) (hml : c.maxLocals = 4) (hown : s.vm.findClass RL = some m.cls) (hts : ∀ w ∈ wsL_law, w.before #[Value.ref b] s = true) (hX : va_X b 6 xs s s.heap) (hbl : b < s.heap.size) (hbA : ¬ A b) (hA : ∀ q : Nat, s.heap.size ≤ q → A q) (dC : Nat → ClassId) (dI : Nat → Nat → Nat) (cy : Nat → ClassId) (zx : Nat) (zy : Nat) (zn : Nat) (zk : Nat) (zr : Nat) (zl : Nat) (zc : Nat) (zs : Nat) (zw : Nat) (zt : Nat) (zm : Nat) (znh : Nat) (znl : Nat) (znc : Nat) (znd : Nat) (znm : Nat) (zno : Nat) (zni : Nat) (znc0 : Nat) (znc1 : Nat) (znc0k : Nat) (znc0w : Nat) (znc0y : Nat) (znc0s : Nat) (znc0f : Nat) (znc0l : Nat) (znc0z : Nat) (znc1k : Nat) (znc1w : Nat) (znc1y : Nat) (znc1s : Nat) (znc1f : Nat) (znc1l : Nat) (znc1z : Nat) (zy0 : Nat) (zy1 : Nat) (zy5 : Nat) (zy8 : Nat) (zy9 : Nat) (zy10 : Nat) (zy11 : Nat) (zy12 : Nat) (zy13 : Nat) (zy14 : Nat) (zy16 : Nat) (zy17 : Nat) (zy18 : Nat) (zy21 : Nat) (zy22 : Nat) (zy24 : Nat) (zy25 : Nat) (zy26 : Nat) (zy27 : Nat) (hK : va_K (dC, dI) vwCl (TY cy) s) (hN : N0 s)
    (kx : ∀ (H : Heap) (locs : List Loc) (ls : Array Slot), va_S A s.heap H locs → lv_has ls 4 [(0, .ref b), (1, .ref zx), (2, .ref zy), (3, .int 0)] → W p l e room_1 s m #[Value.ref b] below meth c H locs 265 67857 Q (F0 m 1792 ls []))
    {H : Heap} {locs : List Loc} {ls : Array Slot} (hP : va_P (dC, dI) vwCl [(zx, .inr (10, [.ref zn, .ref zk, .ref zr, .ref zl, .ref zc, .ref zs, .ref zw, .ref zt, .ref zm, .int 0])), (zn, .inr (8, [.ref znh, .ref znl, .ref znc, .ref znd, .ref znm, .ref zno, .ref zni, .int 0, .int 0])), (znc, .inl (cy 3, 2, .inr (.inr (.inr (.inr (va_up (va_up (fun _ => none) (0 : Int32).toNatClampNeg (some znc0)) (1 : Int32).toNatClampNeg (some znc1))))))), (znc0, .inr (0, [.ref znc0k, .ref znc0w, .ref znc0y, .ref znc0s, .ref znc0f, .ref znc0l, .ref znc0z, .int 0, .int 0, .int 2, .int 0])), (znc1, .inr (0, [.ref znc1k, .ref znc1w, .ref znc1y, .ref znc1s, .ref znc1f, .ref znc1l, .ref znc1z, .int 0, .int 0, .int 2, .int 0])), (zy, .inr (11, [.ref zy0, .ref zy1, .int 0, .int 0, .int 0, .ref zy5, .int 0, .int 0, .ref zy8, .ref zy9, .ref zy10, .ref zy11, .ref zy12, .ref zy13, .ref zy14, .long 0, .ref zy16, .ref zy17, .ref zy18, .int 0, .long 0, .ref zy21, .ref zy22, .int 0, .ref zy24, .ref zy25, .ref zy26, .ref zy27])), (zy0, .inl (cy 0, 392, .inl zz))] H) (hD : va_D A [(zx, .inr (10, [.ref zn, .ref zk, .ref zr, .ref zl, .ref zc, .ref zs, .ref zw, .ref zt, .ref zm, .int 0])), (zn, .inr (8, [.ref znh, .ref znl, .ref znc, .ref znd, .ref znm, .ref zno, .ref zni, .int 0, .int 0])), (znc, .inl (cy 3, 2, .inr (.inr (.inr (.inr (va_up (va_up (fun _ => none) (0 : Int32).toNatClampNeg (some znc0)) (1 : Int32).toNatClampNeg (some znc1))))))), (znc0, .inr (0, [.ref znc0k, .ref znc0w, .ref znc0y, .ref znc0s, .ref znc0f, .ref znc0l, .ref znc0z, .int 0, .int 0, .int 2, .int 0])), (znc1, .inr (0, [.ref znc1k, .ref znc1w, .ref znc1y, .ref znc1s, .ref znc1f, .ref znc1l, .ref znc1z, .int 0, .int 0, .int 2, .int 0])), (zy, .inr (11, [.ref zy0, .ref zy1, .int 0, .int 0, .int 0, .ref zy5, .int 0, .int 0, .ref zy8, .ref zy9, .ref zy10, .ref zy11, .ref zy12, .ref zy13, .ref zy14, .long 0, .ref zy16, .ref zy17, .ref zy18, .int 0, .long 0, .ref zy21, .ref zy22, .int 0, .ref zy24, .ref zy25, .ref zy26, .ref zy27])), (zy0, .inl (cy 0, 392, .inl zz))]) (hS : va_S A s.heap H locs) (hl : lv_has ls 4 [(0, .ref b), (1, .ref zx), (2, .ref zy), (3, .int 0)]) : W p l e room_1 s m #[Value.ref b] below meth c H locs 265 67857 Q (F0 m 1221 ls []) := by
  refine lv_aload_n hx hb dL_law_1221 rfl (lv_at hl 1 rfl) ?_
  refine lv_aload_n hx hb dL_law_1222 rfl (lv_at hl 0 rfl) ?_
  refine lv_iload_n hx hb dL_law_1223 rfl (lv_at hl 3 rfl) ?_
  refine lv_iconst (v := 1) hx hb dL_law_1224 (by decide) ?_
  refine lv_iadd hx hb dL_law_1225 ?_
  refine lv_topi (fun v_1 ev_1 => ?_)
  obtain rfl : v_1 = (1 : Int32) := ev_1.trans (by decide)
  refine va_sld hx hb hX hbl hbA hS (vp_in_iff.mpr ⟨by decide, by decide⟩) dL_law_1226 ?_
  refine W.eq (g2 := F0 m 1227 ls [.int (xs 1), .ref zx]) rfl ?_
  refine cj_i (wc := [(zx, .inr (10, [.ref zn, .ref zk, .ref zr, .ref zl, .ref zc, .ref zs, .ref zw, .ref zt, .ref zm, .int 0])), (zn, .inr (8, [.ref znh, .ref znl, .ref znc, .ref znd, .ref znm, .ref zno, .ref zni, .int 0, .int 0])), (znc, .inl (cy 3, 2, .inr (.inr (.inr (.inr (va_up (va_up (fun _ => none) (0 : Int32).toNatClampNeg (some znc0)) (1 : Int32).toNatClampNeg (some znc1))))))), (znc0, .inr (0, [.ref znc0k, .ref znc0w, .ref znc0y, .ref znc0s, .ref znc0f, .ref znc0l, .ref znc0z, .int 0, .int 0, .int 2, .int 0])), (znc1, .inr (0, [.ref znc1k, .ref znc1w, .ref znc1y, .ref znc1s, .ref znc1f, .ref znc1l, .ref znc1z, .int 0, .int 0, .int 2, .int 0]))]) (wr := [(zy, .inr (11, [.ref zy0, .ref zy1, .int 0, .int 0, .int 0, .ref zy5, .int 0, .int 0, .ref zy8, .ref zy9, .ref zy10, .ref zy11, .ref zy12, .ref zy13, .ref zy14, .long 0, .ref zy16, .ref zy17, .ref zy18, .int 0, .long 0, .ref zy21, .ref zy22, .int 0, .ref zy24, .ref zy25, .ref zy26, .ref zy27])), (zy0, .inl (cy 0, 392, .inl zz))]) (w1 := fun (_ : Unit) => []) (va_runV (As := [.int (xs 1)]) (rest := []) ⟨hx, hb, hml, hown, hts⟩ (c_X10_mustGo l dC dI cy H.size zx (xs 1) zn zk zr zl zc zs zw zt zm znh znl znc znd znm zno zni znc0 znc1 znc0k znc0w znc0y znc0s znc0f znc0l znc0z znc1k znc1w znc1y znc1s znc1f znc1l znc1z) (cwV 1 hts gL_law_X10_mustGo rfl rfl rfl (by decide +kernel) ⟨(Nat.le_of_ble_eq_true rfl), (Nat.le_of_ble_eq_true rfl)⟩) (PRE.v (hP.sub [0, 1, 2, 3, 4] rfl) hK (hD.sub [0, 1, 2, 3, 4] (by decide) rfl) hN (va_recv hK hP (ci := 10) (q0 := 0) rfl rfl)) rfl rfl hl.1 rfl (lv_room (Nat.le_of_ble_eq_true rfl)) dL_law_1227 ⟨(Nat.le_of_ble_eq_true rfl), (Nat.le_of_ble_eq_true rfl)⟩) hP hD hS hA [0, 1, 2, 3, 4] [5, 6] rfl rfl rfl (by decide) (fun r_3 u_2 H locs hw_4 hP hD hS => ?_)
  have hP : va_P (dC, dI) vwCl [(zy, .inr (11, [.ref zy0, .ref zy1, .int 0, .int 0, .int 0, .ref zy5, .int 0, .int 0, .ref zy8, .ref zy9, .ref zy10, .ref zy11, .ref zy12, .ref zy13, .ref zy14, .long 0, .ref zy16, .ref zy17, .ref zy18, .int 0, .long 0, .ref zy21, .ref zy22, .int 0, .ref zy24, .ref zy25, .ref zy26, .ref zy27])), (zy0, .inl (cy 0, 392, .inl zz))] H := hP
  have hD : va_D A [(zy, .inr (11, [.ref zy0, .ref zy1, .int 0, .int 0, .int 0, .ref zy5, .int 0, .int 0, .ref zy8, .ref zy9, .ref zy10, .ref zy11, .ref zy12, .ref zy13, .ref zy14, .long 0, .ref zy16, .ref zy17, .ref zy18, .int 0, .long 0, .ref zy21, .ref zy22, .int 0, .ref zy24, .ref zy25, .ref zy26, .ref zy27])), (zy0, .inl (cy 0, 392, .inl zz))] := hD
  have hw_4 : r_3 = an_mustGo (xs 1) := hw_4
  refine lv_aload_n hx hb dL_law_1230 rfl (lv_at hl 2 rfl) ?_
  refine lv_aload_n hx hb dL_law_1231 rfl (lv_at hl 0 rfl) ?_
  refine lv_iload_n hx hb dL_law_1232 rfl (lv_at hl 3 rfl) ?_
  refine lv_iconst (v := 1) hx hb dL_law_1233 (by decide) ?_
  refine lv_iadd hx hb dL_law_1234 ?_
  refine lv_topi (fun v_5 ev_5 => ?_)
  obtain rfl : v_5 = (1 : Int32) := ev_5.trans (by decide)
  refine va_sld hx hb hX hbl hbA hS (vp_in_iff.mpr ⟨by decide, by decide⟩) dL_law_1235 ?_
  refine W.eq (g2 := F0 m 1236 ls [.int (xs 1), .ref zy, .int r_3]) rfl ?_
  refine cj_i (wc := [(zy, .inr (11, [.ref zy0, .ref zy1, .int 0, .int 0, .int 0, .ref zy5, .int 0, .int 0, .ref zy8, .ref zy9, .ref zy10, .ref zy11, .ref zy12, .ref zy13, .ref zy14, .long 0, .ref zy16, .ref zy17, .ref zy18, .int 0, .long 0, .ref zy21, .ref zy22, .int 0, .ref zy24, .ref zy25, .ref zy26, .ref zy27])), (zy0, .inl (cy 0, 392, .inl zz))]) (wr := []) (w1 := fun (_ : Unit) => []) (va_runV (As := [.int (xs 1)]) (rest := [.int r_3]) ⟨hx, hb, hml, hown, hts⟩ (c_X11_mustGo l dC dI cy H.size zy (xs 1) zy0 zy1 zy5 zy8 zy9 zy10 zy11 zy12 zy13 zy14 zy16 zy17 zy18 zy21 zy22 zy24 zy25 zy26 zy27) (cwV 1 hts gL_law_X11_mustGo rfl rfl rfl (by decide +kernel) ⟨(Nat.le_of_ble_eq_true rfl), (Nat.le_of_ble_eq_true rfl)⟩) (PRE.v (hP.sub [0, 1] rfl) hK (hD.sub [0, 1] (by decide) rfl) hN (va_recv hK hP (ci := 11) (q0 := 0) rfl rfl)) rfl rfl hl.1 rfl (lv_room (Nat.le_of_ble_eq_true rfl)) dL_law_1236 ⟨(Nat.le_of_ble_eq_true rfl), (Nat.le_of_ble_eq_true rfl)⟩) hP hD hS hA [0, 1] [] rfl rfl rfl (by decide) (fun r_7 u_6 H locs hw_8 hP hD hS => ?_)
  have hP : va_P (dC, dI) vwCl [] H := hP
  have hD : va_D A [] := hD
  have hw_8 : r_7 = an_mustGo (xs 1) := hw_8
  refine lv_icmp_eq (tgt := 1792) hx hb dL_law_1239 (by decide) (fun c_9 => ?_) (fun c_9 => absurd (hw_4.trans hw_8.symm) c_9)
  exact kx _ _ _ hS hl
set_option maxHeartbeats 4000000 in
set_option maxRecDepth 100000 in
theorem lw_c26 {p : Program} {l : Launch} {e : Env} {s : State} {m : MethodId} {below : List Frame} {meth : Method} {c : Code} {b : Nat} {xs : Nat → Int32} {A : Nat → Prop} {Q : State → Prop} (hx : p.tables.exec = Jvm.exec) (hb : c.code = cL_law) (hml : c.maxLocals = 4) (hown : s.vm.findClass RL = some m.cls) (hts : ∀ w ∈ wsL_law, w.before #[Value.ref b] s = true) (hX : va_X b 6 xs s s.heap) (hbl : b < s.heap.size) (hbA : ¬ A b) (hA : ∀ q : Nat, s.heap.size ≤ q → A q) (dC : Nat → ClassId) (dI : Nat → Nat → Nat) (cy : Nat → ClassId) (zx : Nat) (zy : Nat) (zn : Nat) (zk : Nat) (zr : Nat) (zl : Nat) (zc : Nat) (zs : Nat) (zw : Nat) (zt : Nat) (zm : Nat) (znh : Nat) (znl : Nat) (znc : Nat) (znd : Nat) (znm : Nat) (zno : Nat) (zni : Nat) (zndc : Nat) (zndt : Nat) (zndf : Nat) (zndo : Nat) (zndd : Nat) (zndr : Nat) (zy0 : Nat) (zy1 : Nat) (zy5 : Nat) (zy8 : Nat) (zy9 : Nat) (zy10 : Nat) (zy11 : Nat) (zy12 : Nat) (zy13 : Nat) (zy14 : Nat) (zy16 : Nat) (zy17 : Nat) (zy18 : Nat) (zy21 : Nat) (zy22 : Nat) (zy24 : Nat) (zy25 : Nat) (zy26 : Nat) (zy27 : Nat) (hK : va_K (dC, dI) vwCl (TY cy) s) (hN : N0 s)
    (kx : ∀ (H : Heap) (locs : List Loc) (ls : Array Slot), va_S A s.heap H locs → lv_has ls 4 [(0, .ref b), (1, .ref zx), (2, .ref zy), (3, .int 0)] → W p l e room_1 s m #[Value.ref b] below meth c H locs 265 67857 Q (F0 m 1792 ls []))
    {H : Heap} {locs : List Loc} {ls : Array Slot} (hP : va_P (dC, dI) vwCl [(zx, .inr (10, [.ref zn, .ref zk, .ref zr, .ref zl, .ref zc, .ref zs, .ref zw, .ref zt, .ref zm, .int 0])), (zn, .inr (8, [.ref znh, .ref znl, .ref znc, .ref znd, .ref znm, .ref zno, .ref zni, .int 0, .int 0])), (znd, .inr (2, [.ref zndc, .ref zndt, .ref zndf, .ref zndo, .ref zndd, .ref zndr, .int 0])), (zy, .inr (11, [.ref zy0, .ref zy1, .int 0, .int 0, .int 0, .ref zy5, .int 0, .int 0, .ref zy8, .ref zy9, .ref zy10, .ref zy11, .ref zy12, .ref zy13, .ref zy14, .long 0, .ref zy16, .ref zy17, .ref zy18, .int 0, .long 0, .ref zy21, .ref zy22, .int 0, .ref zy24, .ref zy25, .ref zy26, .ref zy27])), (zy0, .inl (cy 0, 392, .inl zz))] H) (hD : va_D A [(zx, .inr (10, [.ref zn, .ref zk, .ref zr, .ref zl, .ref zc, .ref zs, .ref zw, .ref zt, .ref zm, .int 0])), (zn, .inr (8, [.ref znh, .ref znl, .ref znc, .ref znd, .ref znm, .ref zno, .ref zni, .int 0, .int 0])), (znd, .inr (2, [.ref zndc, .ref zndt, .ref zndf, .ref zndo, .ref zndd, .ref zndr, .int 0])), (zy, .inr (11, [.ref zy0, .ref zy1, .int 0, .int 0, .int 0, .ref zy5, .int 0, .int 0, .ref zy8, .ref zy9, .ref zy10, .ref zy11, .ref zy12, .ref zy13, .ref zy14, .long 0, .ref zy16, .ref zy17, .ref zy18, .int 0, .long 0, .ref zy21, .ref zy22, .int 0, .ref zy24, .ref zy25, .ref zy26, .ref zy27])), (zy0, .inl (cy 0, 392, .inl zz))]) (hS : va_S A s.heap H locs) (hl : lv_has ls 4 [(0, .ref b), (1, .ref zx), (2, .ref zy), (3, .int 0)]) : W p l e room_1 s m #[Value.ref b] below meth c H locs 265 67857 Q (F0 m 1244 ls []) := by
  refine lv_aload_n hx hb dL_law_1244 rfl (lv_at hl 1 rfl) ?_
  refine lv_aload_n hx hb dL_law_1245 rfl (lv_at hl 0 rfl) ?_
  refine lv_iload_n hx hb dL_law_1246 rfl (lv_at hl 3 rfl) ?_
  refine lv_iconst (v := 1) hx hb dL_law_1247 (by decide) ?_
  refine lv_iadd hx hb dL_law_1248 ?_
  refine lv_topi (fun v_1 ev_1 => ?_)
  obtain rfl : v_1 = (1 : Int32) := ev_1.trans (by decide)
  refine va_sld hx hb hX hbl hbA hS (vp_in_iff.mpr ⟨by decide, by decide⟩) dL_law_1249 ?_
  refine W.eq (g2 := F0 m 1250 ls [.int (xs 1), .ref zx]) rfl ?_
  refine lv_aload_n hx hb dL_law_1250 rfl (lv_at hl 0 rfl) ?_
  refine lv_iload_n hx hb dL_law_1251 rfl (lv_at hl 3 rfl) ?_
  refine lv_iconst (v := 2) hx hb dL_law_1252 (by decide) ?_
  refine lv_iadd hx hb dL_law_1253 ?_
  refine lv_topi (fun v_2 ev_2 => ?_)
  obtain rfl : v_2 = (2 : Int32) := ev_2.trans (by decide)
  refine va_sld hx hb hX hbl hbA hS (vp_in_iff.mpr ⟨by decide, by decide⟩) dL_law_1254 ?_
  refine W.eq (g2 := F0 m 1255 ls [.int (xs 2), .int (xs 1), .ref zx]) rfl ?_
  refine lv_aload_n hx hb dL_law_1255 rfl (lv_at hl 0 rfl) ?_
  refine lv_iload_n hx hb dL_law_1256 rfl (lv_at hl 3 rfl) ?_
  refine lv_iconst (v := 3) hx hb dL_law_1257 (by decide) ?_
  refine lv_iadd hx hb dL_law_1258 ?_
  refine lv_topi (fun v_3 ev_3 => ?_)
  obtain rfl : v_3 = (3 : Int32) := ev_3.trans (by decide)
  refine va_sld hx hb hX hbl hbA hS (vp_in_iff.mpr ⟨by decide, by decide⟩) dL_law_1259 ?_
  refine W.eq (g2 := F0 m 1260 ls [.int (xs 3), .int (xs 2), .int (xs 1), .ref zx]) rfl ?_
  refine cj_i (wc := [(zx, .inr (10, [.ref zn, .ref zk, .ref zr, .ref zl, .ref zc, .ref zs, .ref zw, .ref zt, .ref zm, .int 0])), (zn, .inr (8, [.ref znh, .ref znl, .ref znc, .ref znd, .ref znm, .ref zno, .ref zni, .int 0, .int 0])), (znd, .inr (2, [.ref zndc, .ref zndt, .ref zndf, .ref zndo, .ref zndd, .ref zndr, .int 0]))]) (wr := [(zy, .inr (11, [.ref zy0, .ref zy1, .int 0, .int 0, .int 0, .ref zy5, .int 0, .int 0, .ref zy8, .ref zy9, .ref zy10, .ref zy11, .ref zy12, .ref zy13, .ref zy14, .long 0, .ref zy16, .ref zy17, .ref zy18, .int 0, .long 0, .ref zy21, .ref zy22, .int 0, .ref zy24, .ref zy25, .ref zy26, .ref zy27])), (zy0, .inl (cy 0, 392, .inl zz))]) (w1 := fun (_ : Unit) => []) (va_runV (As := [.int (xs 1), .int (xs 2), .int (xs 3)]) (rest := []) ⟨hx, hb, hml, hown, hts⟩ (c_X10_leans l dC dI cy H.size zx (xs 1) (xs 2) (xs 3) zn zk zr zl zc zs zw zt zm znh znl znc znd znm zno zni zndc zndt zndf zndo zndd zndr) (cwV 3 hts gL_law_X10_leans rfl rfl rfl (by decide +kernel) ⟨(Nat.le_of_ble_eq_true rfl), (Nat.le_of_ble_eq_true rfl)⟩) (PRE.v (hP.sub [0, 1, 2] rfl) hK (hD.sub [0, 1, 2] (by decide) rfl) hN (va_recv hK hP (ci := 10) (q0 := 0) rfl rfl)) rfl rfl hl.1 rfl (lv_room (Nat.le_of_ble_eq_true rfl)) dL_law_1260 ⟨(Nat.le_of_ble_eq_true rfl), (Nat.le_of_ble_eq_true rfl)⟩) hP hD hS hA [0, 1, 2] [3, 4] rfl rfl rfl (by decide) (fun r_5 u_4 H locs hw_6 hP hD hS => ?_)
  have hP : va_P (dC, dI) vwCl [(zy, .inr (11, [.ref zy0, .ref zy1, .int 0, .int 0, .int 0, .ref zy5, .int 0, .int 0, .ref zy8, .ref zy9, .ref zy10, .ref zy11, .ref zy12, .ref zy13, .ref zy14, .long 0, .ref zy16, .ref zy17, .ref zy18, .int 0, .long 0, .ref zy21, .ref zy22, .int 0, .ref zy24, .ref zy25, .ref zy26, .ref zy27])), (zy0, .inl (cy 0, 392, .inl zz))] H := hP
  have hD : va_D A [(zy, .inr (11, [.ref zy0, .ref zy1, .int 0, .int 0, .int 0, .ref zy5, .int 0, .int 0, .ref zy8, .ref zy9, .ref zy10, .ref zy11, .ref zy12, .ref zy13, .ref zy14, .long 0, .ref zy16, .ref zy17, .ref zy18, .int 0, .long 0, .ref zy21, .ref zy22, .int 0, .ref zy24, .ref zy25, .ref zy26, .ref zy27])), (zy0, .inl (cy 0, 392, .inl zz))] := hD
  obtain rfl : r_5 = (-1001) := hw_6
  refine lv_aload_n hx hb dL_law_1263 rfl (lv_at hl 2 rfl) ?_
  refine lv_aload_n hx hb dL_law_1264 rfl (lv_at hl 0 rfl) ?_
  refine lv_iload_n hx hb dL_law_1265 rfl (lv_at hl 3 rfl) ?_
  refine lv_iconst (v := 1) hx hb dL_law_1266 (by decide) ?_
  refine lv_iadd hx hb dL_law_1267 ?_
  refine lv_topi (fun v_7 ev_7 => ?_)
  obtain rfl : v_7 = (1 : Int32) := ev_7.trans (by decide)
  refine va_sld hx hb hX hbl hbA hS (vp_in_iff.mpr ⟨by decide, by decide⟩) dL_law_1268 ?_
  refine W.eq (g2 := F0 m 1269 ls [.int (xs 1), .ref zy, .int (-1001)]) rfl ?_
  refine lv_aload_n hx hb dL_law_1269 rfl (lv_at hl 0 rfl) ?_
  refine lv_iload_n hx hb dL_law_1270 rfl (lv_at hl 3 rfl) ?_
  refine lv_iconst (v := 2) hx hb dL_law_1271 (by decide) ?_
  refine lv_iadd hx hb dL_law_1272 ?_
  refine lv_topi (fun v_8 ev_8 => ?_)
  obtain rfl : v_8 = (2 : Int32) := ev_8.trans (by decide)
  refine va_sld hx hb hX hbl hbA hS (vp_in_iff.mpr ⟨by decide, by decide⟩) dL_law_1273 ?_
  refine W.eq (g2 := F0 m 1274 ls [.int (xs 2), .int (xs 1), .ref zy, .int (-1001)]) rfl ?_
  refine lv_aload_n hx hb dL_law_1274 rfl (lv_at hl 0 rfl) ?_
  refine lv_iload_n hx hb dL_law_1275 rfl (lv_at hl 3 rfl) ?_
  refine lv_iconst (v := 3) hx hb dL_law_1276 (by decide) ?_
  refine lv_iadd hx hb dL_law_1277 ?_
  refine lv_topi (fun v_9 ev_9 => ?_)
  obtain rfl : v_9 = (3 : Int32) := ev_9.trans (by decide)
  refine va_sld hx hb hX hbl hbA hS (vp_in_iff.mpr ⟨by decide, by decide⟩) dL_law_1278 ?_
  refine W.eq (g2 := F0 m 1279 ls [.int (xs 3), .int (xs 2), .int (xs 1), .ref zy, .int (-1001)]) rfl ?_
  refine cj_i (wc := [(zy, .inr (11, [.ref zy0, .ref zy1, .int 0, .int 0, .int 0, .ref zy5, .int 0, .int 0, .ref zy8, .ref zy9, .ref zy10, .ref zy11, .ref zy12, .ref zy13, .ref zy14, .long 0, .ref zy16, .ref zy17, .ref zy18, .int 0, .long 0, .ref zy21, .ref zy22, .int 0, .ref zy24, .ref zy25, .ref zy26, .ref zy27])), (zy0, .inl (cy 0, 392, .inl zz))]) (wr := []) (w1 := fun (_ : Unit) => []) (va_runV (As := [.int (xs 1), .int (xs 2), .int (xs 3)]) (rest := [.int (-1001)]) ⟨hx, hb, hml, hown, hts⟩ (c_X11_leans l dC dI cy H.size zy (xs 1) (xs 2) (xs 3) zy0 zy1 zy5 zy8 zy9 zy10 zy11 zy12 zy13 zy14 zy16 zy17 zy18 zy21 zy22 zy24 zy25 zy26 zy27) (cwV 3 hts gL_law_X11_leans rfl rfl rfl (by decide +kernel) ⟨(Nat.le_of_ble_eq_true rfl), (Nat.le_of_ble_eq_true rfl)⟩) (PRE.v (hP.sub [0, 1] rfl) hK (hD.sub [0, 1] (by decide) rfl) hN (va_recv hK hP (ci := 11) (q0 := 0) rfl rfl)) rfl rfl hl.1 rfl (lv_room (Nat.le_of_ble_eq_true rfl)) dL_law_1279 ⟨(Nat.le_of_ble_eq_true rfl), (Nat.le_of_ble_eq_true rfl)⟩) hP hD hS hA [0, 1] [] rfl rfl rfl (by decide) (fun r_11 u_10 H locs hw_12 hP hD hS => ?_)
  have hP : va_P (dC, dI) vwCl [] H := hP
  have hD : va_D A [] := hD
  obtain rfl : r_11 = (-1001) := hw_12
  refine lv_icmp_eq (tgt := 1792) hx hb dL_law_1282 (by decide) (fun c_14 => ?_) (fun c_14 => absurd (by decide) c_14)
  exact kx _ _ _ hS hl
set_option maxHeartbeats 4000000 in
set_option maxRecDepth 100000 in
theorem lw_c27 {p : Program} {l : Launch} {e : Env} {s : State} {m : MethodId} {below : List Frame} {meth : Method} {c : Code} {b : Nat} {xs : Nat → Int32} {A : Nat → Prop} {Q : State → Prop} (hx : p.tables.exec = Jvm.exec) (hb : c.code = cL_law) (hml : c.maxLocals = 4) (hown : s.vm.findClass RL = some m.cls) (hts : ∀ w ∈ wsL_law, w.before #[Value.ref b] s = true) (hX : va_X b 6 xs s s.heap) (hbl : b < s.heap.size) (hbA : ¬ A b) (hA : ∀ q : Nat, s.heap.size ≤ q → A q) (dC : Nat → ClassId) (dI : Nat → Nat → Nat) (cy : Nat → ClassId) (zx : Nat) (zy : Nat) (zn : Nat) (zk : Nat) (zr : Nat) (zl : Nat) (zc : Nat) (zs : Nat) (zw : Nat) (zt : Nat) (zm : Nat) (znh : Nat) (znl : Nat) (znc : Nat) (znd : Nat) (znm : Nat) (zno : Nat) (zni : Nat) (znc0 : Nat) (znc1 : Nat) (znc0k : Nat) (znc0w : Nat) (znc0y : Nat) (znc0s : Nat) (znc0f : Nat) (znc0l : Nat) (znc0z : Nat) (znc1k : Nat) (znc1w : Nat) (znc1y : Nat) (znc1s : Nat) (znc1f : Nat) (znc1l : Nat) (znc1z : Nat) (zy0 : Nat) (zy1 : Nat) (zy5 : Nat) (zy8 : Nat) (zy9 : Nat) (zy10 : Nat) (zy11 : Nat) (zy12 : Nat) (zy13 : Nat) (zy14 : Nat) (zy16 : Nat) (zy17 : Nat) (zy18 : Nat) (zy21 : Nat) (zy22 : Nat) (zy24 : Nat) (zy25 : Nat) (zy26 : Nat) (zy27 : Nat) (hK : va_K (dC, dI) vwCl (TY cy) s) (hN : N0 s)
    (kx : ∀ (H : Heap) (locs : List Loc) (ls : Array Slot), va_S A s.heap H locs → lv_has ls 4 [(0, .ref b), (1, .ref zx), (2, .ref zy), (3, .int 0)] → W p l e room_1 s m #[Value.ref b] below meth c H locs 265 67857 Q (F0 m 1792 ls []))
    {H : Heap} {locs : List Loc} {ls : Array Slot} (hP : va_P (dC, dI) vwCl [(zx, .inr (10, [.ref zn, .ref zk, .ref zr, .ref zl, .ref zc, .ref zs, .ref zw, .ref zt, .ref zm, .int 0])), (zn, .inr (8, [.ref znh, .ref znl, .ref znc, .ref znd, .ref znm, .ref zno, .ref zni, .int 0, .int 0])), (znc, .inl (cy 3, 2, .inr (.inr (.inr (.inr (va_up (va_up (fun _ => none) (0 : Int32).toNatClampNeg (some znc0)) (1 : Int32).toNatClampNeg (some znc1))))))), (znc0, .inr (0, [.ref znc0k, .ref znc0w, .ref znc0y, .ref znc0s, .ref znc0f, .ref znc0l, .ref znc0z, .int 0, .int 0, .int 2, .int 0])), (znc1, .inr (0, [.ref znc1k, .ref znc1w, .ref znc1y, .ref znc1s, .ref znc1f, .ref znc1l, .ref znc1z, .int 0, .int 0, .int 2, .int 0])), (zy, .inr (11, [.ref zy0, .ref zy1, .int 0, .int 0, .int 0, .ref zy5, .int 0, .int 0, .ref zy8, .ref zy9, .ref zy10, .ref zy11, .ref zy12, .ref zy13, .ref zy14, .long 0, .ref zy16, .ref zy17, .ref zy18, .int 0, .long 0, .ref zy21, .ref zy22, .int 0, .ref zy24, .ref zy25, .ref zy26, .ref zy27])), (zy0, .inl (cy 0, 392, .inl zz))] H) (hD : va_D A [(zx, .inr (10, [.ref zn, .ref zk, .ref zr, .ref zl, .ref zc, .ref zs, .ref zw, .ref zt, .ref zm, .int 0])), (zn, .inr (8, [.ref znh, .ref znl, .ref znc, .ref znd, .ref znm, .ref zno, .ref zni, .int 0, .int 0])), (znc, .inl (cy 3, 2, .inr (.inr (.inr (.inr (va_up (va_up (fun _ => none) (0 : Int32).toNatClampNeg (some znc0)) (1 : Int32).toNatClampNeg (some znc1))))))), (znc0, .inr (0, [.ref znc0k, .ref znc0w, .ref znc0y, .ref znc0s, .ref znc0f, .ref znc0l, .ref znc0z, .int 0, .int 0, .int 2, .int 0])), (znc1, .inr (0, [.ref znc1k, .ref znc1w, .ref znc1y, .ref znc1s, .ref znc1f, .ref znc1l, .ref znc1z, .int 0, .int 0, .int 2, .int 0])), (zy, .inr (11, [.ref zy0, .ref zy1, .int 0, .int 0, .int 0, .ref zy5, .int 0, .int 0, .ref zy8, .ref zy9, .ref zy10, .ref zy11, .ref zy12, .ref zy13, .ref zy14, .long 0, .ref zy16, .ref zy17, .ref zy18, .int 0, .long 0, .ref zy21, .ref zy22, .int 0, .ref zy24, .ref zy25, .ref zy26, .ref zy27])), (zy0, .inl (cy 0, 392, .inl zz))]) (hS : va_S A s.heap H locs) (hl : lv_has ls 4 [(0, .ref b), (1, .ref zx), (2, .ref zy), (3, .int 0)]) : W p l e room_1 s m #[Value.ref b] below meth c H locs 265 67857 Q (F0 m 1287 ls []) := by
  refine lv_aload_n hx hb dL_law_1287 rfl (lv_at hl 1 rfl) ?_
  refine lv_aload_n hx hb dL_law_1288 rfl (lv_at hl 0 rfl) ?_
  refine lv_iload_n hx hb dL_law_1289 rfl (lv_at hl 3 rfl) ?_
  refine lv_iconst (v := 1) hx hb dL_law_1290 (by decide) ?_
  refine lv_iadd hx hb dL_law_1291 ?_
  refine lv_topi (fun v_1 ev_1 => ?_)
  obtain rfl : v_1 = (1 : Int32) := ev_1.trans (by decide)
  refine va_sld hx hb hX hbl hbA hS (vp_in_iff.mpr ⟨by decide, by decide⟩) dL_law_1292 ?_
  refine W.eq (g2 := F0 m 1293 ls [.int (xs 1), .ref zx]) rfl ?_
  refine lv_aload_n hx hb dL_law_1293 rfl (lv_at hl 0 rfl) ?_
  refine lv_iload_n hx hb dL_law_1294 rfl (lv_at hl 3 rfl) ?_
  refine lv_iconst (v := 2) hx hb dL_law_1295 (by decide) ?_
  refine lv_iadd hx hb dL_law_1296 ?_
  refine lv_topi (fun v_2 ev_2 => ?_)
  obtain rfl : v_2 = (2 : Int32) := ev_2.trans (by decide)
  refine va_sld hx hb hX hbl hbA hS (vp_in_iff.mpr ⟨by decide, by decide⟩) dL_law_1297 ?_
  refine W.eq (g2 := F0 m 1298 ls [.int (xs 2), .int (xs 1), .ref zx]) rfl ?_
  refine lv_aload_n hx hb dL_law_1298 rfl (lv_at hl 0 rfl) ?_
  refine lv_iload_n hx hb dL_law_1299 rfl (lv_at hl 3 rfl) ?_
  refine lv_iconst (v := 3) hx hb dL_law_1300 (by decide) ?_
  refine lv_iadd hx hb dL_law_1301 ?_
  refine lv_topi (fun v_3 ev_3 => ?_)
  obtain rfl : v_3 = (3 : Int32) := ev_3.trans (by decide)
  refine va_sld hx hb hX hbl hbA hS (vp_in_iff.mpr ⟨by decide, by decide⟩) dL_law_1302 ?_
  refine W.eq (g2 := F0 m 1303 ls [.int (xs 3), .int (xs 2), .int (xs 1), .ref zx]) rfl ?_
  refine lv_aload_n hx hb dL_law_1303 rfl (lv_at hl 0 rfl) ?_
  refine lv_iload_n hx hb dL_law_1304 rfl (lv_at hl 3 rfl) ?_
  refine lv_iconst (v := 4) hx hb dL_law_1305 (by decide) ?_
  refine lv_iadd hx hb dL_law_1306 ?_
  refine lv_topi (fun v_4 ev_4 => ?_)
  obtain rfl : v_4 = (4 : Int32) := ev_4.trans (by decide)
  refine va_sld hx hb hX hbl hbA hS (vp_in_iff.mpr ⟨by decide, by decide⟩) dL_law_1307 ?_
  refine W.eq (g2 := F0 m 1308 ls [.int (xs 4), .int (xs 3), .int (xs 2), .int (xs 1), .ref zx]) rfl ?_
  refine cj_i (wc := [(zx, .inr (10, [.ref zn, .ref zk, .ref zr, .ref zl, .ref zc, .ref zs, .ref zw, .ref zt, .ref zm, .int 0])), (zn, .inr (8, [.ref znh, .ref znl, .ref znc, .ref znd, .ref znm, .ref zno, .ref zni, .int 0, .int 0])), (znc, .inl (cy 3, 2, .inr (.inr (.inr (.inr (va_up (va_up (fun _ => none) (0 : Int32).toNatClampNeg (some znc0)) (1 : Int32).toNatClampNeg (some znc1))))))), (znc0, .inr (0, [.ref znc0k, .ref znc0w, .ref znc0y, .ref znc0s, .ref znc0f, .ref znc0l, .ref znc0z, .int 0, .int 0, .int 2, .int 0])), (znc1, .inr (0, [.ref znc1k, .ref znc1w, .ref znc1y, .ref znc1s, .ref znc1f, .ref znc1l, .ref znc1z, .int 0, .int 0, .int 2, .int 0]))]) (wr := [(zy, .inr (11, [.ref zy0, .ref zy1, .int 0, .int 0, .int 0, .ref zy5, .int 0, .int 0, .ref zy8, .ref zy9, .ref zy10, .ref zy11, .ref zy12, .ref zy13, .ref zy14, .long 0, .ref zy16, .ref zy17, .ref zy18, .int 0, .long 0, .ref zy21, .ref zy22, .int 0, .ref zy24, .ref zy25, .ref zy26, .ref zy27])), (zy0, .inl (cy 0, 392, .inl zz))]) (w1 := fun (_ : Unit) => []) (va_runV (As := [.int (xs 1), .int (xs 2), .int (xs 3), .int (xs 4)]) (rest := []) ⟨hx, hb, hml, hown, hts⟩ (c_X10_judge l dC dI cy H.size zx (xs 1) (xs 2) (xs 3) (xs 4) zn zk zr zl zc zs zw zt zm znh znl znc znd znm zno zni znc0 znc1 znc0k znc0w znc0y znc0s znc0f znc0l znc0z znc1k znc1w znc1y znc1s znc1f znc1l znc1z) (cwV 4 hts gL_law_X10_judge rfl rfl rfl (by decide +kernel) ⟨(Nat.le_of_ble_eq_true rfl), (Nat.le_of_ble_eq_true rfl)⟩) (PRE.v (hP.sub [0, 1, 2, 3, 4] rfl) hK (hD.sub [0, 1, 2, 3, 4] (by decide) rfl) hN (va_recv hK hP (ci := 10) (q0 := 0) rfl rfl)) rfl rfl hl.1 rfl (lv_room (Nat.le_of_ble_eq_true rfl)) dL_law_1308 ⟨(Nat.le_of_ble_eq_true rfl), (Nat.le_of_ble_eq_true rfl)⟩) hP hD hS hA [0, 1, 2, 3, 4] [5, 6] rfl rfl rfl (by decide) (fun r_6 u_5 H locs hw_7 hP hD hS => ?_)
  have hP : va_P (dC, dI) vwCl [(zy, .inr (11, [.ref zy0, .ref zy1, .int 0, .int 0, .int 0, .ref zy5, .int 0, .int 0, .ref zy8, .ref zy9, .ref zy10, .ref zy11, .ref zy12, .ref zy13, .ref zy14, .long 0, .ref zy16, .ref zy17, .ref zy18, .int 0, .long 0, .ref zy21, .ref zy22, .int 0, .ref zy24, .ref zy25, .ref zy26, .ref zy27])), (zy0, .inl (cy 0, 392, .inl zz))] H := hP
  have hD : va_D A [(zy, .inr (11, [.ref zy0, .ref zy1, .int 0, .int 0, .int 0, .ref zy5, .int 0, .int 0, .ref zy8, .ref zy9, .ref zy10, .ref zy11, .ref zy12, .ref zy13, .ref zy14, .long 0, .ref zy16, .ref zy17, .ref zy18, .int 0, .long 0, .ref zy21, .ref zy22, .int 0, .ref zy24, .ref zy25, .ref zy26, .ref zy27])), (zy0, .inl (cy 0, 392, .inl zz))] := hD
  have hw_7 : r_6 = an_judge (xs 1) (xs 2) (xs 3) (xs 4) := hw_7
  refine lv_aload_n hx hb dL_law_1311 rfl (lv_at hl 2 rfl) ?_
  refine lv_aload_n hx hb dL_law_1312 rfl (lv_at hl 0 rfl) ?_
  refine lv_iload_n hx hb dL_law_1313 rfl (lv_at hl 3 rfl) ?_
  refine lv_iconst (v := 1) hx hb dL_law_1314 (by decide) ?_
  refine lv_iadd hx hb dL_law_1315 ?_
  refine lv_topi (fun v_8 ev_8 => ?_)
  obtain rfl : v_8 = (1 : Int32) := ev_8.trans (by decide)
  refine va_sld hx hb hX hbl hbA hS (vp_in_iff.mpr ⟨by decide, by decide⟩) dL_law_1316 ?_
  refine W.eq (g2 := F0 m 1317 ls [.int (xs 1), .ref zy, .int r_6]) rfl ?_
  refine lv_aload_n hx hb dL_law_1317 rfl (lv_at hl 0 rfl) ?_
  refine lv_iload_n hx hb dL_law_1318 rfl (lv_at hl 3 rfl) ?_
  refine lv_iconst (v := 2) hx hb dL_law_1319 (by decide) ?_
  refine lv_iadd hx hb dL_law_1320 ?_
  refine lv_topi (fun v_9 ev_9 => ?_)
  obtain rfl : v_9 = (2 : Int32) := ev_9.trans (by decide)
  refine va_sld hx hb hX hbl hbA hS (vp_in_iff.mpr ⟨by decide, by decide⟩) dL_law_1321 ?_
  refine W.eq (g2 := F0 m 1322 ls [.int (xs 2), .int (xs 1), .ref zy, .int r_6]) rfl ?_
  refine lv_aload_n hx hb dL_law_1322 rfl (lv_at hl 0 rfl) ?_
  refine lv_iload_n hx hb dL_law_1323 rfl (lv_at hl 3 rfl) ?_
  refine lv_iconst (v := 3) hx hb dL_law_1324 (by decide) ?_
  refine lv_iadd hx hb dL_law_1325 ?_
  refine lv_topi (fun v_10 ev_10 => ?_)
  obtain rfl : v_10 = (3 : Int32) := ev_10.trans (by decide)
  refine va_sld hx hb hX hbl hbA hS (vp_in_iff.mpr ⟨by decide, by decide⟩) dL_law_1326 ?_
  refine W.eq (g2 := F0 m 1327 ls [.int (xs 3), .int (xs 2), .int (xs 1), .ref zy, .int r_6]) rfl ?_
  refine lv_aload_n hx hb dL_law_1327 rfl (lv_at hl 0 rfl) ?_
  refine lv_iload_n hx hb dL_law_1328 rfl (lv_at hl 3 rfl) ?_
  refine lv_iconst (v := 4) hx hb dL_law_1329 (by decide) ?_
  refine lv_iadd hx hb dL_law_1330 ?_
  refine lv_topi (fun v_11 ev_11 => ?_)
  obtain rfl : v_11 = (4 : Int32) := ev_11.trans (by decide)
  refine va_sld hx hb hX hbl hbA hS (vp_in_iff.mpr ⟨by decide, by decide⟩) dL_law_1331 ?_
  refine W.eq (g2 := F0 m 1332 ls [.int (xs 4), .int (xs 3), .int (xs 2), .int (xs 1), .ref zy, .int r_6]) rfl ?_
  refine cj_i (wc := [(zy, .inr (11, [.ref zy0, .ref zy1, .int 0, .int 0, .int 0, .ref zy5, .int 0, .int 0, .ref zy8, .ref zy9, .ref zy10, .ref zy11, .ref zy12, .ref zy13, .ref zy14, .long 0, .ref zy16, .ref zy17, .ref zy18, .int 0, .long 0, .ref zy21, .ref zy22, .int 0, .ref zy24, .ref zy25, .ref zy26, .ref zy27])), (zy0, .inl (cy 0, 392, .inl zz))]) (wr := []) (w1 := fun (_ : Unit) => []) (va_runV (As := [.int (xs 1), .int (xs 2), .int (xs 3), .int (xs 4)]) (rest := [.int r_6]) ⟨hx, hb, hml, hown, hts⟩ (c_X11_judge l dC dI cy H.size zy (xs 1) (xs 2) (xs 3) (xs 4) zy0 zy1 zy5 zy8 zy9 zy10 zy11 zy12 zy13 zy14 zy16 zy17 zy18 zy21 zy22 zy24 zy25 zy26 zy27) (cwV 4 hts gL_law_X11_judge rfl rfl rfl (by decide +kernel) ⟨(Nat.le_of_ble_eq_true rfl), (Nat.le_of_ble_eq_true rfl)⟩) (PRE.v (hP.sub [0, 1] rfl) hK (hD.sub [0, 1] (by decide) rfl) hN (va_recv hK hP (ci := 11) (q0 := 0) rfl rfl)) rfl rfl hl.1 rfl (lv_room (Nat.le_of_ble_eq_true rfl)) dL_law_1332 ⟨(Nat.le_of_ble_eq_true rfl), (Nat.le_of_ble_eq_true rfl)⟩) hP hD hS hA [0, 1] [] rfl rfl rfl (by decide) (fun r_13 u_12 H locs hw_14 hP hD hS => ?_)
  have hP : va_P (dC, dI) vwCl [] H := hP
  have hD : va_D A [] := hD
  have hw_14 : r_13 = an_judge (xs 1) (xs 2) (xs 3) (xs 4) := hw_14
  refine lv_icmp_eq (tgt := 1792) hx hb dL_law_1335 (by decide) (fun c_15 => ?_) (fun c_15 => absurd (hw_7.trans hw_14.symm) c_15)
  exact kx _ _ _ hS hl
