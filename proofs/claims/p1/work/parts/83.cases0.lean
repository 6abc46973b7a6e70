set_option maxHeartbeats 4000000 in
set_option maxRecDepth 100000 in
theorem lw_c0 {p : Program} {l : Launch} {e : Env} {s : State} {m : MethodId} {below : List Frame} {meth : Method} {c : Code} {b : Nat} {xs : Nat → Int32} {A : Nat → Prop} {Q : State → Prop} (hx : p.tables.exec = Jvm.exec) (hb : c.code = cL_law) (hml : c.maxLocals = 4) (hown : s.vm.findClass RL = some m.cls) (hts : ∀ w ∈ wsL_law, w.before #[Value.ref b] s = true) (hX : va_X b 6 xs s s.heap) (hbl : b < s.heap.size) (hbA : ¬ A b) (hA : ∀ q : Nat, s.heap.size ≤ q → A q) (dC : Nat → ClassId) (dI : Nat → Nat → Nat) (cy : Nat → ClassId) (zx : Nat) (zy : Nat) (zn : Nat) (zk : Nat) (zr : Nat) (zl : Nat) (zc : Nat) (zs : Nat) (zw : Nat) (zt : Nat) (zm : Nat) (znh : Nat) (znl : Nat) (znc : Nat) (znd : Nat) (znm : Nat) (zno : Nat) (zni : Nat) (znhr : Nat) (zqnh : Nat → Nat) (zy0 : Nat) (zy1 : Nat) (zy5 : Nat) (zy8 : Nat) (zy9 : Nat) (zy10 : Nat) (zy11 : Nat) (zy12 : Nat) (zy13 : Nat) (zy14 : Nat) (zy16 : Nat) (zy17 : Nat) (zy18 : Nat) (zy21 : Nat) (zy22 : Nat) (zy24 : Nat) (zy25 : Nat) (zy26 : Nat) (zy27 : Nat) (hK : va_K (dC, dI) vwCl (TY cy) s) (hN : N0 s)
    (kx : ∀ (H : Heap) (locs : List Loc) (ls : Array Slot), va_S A s.heap H locs → lv_has ls 4 [(0, .ref b), (1, .ref zx), (2, .ref zy), (3, .int 0)] → W p l e room_1 s m #[Value.ref b] below meth c H locs 265 67857 Q (F0 m 1792 ls []))
    {H : Heap} {locs : List Loc} {ls : Array Slot} (hP : va_P (dC, dI) vwCl [(zx, .inr (10, [.ref zn, .ref zk, .ref zr, .ref zl, .ref zc, .ref zs, .ref zw, .ref zt, .ref zm, .int 0])), (zn, .inr (8, [.ref znh, .ref znl, .ref znc, .ref znd, .ref znm, .ref zno, .ref zni, .int 0, .int 0])), (znh, .inr (3, [.ref znhr, .int 1, .int 3])), (znhr, .inl (cy 7, 3, .inr (.inr (.inr (.inr (fun i => if i < 3 then some (zqnh i) else none)))))), ((zqnh 0), .inl (cy 0, 24, .inl (fun _ => 0))), ((zqnh 1), .inl (cy 0, 24, .inl (fun _ => 0))), ((zqnh 2), .inl (cy 0, 24, .inl (fun _ => 0))), (zy, .inr (11, [.ref zy0, .ref zy1, .int 0, .int 0, .int 0, .ref zy5, .int 0, .int 0, .ref zy8, .ref zy9, .ref zy10, .ref zy11, .ref zy12, .ref zy13, .ref zy14, .long 0, .ref zy16, .ref zy17, .ref zy18, .int 0, .long 0, .ref zy21, .ref zy22, .int 0, .ref zy24, .ref zy25, .ref zy26, .ref zy27])), (zy0, .inl (cy 0, 392, .inl zz))] H) (hD : va_D A [(zx, .inr (10, [.ref zn, .ref zk, .ref zr, .ref zl, .ref zc, .ref zs, .ref zw, .ref zt, .ref zm, .int 0])), (zn, .inr (8, [.ref znh, .ref znl, .ref znc, .ref znd, .ref znm, .ref zno, .ref zni, .int 0, .int 0])), (znh, .inr (3, [.ref znhr, .int 1, .int 3])), (znhr, .inl (cy 7, 3, .inr (.inr (.inr (.inr (fun i => if i < 3 then some (zqnh i) else none)))))), ((zqnh 0), .inl (cy 0, 24, .inl (fun _ => 0))), ((zqnh 1), .inl (cy 0, 24, .inl (fun _ => 0))), ((zqnh 2), .inl (cy 0, 24, .inl (fun _ => 0))), (zy, .inr (11, [.ref zy0, .ref zy1, .int 0, .int 0, .int 0, .ref zy5, .int 0, .int 0, .ref zy8, .ref zy9, .ref zy10, .ref zy11, .ref zy12, .ref zy13, .ref zy14, .long 0, .ref zy16, .ref zy17, .ref zy18, .int 0, .long 0, .ref zy21, .ref zy22, .int 0, .ref zy24, .ref zy25, .ref zy26, .ref zy27])), (zy0, .inl (cy 0, 392, .inl zz))]) (hS : va_S A s.heap H locs) (hl : lv_has ls 4 [(0, .ref b), (1, .ref zx), (2, .ref zy), (3, .int 0)]) : W p l e room_1 s m #[Value.ref b] below meth c H locs 265 67857 Q (F0 m 212 ls []) := by
  refine lv_aload_n hx hb dL_law_212 rfl (lv_at hl 1 rfl) ?_
  refine lv_aload_n hx hb dL_law_213 rfl (lv_at hl 0 rfl) ?_
  refine lv_iload_n hx hb dL_law_214 rfl (lv_at hl 3 rfl) ?_
  refine lv_iconst (v := 1) hx hb dL_law_215 (by decide) ?_
  refine lv_iadd hx hb dL_law_216 ?_
  refine lv_topi (fun v_1 ev_1 => ?_)
  obtain rfl : v_1 = (1 : Int32) := ev_1.trans (by decide)
  refine va_sld hx hb hX hbl hbA hS (vp_in_iff.mpr ⟨by decide, by decide⟩) dL_law_217 ?_
  refine W.eq (g2 := F0 m 218 ls [.int (xs 1), .ref zx]) rfl ?_
  refine lv_aload_n hx hb dL_law_218 rfl (lv_at hl 0 rfl) ?_
  refine lv_iload_n hx hb dL_law_219 rfl (lv_at hl 3 rfl) ?_
  refine lv_iconst (v := 2) hx hb dL_law_220 (by decide) ?_
  refine lv_iadd hx hb dL_law_221 ?_
  refine lv_topi (fun v_2 ev_2 => ?_)
  obtain rfl : v_2 = (2 : Int32) := ev_2.trans (by decide)
  refine va_sld hx hb hX hbl hbA hS (vp_in_iff.mpr ⟨by decide, by decide⟩) dL_law_222 ?_
  refine W.eq (g2 := F0 m 223 ls [.int (xs 2), .int (xs 1), .ref zx]) rfl ?_
  refine lv_aload_n hx hb dL_law_223 rfl (lv_at hl 0 rfl) ?_
  refine lv_iload_n hx hb dL_law_224 rfl (lv_at hl 3 rfl) ?_
  refine lv_iconst (v := 3) hx hb dL_law_225 (by decide) ?_
  refine lv_iadd hx hb dL_law_226 ?_
  refine lv_topi (fun v_3 ev_3 => ?_)
  obtain rfl : v_3 = (3 : Int32) := ev_3.trans (by decide)
  refine va_sld hx hb hX hbl hbA hS (vp_in_iff.mpr ⟨by decide, by decide⟩) dL_law_227 ?_
  refine W.eq (g2 := F0 m 228 ls [.int (xs 3), .int (xs 2), .int (xs 1), .ref zx]) rfl ?_
  refine cj_i (wc := [(zx, .inr (10, [.ref zn, .ref zk, .ref zr, .ref zl, .ref zc, .ref zs, .ref zw, .ref zt, .ref zm, .int 0])), (zn, .inr (8, [.ref znh, .ref znl, .ref znc, .ref znd, .ref znm, .ref zno, .ref zni, .int 0, .int 0])), (znh, .inr (3, [.ref znhr, .int 1, .int 3])), (znhr, .inl (cy 7, 3, .inr (.inr (.inr (.inr (fun i => if i < 3 then some (zqnh i) else none)))))), ((zqnh 0), .inl (cy 0, 24, .inl (fun _ => 0))), ((zqnh 1), .inl (cy 0, 24, .inl (fun _ => 0))), ((zqnh 2), .inl (cy 0, 24, .inl (fun _ => 0)))]) (wr := [(zy, .inr (11, [.ref zy0, .ref zy1, .int 0, .int 0, .int 0, .ref zy5, .int 0, .int 0, .ref zy8, .ref zy9, .ref zy10, .ref zy11, .ref zy12, .ref zy13, .ref zy14, .long 0, .ref zy16, .ref zy17, .ref zy18, .int 0, .long 0, .ref zy21, .ref zy22, .int 0, .ref zy24, .ref zy25, .ref zy26, .ref zy27])), (zy0, .inl (cy 0, 392, .inl zz))]) (w1 := fun (_ : Unit) => []) (va_runV (As := [.int (xs 1), .int (xs 2), .int (xs 3)]) (rest := []) ⟨hx, hb, hml, hown, hts⟩ (c_X10_rain l dC dI cy H.size zx (xs 1) (xs 2) (xs 3) zn zk zr zl zc zs zw zt zm znh znl znc znd znm zno zni znhr zqnh) (cwV 3 hts gL_law_X10_rain rfl rfl rfl (by decide +kernel) ⟨(Nat.le_of_ble_eq_true rfl), (Nat.le_of_ble_eq_true rfl)⟩) (PRE.v (hP.sub [0, 1, 2, 3, 4, 5, 6] rfl) hK (hD.sub [0, 1, 2, 3, 4, 5, 6] (by decide) rfl) hN (va_recv hK hP (ci := 10) (q0 := 0) rfl rfl)) rfl rfl hl.1 rfl (lv_room (Nat.le_of_ble_eq_true rfl)) dL_law_228 ⟨(Nat.le_of_ble_eq_true rfl), (Nat.le_of_ble_eq_true rfl)⟩) hP hD hS hA [0, 1, 2, 3, 4, 5, 6] [7, 8] rfl rfl rfl (by decide) (fun r_5 u_4 H locs hw_6 hP hD hS => ?_)
  have hP : va_P (dC, dI) vwCl [(zy, .inr (11, [.ref zy0, .ref zy1, .int 0, .int 0, .int 0, .ref zy5, .int 0, .int 0, .ref zy8, .ref zy9, .ref zy10, .ref zy11, .ref zy12, .ref zy13, .ref zy14, .long 0, .ref zy16, .ref zy17, .ref zy18, .int 0, .long 0, .ref zy21, .ref zy22, .int 0, .ref zy24, .ref zy25, .ref zy26, .ref zy27])), (zy0, .inl (cy 0, 392, .inl zz))] H := hP
  have hD : va_D A [(zy, .inr (11, [.ref zy0, .ref zy1, .int 0, .int 0, .int 0, .ref zy5, .int 0, .int 0, .ref zy8, .ref zy9, .ref zy10, .ref zy11, .ref zy12, .ref zy13, .ref zy14, .long 0, .ref zy16, .ref zy17, .ref zy18, .int 0, .long 0, .ref zy21, .ref zy22, .int 0, .ref zy24, .ref zy25, .ref zy26, .ref zy27])), (zy0, .inl (cy 0, 392, .inl zz))] := hD
  have hw_6 : r_5 = an_rain (xs 1) (xs 2) (xs 3) := hw_6
  refine lv_aload_n hx hb dL_law_231 rfl (lv_at hl 2 rfl) ?_
  refine lv_aload_n hx hb dL_law_232 rfl (lv_at hl 0 rfl) ?_
  refine lv_iload_n hx hb dL_law_233 rfl (lv_at hl 3 rfl) ?_
  refine lv_iconst (v := 1) hx hb dL_law_234 (by decide) ?_
  refine lv_iadd hx hb dL_law_235 ?_
  refine lv_topi (fun v_7 ev_7 => ?_)
  obtain rfl : v_7 = (1 : Int32) := ev_7.trans (by decide)
  refine va_sld hx hb hX hbl hbA hS (vp_in_iff.mpr ⟨by decide, by decide⟩) dL_law_236 ?_
  refine W.eq (g2 := F0 m 237 ls [.int (xs 1), .ref zy, .int r_5]) rfl ?_
  refine lv_aload_n hx hb dL_law_237 rfl (lv_at hl 0 rfl) ?_
  refine lv_iload_n hx hb dL_law_238 rfl (lv_at hl 3 rfl) ?_
  refine lv_iconst (v := 2) hx hb dL_law_239 (by decide) ?_
  refine lv_iadd hx hb dL_law_240 ?_
  refine lv_topi (fun v_8 ev_8 => ?_)
  obtain rfl : v_8 = (2 : Int32) := ev_8.trans (by decide)
  refine va_sld hx hb hX hbl hbA hS (vp_in_iff.mpr ⟨by decide, by decide⟩) dL_law_241 ?_
  refine W.eq (g2 := F0 m 242 ls [.int (xs 2), .int (xs 1), .ref zy, .int r_5]) rfl ?_
  refine lv_aload_n hx hb dL_law_242 rfl (lv_at hl 0 rfl) ?_
  refine lv_iload_n hx hb dL_law_243 rfl (lv_at hl 3 rfl) ?_
  refine lv_iconst (v := 3) hx hb dL_law_244 (by decide) ?_
  refine lv_iadd hx hb dL_law_245 ?_
  refine lv_topi (fun v_9 ev_9 => ?_)
  obtain rfl : v_9 = (3 : Int32) := ev_9.trans (by decide)
  refine va_sld hx hb hX hbl hbA hS (vp_in_iff.mpr ⟨by decide, by decide⟩) dL_law_246 ?_
  refine W.eq (g2 := F0 m 247 ls [.int (xs 3), .int (xs 2), .int (xs 1), .ref zy, .int r_5]) rfl ?_
  refine cj_i (wc := [(zy, .inr (11, [.ref zy0, .ref zy1, .int 0, .int 0, .int 0, .ref zy5, .int 0, .int 0, .ref zy8, .ref zy9, .ref zy10, .ref zy11, .ref zy12, .ref zy13, .ref zy14, .long 0, .ref zy16, .ref zy17, .ref zy18, .int 0, .long 0, .ref zy21, .ref zy22, .int 0, .ref zy24, .ref zy25, .ref zy26, .ref zy27])), (zy0, .inl (cy 0, 392, .inl zz))]) (wr := []) (w1 := fun (_ : Unit) => []) (va_runV (As := [.int (xs 1), .int (xs 2), .int (xs 3)]) (rest := [.int r_5]) ⟨hx, hb, hml, hown, hts⟩ (c_X11_rain l dC dI cy H.size zy (xs 1) (xs 2) (xs 3) zy0 zy1 zy5 zy8 zy9 zy10 zy11 zy12 zy13 zy14 zy16 zy17 zy18 zy21 zy22 zy24 zy25 zy26 zy27) (cwV 3 hts gL_law_X11_rain rfl rfl rfl (by decide +kernel) ⟨(Nat.le_of_ble_eq_true rfl), (Nat.le_of_ble_eq_true rfl)⟩) (PRE.v (hP.sub [0, 1] rfl) hK (hD.sub [0, 1] (by decide) rfl) hN (va_recv hK hP (ci := 11) (q0 := 0) rfl rfl)) rfl rfl hl.1 rfl (lv_room (Nat.le_of_ble_eq_true rfl)) dL_law_247 ⟨(Nat.le_of_ble_eq_true rfl), (Nat.le_of_ble_eq_true rfl)⟩) hP hD hS hA [0, 1] [] rfl rfl rfl (by decide) (fun r_11 u_10 H locs hw_12 hP hD hS => ?_)
  have hP : va_P (dC, dI) vwCl [] H := hP
  have hD : va_D A [] := hD
  have hw_12 : r_11 = an_rain (xs 1) (xs 2) (xs 3) := hw_12
  refine lv_icmp_eq (tgt := 1792) hx hb dL_law_250 (by decide) (fun c_13 => ?_) (fun c_13 => absurd (hw_6.trans hw_12.symm) c_13)
  exact kx _ _ _ hS hl
set_option maxHeartbeats 4000000 in
set_option maxRecDepth 100000 in
theorem lw_c1 {p : Program} {l : Launch} {e : Env} {s : State} {m : MethodId} {below : List Frame} {meth : Method} {c : Code} {b : Nat} {xs : Nat → Int32} {A : Nat → Prop} {Q : State → Prop} (hx : p.tables.exec = Jvm.exec) (hb : c.code = cL_law) (hml : c.maxLocals = 4) (hown : s.vm.findClass RL = some m.cls) (hts : ∀ w ∈ wsL_law, w.before #[Value.ref b] s = true) (hX : va_X b 6 xs s s.heap) (hbl : b < s.heap.size) (hbA : ¬ A b) (hA : ∀ q : Nat, s.heap.size ≤ q → A q) (dC : Nat → ClassId) (dI : Nat → Nat → Nat) (cy : Nat → ClassId) (zx : Nat) (zy : Nat) (zn : Nat) (zk : Nat) (zr : Nat) (zl : Nat) (zc : Nat) (zs : Nat) (zw : Nat) (zt : Nat) (zm : Nat) (zs0 : Nat) (zs1 : Nat) (zs2 : Nat) (zs3 : Nat) (zs0i : Nat) (zs1i : Nat) (zs2i : Nat) (zs3i : Nat) (zy0 : Nat) (zy1 : Nat) (zy5 : Nat) (zy8 : Nat) (zy9 : Nat) (zy10 : Nat) (zy11 : Nat) (zy12 : Nat) (zy13 : Nat) (zy14 : Nat) (zy16 : Nat) (zy17 : Nat) (zy18 : Nat) (zy21 : Nat) (zy22 : Nat) (zy24 : Nat) (zy25 : Nat) (zy26 : Nat) (zy27 : Nat) (hK : va_K (dC, dI) vwCl (TY cy) s) (hN : N0 s)
    (kx : ∀ (H : Heap) (locs : List Loc) (ls : Array Slot), va_S A s.heap H locs → lv_has ls 4 [(0, .ref b), (1, .ref zx), (2, .ref zy), (3, .int 0)] → W p l e room_1 s m #[Value.ref b] below meth c H locs 265 67857 Q (F0 m 1792 ls []))
    {H : Heap} {locs : List Loc} {ls : Array Slot} (hP : va_P (dC, dI) vwCl [(zx, .inr (10, [.ref zn, .ref zk, .ref zr, .ref zl, .ref zc, .ref zs, .ref zw, .ref zt, .ref zm, .int 0])), (zs, .inl (cy 5, 4, .inr (.inr (.inr (.inr (va_up (va_up (va_up (va_up (fun _ => none) (0 : Int32).toNatClampNeg (some zs0)) (1 : Int32).toNatClampNeg (some zs1)) (2 : Int32).toNatClampNeg (some zs2)) (3 : Int32).toNatClampNeg (some zs3))))))), (zs0, .inr (7, [.ref zs0i, .int 0, .int 0, .int 0])), (zs1, .inr (7, [.ref zs1i, .int 0, .int 0, .int 0])), (zs2, .inr (7, [.ref zs2i, .int 0, .int 0, .int 0])), (zs3, .inr (7, [.ref zs3i, .int 0, .int 0, .int 0])), (zy, .inr (11, [.ref zy0, .ref zy1, .int 0, .int 0, .int 0, .ref zy5, .int 0, .int 0, .ref zy8, .ref zy9, .ref zy10, .ref zy11, .ref zy12, .ref zy13, .ref zy14, .long 0, .ref zy16, .ref zy17, .ref zy18, .int 0, .long 0, .ref zy21, .ref zy22, .int 0, .ref zy24, .ref zy25, .ref zy26, .ref zy27])), (zy25, .inl (cy 0, 4, .inl ll))] H) (hD : va_D A [(zx, .inr (10, [.ref zn, .ref zk, .ref zr, .ref zl, .ref zc, .ref zs, .ref zw, .ref zt, .ref zm, .int 0])), (zs, .inl (cy 5, 4, .inr (.inr (.inr (.inr (va_up (va_up (va_up (va_up (fun _ => none) (0 : Int32).toNatClampNeg (some zs0)) (1 : Int32).toNatClampNeg (some zs1)) (2 : Int32).toNatClampNeg (some zs2)) (3 : Int32).toNatClampNeg (some zs3))))))), (zs0, .inr (7, [.ref zs0i, .int 0, .int 0, .int 0])), (zs1, .inr (7, [.ref zs1i, .int 0, .int 0, .int 0])), (zs2, .inr (7, [.ref zs2i, .int 0, .int 0, .int 0])), (zs3, .inr (7, [.ref zs3i, .int 0, .int 0, .int 0])), (zy, .inr (11, [.ref zy0, .ref zy1, .int 0, .int 0, .int 0, .ref zy5, .int 0, .int 0, .ref zy8, .ref zy9, .ref zy10, .ref zy11, .ref zy12, .ref zy13, .ref zy14, .long 0, .ref zy16, .ref zy17, .ref zy18, .int 0, .long 0, .ref zy21, .ref zy22, .int 0, .ref zy24, .ref zy25, .ref zy26, .ref zy27])), (zy25, .inl (cy 0, 4, .inl ll))]) (hS : va_S A s.heap H locs) (hl : lv_has ls 4 [(0, .ref b), (1, .ref zx), (2, .ref zy), (3, .int 0)]) : W p l e room_1 s m #[Value.ref b] below meth c H locs 265 67857 Q (F0 m 255 ls []) := by
  refine lv_aload_n hx hb dL_law_255 rfl (lv_at hl 1 rfl) ?_
  refine lv_aload_n hx hb dL_law_256 rfl (lv_at hl 0 rfl) ?_
  refine lv_iload_n hx hb dL_law_257 rfl (lv_at hl 3 rfl) ?_
  refine lv_iconst (v := 1) hx hb dL_law_258 (by decide) ?_
  refine lv_iadd hx hb dL_law_259 ?_
  refine lv_topi (fun v_1 ev_1 => ?_)
  obtain rfl : v_1 = (1 : Int32) := ev_1.trans (by decide)
  refine va_sld hx hb hX hbl hbA hS (vp_in_iff.mpr ⟨by decide, by decide⟩) dL_law_260 ?_
  refine W.eq (g2 := F0 m 261 ls [.int (xs 1), .ref zx]) rfl ?_
  refine lv_aload_n hx hb dL_law_261 rfl (lv_at hl 0 rfl) ?_
  refine lv_iload_n hx hb dL_law_262 rfl (lv_at hl 3 rfl) ?_
  refine lv_iconst (v := 2) hx hb dL_law_263 (by decide) ?_
  refine lv_iadd hx hb dL_law_264 ?_
  refine lv_topi (fun v_2 ev_2 => ?_)
  obtain rfl : v_2 = (2 : Int32) := ev_2.trans (by decide)
  refine va_sld hx hb hX hbl hbA hS (vp_in_iff.mpr ⟨by decide, by decide⟩) dL_law_265 ?_
  refine W.eq (g2 := F0 m 266 ls [.int (xs 2), .int (xs 1), .ref zx]) rfl ?_
  refine lv_aload_n hx hb dL_law_266 rfl (lv_at hl 0 rfl) ?_
  refine lv_iload_n hx hb dL_law_267 rfl (lv_at hl 3 rfl) ?_
  refine lv_iconst (v := 3) hx hb dL_law_268 (by decide) ?_
  refine lv_iadd hx hb dL_law_269 ?_
  refine lv_topi (fun v_3 ev_3 => ?_)
  obtain rfl : v_3 = (3 : Int32) := ev_3.trans (by decide)
  refine va_sld hx hb hX hbl hbA hS (vp_in_iff.mpr ⟨by decide, by decide⟩) dL_law_270 ?_
  refine W.eq (g2 := F0 m 271 ls [.int (xs 3), .int (xs 2), .int (xs 1), .ref zx]) rfl ?_
  refine lv_aload_n hx hb dL_law_271 rfl (lv_at hl 0 rfl) ?_
  refine lv_iload_n hx hb dL_law_272 rfl (lv_at hl 3 rfl) ?_
  refine lv_iconst (v := 4) hx hb dL_law_273 (by decide) ?_
  refine lv_iadd hx hb dL_law_274 ?_
  refine lv_topi (fun v_4 ev_4 => ?_)
  obtain rfl : v_4 = (4 : Int32) := ev_4.trans (by decide)
  refine va_sld hx hb hX hbl hbA hS (vp_in_iff.mpr ⟨by decide, by decide⟩) dL_law_275 ?_
  refine W.eq (g2 := F0 m 276 ls [.int (xs 4), .int (xs 3), .int (xs 2), .int (xs 1), .ref zx]) rfl ?_
  refine lv_aload_n hx hb dL_law_276 rfl (lv_at hl 0 rfl) ?_
  refine lv_iload_n hx hb dL_law_277 rfl (lv_at hl 3 rfl) ?_
  refine lv_iconst (v := 5) hx hb dL_law_278 (by decide) ?_
  refine lv_iadd hx hb dL_law_279 ?_
  refine lv_topi (fun v_5 ev_5 => ?_)
  obtain rfl : v_5 = (5 : Int32) := ev_5.trans (by decide)
  refine va_sld hx hb hX hbl hbA hS (vp_in_iff.mpr ⟨by decide, by decide⟩) dL_law_280 ?_
  refine W.eq (g2 := F0 m 281 ls [.int (xs 5), .int (xs 4), .int (xs 3), .int (xs 2), .int (xs 1), .ref zx]) rfl ?_
  refine cj_i (wc := [(zx, .inr (10, [.ref zn, .ref zk, .ref zr, .ref zl, .ref zc, .ref zs, .ref zw, .ref zt, .ref zm, .int 0])), (zs, .inl (cy 5, 4, .inr (.inr (.inr (.inr (va_up (va_up (va_up (va_up (fun _ => none) (0 : Int32).toNatClampNeg (some zs0)) (1 : Int32).toNatClampNeg (some zs1)) (2 : Int32).toNatClampNeg (some zs2)) (3 : Int32).toNatClampNeg (some zs3))))))), (zs0, .inr (7, [.ref zs0i, .int 0, .int 0, .int 0])), (zs1, .inr (7, [.ref zs1i, .int 0, .int 0, .int 0])), (zs2, .inr (7, [.ref zs2i, .int 0, .int 0, .int 0])), (zs3, .inr (7, [.ref zs3i, .int 0, .int 0, .int 0]))]) (wr := [(zy, .inr (11, [.ref zy0, .ref zy1, .int 0, .int 0, .int 0, .ref zy5, .int 0, .int 0, .ref zy8, .ref zy9, .ref zy10, .ref zy11, .ref zy12, .ref zy13, .ref zy14, .long 0, .ref zy16, .ref zy17, .ref zy18, .int 0, .long 0, .ref zy21, .ref zy22, .int 0, .ref zy24, .ref zy25, .ref zy26, .ref zy27])), (zy25, .inl (cy 0, 4, .inl ll))]) (w1 := fun (_ : Unit) => []) (va_runV (As := [.int (xs 1), .int (xs 2), .int (xs 3), .int (xs 4), .int (xs 5)]) (rest := []) ⟨hx, hb, hml, hown, hts⟩ (c_X10_rains l dC dI cy H.size zx (xs 1) (xs 2) (xs 3) (xs 4) (xs 5) zn zk zr zl zc zs zw zt zm zs0 zs1 zs2 zs3 zs0i zs1i zs2i zs3i) (cwV 5 hts gL_law_X10_rains rfl rfl rfl (by decide +kernel) ⟨(Nat.le_of_ble_eq_true rfl), (Nat.le_of_ble_eq_true rfl)⟩) (PRE.v (hP.sub [0, 1, 2, 3, 4, 5] rfl) hK (hD.sub [0, 1, 2, 3, 4, 5] (by decide) rfl) hN (va_recv hK hP (ci := 10) (q0 := 0) rfl rfl)) rfl rfl hl.1 rfl (lv_room (Nat.le_of_ble_eq_true rfl)) dL_law_281 ⟨(Nat.le_of_ble_eq_true rfl), (Nat.le_of_ble_eq_true rfl)⟩) hP hD hS hA [0, 1, 2, 3, 4, 5] [6, 7] rfl rfl rfl (by decide) (fun r_7 u_6 H locs hw_8 hP hD hS => ?_)
  have hP : va_P (dC, dI) vwCl [(zy, .inr (11, [.ref zy0, .ref zy1, .int 0, .int 0, .int 0, .ref zy5, .int 0, .int 0, .ref zy8, .ref zy9, .ref zy10, .ref zy11, .ref zy12, .ref zy13, .ref zy14, .long 0, .ref zy16, .ref zy17, .ref zy18, .int 0, .long 0, .ref zy21, .ref zy22, .int 0, .ref zy24, .ref zy25, .ref zy26, .ref zy27])), (zy25, .inl (cy 0, 4, .inl ll))] H := hP
  have hD : va_D A [(zy, .inr (11, [.ref zy0, .ref zy1, .int 0, .int 0, .int 0, .ref zy5, .int 0, .int 0, .ref zy8, .ref zy9, .ref zy10, .ref zy11, .ref zy12, .ref zy13, .ref zy14, .long 0, .ref zy16, .ref zy17, .ref zy18, .int 0, .long 0, .ref zy21, .ref zy22, .int 0, .ref zy24, .ref zy25, .ref zy26, .ref zy27])), (zy25, .inl (cy 0, 4, .inl ll))] := hD
  have hw_8 : r_7 = an_rains (xs 1) (xs 2) (xs 3) (xs 4) (xs 5) := hw_8
  refine lv_aload_n hx hb dL_law_284 rfl (lv_at hl 2 rfl) ?_
  refine lv_aload_n hx hb dL_law_285 rfl (lv_at hl 0 rfl) ?_
  refine lv_iload_n hx hb dL_law_286 rfl (lv_at hl 3 rfl) ?_
  refine lv_iconst (v := 1) hx hb dL_law_287 (by decide) ?_
  refine lv_iadd hx hb dL_law_288 ?_
  refine lv_topi (fun v_9 ev_9 => ?_)
  obtain rfl : v_9 = (1 : Int32) := ev_9.trans (by decide)
  refine va_sld hx hb hX hbl hbA hS (vp_in_iff.mpr ⟨by decide, by decide⟩) dL_law_289 ?_
  refine W.eq (g2 := F0 m 290 ls [.int (xs 1), .ref zy, .int r_7]) rfl ?_
  refine lv_aload_n hx hb dL_law_290 rfl (lv_at hl 0 rfl) ?_
  refine lv_iload_n hx hb dL_law_291 rfl (lv_at hl 3 rfl) ?_
  refine lv_iconst (v := 2) hx hb dL_law_292 (by decide) ?_
  refine lv_iadd hx hb dL_law_293 ?_
  refine lv_topi (fun v_10 ev_10 => ?_)
  obtain rfl : v_10 = (2 : Int32) := ev_10.trans (by decide)
  refine va_sld hx hb hX hbl hbA hS (vp_in_iff.mpr ⟨by decide, by decide⟩) dL_law_294 ?_
  refine W.eq (g2 := F0 m 295 ls [.int (xs 2), .int (xs 1), .ref zy, .int r_7]) rfl ?_
  refine lv_aload_n hx hb dL_law_295 rfl (lv_at hl 0 rfl) ?_
  refine lv_iload_n hx hb dL_law_296 rfl (lv_at hl 3 rfl) ?_
  refine lv_iconst (v := 3) hx hb dL_law_297 (by decide) ?_
  refine lv_iadd hx hb dL_law_298 ?_
  refine lv_topi (fun v_11 ev_11 => ?_)
  obtain rfl : v_11 = (3 : Int32) := ev_11.trans (by decide)
  refine va_sld hx hb hX hbl hbA hS (vp_in_iff.mpr ⟨by decide, by decide⟩) dL_law_299 ?_
  refine W.eq (g2 := F0 m 300 ls [.int (xs 3), .int (xs 2), .int (xs 1), .ref zy, .int r_7]) rfl ?_
  refine lv_aload_n hx hb dL_law_300 rfl (lv_at hl 0 rfl) ?_
  refine lv_iload_n hx hb dL_law_301 rfl (lv_at hl 3 rfl) ?_
  refine lv_iconst (v := 4) hx hb dL_law_302 (by decide) ?_
  refine lv_iadd hx hb dL_law_303 ?_
  refine lv_topi (fun v_12 ev_12 => ?_)
  obtain rfl : v_12 = (4 : Int32) := ev_12.trans (by decide)
  refine va_sld hx hb hX hbl hbA hS (vp_in_iff.mpr ⟨by decide, by decide⟩) dL_law_304 ?_
  refine W.eq (g2 := F0 m 305 ls [.int (xs 4), .int (xs 3), .int (xs 2), .int (xs 1), .ref zy, .int r_7]) rfl ?_
  refine lv_aload_n hx hb dL_law_305 rfl (lv_at hl 0 rfl) ?_
  refine lv_iload_n hx hb dL_law_306 rfl (lv_at hl 3 rfl) ?_
  refine lv_iconst (v := 5) hx hb dL_law_307 (by decide) ?_
  refine lv_iadd hx hb dL_law_308 ?_
  refine lv_topi (fun v_13 ev_13 => ?_)
  obtain rfl : v_13 = (5 : Int32) := ev_13.trans (by decide)
  refine va_sld hx hb hX hbl hbA hS (vp_in_iff.mpr ⟨by decide, by decide⟩) dL_law_309 ?_
  refine W.eq (g2 := F0 m 310 ls [.int (xs 5), .int (xs 4), .int (xs 3), .int (xs 2), .int (xs 1), .ref zy, .int r_7]) rfl ?_
  refine cj_i (wc := [(zy, .inr (11, [.ref zy0, .ref zy1, .int 0, .int 0, .int 0, .ref zy5, .int 0, .int 0, .ref zy8, .ref zy9, .ref zy10, .ref zy11, .ref zy12, .ref zy13, .ref zy14, .long 0, .ref zy16, .ref zy17, .ref zy18, .int 0, .long 0, .ref zy21, .ref zy22, .int 0, .ref zy24, .ref zy25, .ref zy26, .ref zy27])), (zy25, .inl (cy 0, 4, .inl ll))]) (wr := []) (w1 := fun (_ : Unit) => []) (va_runV (As := [.int (xs 1), .int (xs 2), .int (xs 3), .int (xs 4), .int (xs 5)]) (rest := [.int r_7]) ⟨hx, hb, hml, hown, hts⟩ (c_X11_rains l dC dI cy H.size zy (xs 1) (xs 2) (xs 3) (xs 4) (xs 5) zy0 zy1 zy5 zy8 zy9 zy10 zy11 zy12 zy13 zy14 zy16 zy17 zy18 zy21 zy22 zy24 zy25 zy26 zy27) (cwV 5 hts gL_law_X11_rains rfl rfl rfl (by decide +kernel) ⟨(Nat.le_of_ble_eq_true rfl), (Nat.le_of_ble_eq_true rfl)⟩) (PRE.v (hP.sub [0, 1] rfl) hK (hD.sub [0, 1] (by decide) rfl) hN (va_recv hK hP (ci := 11) (q0 := 0) rfl rfl)) rfl rfl hl.1 rfl (lv_room (Nat.le_of_ble_eq_true rfl)) dL_law_310 ⟨(Nat.le_of_ble_eq_true rfl), (Nat.le_of_ble_eq_true rfl)⟩) hP hD hS hA [0, 1] [] rfl rfl rfl (by decide) (fun r_15 u_14 H locs hw_16 hP hD hS => ?_)
  have hP : va_P (dC, dI) vwCl [] H := hP
  have hD : va_D A [] := hD
  have hw_16 : r_15 = an_rains (xs 1) (xs 2) (xs 3) (xs 4) (xs 5) := hw_16
  refine lv_icmp_eq (tgt := 1792) hx hb dL_law_313 (by decide) (fun c_17 => ?_) (fun c_17 => absurd (hw_8.trans hw_16.symm) c_17)
  exact kx _ _ _ hS hl
set_option maxHeartbeats 4000000 in
set_option maxRecDepth 100000 in
theorem lw_c2 {p : Program} {l : Launch} {e : Env} {s : State} {m : MethodId} {below : List Frame} {meth : Method} {c : Code} {b : Nat} {xs : Nat → Int32} {A : Nat → Prop} {Q : State → Prop} (hx : p.tables.exec = Jvm.exec) (hb : c.code = cL_law) (hml : c.maxLocals = 4) (hown : s.vm.findClass RL = some m.cls) (hts : ∀ w ∈ wsL_law, w.before #[Value.ref b] s = true) (hX : va_X b 6 xs s s.heap) (hbl : b < s.heap.size) (hbA : ¬ A b) (hA : ∀ q : Nat, s.heap.size ≤ q → A q) (dC : Nat → ClassId) (dI : Nat → Nat → Nat) (cy : Nat → ClassId) (zx : Nat) (zy : Nat) (zn : Nat) (zk : Nat) (zr : Nat) (zl : Nat) (zc : Nat) (zs : Nat) (zw : Nat) (zt : Nat) (zm : Nat) (znh : Nat) (znl : Nat) (znc : Nat) (znd : Nat) (znm : Nat) (zno : Nat) (zni : Nat) (znhr : Nat) (zy0 : Nat) (zy1 : Nat) (zy5 : Nat) (zy8 : Nat) (zy9 : Nat) (zy10 : Nat) (zy11 : Nat) (zy12 : Nat) (zy13 : Nat) (zy14 : Nat) (zy16 : Nat) (zy17 : Nat) (zy18 : Nat) (zy21 : Nat) (zy22 : Nat) (zy24 : Nat) (zy25 : Nat) (zy26 : Nat) (zy27 : Nat) (hK : va_K (dC, dI) vwCl (TY cy) s) (hN : N0 s)
    (kx : ∀ (H : Heap) (locs : List Loc) (ls : Array Slot), va_S A s.heap H locs → lv_has ls 4 [(0, .ref b), (1, .ref zx), (2, .ref zy), (3, .int 0)] → W p l e room_1 s m #[Value.ref b] below meth c H locs 265 67857 Q (F0 m 1792 ls []))
    {H : Heap} {locs : List Loc} {ls : Array Slot} (hP : va_P (dC, dI) vwCl [(zx, .inr (10, [.ref zn, .ref zk, .ref zr, .ref zl, .ref zc, .ref zs, .ref zw, .ref zt, .ref zm, .int 0])), (zn, .inr (8, [.ref znh, .ref znl, .ref znc, .ref znd, .ref znm, .ref zno, .ref zni, .int 0, .int 0])), (znh, .inr (3, [.ref znhr, .int 1, .int 3])), (zy, .inr (11, [.ref zy0, .ref zy1, .int 0, .int 0, .int 0, .ref zy5, .int 0, .int 0, .ref zy8, .ref zy9, .ref zy10, .ref zy11, .ref zy12, .ref zy13, .ref zy14, .long 0, .ref zy16, .ref zy17, .ref zy18, .int 0, .long 0, .ref zy21, .ref zy22, .int 0, .ref zy24, .ref zy25, .ref zy26, .ref zy27])), (zy0, .inl (cy 0, 392, .inl zz))] H) (hD : va_D A [(zx, .inr (10, [.ref zn, .ref zk, .ref zr, .ref zl, .ref zc, .ref zs, .ref zw, .ref zt, .ref zm, .int 0])), (zn, .inr (8, [.ref znh, .ref znl, .ref znc, .ref znd, .ref znm, .ref zno, .ref zni, .int 0, .int 0])), (znh, .inr (3, [.ref znhr, .int 1, .int 3])), (zy, .inr (11, [.ref zy0, .ref zy1, .int 0, .int 0, .int 0, .ref zy5, .int 0, .int 0, .ref zy8, .ref zy9, .ref zy10, .ref zy11, .ref zy12, .ref zy13, .ref zy14, .long 0, .ref zy16, .ref zy17, .ref zy18, .int 0, .long 0, .ref zy21, .ref zy22, .int 0, .ref zy24, .ref zy25, .ref zy26, .ref zy27])), (zy0, .inl (cy 0, 392, .inl zz))]) (hS : va_S A s.heap H locs) (hl : lv_has ls 4 [(0, .ref b), (1, .ref zx), (2, .ref zy), (3, .int 0)]) : W p l e room_1 s m #[Value.ref b] below meth c H locs 265 67857 Q (F0 m 318 ls []) := by
  refine lv_aload_n hx hb dL_law_318 rfl (lv_at hl 1 rfl) ?_
  refine lv_aload_n hx hb dL_law_319 rfl (lv_at hl 0 rfl) ?_
  refine lv_iload_n hx hb dL_law_320 rfl (lv_at hl 3 rfl) ?_
  refine lv_iconst (v := 1) hx hb dL_law_321 (by decide) ?_
  refine lv_iadd hx hb dL_law_322 ?_
  refine lv_topi (fun v_1 ev_1 => ?_)
  obtain rfl : v_1 = (1 : Int32) := ev_1.trans (by decide)
  refine va_sld hx hb hX hbl hbA hS (vp_in_iff.mpr ⟨by decide, by decide⟩) dL_law_323 ?_
  refine W.eq (g2 := F0 m 324 ls [.int (xs 1), .ref zx]) rfl ?_
  refine lv_aload_n hx hb dL_law_324 rfl (lv_at hl 0 rfl) ?_
  refine lv_iload_n hx hb dL_law_325 rfl (lv_at hl 3 rfl) ?_
  refine lv_iconst (v := 2) hx hb dL_law_326 (by decide) ?_
  refine lv_iadd hx hb dL_law_327 ?_
  refine lv_topi (fun v_2 ev_2 => ?_)
  obtain rfl : v_2 = (2 : Int32) := ev_2.trans (by decide)
  refine va_sld hx hb hX hbl hbA hS (vp_in_iff.mpr ⟨by decide, by decide⟩) dL_law_328 ?_
  refine W.eq (g2 := F0 m 329 ls [.int (xs 2), .int (xs 1), .ref zx]) rfl ?_
  refine cj_i (wc := [(zx, .inr (10, [.ref zn, .ref zk, .ref zr, .ref zl, .ref zc, .ref zs, .ref zw, .ref zt, .ref zm, .int 0])), (zn, .inr (8, [.ref znh, .ref znl, .ref znc, .ref znd, .ref znm, .ref zno, .ref zni, .int 0, .int 0])), (znh, .inr (3, [.ref znhr, .int 1, .int 3]))]) (wr := [(zy, .inr (11, [.ref zy0, .ref zy1, .int 0, .int 0, .int 0, .ref zy5, .int 0, .int 0, .ref zy8, .ref zy9, .ref zy10, .ref zy11, .ref zy12, .ref zy13, .ref zy14, .long 0, .ref zy16, .ref zy17, .ref zy18, .int 0, .long 0, .ref zy21, .ref zy22, .int 0, .ref zy24, .ref zy25, .ref zy26, .ref zy27])), (zy0, .inl (cy 0, 392, .inl zz))]) (w1 := fun (_ : Unit) => []) (va_runV (As := [.int (xs 1), .int (xs 2)]) (rest := []) ⟨hx, hb, hml, hown, hts⟩ (c_X10_set l dC dI cy H.size zx (xs 1) (xs 2) zn zk zr zl zc zs zw zt zm znh znl znc znd znm zno zni znhr) (cwV 2 hts gL_law_X10_set rfl rfl rfl (by decide +kernel) ⟨(Nat.le_of_ble_eq_true rfl), (Nat.le_of_ble_eq_true rfl)⟩) (PRE.v (hP.sub [0, 1, 2] rfl) hK (hD.sub [0, 1, 2] (by decide) rfl) hN (va_recv hK hP (ci := 10) (q0 := 0) rfl rfl)) rfl rfl hl.1 rfl (lv_room (Nat.le_of_ble_eq_true rfl)) dL_law_329 ⟨(Nat.le_of_ble_eq_true rfl), (Nat.le_of_ble_eq_true rfl)⟩) hP hD hS hA [0, 1, 2] [3, 4] rfl rfl rfl (by decide) (fun r_4 u_3 H locs hw_5 hP hD hS => ?_)
  have hP : va_P (dC, dI) vwCl [(zy, .inr (11, [.ref zy0, .ref zy1, .int 0, .int 0, .int 0, .ref zy5, .int 0, .int 0, .ref zy8, .ref zy9, .ref zy10, .ref zy11, .ref zy12, .ref zy13, .ref zy14, .long 0, .ref zy16, .ref zy17, .ref zy18, .int 0, .long 0, .ref zy21, .ref zy22, .int 0, .ref zy24, .ref zy25, .ref zy26, .ref zy27])), (zy0, .inl (cy 0, 392, .inl zz))] H := hP
  have hD : va_D A [(zy, .inr (11, [.ref zy0, .ref zy1, .int 0, .int 0, .int 0, .ref zy5, .int 0, .int 0, .ref zy8, .ref zy9, .ref zy10, .ref zy11, .ref zy12, .ref zy13, .ref zy14, .long 0, .ref zy16, .ref zy17, .ref zy18, .int 0, .long 0, .ref zy21, .ref zy22, .int 0, .ref zy24, .ref zy25, .ref zy26, .ref zy27])), (zy0, .inl (cy 0, 392, .inl zz))] := hD
  have hw_5 : r_4 = an_set (xs 1) (xs 2) := hw_5
  refine lv_aload_n hx hb dL_law_332 rfl (lv_at hl 2 rfl) ?_
  refine lv_aload_n hx hb dL_law_333 rfl (lv_at hl 0 rfl) ?_
  refine lv_iload_n hx hb dL_law_334 rfl (lv_at hl 3 rfl) ?_
  refine lv_iconst (v := 1) hx hb dL_law_335 (by decide) ?_
  refine lv_iadd hx hb dL_law_336 ?_
  refine lv_topi (fun v_6 ev_6 => ?_)
  obtain rfl : v_6 = (1 : Int32) := ev_6.trans (by decide)
  refine va_sld hx hb hX hbl hbA hS (vp_in_iff.mpr ⟨by decide, by decide⟩) dL_law_337 ?_
  refine W.eq (g2 := F0 m 338 ls [.int (xs 1), .ref zy, .int r_4]) rfl ?_
  refine lv_aload_n hx hb dL_law_338 rfl (lv_at hl 0 rfl) ?_
  refine lv_iload_n hx hb dL_law_339 rfl (lv_at hl 3 rfl) ?_
  refine lv_iconst (v := 2) hx hb dL_law_340 (by decide) ?_
  refine lv_iadd hx hb dL_law_341 ?_
  refine lv_topi (fun v_7 ev_7 => ?_)
  obtain rfl : v_7 = (2 : Int32) := ev_7.trans (by decide)
  refine va_sld hx hb hX hbl hbA hS (vp_in_iff.mpr ⟨by decide, by decide⟩) dL_law_342 ?_
  refine W.eq (g2 := F0 m 343 ls [.int (xs 2), .int (xs 1), .ref zy, .int r_4]) rfl ?_
  refine cj_i (wc := [(zy, .inr (11, [.ref zy0, .ref zy1, .int 0, .int 0, .int 0, .ref zy5, .int 0, .int 0, .ref zy8, .ref zy9, .ref zy10, .ref zy11, .ref zy12, .ref zy13, .ref zy14, .long 0, .ref zy16, .ref zy17, .ref zy18, .int 0, .long 0, .ref zy21, .ref zy22, .int 0, .ref zy24, .ref zy25, .ref zy26, .ref zy27])), (zy0, .inl (cy 0, 392, .inl zz))]) (wr := []) (w1 := fun (_ : Unit) => []) (va_runV (As := [.int (xs 1), .int (xs 2)]) (rest := [.int r_4]) ⟨hx, hb, hml, hown, hts⟩ (c_X11_set l dC dI cy H.size zy (xs 1) (xs 2) zy0 zy1 zy5 zy8 zy9 zy10 zy11 zy12 zy13 zy14 zy16 zy17 zy18 zy21 zy22 zy24 zy25 zy26 zy27) (cwV 2 hts gL_law_X11_set rfl rfl rfl (by decide +kernel) ⟨(Nat.le_of_ble_eq_true rfl), (Nat.le_of_ble_eq_true rfl)⟩) (PRE.v (hP.sub [0, 1] rfl) hK (hD.sub [0, 1] (by decide) rfl) hN (va_recv hK hP (ci := 11) (q0 := 0) rfl rfl)) rfl rfl hl.1 rfl (lv_room (Nat.le_of_ble_eq_true rfl)) dL_law_343 ⟨(Nat.le_of_ble_eq_true rfl), (Nat.le_of_ble_eq_true rfl)⟩) hP hD hS hA [0, 1] [] rfl rfl rfl (by decide) (fun r_9 u_8 H locs hw_10 hP hD hS => ?_)
  have hP : va_P (dC, dI) vwCl [] H := hP
  have hD : va_D A [] := hD
  have hw_10 : r_9 = an_set (xs 1) (xs 2) := hw_10
  refine lv_icmp_eq (tgt := 1792) hx hb dL_law_346 (by decide) (fun c_11 => ?_) (fun c_11 => absurd (hw_5.trans hw_10.symm) c_11)
  exact kx _ _ _ hS hl
set_option maxHeartbeats 4000000 in
set_option maxRecDepth 100000 in
theorem lw_c3 {p : Program} {l : Launch} {e : Env} {s : State} {m : MethodId} {below : List Frame} {meth : Method} {c : Code} {b : Nat} {xs : Nat → Int32} {A : Nat → Prop} {Q : State → Prop} (hx : p.tables.exec = Jvm.exec) (hb : c.code = cL_law) (hml : c.maxLocals = 4) (hown : s.vm.findClass RL = some m.cls) (hts : ∀ w ∈ wsL_law, w.before #[Value.ref b] s = true) (hX : va_X b 6 xs s s.heap) (hbl : b < s.heap.size) (hbA : ¬ A b) (hA : ∀ q : Nat, s.heap.size ≤ q → A q) (dC : Nat → ClassId) (dI : Nat → Nat → Nat) (cy : Nat → ClassId) (zx : Nat) (zy : Nat) (zn : Nat) (zk : Nat) (zr : Nat) (zl : Nat) (zc : Nat) (zs : Nat) (zw : Nat) (zt : Nat) (zm : Nat) (znh : Nat) (znl : Nat) (znc : Nat) (znd : Nat) (znm : Nat) (zno : Nat) (zni : Nat) (znhr : Nat) (zqnh : Nat → Nat) (zy0 : Nat) (zy1 : Nat) (zy5 : Nat) (zy8 : Nat) (zy9 : Nat) (zy10 : Nat) (zy11 : Nat) (zy12 : Nat) (zy13 : Nat) (zy14 : Nat) (zy16 : Nat) (zy17 : Nat) (zy18 : Nat) (zy21 : Nat) (zy22 : Nat) (zy24 : Nat) (zy25 : Nat) (zy26 : Nat) (zy27 : Nat) (hK : va_K (dC, dI) vwCl (TY cy) s) (hN : N0 s)
    (kx : ∀ (H : Heap) (locs : List Loc) (ls : Array Slot), va_S A s.heap H locs → lv_has ls 4 [(0, .ref b), (1, .ref zx), (2, .ref zy), (3, .int 0)] → W p l e room_1 s m #[Value.ref b] below meth c H locs 265 67857 Q (F0 m 1792 ls []))
    {H : Heap} {locs : List Loc} {ls : Array Slot} (hP : va_P (dC, dI) vwCl [(zx, .inr (10, [.ref zn, .ref zk, .ref zr, .ref zl, .ref zc, .ref zs, .ref zw, .ref zt, .ref zm, .int 0])), (zn, .inr (8, [.ref znh, .ref znl, .ref znc, .ref znd, .ref znm, .ref zno, .ref zni, .int 0, .int 0])), (znh, .inr (3, [.ref znhr, .int 1, .int 3])), (znhr, .inl (cy 7, 3, .inr (.inr (.inr (.inr (fun i => if i < 3 then some (zqnh i) else none)))))), ((zqnh 0), .inl (cy 0, 24, .inl (fun _ => 0))), (zy, .inr (11, [.ref zy0, .ref zy1, .int 0, .int 0, .int 0, .ref zy5, .int 0, .int 0, .ref zy8, .ref zy9, .ref zy10, .ref zy11, .ref zy12, .ref zy13, .ref zy14, .long 0, .ref zy16, .ref zy17, .ref zy18, .int 0, .long 0, .ref zy21, .ref zy22, .int 0, .ref zy24, .ref zy25, .ref zy26, .ref zy27])), (zy0, .inl (cy 0, 392, .inl zz))] H) (hD : va_D A [(zx, .inr (10, [.ref zn, .ref zk, .ref zr, .ref zl, .ref zc, .ref zs, .ref zw, .ref zt, .ref zm, .int 0])), (zn, .inr (8, [.ref znh, .ref znl, .ref znc, .ref znd, .ref znm, .ref zno, .ref zni, .int 0, .int 0])), (znh, .inr (3, [.ref znhr, .int 1, .int 3])), (znhr, .inl (cy 7, 3, .inr (.inr (.inr (.inr (fun i => if i < 3 then some (zqnh i) else none)))))), ((zqnh 0), .inl (cy 0, 24, .inl (fun _ => 0))), (zy, .inr (11, [.ref zy0, .ref zy1, .int 0, .int 0, .int 0, .ref zy5, .int 0, .int 0, .ref zy8, .ref zy9, .ref zy10, .ref zy11, .ref zy12, .ref zy13, .ref zy14, .long 0, .ref zy16, .ref zy17, .ref zy18, .int 0, .long 0, .ref zy21, .ref zy22, .int 0, .ref zy24, .ref zy25, .ref zy26, .ref zy27])), (zy0, .inl (cy 0, 392, .inl zz))]) (hS : va_S A s.heap H locs) (hl : lv_has ls 4 [(0, .ref b), (1, .ref zx), (2, .ref zy), (3, .int 0)]) : W p l e room_1 s m #[Value.ref b] below meth c H locs 265 67857 Q (F0 m 351 ls []) := by
  refine lv_aload_n hx hb dL_law_351 rfl (lv_at hl 1 rfl) ?_
  refine lv_aload_n hx hb dL_law_352 rfl (lv_at hl 0 rfl) ?_
  refine lv_iload_n hx hb dL_law_353 rfl (lv_at hl 3 rfl) ?_
  refine lv_iconst (v := 1) hx hb dL_law_354 (by decide) ?_
  refine lv_iadd hx hb dL_law_355 ?_
  refine lv_topi (fun v_1 ev_1 => ?_)
  obtain rfl : v_1 = (1 : Int32) := ev_1.trans (by decide)
  refine va_sld hx hb hX hbl hbA hS (vp_in_iff.mpr ⟨by decide, by decide⟩) dL_law_356 ?_
  refine W.eq (g2 := F0 m 357 ls [.int (xs 1), .ref zx]) rfl ?_
  refine cj_i (wc := [(zx, .inr (10, [.ref zn, .ref zk, .ref zr, .ref zl, .ref zc, .ref zs, .ref zw, .ref zt, .ref zm, .int 0])), (zn, .inr (8, [.ref znh, .ref znl, .ref znc, .ref znd, .ref znm, .ref zno, .ref zni, .int 0, .int 0])), (znh, .inr (3, [.ref znhr, .int 1, .int 3])), (znhr, .inl (cy 7, 3, .inr (.inr (.inr (.inr (fun i => if i < 3 then some (zqnh i) else none)))))), ((zqnh 0), .inl (cy 0, 24, .inl (fun _ => 0)))]) (wr := [(zy, .inr (11, [.ref zy0, .ref zy1, .int 0, .int 0, .int 0, .ref zy5, .int 0, .int 0, .ref zy8, .ref zy9, .ref zy10, .ref zy11, .ref zy12, .ref zy13, .ref zy14, .long 0, .ref zy16, .ref zy17, .ref zy18, .int 0, .long 0, .ref zy21, .ref zy22, .int 0, .ref zy24, .ref zy25, .ref zy26, .ref zy27])), (zy0, .inl (cy 0, 392, .inl zz))]) (w1 := fun (_ : Unit) => []) (va_runV (As := [.int (xs 1)]) (rest := []) ⟨hx, hb, hml, hown, hts⟩ (c_X10_wet l dC dI cy H.size zx (xs 1) zn zk zr zl zc zs zw zt zm znh znl znc znd znm zno zni znhr zqnh) (cwV 1 hts gL_law_X10_wet rfl rfl rfl (by decide +kernel) ⟨(Nat.le_of_ble_eq_true rfl), (Nat.le_of_ble_eq_true rfl)⟩) (PRE.v (hP.sub [0, 1, 2, 3, 4] rfl) hK (hD.sub [0, 1, 2, 3, 4] (by decide) rfl) hN (va_recv hK hP (ci := 10) (q0 := 0) rfl rfl)) rfl rfl hl.1 rfl (lv_room (Nat.le_of_ble_eq_true rfl)) dL_law_357 ⟨(Nat.le_of_ble_eq_true rfl), (Nat.le_of_ble_eq_true rfl)⟩) hP hD hS hA [0, 1, 2, 3, 4] [5, 6] rfl rfl rfl (by decide) (fun r_3 u_2 H locs hw_4 hP hD hS => ?_)
  have hP : va_P (dC, dI) vwCl [(zy, .inr (11, [.ref zy0, .ref zy1, .int 0, .int 0, .int 0, .ref zy5, .int 0, .int 0, .ref zy8, .ref zy9, .ref zy10, .ref zy11, .ref zy12, .ref zy13, .ref zy14, .long 0, .ref zy16, .ref zy17, .ref zy18, .int 0, .long 0, .ref zy21, .ref zy22, .int 0, .ref zy24, .ref zy25, .ref zy26, .ref zy27])), (zy0, .inl (cy 0, 392, .inl zz))] H := hP
  have hD : va_D A [(zy, .inr (11, [.ref zy0, .ref zy1, .int 0, .int 0, .int 0, .ref zy5, .int 0, .int 0, .ref zy8, .ref zy9, .ref zy10, .ref zy11, .ref zy12, .ref zy13, .ref zy14, .long 0, .ref zy16, .ref zy17, .ref zy18, .int 0, .long 0, .ref zy21, .ref zy22, .int 0, .ref zy24, .ref zy25, .ref zy26, .ref zy27])), (zy0, .inl (cy 0, 392, .inl zz))] := hD
  have hw_4 : r_3 = an_wet (xs 1) := hw_4
  refine lv_aload_n hx hb dL_law_360 rfl (lv_at hl 2 rfl) ?_
  refine lv_aload_n hx hb dL_law_361 rfl (lv_at hl 0 rfl) ?_
  refine lv_iload_n hx hb dL_law_362 rfl (lv_at hl 3 rfl) ?_
  refine lv_iconst (v := 1) hx hb dL_law_363 (by decide) ?_
  refine lv_iadd hx hb dL_law_364 ?_
  refine lv_topi (fun v_5 ev_5 => ?_)
  obtain rfl : v_5 = (1 : Int32) := ev_5.trans (by decide)
  refine va_sld hx hb hX hbl hbA hS (vp_in_iff.mpr ⟨by decide, by decide⟩) dL_law_365 ?_
  refine W.eq (g2 := F0 m 366 ls [.int (xs 1), .ref zy, .int r_3]) rfl ?_
  refine cj_i (wc := [(zy, .inr (11, [.ref zy0, .ref zy1, .int 0, .int 0, .int 0, .ref zy5, .int 0, .int 0, .ref zy8, .ref zy9, .ref zy10, .ref zy11, .ref zy12, .ref zy13, .ref zy14, .long 0, .ref zy16, .ref zy17, .ref zy18, .int 0, .long 0, .ref zy21, .ref zy22, .int 0, .ref zy24, .ref zy25, .ref zy26, .ref zy27])), (zy0, .inl (cy 0, 392, .inl zz))]) (wr := []) (w1 := fun (_ : Unit) => []) (va_runV (As := [.int (xs 1)]) (rest := [.int r_3]) ⟨hx, hb, hml, hown, hts⟩ (c_X11_wet l dC dI cy H.size zy (xs 1) zy0 zy1 zy5 zy8 zy9 zy10 zy11 zy12 zy13 zy14 zy16 zy17 zy18 zy21 zy22 zy24 zy25 zy26 zy27) (cwV 1 hts gL_law_X11_wet rfl rfl rfl (by decide +kernel) ⟨(Nat.le_of_ble_eq_true rfl), (Nat.le_of_ble_eq_true rfl)⟩) (PRE.v (hP.sub [0, 1] rfl) hK (hD.sub [0, 1] (by decide) rfl) hN (va_recv hK hP (ci := 11) (q0 := 0) rfl rfl)) rfl rfl hl.1 rfl (lv_room (Nat.le_of_ble_eq_true rfl)) dL_law_366 ⟨(Nat.le_of_ble_eq_true rfl), (Nat.le_of_ble_eq_true rfl)⟩) hP hD hS hA [0, 1] [] rfl rfl rfl (by decide) (fun r_7 u_6 H locs hw_8 hP hD hS => ?_)
  have hP : va_P (dC, dI) vwCl [] H := hP
  have hD : va_D A [] := hD
  have hw_8 : r_7 = an_wet (xs 1) := hw_8
  refine lv_icmp_eq (tgt := 1792) hx hb dL_law_369 (by decide) (fun c_9 => ?_) (fun c_9 => absurd (hw_4.trans hw_8.symm) c_9)
  exact kx _ _ _ hS hl
set_option maxHeartbeats 4000000 in
set_option maxRecDepth 100000 in
theorem lw_c4 {p : Program} {l : Launch} {e : Env} {s : State} {m : MethodId} {below : List Frame} {meth : Method} {c : Code} {b : Nat} {xs : Nat → Int32} {A : Nat → Prop} {Q : State → Prop} (hx : p.tables.exec = Jvm.exec) (hb : c.code = cL_law) (hml : c.maxLocals = 4) (hown : s.vm.findClass RL = some m.cls) (hts : ∀ w ∈ wsL_law, w.before #[Value.ref b] s = true) (hX : va_X b 6 xs s s.heap) (hbl : b < s.heap.size) (hbA : ¬ A b) (hA : ∀ q : Nat, s.heap.size ≤ q → A q) (dC : Nat → ClassId) (dI : Nat → Nat → Nat) (cy : Nat → ClassId) (zx : Nat) (zy : Nat) (zn : Nat) (zk : Nat) (zr : Nat) (zl : Nat) (zc : Nat) (zs : Nat) (zw : Nat) (zt : Nat) (zm : Nat) (znh : Nat) (znl : Nat) (znc : Nat) (znd : Nat) (znm : Nat) (zno : Nat) (zni : Nat) (znhr : Nat) (zqnh : Nat → Nat) (zy0 : Nat) (zy1 : Nat) (zy5 : Nat) (zy8 : Nat) (zy9 : Nat) (zy10 : Nat) (zy11 : Nat) (zy12 : Nat) (zy13 : Nat) (zy14 : Nat) (zy16 : Nat) (zy17 : Nat) (zy18 : Nat) (zy21 : Nat) (zy22 : Nat) (zy24 : Nat) (zy25 : Nat) (zy26 : Nat) (zy27 : Nat) (hK : va_K (dC, dI) vwCl (TY cy) s) (hN : N0 s)
    (kx : ∀ (H : Heap) (locs : List Loc) (ls : Array Slot), va_S A s.heap H locs → lv_has ls 4 [(0, .ref b), (1, .ref zx), (2, .ref zy), (3, .int 0)] → W p l e room_1 s m #[Value.ref b] below meth c H locs 265 67857 Q (F0 m 1792 ls []))
    {H : Heap} {locs : List Loc} {ls : Array Slot} (hP : va_P (dC, dI) vwCl [(zx, .inr (10, [.ref zn, .ref zk, .ref zr, .ref zl, .ref zc, .ref zs, .ref zw, .ref zt, .ref zm, .int 0])), (zn, .inr (8, [.ref znh, .ref znl, .ref znc, .ref znd, .ref znm, .ref zno, .ref zni, .int 0, .int 0])), (znh, .inr (3, [.ref znhr, .int 1, .int 3])), (znhr, .inl (cy 7, 3, .inr (.inr (.inr (.inr (fun i => if i < 3 then some (zqnh i) else none)))))), ((zqnh 0), .inl (cy 0, 24, .inl (fun _ => 0))), (zy, .inr (11, [.ref zy0, .ref zy1, .int 0, .int 0, .int 0, .ref zy5, .int 0, .int 0, .ref zy8, .ref zy9, .ref zy10, .ref zy11, .ref zy12, .ref zy13, .ref zy14, .long 0, .ref zy16, .ref zy17, .ref zy18, .int 0, .long 0, .ref zy21, .ref zy22, .int 0, .ref zy24, .ref zy25, .ref zy26, .ref zy27])), (zy0, .inl (cy 0, 392, .inl zz))] H) (hD : va_D A [(zx, .inr (10, [.ref zn, .ref zk, .ref zr, .ref zl, .ref zc, .ref zs, .ref zw, .ref zt, .ref zm, .int 0])), (zn, .inr (8, [.ref znh, .ref znl, .ref znc, .ref znd, .ref znm, .ref zno, .ref zni, .int 0, .int 0])), (znh, .inr (3, [.ref znhr, .int 1, .int 3])), (znhr, .inl (cy 7, 3, .inr (.inr (.inr (.inr (fun i => if i < 3 then some (zqnh i) else none)))))), ((zqnh 0), .inl (cy 0, 24, .inl (fun _ => 0))), (zy, .inr (11, [.ref zy0, .ref zy1, .int 0, .int 0, .int 0, .ref zy5, .int 0, .int 0, .ref zy8, .ref zy9, .ref zy10, .ref zy11, .ref zy12, .ref zy13, .ref zy14, .long 0, .ref zy16, .ref zy17, .ref zy18, .int 0, .long 0, .ref zy21, .ref zy22, .int 0, .ref zy24, .ref zy25, .ref zy26, .ref zy27])), (zy0, .inl (cy 0, 392, .inl zz))]) (hS : va_S A s.heap H locs) (hl : lv_has ls 4 [(0, .ref b), (1, .ref zx), (2, .ref zy), (3, .int 0)]) : W p l e room_1 s m #[Value.ref b] below meth c H locs 265 67857 Q (F0 m 374 ls []) := by
  refine lv_aload_n hx hb dL_law_374 rfl (lv_at hl 1 rfl) ?_
  refine lv_aload_n hx hb dL_law_375 rfl (lv_at hl 0 rfl) ?_
  refine lv_iload_n hx hb dL_law_376 rfl (lv_at hl 3 rfl) ?_
  refine lv_iconst (v := 1) hx hb dL_law_377 (by decide) ?_
  refine lv_iadd hx hb dL_law_378 ?_
  refine lv_topi (fun v_1 ev_1 => ?_)
  obtain rfl : v_1 = (1 : Int32) := ev_1.trans (by decide)
  refine va_sld hx hb hX hbl hbA hS (vp_in_iff.mpr ⟨by decide, by decide⟩) dL_law_379 ?_
  refine W.eq (g2 := F0 m 380 ls [.int (xs 1), .ref zx]) rfl ?_
  refine cj_i (wc := [(zx, .inr (10, [.ref zn, .ref zk, .ref zr, .ref zl, .ref zc, .ref zs, .ref zw, .ref zt, .ref zm, .int 0])), (zn, .inr (8, [.ref znh, .ref znl, .ref znc, .ref znd, .ref znm, .ref zno, .ref zni, .int 0, .int 0])), (znh, .inr (3, [.ref znhr, .int 1, .int 3])), (znhr, .inl (cy 7, 3, .inr (.inr (.inr (.inr (fun i => if i < 3 then some (zqnh i) else none)))))), ((zqnh 0), .inl (cy 0, 24, .inl (fun _ => 0)))]) (wr := [(zy, .inr (11, [.ref zy0, .ref zy1, .int 0, .int 0, .int 0, .ref zy5, .int 0, .int 0, .ref zy8, .ref zy9, .ref zy10, .ref zy11, .ref zy12, .ref zy13, .ref zy14, .long 0, .ref zy16, .ref zy17, .ref zy18, .int 0, .long 0, .ref zy21, .ref zy22, .int 0, .ref zy24, .ref zy25, .ref zy26, .ref zy27])), (zy0, .inl (cy 0, 392, .inl zz))]) (w1 := fun (_ : Unit) => []) (va_runV (As := [.int (xs 1)]) (rest := []) ⟨hx, hb, hml, hown, hts⟩ (c_X10_water l dC dI cy H.size zx (xs 1) zn zk zr zl zc zs zw zt zm znh znl znc znd znm zno zni znhr zqnh) (cwV 1 hts gL_law_X10_water rfl rfl rfl (by decide +kernel) ⟨(Nat.le_of_ble_eq_true rfl), (Nat.le_of_ble_eq_true rfl)⟩) (PRE.v (hP.sub [0, 1, 2, 3, 4] rfl) hK (hD.sub [0, 1, 2, 3, 4] (by decide) rfl) hN (va_recv hK hP (ci := 10) (q0 := 0) rfl rfl)) rfl rfl hl.1 rfl (lv_room (Nat.le_of_ble_eq_true rfl)) dL_law_380 ⟨(Nat.le_of_ble_eq_true rfl), (Nat.le_of_ble_eq_true rfl)⟩) hP hD hS hA [0, 1, 2, 3, 4] [5, 6] rfl rfl rfl (by decide) (fun r_3 u_2 H locs hw_4 hP hD hS => ?_)
  have hP : va_P (dC, dI) vwCl [(zy, .inr (11, [.ref zy0, .ref zy1, .int 0, .int 0, .int 0, .ref zy5, .int 0, .int 0, .ref zy8, .ref zy9, .ref zy10, .ref zy11, .ref zy12, .ref zy13, .ref zy14, .long 0, .ref zy16, .ref zy17, .ref zy18, .int 0, .long 0, .ref zy21, .ref zy22, .int 0, .ref zy24, .ref zy25, .ref zy26, .ref zy27])), (zy0, .inl (cy 0, 392, .inl zz))] H := hP
  have hD : va_D A [(zy, .inr (11, [.ref zy0, .ref zy1, .int 0, .int 0, .int 0, .ref zy5, .int 0, .int 0, .ref zy8, .ref zy9, .ref zy10, .ref zy11, .ref zy12, .ref zy13, .ref zy14, .long 0, .ref zy16, .ref zy17, .ref zy18, .int 0, .long 0, .ref zy21, .ref zy22, .int 0, .ref zy24, .ref zy25, .ref zy26, .ref zy27])), (zy0, .inl (cy 0, 392, .inl zz))] := hD
  have hw_4 : r_3 = an_water (xs 1) := hw_4
  refine lv_aload_n hx hb dL_law_383 rfl (lv_at hl 2 rfl) ?_
  refine lv_aload_n hx hb dL_law_384 rfl (lv_at hl 0 rfl) ?_
  refine lv_iload_n hx hb dL_law_385 rfl (lv_at hl 3 rfl) ?_
  refine lv_iconst (v := 1) hx hb dL_law_386 (by decide) ?_
  refine lv_iadd hx hb dL_law_387 ?_
  refine lv_topi (fun v_5 ev_5 => ?_)
  obtain rfl : v_5 = (1 : Int32) := ev_5.trans (by decide)
  refine va_sld hx hb hX hbl hbA hS (vp_in_iff.mpr ⟨by decide, by decide⟩) dL_law_388 ?_
  refine W.eq (g2 := F0 m 389 ls [.int (xs 1), .ref zy, .int r_3]) rfl ?_
  refine cj_i (wc := [(zy, .inr (11, [.ref zy0, .ref zy1, .int 0, .int 0, .int 0, .ref zy5, .int 0, .int 0, .ref zy8, .ref zy9, .ref zy10, .ref zy11, .ref zy12, .ref zy13, .ref zy14, .long 0, .ref zy16, .ref zy17, .ref zy18, .int 0, .long 0, .ref zy21, .ref zy22, .int 0, .ref zy24, .ref zy25, .ref zy26, .ref zy27])), (zy0, .inl (cy 0, 392, .inl zz))]) (wr := []) (w1 := fun (_ : Unit) => []) (va_runV (As := [.int (xs 1)]) (rest := [.int r_3]) ⟨hx, hb, hml, hown, hts⟩ (c_X11_water l dC dI cy H.size zy (xs 1) zy0 zy1 zy5 zy8 zy9 zy10 zy11 zy12 zy13 zy14 zy16 zy17 zy18 zy21 zy22 zy24 zy25 zy26 zy27) (cwV 1 hts gL_law_X11_water rfl rfl rfl (by decide +kernel) ⟨(Nat.le_of_ble_eq_true rfl), (Nat.le_of_ble_eq_true rfl)⟩) (PRE.v (hP.sub [0, 1] rfl) hK (hD.sub [0, 1] (by decide) rfl) hN (va_recv hK hP (ci := 11) (q0 := 0) rfl rfl)) rfl rfl hl.1 rfl (lv_room (Nat.le_of_ble_eq_true rfl)) dL_law_389 ⟨(Nat.le_of_ble_eq_true rfl), (Nat.le_of_ble_eq_true rfl)⟩) hP hD hS hA [0, 1] [] rfl rfl rfl (by decide) (fun r_7 u_6 H locs hw_8 hP hD hS => ?_)
  have hP : va_P (dC, dI) vwCl [] H := hP
  have hD : va_D A [] := hD
  have hw_8 : r_7 = an_water (xs 1) := hw_8
  refine lv_icmp_eq (tgt := 1792) hx hb dL_law_392 (by decide) (fun c_9 => ?_) (fun c_9 => absurd (hw_4.trans hw_8.symm) c_9)
  exact kx _ _ _ hS hl
set_option maxHeartbeats 4000000 in
set_option maxRecDepth 100000 in
theorem lw_c5 {p : Program} {l : Launch} {e : Env} {s : State} {m : MethodId} {below : List Frame} {meth : Method} {c : Code} {b : Nat} {xs : Nat → Int32} {A : Nat → Prop} {Q : State → Prop} (hx : p.tables.exec = Jvm.exec) (hb : c.code = cL_law) (hml : c.maxLocals = 4) (hown : s.vm.findClass RL = some m.cls) (hts : ∀ w ∈ wsL_law, w.before #[Value.ref b] s = true) (hX : va_X b 6 xs s s.heap) (hbl : b < s.heap.size) (hbA : ¬ A b) (hA : ∀ q : Nat, s.heap.size ≤ q → A q) (dC : Nat → ClassId) (dI : Nat → Nat → Nat) (cy : Nat → ClassId) (zx : Nat) (zy : Nat) (zn : Nat) (zk : Nat) (zr : Nat) (zl : Nat) (zc : Nat) (zs : Nat) (zw : Nat) (zt : Nat) (zm : Nat) (zrt : Nat) (zy0 : Nat) (zy1 : Nat) (zy5 : Nat) (zy8 : Nat) (zy9 : Nat) (zy10 : Nat) (zy11 : Nat) (zy12 : Nat) (zy13 : Nat) (zy14 : Nat) (zy16 : Nat) (zy17 : Nat) (zy18 : Nat) (zy21 : Nat) (zy22 : Nat) (zy24 : Nat) (zy25 : Nat) (zy26 : Nat) (zy27 : Nat) (hK : va_K (dC, dI) vwCl (TY cy) s) (hN : N0 s)
    (kx : ∀ (H : Heap) (locs : List Loc) (ls : Array Slot), va_S A s.heap H locs → lv_has ls 4 [(0, .ref b), (1, .ref zx), (2, .ref zy), (3, .int 0)] → W p l e room_1 s m #[Value.ref b] below meth c H locs 265 67857 Q (F0 m 1792 ls []))
    {H : Heap} {locs : List Loc} {ls : Array Slot} (hP : va_P (dC, dI) vwCl [(zx, .inr (10, [.ref zn, .ref zk, .ref zr, .ref zl, .ref zc, .ref zs, .ref zw, .ref zt, .ref zm, .int 0])), (zr, .inr (6, [.ref zrt, .int 0, .int 0, .int 0])), (zrt, .inl (cy 0, 80, .inl (fun _ => 0))), (zy, .inr (11, [.ref zy0, .ref zy1, .int 0, .int 0, .int 0, .ref zy5, .int 0, .int 0, .ref zy8, .ref zy9, .ref zy10, .ref zy11, .ref zy12, .ref zy13, .ref zy14, .long 0, .ref zy16, .ref zy17, .ref zy18, .int 0, .long 0, .ref zy21, .ref zy22, .int 0, .ref zy24, .ref zy25, .ref zy26, .ref zy27])), (zy1, .inl (cy 0, 80, .inl (fun _ => 0)))] H) (hD : va_D A [(zx, .inr (10, [.ref zn, .ref zk, .ref zr, .ref zl, .ref zc, .ref zs, .ref zw, .ref zt, .ref zm, .int 0])), (zr, .inr (6, [.ref zrt, .int 0, .int 0, .int 0])), (zrt, .inl (cy 0, 80, .inl (fun _ => 0))), (zy, .inr (11, [.ref zy0, .ref zy1, .int 0, .int 0, .int 0, .ref zy5, .int 0, .int 0, .ref zy8, .ref zy9, .ref zy10, .ref zy11, .ref zy12, .ref zy13, .ref zy14, .long 0, .ref zy16, .ref zy17, .ref zy18, .int 0, .long 0, .ref zy21, .ref zy22, .int 0, .ref zy24, .ref zy25, .ref zy26, .ref zy27])), (zy1, .inl (cy 0, 80, .inl (fun _ => 0)))]) (hS : va_S A s.heap H locs) (hl : lv_has ls 4 [(0, .ref b), (1, .ref zx), (2, .ref zy), (3, .int 0)]) : W p l e room_1 s m #[Value.ref b] below meth c H locs 265 67857 Q (F0 m 397 ls []) := by
  refine lv_aload_n hx hb dL_law_397 rfl (lv_at hl 1 rfl) ?_
  refine lv_aload_n hx hb dL_law_398 rfl (lv_at hl 0 rfl) ?_
  refine lv_iload_n hx hb dL_law_399 rfl (lv_at hl 3 rfl) ?_
  refine lv_iconst (v := 1) hx hb dL_law_400 (by decide) ?_
  refine lv_iadd hx hb dL_law_401 ?_
  refine lv_topi (fun v_1 ev_1 => ?_)
  obtain rfl : v_1 = (1 : Int32) := ev_1.trans (by decide)
  refine va_sld hx hb hX hbl hbA hS (vp_in_iff.mpr ⟨by decide, by decide⟩) dL_law_402 ?_
  refine W.eq (g2 := F0 m 403 ls [.int (xs 1), .ref zx]) rfl ?_
  refine lv_i2l (v := (xs 1).toInt64) hx hb dL_law_403 rfl ?_
  refine lv_bipush (v := 32) hx hb dL_law_404 (by decide) ?_
  refine lv_lshl (v := ((xs 1).toInt64) <<< ((32 : Int32).toInt64 &&& 63)) hx hb dL_law_406 rfl ?_
  refine lv_aload_n hx hb dL_law_407 rfl (lv_at hl 0 rfl) ?_
  refine lv_iload_n hx hb dL_law_408 rfl (lv_at hl 3 rfl) ?_
  refine lv_iconst (v := 2) hx hb dL_law_409 (by decide) ?_
  refine lv_iadd hx hb dL_law_410 ?_
  refine lv_topi (fun v_2 ev_2 => ?_)
  obtain rfl : v_2 = (2 : Int32) := ev_2.trans (by decide)
  refine va_sld hx hb hX hbl hbA hS (vp_in_iff.mpr ⟨by decide, by decide⟩) dL_law_411 ?_
  refine W.eq (g2 := F0 m 412 ls [.int (xs 2), .long (((xs 1).toInt64) <<< ((32 : Int32).toInt64 &&& 63)), .ref zx]) rfl ?_
  refine lv_i2l (v := (xs 2).toInt64) hx hb dL_law_412 rfl ?_
  refine lv_ldc2 (v := 4294967295) hx hb hown (hts (.constantLong RL 37 4294967295) (by decide +kernel)) dL_law_413 ?_
  refine lv_land hx hb dL_law_416 ?_
  refine lv_lor hx hb dL_law_417 ?_
  refine lv_aload_n hx hb dL_law_418 rfl (lv_at hl 0 rfl) ?_
  refine lv_iload_n hx hb dL_law_419 rfl (lv_at hl 3 rfl) ?_
  refine lv_iconst (v := 3) hx hb dL_law_420 (by decide) ?_
  refine lv_iadd hx hb dL_law_421 ?_
  refine lv_topi (fun v_3 ev_3 => ?_)
  obtain rfl : v_3 = (3 : Int32) := ev_3.trans (by decide)
  refine va_sld hx hb hX hbl hbA hS (vp_in_iff.mpr ⟨by decide, by decide⟩) dL_law_422 ?_
  refine W.eq (g2 := F0 m 423 ls [.int (xs 3), .long ((((xs 1).toInt64) <<< ((32 : Int32).toInt64 &&& 63)) ||| ((xs 2).toInt64 &&& 4294967295)), .ref zx]) rfl ?_
  refine cj_i (wc := [(zx, .inr (10, [.ref zn, .ref zk, .ref zr, .ref zl, .ref zc, .ref zs, .ref zw, .ref zt, .ref zm, .int 0])), (zr, .inr (6, [.ref zrt, .int 0, .int 0, .int 0])), (zrt, .inl (cy 0, 80, .inl (fun _ => 0)))]) (wr := [(zy, .inr (11, [.ref zy0, .ref zy1, .int 0, .int 0, .int 0, .ref zy5, .int 0, .int 0, .ref zy8, .ref zy9, .ref zy10, .ref zy11, .ref zy12, .ref zy13, .ref zy14, .long 0, .ref zy16, .ref zy17, .ref zy18, .int 0, .long 0, .ref zy21, .ref zy22, .int 0, .ref zy24, .ref zy25, .ref zy26, .ref zy27])), (zy1, .inl (cy 0, 80, .inl (fun _ => 0)))]) (w1 := fun (_ : Unit) => []) (va_runV (As := [.long ((((xs 1).toInt64) <<< ((32 : Int32).toInt64 &&& 63)) ||| ((xs 2).toInt64 &&& 4294967295)), .int (xs 3)]) (rest := []) ⟨hx, hb, hml, hown, hts⟩ (c_X10_type l dC dI cy H.size zx ((((xs 1).toInt64) <<< ((32 : Int32).toInt64 &&& 63)) ||| ((xs 2).toInt64 &&& 4294967295)) (xs 3) zn zk zr zl zc zs zw zt zm zrt) (cwV 2 hts gL_law_X10_type rfl rfl rfl (by decide +kernel) ⟨(Nat.le_of_ble_eq_true rfl), (Nat.le_of_ble_eq_true rfl)⟩) (PRE.v (hP.sub [0, 1, 2] rfl) hK (hD.sub [0, 1, 2] (by decide) rfl) hN (va_recv hK hP (ci := 10) (q0 := 0) rfl rfl)) rfl rfl hl.1 rfl (lv_room (Nat.le_of_ble_eq_true rfl)) dL_law_423 ⟨(Nat.le_of_ble_eq_true rfl), (Nat.le_of_ble_eq_true rfl)⟩) hP hD hS hA [0, 1, 2] [3, 4] rfl rfl rfl (by decide) (fun r_5 u_4 H locs hw_6 hP hD hS => ?_)
  have hP : va_P (dC, dI) vwCl [(zy, .inr (11, [.ref zy0, .ref zy1, .int 0, .int 0, .int 0, .ref zy5, .int 0, .int 0, .ref zy8, .ref zy9, .ref zy10, .ref zy11, .ref zy12, .ref zy13, .ref zy14, .long 0, .ref zy16, .ref zy17, .ref zy18, .int 0, .long 0, .ref zy21, .ref zy22, .int 0, .ref zy24, .ref zy25, .ref zy26, .ref zy27])), (zy1, .inl (cy 0, 80, .inl (fun _ => 0)))] H := hP
  have hD : va_D A [(zy, .inr (11, [.ref zy0, .ref zy1, .int 0, .int 0, .int 0, .ref zy5, .int 0, .int 0, .ref zy8, .ref zy9, .ref zy10, .ref zy11, .ref zy12, .ref zy13, .ref zy14, .long 0, .ref zy16, .ref zy17, .ref zy18, .int 0, .long 0, .ref zy21, .ref zy22, .int 0, .ref zy24, .ref zy25, .ref zy26, .ref zy27])), (zy1, .inl (cy 0, 80, .inl (fun _ => 0)))] := hD
  have hw_6 : r_5 = an_type ((((xs 1).toInt64) <<< ((32 : Int32).toInt64 &&& 63)) ||| ((xs 2).toInt64 &&& 4294967295)) (xs 3) := hw_6
  refine lv_aload_n hx hb dL_law_426 rfl (lv_at hl 2 rfl) ?_
  refine lv_aload_n hx hb dL_law_427 rfl (lv_at hl 0 rfl) ?_
  refine lv_iload_n hx hb dL_law_428 rfl (lv_at hl 3 rfl) ?_
  refine lv_iconst (v := 1) hx hb dL_law_429 (by decide) ?_
  refine lv_iadd hx hb dL_law_430 ?_
  refine lv_topi (fun v_7 ev_7 => ?_)
  obtain rfl : v_7 = (1 : Int32) := ev_7.trans (by decide)
  refine va_sld hx hb hX hbl hbA hS (vp_in_iff.mpr ⟨by decide, by decide⟩) dL_law_431 ?_
  refine W.eq (g2 := F0 m 432 ls [.int (xs 1), .ref zy, .int r_5]) rfl ?_
  refine lv_i2l (v := (xs 1).toInt64) hx hb dL_law_432 rfl ?_
  refine lv_bipush (v := 32) hx hb dL_law_433 (by decide) ?_
  refine lv_lshl (v := ((xs 1).toInt64) <<< ((32 : Int32).toInt64 &&& 63)) hx hb dL_law_435 rfl ?_
  refine lv_aload_n hx hb dL_law_436 rfl (lv_at hl 0 rfl) ?_
  refine lv_iload_n hx hb dL_law_437 rfl (lv_at hl 3 rfl) ?_
  refine lv_iconst (v := 2) hx hb dL_law_438 (by decide) ?_
  refine lv_iadd hx hb dL_law_439 ?_
  refine lv_topi (fun v_8 ev_8 => ?_)
  obtain rfl : v_8 = (2 : Int32) := ev_8.trans (by decide)
  refine va_sld hx hb hX hbl hbA hS (vp_in_iff.mpr ⟨by decide, by decide⟩) dL_law_440 ?_
  refine W.eq (g2 := F0 m 441 ls [.int (xs 2), .long (((xs 1).toInt64) <<< ((32 : Int32).toInt64 &&& 63)), .ref zy, .int r_5]) rfl ?_
  refine lv_i2l (v := (xs 2).toInt64) hx hb dL_law_441 rfl ?_
  refine lv_ldc2 (v := 4294967295) hx hb hown (hts (.constantLong RL 37 4294967295) (by decide +kernel)) dL_law_442 ?_
  refine lv_land hx hb dL_law_445 ?_
  refine lv_lor hx hb dL_law_446 ?_
  refine lv_aload_n hx hb dL_law_447 rfl (lv_at hl 0 rfl) ?_
  refine lv_iload_n hx hb dL_law_448 rfl (lv_at hl 3 rfl) ?_
  refine lv_iconst (v := 3) hx hb dL_law_449 (by decide) ?_
  refine lv_iadd hx hb dL_law_450 ?_
  refine lv_topi (fun v_9 ev_9 => ?_)
  obtain rfl : v_9 = (3 : Int32) := ev_9.trans (by decide)
  refine va_sld hx hb hX hbl hbA hS (vp_in_iff.mpr ⟨by decide, by decide⟩) dL_law_451 ?_
  refine W.eq (g2 := F0 m 452 ls [.int (xs 3), .long ((((xs 1).toInt64) <<< ((32 : Int32).toInt64 &&& 63)) ||| ((xs 2).toInt64 &&& 4294967295)), .ref zy, .int r_5]) rfl ?_
  refine cj_i (wc := [(zy, .inr (11, [.ref zy0, .ref zy1, .int 0, .int 0, .int 0, .ref zy5, .int 0, .int 0, .ref zy8, .ref zy9, .ref zy10, .ref zy11, .ref zy12, .ref zy13, .ref zy14, .long 0, .ref zy16, .ref zy17, .ref zy18, .int 0, .long 0, .ref zy21, .ref zy22, .int 0, .ref zy24, .ref zy25, .ref zy26, .ref zy27])), (zy1, .inl (cy 0, 80, .inl (fun _ => 0)))]) (wr := []) (w1 := fun (_ : Unit) => []) (va_runV (As := [.long ((((xs 1).toInt64) <<< ((32 : Int32).toInt64 &&& 63)) ||| ((xs 2).toInt64 &&& 4294967295)), .int (xs 3)]) (rest := [.int r_5]) ⟨hx, hb, hml, hown, hts⟩ (c_X11_type l dC dI cy H.size zy ((((xs 1).toInt64) <<< ((32 : Int32).toInt64 &&& 63)) ||| ((xs 2).toInt64 &&& 4294967295)) (xs 3) zy0 zy1 zy5 zy8 zy9 zy10 zy11 zy12 zy13 zy14 zy16 zy17 zy18 zy21 zy22 zy24 zy25 zy26 zy27) (cwV 2 hts gL_law_X11_type rfl rfl rfl (by decide +kernel) ⟨(Nat.le_of_ble_eq_true rfl), (Nat.le_of_ble_eq_true rfl)⟩) (PRE.v (hP.sub [0, 1] rfl) hK (hD.sub [0, 1] (by decide) rfl) hN (va_recv hK hP (ci := 11) (q0 := 0) rfl rfl)) rfl rfl hl.1 rfl (lv_room (Nat.le_of_ble_eq_true rfl)) dL_law_452 ⟨(Nat.le_of_ble_eq_true rfl), (Nat.le_of_ble_eq_true rfl)⟩) hP hD hS hA [0, 1] [] rfl rfl rfl (by decide) (fun r_11 u_10 H locs hw_12 hP hD hS => ?_)
  have hP : va_P (dC, dI) vwCl [] H := hP
  have hD : va_D A [] := hD
  have hw_12 : r_11 = an_type ((((xs 1).toInt64) <<< ((32 : Int32).toInt64 &&& 63)) ||| ((xs 2).toInt64 &&& 4294967295)) (xs 3) := hw_12
  refine lv_icmp_eq (tgt := 1792) hx hb dL_law_455 (by decide) (fun c_13 => ?_) (fun c_13 => absurd (hw_6.trans hw_12.symm) c_13)
  exact kx _ _ _ hS hl
set_option maxHeartbeats 4000000 in
set_option maxRecDepth 100000 in
theorem lw_c6 {p : Program} {l : Launch} {e : Env} {s : State} {m : MethodId} {below : List Frame} {meth : Method} {c : Code} {b : Nat} {xs : Nat → Int32} {A : Nat → Prop} {Q : State → Prop} (hx : p.tables.exec = Jvm.exec) (hb : c.code = cL_law) (hml : c.maxLocals = 4) (hown : s.vm.findClass RL = some m.cls) (hts : ∀ w ∈ wsL_law, w.before #[Value.ref b] s = true) (hX : va_X b 6 xs s s.heap) (hbl : b < s.heap.size) (hbA : ¬ A b) (hA : ∀ q : Nat, s.heap.size ≤ q → A q) (dC : Nat → ClassId) (dI : Nat → Nat → Nat) (cy : Nat → ClassId) (zx : Nat) (zy : Nat) (zn : Nat) (zk : Nat) (zr : Nat) (zl : Nat) (zc : Nat) (zs : Nat) (zw : Nat) (zt : Nat) (zm : Nat) (zrt : Nat) (zld : Nat) (zlc : Nat) (zls : Nat) (zlg : Nat) (zln : Nat) (zy0 : Nat) (zy1 : Nat) (zy5 : Nat) (zy8 : Nat) (zy9 : Nat) (zy10 : Nat) (zy11 : Nat) (zy12 : Nat) (zy13 : Nat) (zy14 : Nat) (zy16 : Nat) (zy17 : Nat) (zy18 : Nat) (zy21 : Nat) (zy22 : Nat) (zy24 : Nat) (zy25 : Nat) (zy26 : Nat) (zy27 : Nat) (hK : va_K (dC, dI) vwCl (TY cy) s) (hN : N0 s)
    (kx : ∀ (H : Heap) (locs : List Loc) (ls : Array Slot), va_S A s.heap H locs → lv_has ls 4 [(0, .ref b), (1, .ref zx), (2, .ref zy), (3, .int 0)] → W p l e room_1 s m #[Value.ref b] below meth c H locs 265 67857 Q (F0 m 1792 ls []))
    {H : Heap} {locs : List Loc} {ls : Array Slot} (hP : va_P (dC, dI) vwCl [(zx, .inr (10, [.ref zn, .ref zk, .ref zr, .ref zl, .ref zc, .ref zs, .ref zw, .ref zt, .ref zm, .int 0])), (zr, .inr (6, [.ref zrt, .int 0, .int 0, .int 0])), (zl, .inr (4, [.ref zld, .ref zlc, .ref zls, .ref zlg, .ref zln, .int 0])), (zlc, .inl (cy 0, 6, .inl (fun _ => 0))), (zls, .inl (cy 0, 18, .inl (fun _ => 0))), (zy, .inr (11, [.ref zy0, .ref zy1, .int 0, .int 0, .int 0, .ref zy5, .int 0, .int 0, .ref zy8, .ref zy9, .ref zy10, .ref zy11, .ref zy12, .ref zy13, .ref zy14, .long 0, .ref zy16, .ref zy17, .ref zy18, .int 0, .long 0, .ref zy21, .ref zy22, .int 0, .ref zy24, .ref zy25, .ref zy26, .ref zy27])), (zy5, .inl (cy 0, 66, .inl (fun _ => 0)))] H) (hD : va_D A [(zx, .inr (10, [.ref zn, .ref zk, .ref zr, .ref zl, .ref zc, .ref zs, .ref zw, .ref zt, .ref zm, .int 0])), (zr, .inr (6, [.ref zrt, .int 0, .int 0, .int 0])), (zl, .inr (4, [.ref zld, .ref zlc, .ref zls, .ref zlg, .ref zln, .int 0])), (zlc, .inl (cy 0, 6, .inl (fun _ => 0))), (zls, .inl (cy 0, 18, .inl (fun _ => 0))), (zy, .inr (11, [.ref zy0, .ref zy1, .int 0, .int 0, .int 0, .ref zy5, .int 0, .int 0, .ref zy8, .ref zy9, .ref zy10, .ref zy11, .ref zy12, .ref zy13, .ref zy14, .long 0, .ref zy16, .ref zy17, .ref zy18, .int 0, .long 0, .ref zy21, .ref zy22, .int 0, .ref zy24, .ref zy25, .ref zy26, .ref zy27])), (zy5, .inl (cy 0, 66, .inl (fun _ => 0)))]) (hS : va_S A s.heap H locs) (hl : lv_has ls 4 [(0, .ref b), (1, .ref zx), (2, .ref zy), (3, .int 0)]) : W p l e room_1 s m #[Value.ref b] below meth c H locs 265 67857 Q (F0 m 460 ls []) := by
  refine lv_aload_n hx hb dL_law_460 rfl (lv_at hl 1 rfl) ?_
  refine cj_i (wc := [(zx, .inr (10, [.ref zn, .ref zk, .ref zr, .ref zl, .ref zc, .ref zs, .ref zw, .ref zt, .ref zm, .int 0])), (zr, .inr (6, [.ref zrt, .int 0, .int 0, .int 0])), (zl, .inr (4, [.ref zld, .ref zlc, .ref zls, .ref zlg, .ref zln, .int 0])), (zlc, .inl (cy 0, 6, .inl (fun _ => 0))), (zls, .inl (cy 0, 18, .inl (fun _ => 0)))]) (wr := [(zy, .inr (11, [.ref zy0, .ref zy1, .int 0, .int 0, .int 0, .ref zy5, .int 0, .int 0, .ref zy8, .ref zy9, .ref zy10, .ref zy11, .ref zy12, .ref zy13, .ref zy14, .long 0, .ref zy16, .ref zy17, .ref zy18, .int 0, .long 0, .ref zy21, .ref zy22, .int 0, .ref zy24, .ref zy25, .ref zy26, .ref zy27])), (zy5, .inl (cy 0, 66, .inl (fun _ => 0)))]) (w1 := fun (_ : Unit) => []) (va_runV (As := []) (rest := []) ⟨hx, hb, hml, hown, hts⟩ (c_X10_law l dC dI cy H.size zx zn zk zr zl zc zs zw zt zm zrt zld zlc zls zlg zln) (cwV 0 hts gL_law_X10_law rfl rfl rfl (by decide +kernel) ⟨(Nat.le_of_ble_eq_true rfl), (Nat.le_of_ble_eq_true rfl)⟩) (PRE.v (hP.sub [0, 1, 2, 3, 4] rfl) hK (hD.sub [0, 1, 2, 3, 4] (by decide) rfl) hN (va_recv hK hP (ci := 10) (q0 := 0) rfl rfl)) rfl rfl hl.1 rfl (lv_room (Nat.le_of_ble_eq_true rfl)) dL_law_461 ⟨(Nat.le_of_ble_eq_true rfl), (Nat.le_of_ble_eq_true rfl)⟩) hP hD hS hA [0, 1, 2, 3, 4] [5, 6] rfl rfl rfl (by decide) (fun r_2 u_1 H locs hw_3 hP hD hS => ?_)
  have hP : va_P (dC, dI) vwCl [(zy, .inr (11, [.ref zy0, .ref zy1, .int 0, .int 0, .int 0, .ref zy5, .int 0, .int 0, .ref zy8, .ref zy9, .ref zy10, .ref zy11, .ref zy12, .ref zy13, .ref zy14, .long 0, .ref zy16, .ref zy17, .ref zy18, .int 0, .long 0, .ref zy21, .ref zy22, .int 0, .ref zy24, .ref zy25, .ref zy26, .ref zy27])), (zy5, .inl (cy 0, 66, .inl (fun _ => 0)))] H := hP
  have hD : va_D A [(zy, .inr (11, [.ref zy0, .ref zy1, .int 0, .int 0, .int 0, .ref zy5, .int 0, .int 0, .ref zy8, .ref zy9, .ref zy10, .ref zy11, .ref zy12, .ref zy13, .ref zy14, .long 0, .ref zy16, .ref zy17, .ref zy18, .int 0, .long 0, .ref zy21, .ref zy22, .int 0, .ref zy24, .ref zy25, .ref zy26, .ref zy27])), (zy5, .inl (cy 0, 66, .inl (fun _ => 0)))] := hD
  obtain rfl : r_2 = (-20) := hw_3
  refine lv_aload_n hx hb dL_law_464 rfl (lv_at hl 2 rfl) ?_
  refine cj_i (wc := [(zy, .inr (11, [.ref zy0, .ref zy1, .int 0, .int 0, .int 0, .ref zy5, .int 0, .int 0, .ref zy8, .ref zy9, .ref zy10, .ref zy11, .ref zy12, .ref zy13, .ref zy14, .long 0, .ref zy16, .ref zy17, .ref zy18, .int 0, .long 0, .ref zy21, .ref zy22, .int 0, .ref zy24, .ref zy25, .ref zy26, .ref zy27])), (zy5, .inl (cy 0, 66, .inl (fun _ => 0)))]) (wr := []) (w1 := fun (_ : Unit) => []) (va_runV (As := []) (rest := [.int (-20)]) ⟨hx, hb, hml, hown, hts⟩ (c_X11_law l dC dI cy H.size zy zy0 zy1 zy5 zy8 zy9 zy10 zy11 zy12 zy13 zy14 zy16 zy17 zy18 zy21 zy22 zy24 zy25 zy26 zy27) (cwV 0 hts gL_law_X11_law rfl rfl rfl (by decide +kernel) ⟨(Nat.le_of_ble_eq_true rfl), (Nat.le_of_ble_eq_true rfl)⟩) (PRE.v (hP.sub [0, 1] rfl) hK (hD.sub [0, 1] (by decide) rfl) hN (va_recv hK hP (ci := 11) (q0 := 0) rfl rfl)) rfl rfl hl.1 rfl (lv_room (Nat.le_of_ble_eq_true rfl)) dL_law_465 ⟨(Nat.le_of_ble_eq_true rfl), (Nat.le_of_ble_eq_true rfl)⟩) hP hD hS hA [0, 1] [] rfl rfl rfl (by decide) (fun r_5 u_4 H locs hw_6 hP hD hS => ?_)
  have hP : va_P (dC, dI) vwCl [] H := hP
  have hD : va_D A [] := hD
  obtain rfl : r_5 = (-20) := hw_6
  refine lv_icmp_eq (tgt := 1792) hx hb dL_law_468 (by decide) (fun c_8 => ?_) (fun c_8 => absurd (by decide) c_8)
  exact kx _ _ _ hS hl
