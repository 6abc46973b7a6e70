set_option maxHeartbeats 4000000 in
set_option maxRecDepth 100000 in
theorem lw_c0 {p : Program} {l : Launch} {e : Env} {s : State} {m : MethodId} {below : List Frame} {meth : Method} {c : Code} {b L : Nat} {xs : Nat → Int32} {A : Nat → Prop} {Q : State → Prop} (hx : p.tables.exec = Jvm.exec) (hb : c.code = cL_law) (hml : c.maxLocals = 4) (hown : s.vm.findClass RL = some m.cls) (hts : ∀ w ∈ wsL_law, w.before #[Value.ref b] s = true) (hX : va_X b L xs s s.heap) (hbl : b < s.heap.size) (hbA : ¬ A b) (hA : ∀ q : Nat, s.heap.size ≤ q → A q) (hL : L ≤ 3072) (dC : Nat → ClassId) (dI : Nat → Nat → Nat) (cy : Nat → ClassId) (zL : List Nat) (zT : Nat → Nat) (zR : Nat → Nat → Nat) (zI : Nat → Nat → Int32) (zJ : Nat → Nat → Int64) (zx zy : Nat) (zi9 : Int32) (hs : SKP zL zT zR) (hw : WT zT zR zI) (t_zx : zT zx = 11) (t_zy : zT zy = 18) (hj : JX zR zI zx) (hz : ZI (zI (zR zy 0))) (hk : (zI zy 23).toInt = 0 ∨ ZI (zI (zR zy 24))) (h3 : R3 zR zI zx zy) (hrr : RRn zR zI zx zy) (hsh : RSH zR zI zx zy) (hit : RIT zR zI zx zy) (hrg : RGn zR zI zy) (hK : va_K (dC, dI) vwCl (TY cy) s) (hN : N0 s) (b_zi9 : 0 ≤ zi9.toInt ∧ zi9.toInt ≤ 3066) (hi1 : zi9.toInt + 6 ≤ (L : Int))
    (kx : ∀ (zI2 : Nat → Nat → Int32) (zJ2 : Nat → Nat → Int64) (H : Heap) (locs : List Loc) (ls : Array Slot), WT zT zR zI2 → JX zR zI2 zx → ZI (zI2 (zR zy 0)) → ((zI2 zy 23).toInt = 0 ∨ ZI (zI2 (zR zy 24))) → (R3 zR zI2 zx zy) → (RRn zR zI2 zx zy) → (RSH zR zI2 zx zy) → (RIT zR zI2 zx zy) → (RGn zR zI2 zy) → va_P (dC, dI) vwCl (WL cy zL zT zR zI2 zJ2) H → va_D A (WL cy zL zT zR zI2 zJ2) → va_S A s.heap H locs → lv_has ls 4 [(0, .ref b), (1, .ref zx), (2, .ref zy), (3, .int zi9)] → W p l e room_1 s m #[Value.ref b] below meth c H locs 265 67857 Q (F0 m 1785 ls []))
    {H : Heap} {locs : List Loc} {ls : Array Slot} (hP : va_P (dC, dI) vwCl (WL cy zL zT zR zI zJ) H) (hD : va_D A (WL cy zL zT zR zI zJ)) (hS : va_S A s.heap H locs) (hl : lv_has ls 4 [(0, .ref b), (1, .ref zx), (2, .ref zy), (3, .int zi9)]) : W p l e room_1 s m #[Value.ref b] below meth c H locs 265 67857 Q (F0 m 212 ls []) := by
  have h_zI : WM [3400, 10000] AL zT zR zI zI := WM.rf hw
  have t_1 : zT (zR zy 24) = 109 := sk_f hs t_zy (by decide) rfl (by decide)
  have t_2 : zT (zR zy 0) = 100 := sk_f hs t_zy (by decide) rfl (by decide)
  refine lv_aload_n hx hb dL_law_212 rfl (lv_at hl 1 rfl) ?_
  refine lv_aload_n hx hb dL_law_213 rfl (lv_at hl 0 rfl) ?_
  refine lv_iload_n hx hb dL_law_214 rfl (lv_at hl 3 rfl) ?_
  refine lv_iconst (v := 1) hx hb dL_law_215 (by decide) ?_
  refine lv_iadd hx hb dL_law_216 ?_
  refine lv_topi (fun zi_3 ezi_3 => ?_)
  have tzi_3 : zi_3.toInt = zi9.toInt + (1 : Int) := by rw [ezi_3]; exact tiadd (rfl) (show (1 : Int32).toInt = 1 by decide) (by omega) (by omega)
  refine va_sld hx hb hX hbl hbA hS (vp_in_iff.mpr ⟨by omega, by omega⟩) dL_law_217 ?_
  refine lv_topi (fun zi_4 ezi_4 => ?_)
  refine lv_aload_n hx hb dL_law_218 rfl (lv_at hl 0 rfl) ?_
  refine lv_iload_n hx hb dL_law_219 rfl (lv_at hl 3 rfl) ?_
  refine lv_iconst (v := 2) hx hb dL_law_220 (by decide) ?_
  refine lv_iadd hx hb dL_law_221 ?_
  refine lv_topi (fun zi_5 ezi_5 => ?_)
  have tzi_5 : zi_5.toInt = zi9.toInt + (2 : Int) := by rw [ezi_5]; exact tiadd (rfl) (show (2 : Int32).toInt = 2 by decide) (by omega) (by omega)
  refine va_sld hx hb hX hbl hbA hS (vp_in_iff.mpr ⟨by omega, by omega⟩) dL_law_222 ?_
  refine lv_topi (fun zi_6 ezi_6 => ?_)
  refine lv_aload_n hx hb dL_law_223 rfl (lv_at hl 0 rfl) ?_
  refine lv_iload_n hx hb dL_law_224 rfl (lv_at hl 3 rfl) ?_
  refine lv_iconst (v := 3) hx hb dL_law_225 (by decide) ?_
  refine lv_iadd hx hb dL_law_226 ?_
  refine lv_topi (fun zi_7 ezi_7 => ?_)
  have tzi_7 : zi_7.toInt = zi9.toInt + (3 : Int) := by rw [ezi_7]; exact tiadd (rfl) (show (3 : Int32).toInt = 3 by decide) (by omega) (by omega)
  refine va_sld hx hb hX hbl hbA hS (vp_in_iff.mpr ⟨by omega, by omega⟩) dL_law_227 ?_
  refine lv_topi (fun zi_8 ezi_8 => ?_)
  refine hj_i (ws := (WL cy zL zT zR zI zJ)) (w1 := fun (u : (Nat → Nat → Int32)) => (WL cy zL zT zR u zJ)) (va_runV (As := [.int zi_4, .int zi_6, .int zi_8]) (rest := []) ⟨hx, hb, hml, hown, hts⟩ (t_X10_rain l dC dI cy H.size zL zT zR zI zJ zx zi_4 zi_6 zi_8 hs h_zI.1 t_zx hj) (cwV 3 hts gL_law_X10_rain rfl rfl rfl (by decide +kernel) ⟨(Nat.le_of_ble_eq_true rfl), (Nat.le_of_ble_eq_true rfl)⟩) (PRE.v hP hK hD hN (ht_recv hK hP hs t_zx (by decide) rfl rfl)) rfl rfl hl.1 rfl (lv_room (Nat.le_of_ble_eq_true rfl)) dL_law_228 ⟨(Nat.le_of_ble_eq_true rfl), (Nat.le_of_ble_eq_true rfl)⟩) hP hD hS hA (fun zi_9 zI_12 H locs hw_10 hP hD hS => ?_)
  obtain ⟨k_zI_12, ps_13, ps_14, ps_15⟩ : (WM [3400] AL zT zR zI zI_12) ∧ (JX zR zI_12 zx) ∧ (RNok zi_4.toInt zi_6.toInt zi_8.toInt → (zi_9.toInt = (zI (zR (zR (zR (zR zx 0) 0) 0) zi_6.toNatClampNeg) zi_4.toNatClampNeg).toInt ∧ (zI_12 (zR (zR (zR (zR zx 0) 0) 0) zi_6.toNatClampNeg) zi_4.toNatClampNeg).toInt = zi_8.toInt ∧ (∀ a : Nat, zT a = 34 → ∀ j : Nat, ¬ (a = (zR (zR (zR (zR zx 0) 0) 0) zi_6.toNatClampNeg) ∧ j = zi_4.toNatClampNeg) → zI_12 a j = zI a j))) ∧ (¬ (RNok zi_4.toInt zi_6.toInt zi_8.toInt) → (zi_9.toInt = -1001 ∧ zI_12 = zI)) := hw_10
  have h_zI_12 : WM [3400, 10000] AL zT zR zI zI_12 := h_zI.tr k_zI_12 (by decide) (fun _ _ => trivial)
  have hk_16 : (zI_12 zy 23).toInt = 0 ∨ ZI (zI_12 (zR zy 24)) := by rw [k_zI_12.2 zy 23 (Or.inl (by rw [t_zy]; decide)), k_zI_12.2.row t_1 (by decide) (by decide)]; exact hk
  have hsh_zI_12 : RSH zR zI_12 zx zy := RSH.sm hsh hs t_zx t_zy k_zI_12.2 (by decide)
  have hit_zI_12 : RIT zR zI_12 zx zy := RIT.sm hit hs t_zx t_zy k_zI_12.2 (by decide)
  have hrg_zI_12 : RGn zR zI_12 zy := RGn.sm hrg hs t_zy k_zI_12.2 (by decide) (FQR.of (k_zI_12.2.row t_2 (by decide) (by decide)))
  have h3_zI_12 : R3 zR zI_12 zx zy := R3.sm h3 hs t_zx t_zy k_zI_12.2 (by decide) (FQ3.of (k_zI_12.2.row t_2 (by decide) (by decide)))
  have rzi_9 := rng zi_9
  refine lv_pop hx hb dL_law_231 rfl ?_
  refine lv_aload_n hx hb dL_law_232 rfl (lv_at hl 2 rfl) ?_
  refine lv_aload_n hx hb dL_law_233 rfl (lv_at hl 0 rfl) ?_
  refine lv_iload_n hx hb dL_law_234 rfl (lv_at hl 3 rfl) ?_
  refine lv_iconst (v := 1) hx hb dL_law_235 (by decide) ?_
  refine lv_iadd hx hb dL_law_236 ?_
  refine lv_topi (fun zi_17 ezi_17 => ?_)
  have tzi_17 : zi_17.toInt = zi9.toInt + (1 : Int) := by rw [ezi_17]; exact tiadd (rfl) (show (1 : Int32).toInt = 1 by decide) (by omega) (by omega)
  obtain rfl : zi_3 = zi_17 := ezi_3.trans ezi_17.symm
  refine va_sld hx hb hX hbl hbA hS (vp_in_iff.mpr ⟨by omega, by omega⟩) dL_law_237 ?_
  refine lv_topi (fun zi_18 ezi_18 => ?_)
  obtain rfl : zi_4 = zi_18 := ezi_4.trans ezi_18.symm
  refine lv_aload_n hx hb dL_law_238 rfl (lv_at hl 0 rfl) ?_
  refine lv_iload_n hx hb dL_law_239 rfl (lv_at hl 3 rfl) ?_
  refine lv_iconst (v := 2) hx hb dL_law_240 (by decide) ?_
  refine lv_iadd hx hb dL_law_241 ?_
  refine lv_topi (fun zi_19 ezi_19 => ?_)
  have tzi_19 : zi_19.toInt = zi9.toInt + (2 : Int) := by rw [ezi_19]; exact tiadd (rfl) (show (2 : Int32).toInt = 2 by decide) (by omega) (by omega)
  obtain rfl : zi_5 = zi_19 := ezi_5.trans ezi_19.symm
  refine va_sld hx hb hX hbl hbA hS (vp_in_iff.mpr ⟨by omega, by omega⟩) dL_law_242 ?_
  refine lv_topi (fun zi_20 ezi_20 => ?_)
  obtain rfl : zi_6 = zi_20 := ezi_6.trans ezi_20.symm
  refine lv_aload_n hx hb dL_law_243 rfl (lv_at hl 0 rfl) ?_
  refine lv_iload_n hx hb dL_law_244 rfl (lv_at hl 3 rfl) ?_
  refine lv_iconst (v := 3) hx hb dL_law_245 (by decide) ?_
  refine lv_iadd hx hb dL_law_246 ?_
  refine lv_topi (fun zi_21 ezi_21 => ?_)
  have tzi_21 : zi_21.toInt = zi9.toInt + (3 : Int) := by rw [ezi_21]; exact tiadd (rfl) (show (3 : Int32).toInt = 3 by decide) (by omega) (by omega)
  obtain rfl : zi_7 = zi_21 := ezi_7.trans ezi_21.symm
  refine va_sld hx hb hX hbl hbA hS (vp_in_iff.mpr ⟨by omega, by omega⟩) dL_law_247 ?_
  refine lv_topi (fun zi_22 ezi_22 => ?_)
  obtain rfl : zi_8 = zi_22 := ezi_8.trans ezi_22.symm
  have zz_23 : ZI (zI_12 (zR zy 0)) := by rw [(k_zI_12.2.row t_2 (by decide) (by decide))]; exact hz
  refine hj_i (ws := (WL cy zL zT zR zI_12 zJ)) (w1 := fun (u : (Nat → Nat → Int32)) => (WL cy zL zT zR u zJ)) (va_runV (As := [.int zi_4, .int zi_6, .int zi_8]) (rest := []) ⟨hx, hb, hml, hown, hts⟩ (t_X11_rain l dC dI cy H.size zL zT zR zI_12 zJ zy zi_4 zi_6 zi_8 hs h_zI_12.1 t_zy zz_23) (cwV 3 hts gL_law_X11_rain rfl rfl rfl (by decide +kernel) ⟨(Nat.le_of_ble_eq_true rfl), (Nat.le_of_ble_eq_true rfl)⟩) (PRE.v hP hK hD hN (ht_recv hK hP hs t_zy (by decide) rfl rfl)) rfl rfl hl.1 rfl (lv_room (Nat.le_of_ble_eq_true rfl)) dL_law_248 ⟨(Nat.le_of_ble_eq_true rfl), (Nat.le_of_ble_eq_true rfl)⟩) hP hD hS hA (fun zi_24 zI_27 H locs hw_25 hP hD hS => ?_)
  obtain ⟨k_zI_27, ps_28, ps_29, ps_30, ps_31⟩ : (WM [10000] AL zT zR zI_12 zI_27) ∧ (RNok zi_4.toInt zi_6.toInt zi_8.toInt → (zi_24.toInt = zA (zI_12 (zR zy 0)) (20 + 3 * zi_4.toInt + zi_6.toInt) ∧ zA (zI_27 (zR zy 0)) (20 + 3 * zi_4.toInt + zi_6.toInt) = zi_8.toInt ∧ FE (zI_12 (zR zy 0)) (zI_27 (zR zy 0)) (20 + 3 * zi_4.toInt + zi_6.toInt))) ∧ (¬ (RNok zi_4.toInt zi_6.toInt zi_8.toInt) → (zi_24.toInt = -1001 ∧ zI_27 = zI_12)) ∧ (FQ3 (zI_12 (zR zy 0)) (zI_27 (zR zy 0))) ∧ (ZI (zI_27 (zR zy 0))) := hw_25
  have h_zI_27 : WM [3400, 10000] AL zT zR zI zI_27 := h_zI_12.tr k_zI_27 (by decide) (fun _ _ => trivial)
  have j_zI_27 : JX zR zI_27 zx := JX.sm ps_13 hs t_zx k_zI_27.2 (by decide) (by decide)
  have hk_32 : (zI_27 zy 23).toInt = 0 ∨ ZI (zI_27 (zR zy 24)) := by rw [k_zI_27.2 zy 23 (Or.inl (by rw [t_zy]; decide)), k_zI_27.2.row t_1 (by decide) (by decide)]; exact hk_16
  have hsh_zI_27 : RSH zR zI_27 zx zy := RSH.sm hsh_zI_12 hs t_zx t_zy k_zI_27.2 (by decide)
  have hit_zI_27 : RIT zR zI_27 zx zy := RIT.sm hit_zI_12 hs t_zx t_zy k_zI_27.2 (by decide)
  obtain ⟨eq_zI_27, hrr_zI_27⟩ := RN.both hrr hs t_zx t_zy k_zI_12.2 (by decide) ps_14 ps_15 k_zI_27.2 (by decide) ps_28 ps_29
  have hrg_zI_27 : RGn zR zI_27 zy := RGn.rl hrg_zI_12 hs t_zy k_zI_27.2 (by decide) (ZRG.rain (B := True) hrg_zI_12.1 ps_28 (fun h9 => congrFun (ps_29 h9).2 _))
  have h3_zI_27 : R3 zR zI_27 zx zy := R3.sm h3_zI_12 hs t_zx t_zy k_zI_27.2 (by decide) ps_30
  have rzi_24 := rng zi_24
  refine lv_pop hx hb dL_law_251 rfl ?_
  refine lv_goto (tgt := 1785) hx hb dL_law_252 (by decide) ?_
  exact kx _ _ _ _ _ h_zI_27.1 j_zI_27 ps_31 hk_32 h3_zI_27 hrr_zI_27 hsh_zI_27 hit_zI_27 hrg_zI_27 hP hD hS hl
set_option maxHeartbeats 4000000 in
set_option maxRecDepth 100000 in
theorem lw_c1 {p : Program} {l : Launch} {e : Env} {s : State} {m : MethodId} {below : List Frame} {meth : Method} {c : Code} {b L : Nat} {xs : Nat → Int32} {A : Nat → Prop} {Q : State → Prop} (hx : p.tables.exec = Jvm.exec) (hb : c.code = cL_law) (hml : c.maxLocals = 4) (hown : s.vm.findClass RL = some m.cls) (hts : ∀ w ∈ wsL_law, w.before #[Value.ref b] s = true) (hX : va_X b L xs s s.heap) (hbl : b < s.heap.size) (hbA : ¬ A b) (hA : ∀ q : Nat, s.heap.size ≤ q → A q) (hL : L ≤ 3072) (dC : Nat → ClassId) (dI : Nat → Nat → Nat) (cy : Nat → ClassId) (zL : List Nat) (zT : Nat → Nat) (zR : Nat → Nat → Nat) (zI : Nat → Nat → Int32) (zJ : Nat → Nat → Int64) (zx zy : Nat) (zi9 : Int32) (hs : SKP zL zT zR) (hw : WT zT zR zI) (t_zx : zT zx = 11) (t_zy : zT zy = 18) (hj : JX zR zI zx) (hz : ZI (zI (zR zy 0))) (hk : (zI zy 23).toInt = 0 ∨ ZI (zI (zR zy 24))) (h3 : R3 zR zI zx zy) (hrr : RRn zR zI zx zy) (hsh : RSH zR zI zx zy) (hit : RIT zR zI zx zy) (hrg : RGn zR zI zy) (hK : va_K (dC, dI) vwCl (TY cy) s) (hN : N0 s) (b_zi9 : 0 ≤ zi9.toInt ∧ zi9.toInt ≤ 3066) (hi1 : zi9.toInt + 6 ≤ (L : Int))
    (kx : ∀ (zI2 : Nat → Nat → Int32) (zJ2 : Nat → Nat → Int64) (H : Heap) (locs : List Loc) (ls : Array Slot), WT zT zR zI2 → JX zR zI2 zx → ZI (zI2 (zR zy 0)) → ((zI2 zy 23).toInt = 0 ∨ ZI (zI2 (zR zy 24))) → (R3 zR zI2 zx zy) → (RRn zR zI2 zx zy) → (RSH zR zI2 zx zy) → (RIT zR zI2 zx zy) → (RGn zR zI2 zy) → va_P (dC, dI) vwCl (WL cy zL zT zR zI2 zJ2) H → va_D A (WL cy zL zT zR zI2 zJ2) → va_S A s.heap H locs → lv_has ls 4 [(0, .ref b), (1, .ref zx), (2, .ref zy), (3, .int zi9)] → W p l e room_1 s m #[Value.ref b] below meth c H locs 265 67857 Q (F0 m 1785 ls []))
    {H : Heap} {locs : List Loc} {ls : Array Slot} (hP : va_P (dC, dI) vwCl (WL cy zL zT zR zI zJ) H) (hD : va_D A (WL cy zL zT zR zI zJ)) (hS : va_S A s.heap H locs) (hl : lv_has ls 4 [(0, .ref b), (1, .ref zx), (2, .ref zy), (3, .int zi9)]) : W p l e room_1 s m #[Value.ref b] below meth c H locs 265 67857 Q (F0 m 255 ls []) := by
  have h_zI : WM [3400, 10000] AL zT zR zI zI := WM.rf hw
  have t_1 : zT (zR zy 24) = 109 := sk_f hs t_zy (by decide) rfl (by decide)
  have t_2 : zT (zR zy 0) = 100 := sk_f hs t_zy (by decide) rfl (by decide)
  refine lv_aload_n hx hb dL_law_255 rfl (lv_at hl 1 rfl) ?_
  refine lv_aload_n hx hb dL_law_256 rfl (lv_at hl 0 rfl) ?_
  refine lv_iload_n hx hb dL_law_257 rfl (lv_at hl 3 rfl) ?_
  refine lv_iconst (v := 1) hx hb dL_law_258 (by decide) ?_
  refine lv_iadd hx hb dL_law_259 ?_
  refine lv_topi (fun zi_3 ezi_3 => ?_)
  have tzi_3 : zi_3.toInt = zi9.toInt + (1 : Int) := by rw [ezi_3]; exact tiadd (rfl) (show (1 : Int32).toInt = 1 by decide) (by omega) (by omega)
  refine va_sld hx hb hX hbl hbA hS (vp_in_iff.mpr ⟨by omega, by omega⟩) dL_law_260 ?_
  refine lv_topi (fun zi_4 ezi_4 => ?_)
  refine lv_aload_n hx hb dL_law_261 rfl (lv_at hl 0 rfl) ?_
  refine lv_iload_n hx hb dL_law_262 rfl (lv_at hl 3 rfl) ?_
  refine lv_iconst (v := 2) hx hb dL_law_263 (by decide) ?_
  refine lv_iadd hx hb dL_law_264 ?_
  refine lv_topi (fun zi_5 ezi_5 => ?_)
  have tzi_5 : zi_5.toInt = zi9.toInt + (2 : Int) := by rw [ezi_5]; exact tiadd (rfl) (show (2 : Int32).toInt = 2 by decide) (by omega) (by omega)
  refine va_sld hx hb hX hbl hbA hS (vp_in_iff.mpr ⟨by omega, by omega⟩) dL_law_265 ?_
  refine lv_topi (fun zi_6 ezi_6 => ?_)
  refine lv_aload_n hx hb dL_law_266 rfl (lv_at hl 0 rfl) ?_
  refine lv_iload_n hx hb dL_law_267 rfl (lv_at hl 3 rfl) ?_
  refine lv_iconst (v := 3) hx hb dL_law_268 (by decide) ?_
  refine lv_iadd hx hb dL_law_269 ?_
  refine lv_topi (fun zi_7 ezi_7 => ?_)
  have tzi_7 : zi_7.toInt = zi9.toInt + (3 : Int) := by rw [ezi_7]; exact tiadd (rfl) (show (3 : Int32).toInt = 3 by decide) (by omega) (by omega)
  refine va_sld hx hb hX hbl hbA hS (vp_in_iff.mpr ⟨by omega, by omega⟩) dL_law_270 ?_
  refine lv_topi (fun zi_8 ezi_8 => ?_)
  refine lv_aload_n hx hb dL_law_271 rfl (lv_at hl 0 rfl) ?_
  refine lv_iload_n hx hb dL_law_272 rfl (lv_at hl 3 rfl) ?_
  refine lv_iconst (v := 4) hx hb dL_law_273 (by decide) ?_
  refine lv_iadd hx hb dL_law_274 ?_
  refine lv_topi (fun zi_9 ezi_9 => ?_)
  have tzi_9 : zi_9.toInt = zi9.toInt + (4 : Int) := by rw [ezi_9]; exact tiadd (rfl) (show (4 : Int32).toInt = 4 by decide) (by omega) (by omega)
  refine va_sld hx hb hX hbl hbA hS (vp_in_iff.mpr ⟨by omega, by omega⟩) dL_law_275 ?_
  refine lv_topi (fun zi_10 ezi_10 => ?_)
  refine lv_aload_n hx hb dL_law_276 rfl (lv_at hl 0 rfl) ?_
  refine lv_iload_n hx hb dL_law_277 rfl (lv_at hl 3 rfl) ?_
  refine lv_iconst (v := 5) hx hb dL_law_278 (by decide) ?_
  refine lv_iadd hx hb dL_law_279 ?_
  refine lv_topi (fun zi_11 ezi_11 => ?_)
  have tzi_11 : zi_11.toInt = zi9.toInt + (5 : Int) := by rw [ezi_11]; exact tiadd (rfl) (show (5 : Int32).toInt = 5 by decide) (by omega) (by omega)
  refine va_sld hx hb hX hbl hbA hS (vp_in_iff.mpr ⟨by omega, by omega⟩) dL_law_280 ?_
  refine lv_topi (fun zi_12 ezi_12 => ?_)
  refine hj_i (ws := (WL cy zL zT zR zI zJ)) (w1 := fun (u : (Nat → Nat → Int32)) => (WL cy zL zT zR u zJ)) (va_runV (As := [.int zi_4, .int zi_6, .int zi_8, .int zi_10, .int zi_12]) (rest := []) ⟨hx, hb, hml, hown, hts⟩ (t_X10_rains l dC dI cy H.size zL zT zR zI zJ zx zi_4 zi_6 zi_8 zi_10 zi_12 hs h_zI.1 t_zx hj) (cwV 5 hts gL_law_X10_rains rfl rfl rfl (by decide +kernel) ⟨(Nat.le_of_ble_eq_true rfl), (Nat.le_of_ble_eq_true rfl)⟩) (PRE.v hP hK hD hN (ht_recv hK hP hs t_zx (by decide) rfl rfl)) rfl rfl hl.1 rfl (lv_room (Nat.le_of_ble_eq_true rfl)) dL_law_281 ⟨(Nat.le_of_ble_eq_true rfl), (Nat.le_of_ble_eq_true rfl)⟩) hP hD hS hA (fun zi_13 zI_16 H locs hw_14 hP hD hS => ?_)
  obtain ⟨k_zI_16, b_zi_13, ps_17, ps_18, ps_19, ps_20, ps_21⟩ : (WM [3400] AL zT zR zI zI_16) ∧ ((-13) ≤ zi_13.toInt ∧ zi_13.toInt ≤ 24) ∧ (JX zR zI_16 zx) ∧ (¬ (RSok zi_4.toInt zi_6.toInt zi_8.toInt zi_12.toInt) → (zi_13.toInt = -1 ∧ zI_16 = zI)) ∧ (RSok zi_4.toInt zi_6.toInt zi_8.toInt zi_12.toInt → ¬ (RFS (zI (zR (zR zx 5) zi_6.toNatClampNeg) 3).toInt (zI (zR (zR zx 5) zi_6.toNatClampNeg) 1).toInt (zI (zR (zR zx 5) zi_6.toNatClampNeg) 2).toInt zi_8.toInt zi_10.toInt zi_12.toInt) = 0 → (zi_13.toInt = (RFS (zI (zR (zR zx 5) zi_6.toNatClampNeg) 3).toInt (zI (zR (zR zx 5) zi_6.toNatClampNeg) 1).toInt (zI (zR (zR zx 5) zi_6.toNatClampNeg) 2).toInt zi_8.toInt zi_10.toInt zi_12.toInt) ∧ zI_16 = zI)) ∧ (RSok zi_4.toInt zi_6.toInt zi_8.toInt zi_12.toInt → (RFS (zI (zR (zR zx 5) zi_6.toNatClampNeg) 3).toInt (zI (zR (zR zx 5) zi_6.toNatClampNeg) 1).toInt (zI (zR (zR zx 5) zi_6.toNatClampNeg) 2).toInt zi_8.toInt zi_10.toInt zi_12.toInt) = 0 → ¬ MAYS (zI (zR (zR (zR zx 5) zi_6.toNatClampNeg) 0)) zi_4.toInt zi_10.toInt zi_12.toInt → (zi_13.toInt = -2 ∧ zI_16 = zI)) ∧ (RSok zi_4.toInt zi_6.toInt zi_8.toInt zi_12.toInt → (RFS (zI (zR (zR zx 5) zi_6.toNatClampNeg) 3).toInt (zI (zR (zR zx 5) zi_6.toNatClampNeg) 1).toInt (zI (zR (zR zx 5) zi_6.toNatClampNeg) 2).toInt zi_8.toInt zi_10.toInt zi_12.toInt) = 0 → MAYS (zI (zR (zR (zR zx 5) zi_6.toNatClampNeg) 0)) zi_4.toInt zi_10.toInt zi_12.toInt → (zi_13.toInt = zi_12.toInt ∧ RNS zT zI zI_16 (zR (zR (zR (zR zx 0) 0) 0) zi_4.toNatClampNeg) (zI (zR (zR (zR zx 5) zi_6.toNatClampNeg) 0)) zi_10.toInt zi_12.toInt)) := hw_14
  have h_zI_16 : WM [3400, 10000] AL zT zR zI zI_16 := h_zI.tr k_zI_16 (by decide) (fun _ _ => trivial)
  have hk_22 : (zI_16 zy 23).toInt = 0 ∨ ZI (zI_16 (zR zy 24)) := by rw [k_zI_16.2 zy 23 (Or.inl (by rw [t_zy]; decide)), k_zI_16.2.row t_1 (by decide) (by decide)]; exact hk
  have hsh_zI_16 : RSH zR zI_16 zx zy := RSH.sm hsh hs t_zx t_zy k_zI_16.2 (by decide)
  have hit_zI_16 : RIT zR zI_16 zx zy := RIT.sm hit hs t_zx t_zy k_zI_16.2 (by decide)
  have hrg_zI_16 : RGn zR zI_16 zy := RGn.sm hrg hs t_zy k_zI_16.2 (by decide) (FQR.of (k_zI_16.2.row t_2 (by decide) (by decide)))
  have h3_zI_16 : R3 zR zI_16 zx zy := R3.sm h3 hs t_zx t_zy k_zI_16.2 (by decide) (FQ3.of (k_zI_16.2.row t_2 (by decide) (by decide)))
  refine lv_pop hx hb dL_law_284 rfl ?_
  refine lv_aload_n hx hb dL_law_285 rfl (lv_at hl 2 rfl) ?_
  refine lv_aload_n hx hb dL_law_286 rfl (lv_at hl 0 rfl) ?_
  refine lv_iload_n hx hb dL_law_287 rfl (lv_at hl 3 rfl) ?_
  refine lv_iconst (v := 1) hx hb dL_law_288 (by decide) ?_
  refine lv_iadd hx hb dL_law_289 ?_
  refine lv_topi (fun zi_23 ezi_23 => ?_)
  have tzi_23 : zi_23.toInt = zi9.toInt + (1 : Int) := by rw [ezi_23]; exact tiadd (rfl) (show (1 : Int32).toInt = 1 by decide) (by omega) (by omega)
  obtain rfl : zi_3 = zi_23 := ezi_3.trans ezi_23.symm
  refine va_sld hx hb hX hbl hbA hS (vp_in_iff.mpr ⟨by omega, by omega⟩) dL_law_290 ?_
  refine lv_topi (fun zi_24 ezi_24 => ?_)
  obtain rfl : zi_4 = zi_24 := ezi_4.trans ezi_24.symm
  refine lv_aload_n hx hb dL_law_291 rfl (lv_at hl 0 rfl) ?_
  refine lv_iload_n hx hb dL_law_292 rfl (lv_at hl 3 rfl) ?_
  refine lv_iconst (v := 2) hx hb dL_law_293 (by decide) ?_
  refine lv_iadd hx hb dL_law_294 ?_
  refine lv_topi (fun zi_25 ezi_25 => ?_)
  have tzi_25 : zi_25.toInt = zi9.toInt + (2 : Int) := by rw [ezi_25]; exact tiadd (rfl) (show (2 : Int32).toInt = 2 by decide) (by omega) (by omega)
  obtain rfl : zi_5 = zi_25 := ezi_5.trans ezi_25.symm
  refine va_sld hx hb hX hbl hbA hS (vp_in_iff.mpr ⟨by omega, by omega⟩) dL_law_295 ?_
  refine lv_topi (fun zi_26 ezi_26 => ?_)
  obtain rfl : zi_6 = zi_26 := ezi_6.trans ezi_26.symm
  refine lv_aload_n hx hb dL_law_296 rfl (lv_at hl 0 rfl) ?_
  refine lv_iload_n hx hb dL_law_297 rfl (lv_at hl 3 rfl) ?_
  refine lv_iconst (v := 3) hx hb dL_law_298 (by decide) ?_
  refine lv_iadd hx hb dL_law_299 ?_
  refine lv_topi (fun zi_27 ezi_27 => ?_)
  have tzi_27 : zi_27.toInt = zi9.toInt + (3 : Int) := by rw [ezi_27]; exact tiadd (rfl) (show (3 : Int32).toInt = 3 by decide) (by omega) (by omega)
  obtain rfl : zi_7 = zi_27 := ezi_7.trans ezi_27.symm
  refine va_sld hx hb hX hbl hbA hS (vp_in_iff.mpr ⟨by omega, by omega⟩) dL_law_300 ?_
  refine lv_topi (fun zi_28 ezi_28 => ?_)
  obtain rfl : zi_8 = zi_28 := ezi_8.trans ezi_28.symm
  refine lv_aload_n hx hb dL_law_301 rfl (lv_at hl 0 rfl) ?_
  refine lv_iload_n hx hb dL_law_302 rfl (lv_at hl 3 rfl) ?_
  refine lv_iconst (v := 4) hx hb dL_law_303 (by decide) ?_
  refine lv_iadd hx hb dL_law_304 ?_
  refine lv_topi (fun zi_29 ezi_29 => ?_)
  have tzi_29 : zi_29.toInt = zi9.toInt + (4 : Int) := by rw [ezi_29]; exact tiadd (rfl) (show (4 : Int32).toInt = 4 by decide) (by omega) (by omega)
  obtain rfl : zi_9 = zi_29 := ezi_9.trans ezi_29.symm
  refine va_sld hx hb hX hbl hbA hS (vp_in_iff.mpr ⟨by omega, by omega⟩) dL_law_305 ?_
  refine lv_topi (fun zi_30 ezi_30 => ?_)
  obtain rfl : zi_10 = zi_30 := ezi_10.trans ezi_30.symm
  refine lv_aload_n hx hb dL_law_306 rfl (lv_at hl 0 rfl) ?_
  refine lv_iload_n hx hb dL_law_307 rfl (lv_at hl 3 rfl) ?_
  refine lv_iconst (v := 5) hx hb dL_law_308 (by decide) ?_
  refine lv_iadd hx hb dL_law_309 ?_
  refine lv_topi (fun zi_31 ezi_31 => ?_)
  have tzi_31 : zi_31.toInt = zi9.toInt + (5 : Int) := by rw [ezi_31]; exact tiadd (rfl) (show (5 : Int32).toInt = 5 by decide) (by omega) (by omega)
  obtain rfl : zi_11 = zi_31 := ezi_11.trans ezi_31.symm
  refine va_sld hx hb hX hbl hbA hS (vp_in_iff.mpr ⟨by omega, by omega⟩) dL_law_310 ?_
  refine lv_topi (fun zi_32 ezi_32 => ?_)
  obtain rfl : zi_12 = zi_32 := ezi_12.trans ezi_32.symm
  have zz_33 : ZI (zI_16 (zR zy 0)) := by rw [(k_zI_16.2.row t_2 (by decide) (by decide))]; exact hz
  refine hj_i (ws := (WL cy zL zT zR zI_16 zJ)) (w1 := fun (u : (Nat → Nat → Int32)) => (WL cy zL zT zR u zJ)) (va_runV (As := [.int zi_4, .int zi_6, .int zi_8, .int zi_10, .int zi_12]) (rest := []) ⟨hx, hb, hml, hown, hts⟩ (t_X11_rains l dC dI cy H.size zL zT zR zI_16 zJ zy zi_4 zi_6 zi_8 zi_10 zi_12 hs h_zI_16.1 t_zy zz_33) (cwV 5 hts gL_law_X11_rains rfl rfl rfl (by decide +kernel) ⟨(Nat.le_of_ble_eq_true rfl), (Nat.le_of_ble_eq_true rfl)⟩) (PRE.v hP hK hD hN (ht_recv hK hP hs t_zy (by decide) rfl rfl)) rfl rfl hl.1 rfl (lv_room (Nat.le_of_ble_eq_true rfl)) dL_law_311 ⟨(Nat.le_of_ble_eq_true rfl), (Nat.le_of_ble_eq_true rfl)⟩) hP hD hS hA (fun zi_34 zI_37 H locs hw_35 hP hD hS => ?_)
  obtain ⟨k_zI_37, b_zi_34, ps_38, ps_39, ps_40, ps_41, ps_42, ps_43⟩ : (WM [10000] AL zT zR zI_16 zI_37) ∧ ((-13) ≤ zi_34.toInt ∧ zi_34.toInt ≤ 24) ∧ (¬ (RSok zi_4.toInt zi_6.toInt zi_8.toInt zi_12.toInt) → (zi_34.toInt = -1 ∧ zI_37 = zI_16)) ∧ (RSok zi_4.toInt zi_6.toInt zi_8.toInt zi_12.toInt → ¬ (LKS (zI_16 (zR zy 25) zi_6.toNatClampNeg).toInt (zI_16 (zR zy 26) zi_6.toNatClampNeg).toInt zi_8.toInt zi_10.toInt zi_12.toInt) = 0 → (zi_34.toInt = (LKS (zI_16 (zR zy 25) zi_6.toNatClampNeg).toInt (zI_16 (zR zy 26) zi_6.toNatClampNeg).toInt zi_8.toInt zi_10.toInt zi_12.toInt) ∧ zI_37 = zI_16)) ∧ (RSok zi_4.toInt zi_6.toInt zi_8.toInt zi_12.toInt → (LKS (zI_16 (zR zy 25) zi_6.toNatClampNeg).toInt (zI_16 (zR zy 26) zi_6.toNatClampNeg).toInt zi_8.toInt zi_10.toInt zi_12.toInt) = 0 → ¬ MAYZ (zI_16 (zR zy 27)) zi_4.toInt (24 * zi_6.toInt + zi_10.toInt) zi_12.toInt → (zi_34.toInt = -2 ∧ zI_37 = zI_16)) ∧ (RSok zi_4.toInt zi_6.toInt zi_8.toInt zi_12.toInt → (LKS (zI_16 (zR zy 25) zi_6.toNatClampNeg).toInt (zI_16 (zR zy 26) zi_6.toNatClampNeg).toInt zi_8.toInt zi_10.toInt zi_12.toInt) = 0 → MAYZ (zI_16 (zR zy 27)) zi_4.toInt (24 * zi_6.toInt + zi_10.toInt) zi_12.toInt → (zi_34.toInt = zi_12.toInt ∧ RNZ (zI_16 (zR zy 0)) (zI_37 (zR zy 0)) (zI_16 (zR zy 27)) zi_4.toInt (24 * zi_6.toInt + zi_10.toInt) zi_12.toInt)) ∧ (FQ3 (zI_16 (zR zy 0)) (zI_37 (zR zy 0))) ∧ (ZI (zI_37 (zR zy 0))) := hw_35
  have h_zI_37 : WM [3400, 10000] AL zT zR zI zI_37 := h_zI_16.tr k_zI_37 (by decide) (fun _ _ => trivial)
  have j_zI_37 : JX zR zI_37 zx := JX.sm ps_17 hs t_zx k_zI_37.2 (by decide) (by decide)
  have hk_44 : (zI_37 zy 23).toInt = 0 ∨ ZI (zI_37 (zR zy 24)) := by rw [k_zI_37.2 zy 23 (Or.inl (by rw [t_zy]; decide)), k_zI_37.2.row t_1 (by decide) (by decide)]; exact hk_22
  have hsh_zI_37 : RSH zR zI_37 zx zy := RSH.sm hsh_zI_16 hs t_zx t_zy k_zI_37.2 (by decide)
  have hit_zI_37 : RIT zR zI_37 zx zy := RIT.sm hit_zI_16 hs t_zx t_zy k_zI_37.2 (by decide)
  obtain ⟨eq_zI_37, hrr_zI_37⟩ := RS.both hrr hsh hit h_zI.1 hs t_zx t_zy k_zI_16.2 (by decide) ps_18 ps_19 ps_20 ps_21 k_zI_37.2 (by decide) ps_38 ps_39 ps_40 ps_41
  have hrg_zI_37 : RGn zR zI_37 zy := RGn.rains hrg_zI_16 hs t_zy k_zI_37.2 (by decide) ps_38 ps_39 ps_40 ps_41
  have h3_zI_37 : R3 zR zI_37 zx zy := R3.sm h3_zI_16 hs t_zx t_zy k_zI_37.2 (by decide) ps_42
  refine lv_pop hx hb dL_law_314 rfl ?_
  refine lv_goto (tgt := 1785) hx hb dL_law_315 (by decide) ?_
  exact kx _ _ _ _ _ h_zI_37.1 j_zI_37 ps_43 hk_44 h3_zI_37 hrr_zI_37 hsh_zI_37 hit_zI_37 hrg_zI_37 hP hD hS hl
set_option maxHeartbeats 4000000 in
set_option maxRecDepth 100000 in
theorem lw_c2 {p : Program} {l : Launch} {e : Env} {s : State} {m : MethodId} {below : List Frame} {meth : Method} {c : Code} {b L : Nat} {xs : Nat → Int32} {A : Nat → Prop} {Q : State → Prop} (hx : p.tables.exec = Jvm.exec) (hb : c.code = cL_law) (hml : c.maxLocals = 4) (hown : s.vm.findClass RL = some m.cls) (hts : ∀ w ∈ wsL_law, w.before #[Value.ref b] s = true) (hX : va_X b L xs s s.heap) (hbl : b < s.heap.size) (hbA : ¬ A b) (hA : ∀ q : Nat, s.heap.size ≤ q → A q) (hL : L ≤ 3072) (dC : Nat → ClassId) (dI : Nat → Nat → Nat) (cy : Nat → ClassId) (zL : List Nat) (zT : Nat → Nat) (zR : Nat → Nat → Nat) (zI : Nat → Nat → Int32) (zJ : Nat → Nat → Int64) (zx zy : Nat) (zi9 : Int32) (hs : SKP zL zT zR) (hw : WT zT zR zI) (t_zx : zT zx = 11) (t_zy : zT zy = 18) (hj : JX zR zI zx) (hz : ZI (zI (zR zy 0))) (hk : (zI zy 23).toInt = 0 ∨ ZI (zI (zR zy 24))) (h3 : R3 zR zI zx zy) (hrr : RRn zR zI zx zy) (hsh : RSH zR zI zx zy) (hit : RIT zR zI zx zy) (hrg : RGn zR zI zy) (hK : va_K (dC, dI) vwCl (TY cy) s) (hN : N0 s) (b_zi9 : 0 ≤ zi9.toInt ∧ zi9.toInt ≤ 3066) (hi1 : zi9.toInt + 6 ≤ (L : Int))
    (kx : ∀ (zI2 : Nat → Nat → Int32) (zJ2 : Nat → Nat → Int64) (H : Heap) (locs : List Loc) (ls : Array Slot), WT zT zR zI2 → JX zR zI2 zx → ZI (zI2 (zR zy 0)) → ((zI2 zy 23).toInt = 0 ∨ ZI (zI2 (zR zy 24))) → (R3 zR zI2 zx zy) → (RRn zR zI2 zx zy) → (RSH zR zI2 zx zy) → (RIT zR zI2 zx zy) → (RGn zR zI2 zy) → va_P (dC, dI) vwCl (WL cy zL zT zR zI2 zJ2) H → va_D A (WL cy zL zT zR zI2 zJ2) → va_S A s.heap H locs → lv_has ls 4 [(0, .ref b), (1, .ref zx), (2, .ref zy), (3, .int zi9)] → W p l e room_1 s m #[Value.ref b] below meth c H locs 265 67857 Q (F0 m 1785 ls []))
    {H : Heap} {locs : List Loc} {ls : Array Slot} (hP : va_P (dC, dI) vwCl (WL cy zL zT zR zI zJ) H) (hD : va_D A (WL cy zL zT zR zI zJ)) (hS : va_S A s.heap H locs) (hl : lv_has ls 4 [(0, .ref b), (1, .ref zx), (2, .ref zy), (3, .int zi9)]) : W p l e room_1 s m #[Value.ref b] below meth c H locs 265 67857 Q (F0 m 318 ls []) := by
  have h_zI : WM [401, 402, 10000] AL zT zR zI zI := WM.rf hw
  have t_1 : zT (zR zy 24) = 109 := sk_f hs t_zy (by decide) rfl (by decide)
  have t_2 : zT (zR zy 0) = 100 := sk_f hs t_zy (by decide) rfl (by decide)
  refine lv_aload_n hx hb dL_law_318 rfl (lv_at hl 1 rfl) ?_
  refine lv_aload_n hx hb dL_law_319 rfl (lv_at hl 0 rfl) ?_
  refine lv_iload_n hx hb dL_law_320 rfl (lv_at hl 3 rfl) ?_
  refine lv_iconst (v := 1) hx hb dL_law_321 (by decide) ?_
  refine lv_iadd hx hb dL_law_322 ?_
  refine lv_topi (fun zi_3 ezi_3 => ?_)
  have tzi_3 : zi_3.toInt = zi9.toInt + (1 : Int) := by rw [ezi_3]; exact tiadd (rfl) (show (1 : Int32).toInt = 1 by decide) (by omega) (by omega)
  refine va_sld hx hb hX hbl hbA hS (vp_in_iff.mpr ⟨by omega, by omega⟩) dL_law_323 ?_
  refine lv_topi (fun zi_4 ezi_4 => ?_)
  refine lv_aload_n hx hb dL_law_324 rfl (lv_at hl 0 rfl) ?_
  refine lv_iload_n hx hb dL_law_325 rfl (lv_at hl 3 rfl) ?_
  refine lv_iconst (v := 2) hx hb dL_law_326 (by decide) ?_
  refine lv_iadd hx hb dL_law_327 ?_
  refine lv_topi (fun zi_5 ezi_5 => ?_)
  have tzi_5 : zi_5.toInt = zi9.toInt + (2 : Int) := by rw [ezi_5]; exact tiadd (rfl) (show (2 : Int32).toInt = 2 by decide) (by omega) (by omega)
  refine va_sld hx hb hX hbl hbA hS (vp_in_iff.mpr ⟨by omega, by omega⟩) dL_law_328 ?_
  refine lv_topi (fun zi_6 ezi_6 => ?_)
  refine hj_i (ws := (WL cy zL zT zR zI zJ)) (w1 := fun (u : (Nat → Nat → Int32)) => (WL cy zL zT zR u zJ)) (va_runV (As := [.int zi_4, .int zi_6]) (rest := []) ⟨hx, hb, hml, hown, hts⟩ (t_X10_set l dC dI cy H.size zL zT zR zI zJ zx zi_4 zi_6 hs h_zI.1 t_zx hj) (cwV 2 hts gL_law_X10_set rfl rfl rfl (by decide +kernel) ⟨(Nat.le_of_ble_eq_true rfl), (Nat.le_of_ble_eq_true rfl)⟩) (PRE.v hP hK hD hN (ht_recv hK hP hs t_zx (by decide) rfl rfl)) rfl rfl hl.1 rfl (lv_room (Nat.le_of_ble_eq_true rfl)) dL_law_329 ⟨(Nat.le_of_ble_eq_true rfl), (Nat.le_of_ble_eq_true rfl)⟩) hP hD hS hA (fun zi_7 zI_10 H locs hw_8 hP hD hS => ?_)
  obtain ⟨k_zI_10, b_zi_7, ps_11, ps_12, ps_13⟩ : (WM [401, 402] AL zT zR zI zI_10) ∧ ((-1) ≤ zi_7.toInt ∧ zi_7.toInt ≤ 9) ∧ (JX zR zI_10 zx) ∧ (STok zi_4.toInt zi_6.toInt → ((zi_4.toInt = 0 ∧ zi_7.toInt = (zI (zR (zR zx 0) 0) 1).toInt ∧ (zI_10 (zR (zR zx 0) 0) 1).toInt = zi_6.toInt ∧ zI_10 (zR (zR zx 0) 0) 2 = zI (zR (zR zx 0) 0) 2) ∨ (zi_4.toInt = 1 ∧ zi_7.toInt = (zI (zR (zR zx 0) 0) 2).toInt ∧ (zI_10 (zR (zR zx 0) 0) 2).toInt = zi_6.toInt ∧ zI_10 (zR (zR zx 0) 0) 1 = zI (zR (zR zx 0) 0) 1))) ∧ (¬ (STok zi_4.toInt zi_6.toInt) → (zi_7.toInt = -1 ∧ zI_10 = zI)) := hw_8
  have h_zI_10 : WM [401, 402, 10000] AL zT zR zI zI_10 := h_zI.tr k_zI_10 (by decide) (fun _ _ => trivial)
  have hk_14 : (zI_10 zy 23).toInt = 0 ∨ ZI (zI_10 (zR zy 24)) := by rw [k_zI_10.2 zy 23 (Or.inl (by rw [t_zy]; decide)), k_zI_10.2.row t_1 (by decide) (by decide)]; exact hk
  have hsh_zI_10 : RSH zR zI_10 zx zy := RSH.sm hsh hs t_zx t_zy k_zI_10.2 (by decide)
  have hit_zI_10 : RIT zR zI_10 zx zy := RIT.sm hit hs t_zx t_zy k_zI_10.2 (by decide)
  have hrr_zI_10 : RRn zR zI_10 zx zy := RRn.sm hrr hs t_zx t_zy k_zI_10.2 (by decide) (FQR.of (k_zI_10.2.row t_2 (by decide) (by decide)))
  have hrg_zI_10 : RGn zR zI_10 zy := RGn.sm hrg hs t_zy k_zI_10.2 (by decide) (FQR.of (k_zI_10.2.row t_2 (by decide) (by decide)))
  refine lv_pop hx hb dL_law_332 rfl ?_
  refine lv_aload_n hx hb dL_law_333 rfl (lv_at hl 2 rfl) ?_
  refine lv_aload_n hx hb dL_law_334 rfl (lv_at hl 0 rfl) ?_
  refine lv_iload_n hx hb dL_law_335 rfl (lv_at hl 3 rfl) ?_
  refine lv_iconst (v := 1) hx hb dL_law_336 (by decide) ?_
  refine lv_iadd hx hb dL_law_337 ?_
  refine lv_topi (fun zi_15 ezi_15 => ?_)
  have tzi_15 : zi_15.toInt = zi9.toInt + (1 : Int) := by rw [ezi_15]; exact tiadd (rfl) (show (1 : Int32).toInt = 1 by decide) (by omega) (by omega)
  obtain rfl : zi_3 = zi_15 := ezi_3.trans ezi_15.symm
  refine va_sld hx hb hX hbl hbA hS (vp_in_iff.mpr ⟨by omega, by omega⟩) dL_law_338 ?_
  refine lv_topi (fun zi_16 ezi_16 => ?_)
  obtain rfl : zi_4 = zi_16 := ezi_4.trans ezi_16.symm
  refine lv_aload_n hx hb dL_law_339 rfl (lv_at hl 0 rfl) ?_
  refine lv_iload_n hx hb dL_law_340 rfl (lv_at hl 3 rfl) ?_
  refine lv_iconst (v := 2) hx hb dL_law_341 (by decide) ?_
  refine lv_iadd hx hb dL_law_342 ?_
  refine lv_topi (fun zi_17 ezi_17 => ?_)
  have tzi_17 : zi_17.toInt = zi9.toInt + (2 : Int) := by rw [ezi_17]; exact tiadd (rfl) (show (2 : Int32).toInt = 2 by decide) (by omega) (by omega)
  obtain rfl : zi_5 = zi_17 := ezi_5.trans ezi_17.symm
  refine va_sld hx hb hX hbl hbA hS (vp_in_iff.mpr ⟨by omega, by omega⟩) dL_law_343 ?_
  refine lv_topi (fun zi_18 ezi_18 => ?_)
  obtain rfl : zi_6 = zi_18 := ezi_6.trans ezi_18.symm
  have zz_19 : ZI (zI_10 (zR zy 0)) := by rw [(k_zI_10.2.row t_2 (by decide) (by decide))]; exact hz
  refine hj_i (ws := (WL cy zL zT zR zI_10 zJ)) (w1 := fun (u : (Nat → Nat → Int32)) => (WL cy zL zT zR u zJ)) (va_runV (As := [.int zi_4, .int zi_6]) (rest := []) ⟨hx, hb, hml, hown, hts⟩ (t_X11_set l dC dI cy H.size zL zT zR zI_10 zJ zy zi_4 zi_6 hs h_zI_10.1 t_zy zz_19) (cwV 2 hts gL_law_X11_set rfl rfl rfl (by decide +kernel) ⟨(Nat.le_of_ble_eq_true rfl), (Nat.le_of_ble_eq_true rfl)⟩) (PRE.v hP hK hD hN (ht_recv hK hP hs t_zy (by decide) rfl rfl)) rfl rfl hl.1 rfl (lv_room (Nat.le_of_ble_eq_true rfl)) dL_law_344 ⟨(Nat.le_of_ble_eq_true rfl), (Nat.le_of_ble_eq_true rfl)⟩) hP hD hS hA (fun zi_20 zI_23 H locs hw_21 hP hD hS => ?_)
  obtain ⟨k_zI_23, b_zi_20, ps_24, ps_25, ps_26⟩ : (WM [10000] AL zT zR zI_10 zI_23) ∧ ((-1) ≤ zi_20.toInt ∧ zi_20.toInt ≤ 9) ∧ (STok zi_4.toInt zi_6.toInt → (zi_20.toInt = zA (zI_10 (zR zy 0)) (zi_4.toInt) ∧ zA (zI_23 (zR zy 0)) (zi_4.toInt) = zi_6.toInt ∧ FE (zI_10 (zR zy 0)) (zI_23 (zR zy 0)) (zi_4.toInt))) ∧ (¬ (STok zi_4.toInt zi_6.toInt) → (zi_20.toInt = -1 ∧ zI_23 = zI_10)) ∧ (ZI (zI_23 (zR zy 0))) := hw_21
  have h_zI_23 : WM [401, 402, 10000] AL zT zR zI zI_23 := h_zI_10.tr k_zI_23 (by decide) (fun _ _ => trivial)
  have j_zI_23 : JX zR zI_23 zx := JX.sm ps_11 hs t_zx k_zI_23.2 (by decide) (by decide)
  have hk_27 : (zI_23 zy 23).toInt = 0 ∨ ZI (zI_23 (zR zy 24)) := by rw [k_zI_23.2 zy 23 (Or.inl (by rw [t_zy]; decide)), k_zI_23.2.row t_1 (by decide) (by decide)]; exact hk_14
  have hsh_zI_23 : RSH zR zI_23 zx zy := RSH.sm hsh_zI_10 hs t_zx t_zy k_zI_23.2 (by decide)
  have hit_zI_23 : RIT zR zI_23 zx zy := RIT.sm hit_zI_10 hs t_zx t_zy k_zI_23.2 (by decide)
  have hrr_zI_23 : RRn zR zI_23 zx zy := RRn.sm hrr_zI_10 hs t_zx t_zy k_zI_23.2 (by decide) (fqr_of (P := STok zi_4.toInt zi_6.toInt) (fun h9 => ⟨(ps_24 h9).2.2, by unfold STok at h9; omega⟩) (fun h9 => congrFun (ps_25 h9).2 _))
  have hrg_zI_23 : RGn zR zI_23 zy := RGn.sm hrg_zI_10 hs t_zy k_zI_23.2 (by decide) (fqr_of (P := STok zi_4.toInt zi_6.toInt) (fun h9 => ⟨(ps_24 h9).2.2, by unfold STok at h9; omega⟩) (fun h9 => congrFun (ps_25 h9).2 _))
  obtain ⟨eq_zI_23, h3_zI_23⟩ := ST.both h3 hs t_zx t_zy k_zI_10.2 (by decide) ps_12 ps_13 k_zI_23.2 (by decide) ps_24 ps_25
  refine lv_pop hx hb dL_law_347 rfl ?_
  refine lv_goto (tgt := 1785) hx hb dL_law_348 (by decide) ?_
  exact kx _ _ _ _ _ h_zI_23.1 j_zI_23 ps_26 hk_27 h3_zI_23 hrr_zI_23 hsh_zI_23 hit_zI_23 hrg_zI_23 hP hD hS hl
set_option maxHeartbeats 4000000 in
set_option maxRecDepth 100000 in
theorem lw_c3 {p : Program} {l : Launch} {e : Env} {s : State} {m : MethodId} {below : List Frame} {meth : Method} {c : Code} {b L : Nat} {xs : Nat → Int32} {A : Nat → Prop} {Q : State → Prop} (hx : p.tables.exec = Jvm.exec) (hb : c.code = cL_law) (hml : c.maxLocals = 4) (hown : s.vm.findClass RL = some m.cls) (hts : ∀ w ∈ wsL_law, w.before #[Value.ref b] s = true) (hX : va_X b L xs s s.heap) (hbl : b < s.heap.size) (hbA : ¬ A b) (hA : ∀ q : Nat, s.heap.size ≤ q → A q) (hL : L ≤ 3072) (dC : Nat → ClassId) (dI : Nat → Nat → Nat) (cy : Nat → ClassId) (zL : List Nat) (zT : Nat → Nat) (zR : Nat → Nat → Nat) (zI : Nat → Nat → Int32) (zJ : Nat → Nat → Int64) (zx zy : Nat) (zi9 : Int32) (hs : SKP zL zT zR) (hw : WT zT zR zI) (t_zx : zT zx = 11) (t_zy : zT zy = 18) (hj : JX zR zI zx) (hz : ZI (zI (zR zy 0))) (hk : (zI zy 23).toInt = 0 ∨ ZI (zI (zR zy 24))) (h3 : R3 zR zI zx zy) (hrr : RRn zR zI zx zy) (hsh : RSH zR zI zx zy) (hit : RIT zR zI zx zy) (hrg : RGn zR zI zy) (hK : va_K (dC, dI) vwCl (TY cy) s) (hN : N0 s) (b_zi9 : 0 ≤ zi9.toInt ∧ zi9.toInt ≤ 3066) (hi1 : zi9.toInt + 6 ≤ (L : Int))
    (kx : ∀ (zI2 : Nat → Nat → Int32) (zJ2 : Nat → Nat → Int64) (H : Heap) (locs : List Loc) (ls : Array Slot), WT zT zR zI2 → JX zR zI2 zx → ZI (zI2 (zR zy 0)) → ((zI2 zy 23).toInt = 0 ∨ ZI (zI2 (zR zy 24))) → (R3 zR zI2 zx zy) → (RRn zR zI2 zx zy) → (RSH zR zI2 zx zy) → (RIT zR zI2 zx zy) → (RGn zR zI2 zy) → va_P (dC, dI) vwCl (WL cy zL zT zR zI2 zJ2) H → va_D A (WL cy zL zT zR zI2 zJ2) → va_S A s.heap H locs → lv_has ls 4 [(0, .ref b), (1, .ref zx), (2, .ref zy), (3, .int zi9)] → W p l e room_1 s m #[Value.ref b] below meth c H locs 265 67857 Q (F0 m 1785 ls []))
    {H : Heap} {locs : List Loc} {ls : Array Slot} (hP : va_P (dC, dI) vwCl (WL cy zL zT zR zI zJ) H) (hD : va_D A (WL cy zL zT zR zI zJ)) (hS : va_S A s.heap H locs) (hl : lv_has ls 4 [(0, .ref b), (1, .ref zx), (2, .ref zy), (3, .int zi9)]) : W p l e room_1 s m #[Value.ref b] below meth c H locs 265 67857 Q (F0 m 351 ls []) := by
  have h_zI : WM [] AL zT zR zI zI := WM.rf hw
  have t_1 : zT (zR zy 24) = 109 := sk_f hs t_zy (by decide) rfl (by decide)
  have t_2 : zT (zR zy 0) = 100 := sk_f hs t_zy (by decide) rfl (by decide)
  refine lv_aload_n hx hb dL_law_351 rfl (lv_at hl 1 rfl) ?_
  refine lv_aload_n hx hb dL_law_352 rfl (lv_at hl 0 rfl) ?_
  refine lv_iload_n hx hb dL_law_353 rfl (lv_at hl 3 rfl) ?_
  refine lv_iconst (v := 1) hx hb dL_law_354 (by decide) ?_
  refine lv_iadd hx hb dL_law_355 ?_
  refine lv_topi (fun zi_3 ezi_3 => ?_)
  have tzi_3 : zi_3.toInt = zi9.toInt + (1 : Int) := by rw [ezi_3]; exact tiadd (rfl) (show (1 : Int32).toInt = 1 by decide) (by omega) (by omega)
  refine va_sld hx hb hX hbl hbA hS (vp_in_iff.mpr ⟨by omega, by omega⟩) dL_law_356 ?_
  refine lv_topi (fun zi_4 ezi_4 => ?_)
  refine hj_i (ws := (WL cy zL zT zR zI zJ)) (w1 := fun (u : Unit) => (WL cy zL zT zR zI zJ)) (va_runV (As := [.int zi_4]) (rest := []) ⟨hx, hb, hml, hown, hts⟩ (t_X10_wet l dC dI cy H.size zL zT zR zI zJ zx zi_4 hs h_zI.1 t_zx hj) (cwV 1 hts gL_law_X10_wet rfl rfl rfl (by decide +kernel) ⟨(Nat.le_of_ble_eq_true rfl), (Nat.le_of_ble_eq_true rfl)⟩) (PRE.v hP hK hD hN (ht_recv hK hP hs t_zx (by decide) rfl rfl)) rfl rfl hl.1 rfl (lv_room (Nat.le_of_ble_eq_true rfl)) dL_law_357 ⟨(Nat.le_of_ble_eq_true rfl), (Nat.le_of_ble_eq_true rfl)⟩) hP hD hS hA (fun zi_5 u_7 H locs hw_6 hP hD hS => ?_)
  obtain ⟨ps_8, ps_9, ps_10⟩ : (JX zR zI zx) ∧ (¬ (0 ≤ zi_4.toInt ∧ zi_4.toInt ≤ 23) → zi_5.toInt = -1) ∧ ((0 ≤ zi_4.toInt ∧ zi_4.toInt ≤ 23) → zi_5 = WTC (zI (zR (zR (zR (zR zx 0) 0) 0) 0)) zi_4.toInt (zI (zR (zR zx 0) 0) 1).toInt) := hw_6
  have rzi_5 := rng zi_5
  refine lv_pop hx hb dL_law_360 rfl ?_
  refine lv_aload_n hx hb dL_law_361 rfl (lv_at hl 2 rfl) ?_
  refine lv_aload_n hx hb dL_law_362 rfl (lv_at hl 0 rfl) ?_
  refine lv_iload_n hx hb dL_law_363 rfl (lv_at hl 3 rfl) ?_
  refine lv_iconst (v := 1) hx hb dL_law_364 (by decide) ?_
  refine lv_iadd hx hb dL_law_365 ?_
  refine lv_topi (fun zi_11 ezi_11 => ?_)
  have tzi_11 : zi_11.toInt = zi9.toInt + (1 : Int) := by rw [ezi_11]; exact tiadd (rfl) (show (1 : Int32).toInt = 1 by decide) (by omega) (by omega)
  obtain rfl : zi_3 = zi_11 := ezi_3.trans ezi_11.symm
  refine va_sld hx hb hX hbl hbA hS (vp_in_iff.mpr ⟨by omega, by omega⟩) dL_law_366 ?_
  refine lv_topi (fun zi_12 ezi_12 => ?_)
  obtain rfl : zi_4 = zi_12 := ezi_4.trans ezi_12.symm
  refine hj_i (ws := (WL cy zL zT zR zI zJ)) (w1 := fun (u : Unit) => (WL cy zL zT zR zI zJ)) (va_runV (As := [.int zi_4]) (rest := []) ⟨hx, hb, hml, hown, hts⟩ (t_X11_wet l dC dI cy H.size zL zT zR zI zJ zy zi_4 hs h_zI.1 t_zy hz) (cwV 1 hts gL_law_X11_wet rfl rfl rfl (by decide +kernel) ⟨(Nat.le_of_ble_eq_true rfl), (Nat.le_of_ble_eq_true rfl)⟩) (PRE.v hP hK hD hN (ht_recv hK hP hs t_zy (by decide) rfl rfl)) rfl rfl hl.1 rfl (lv_room (Nat.le_of_ble_eq_true rfl)) dL_law_367 ⟨(Nat.le_of_ble_eq_true rfl), (Nat.le_of_ble_eq_true rfl)⟩) hP hD hS hA (fun zi_13 u_15 H locs hw_14 hP hD hS => ?_)
  obtain ⟨ps_16, ps_17⟩ : (¬ (0 ≤ zi_4.toInt ∧ zi_4.toInt ≤ 23) → zi_13.toInt = -1) ∧ ((0 ≤ zi_4.toInt ∧ zi_4.toInt ≤ 23) → zi_13 = WS (zI (zR zy 0)) (zA (zI (zR zy 0)) (0)).toNat zi_4.toInt 0) := hw_14
  have rzi_13 := rng zi_13
  refine lv_pop hx hb dL_law_370 rfl ?_
  refine lv_goto (tgt := 1785) hx hb dL_law_371 (by decide) ?_
  exact kx _ _ _ _ _ h_zI.1 ps_8 hz hk h3 hrr hsh hit hrg hP hD hS hl
set_option maxHeartbeats 4000000 in
set_option maxRecDepth 100000 in
theorem lw_c4 {p : Program} {l : Launch} {e : Env} {s : State} {m : MethodId} {below : List Frame} {meth : Method} {c : Code} {b L : Nat} {xs : Nat → Int32} {A : Nat → Prop} {Q : State → Prop} (hx : p.tables.exec = Jvm.exec) (hb : c.code = cL_law) (hml : c.maxLocals = 4) (hown : s.vm.findClass RL = some m.cls) (hts : ∀ w ∈ wsL_law, w.before #[Value.ref b] s = true) (hX : va_X b L xs s s.heap) (hbl : b < s.heap.size) (hbA : ¬ A b) (hA : ∀ q : Nat, s.heap.size ≤ q → A q) (hL : L ≤ 3072) (dC : Nat → ClassId) (dI : Nat → Nat → Nat) (cy : Nat → ClassId) (zL : List Nat) (zT : Nat → Nat) (zR : Nat → Nat → Nat) (zI : Nat → Nat → Int32) (zJ : Nat → Nat → Int64) (zx zy : Nat) (zi9 : Int32) (hs : SKP zL zT zR) (hw : WT zT zR zI) (t_zx : zT zx = 11) (t_zy : zT zy = 18) (hj : JX zR zI zx) (hz : ZI (zI (zR zy 0))) (hk : (zI zy 23).toInt = 0 ∨ ZI (zI (zR zy 24))) (h3 : R3 zR zI zx zy) (hrr : RRn zR zI zx zy) (hsh : RSH zR zI zx zy) (hit : RIT zR zI zx zy) (hrg : RGn zR zI zy) (hK : va_K (dC, dI) vwCl (TY cy) s) (hN : N0 s) (b_zi9 : 0 ≤ zi9.toInt ∧ zi9.toInt ≤ 3066) (hi1 : zi9.toInt + 6 ≤ (L : Int))
    (kx : ∀ (zI2 : Nat → Nat → Int32) (zJ2 : Nat → Nat → Int64) (H : Heap) (locs : List Loc) (ls : Array Slot), WT zT zR zI2 → JX zR zI2 zx → ZI (zI2 (zR zy 0)) → ((zI2 zy 23).toInt = 0 ∨ ZI (zI2 (zR zy 24))) → (R3 zR zI2 zx zy) → (RRn zR zI2 zx zy) → (RSH zR zI2 zx zy) → (RIT zR zI2 zx zy) → (RGn zR zI2 zy) → va_P (dC, dI) vwCl (WL cy zL zT zR zI2 zJ2) H → va_D A (WL cy zL zT zR zI2 zJ2) → va_S A s.heap H locs → lv_has ls 4 [(0, .ref b), (1, .ref zx), (2, .ref zy), (3, .int zi9)] → W p l e room_1 s m #[Value.ref b] below meth c H locs 265 67857 Q (F0 m 1785 ls []))
    {H : Heap} {locs : List Loc} {ls : Array Slot} (hP : va_P (dC, dI) vwCl (WL cy zL zT zR zI zJ) H) (hD : va_D A (WL cy zL zT zR zI zJ)) (hS : va_S A s.heap H locs) (hl : lv_has ls 4 [(0, .ref b), (1, .ref zx), (2, .ref zy), (3, .int zi9)]) : W p l e room_1 s m #[Value.ref b] below meth c H locs 265 67857 Q (F0 m 374 ls []) := by
  have h_zI : WM [] AL zT zR zI zI := WM.rf hw
  have t_1 : zT (zR zy 24) = 109 := sk_f hs t_zy (by decide) rfl (by decide)
  have t_2 : zT (zR zy 0) = 100 := sk_f hs t_zy (by decide) rfl (by decide)
  refine lv_aload_n hx hb dL_law_374 rfl (lv_at hl 1 rfl) ?_
  refine lv_aload_n hx hb dL_law_375 rfl (lv_at hl 0 rfl) ?_
  refine lv_iload_n hx hb dL_law_376 rfl (lv_at hl 3 rfl) ?_
  refine lv_iconst (v := 1) hx hb dL_law_377 (by decide) ?_
  refine lv_iadd hx hb dL_law_378 ?_
  refine lv_topi (fun zi_3 ezi_3 => ?_)
  have tzi_3 : zi_3.toInt = zi9.toInt + (1 : Int) := by rw [ezi_3]; exact tiadd (rfl) (show (1 : Int32).toInt = 1 by decide) (by omega) (by omega)
  refine va_sld hx hb hX hbl hbA hS (vp_in_iff.mpr ⟨by omega, by omega⟩) dL_law_379 ?_
  refine lv_topi (fun zi_4 ezi_4 => ?_)
  refine hj_i (ws := (WL cy zL zT zR zI zJ)) (w1 := fun (u : Unit) => (WL cy zL zT zR zI zJ)) (va_runV (As := [.int zi_4]) (rest := []) ⟨hx, hb, hml, hown, hts⟩ (t_X10_water l dC dI cy H.size zL zT zR zI zJ zx zi_4 hs h_zI.1 t_zx hj) (cwV 1 hts gL_law_X10_water rfl rfl rfl (by decide +kernel) ⟨(Nat.le_of_ble_eq_true rfl), (Nat.le_of_ble_eq_true rfl)⟩) (PRE.v hP hK hD hN (ht_recv hK hP hs t_zx (by decide) rfl rfl)) rfl rfl hl.1 rfl (lv_room (Nat.le_of_ble_eq_true rfl)) dL_law_380 ⟨(Nat.le_of_ble_eq_true rfl), (Nat.le_of_ble_eq_true rfl)⟩) hP hD hS hA (fun zi_5 u_7 H locs hw_6 hP hD hS => ?_)
  obtain ⟨ps_8, ps_9, ps_10⟩ : (JX zR zI zx) ∧ (¬ (0 ≤ zi_4.toInt ∧ zi_4.toInt ≤ 23) → zi_5.toInt = -1001) ∧ ((0 ≤ zi_4.toInt ∧ zi_4.toInt ≤ 23) → zi_5 = WRC (zI (zR (zR (zR (zR zx 0) 0) 0) 0)) (zI (zR (zR (zR (zR zx 0) 0) 0) 1)) zi_4.toInt (zI (zR (zR zx 0) 0) 1).toInt) := hw_6
  have rzi_5 := rng zi_5
  refine lv_pop hx hb dL_law_383 rfl ?_
  refine lv_aload_n hx hb dL_law_384 rfl (lv_at hl 2 rfl) ?_
  refine lv_aload_n hx hb dL_law_385 rfl (lv_at hl 0 rfl) ?_
  refine lv_iload_n hx hb dL_law_386 rfl (lv_at hl 3 rfl) ?_
  refine lv_iconst (v := 1) hx hb dL_law_387 (by decide) ?_
  refine lv_iadd hx hb dL_law_388 ?_
  refine lv_topi (fun zi_11 ezi_11 => ?_)
  have tzi_11 : zi_11.toInt = zi9.toInt + (1 : Int) := by rw [ezi_11]; exact tiadd (rfl) (show (1 : Int32).toInt = 1 by decide) (by omega) (by omega)
  obtain rfl : zi_3 = zi_11 := ezi_3.trans ezi_11.symm
  refine va_sld hx hb hX hbl hbA hS (vp_in_iff.mpr ⟨by omega, by omega⟩) dL_law_389 ?_
  refine lv_topi (fun zi_12 ezi_12 => ?_)
  obtain rfl : zi_4 = zi_12 := ezi_4.trans ezi_12.symm
  refine hj_i (ws := (WL cy zL zT zR zI zJ)) (w1 := fun (u : Unit) => (WL cy zL zT zR zI zJ)) (va_runV (As := [.int zi_4]) (rest := []) ⟨hx, hb, hml, hown, hts⟩ (t_X11_water l dC dI cy H.size zL zT zR zI zJ zy zi_4 hs h_zI.1 t_zy hz) (cwV 1 hts gL_law_X11_water rfl rfl rfl (by decide +kernel) ⟨(Nat.le_of_ble_eq_true rfl), (Nat.le_of_ble_eq_true rfl)⟩) (PRE.v hP hK hD hN (ht_recv hK hP hs t_zy (by decide) rfl rfl)) rfl rfl hl.1 rfl (lv_room (Nat.le_of_ble_eq_true rfl)) dL_law_390 ⟨(Nat.le_of_ble_eq_true rfl), (Nat.le_of_ble_eq_true rfl)⟩) hP hD hS hA (fun zi_13 u_15 H locs hw_14 hP hD hS => ?_)
  obtain ⟨ps_16, ps_17⟩ : (¬ (0 ≤ zi_4.toInt ∧ zi_4.toInt ≤ 23) → zi_13.toInt = -1001) ∧ ((0 ≤ zi_4.toInt ∧ zi_4.toInt ≤ 23) → zi_13 = WRZ (zI (zR zy 0)) (zA (zI (zR zy 0)) (0)).toNat zi_4.toInt) := hw_14
  have rzi_13 := rng zi_13
  refine lv_pop hx hb dL_law_393 rfl ?_
  refine lv_goto (tgt := 1785) hx hb dL_law_394 (by decide) ?_
  exact kx _ _ _ _ _ h_zI.1 ps_8 hz hk h3 hrr hsh hit hrg hP hD hS hl
set_option maxHeartbeats 4000000 in
set_option maxRecDepth 100000 in
theorem lw_c5 {p : Program} {l : Launch} {e : Env} {s : State} {m : MethodId} {below : List Frame} {meth : Method} {c : Code} {b L : Nat} {xs : Nat → Int32} {A : Nat → Prop} {Q : State → Prop} (hx : p.tables.exec = Jvm.exec) (hb : c.code = cL_law) (hml : c.maxLocals = 4) (hown : s.vm.findClass RL = some m.cls) (hts : ∀ w ∈ wsL_law, w.before #[Value.ref b] s = true) (hX : va_X b L xs s s.heap) (hbl : b < s.heap.size) (hbA : ¬ A b) (hA : ∀ q : Nat, s.heap.size ≤ q → A q) (hL : L ≤ 3072) (dC : Nat → ClassId) (dI : Nat → Nat → Nat) (cy : Nat → ClassId) (zL : List Nat) (zT : Nat → Nat) (zR : Nat → Nat → Nat) (zI : Nat → Nat → Int32) (zJ : Nat → Nat → Int64) (zx zy : Nat) (zi9 : Int32) (hs : SKP zL zT zR) (hw : WT zT zR zI) (t_zx : zT zx = 11) (t_zy : zT zy = 18) (hj : JX zR zI zx) (hz : ZI (zI (zR zy 0))) (hk : (zI zy 23).toInt = 0 ∨ ZI (zI (zR zy 24))) (h3 : R3 zR zI zx zy) (hrr : RRn zR zI zx zy) (hsh : RSH zR zI zx zy) (hit : RIT zR zI zx zy) (hrg : RGn zR zI zy) (hK : va_K (dC, dI) vwCl (TY cy) s) (hN : N0 s) (b_zi9 : 0 ≤ zi9.toInt ∧ zi9.toInt ≤ 3066) (hi1 : zi9.toInt + 6 ≤ (L : Int))
    (kx : ∀ (zI2 : Nat → Nat → Int32) (zJ2 : Nat → Nat → Int64) (H : Heap) (locs : List Loc) (ls : Array Slot), WT zT zR zI2 → JX zR zI2 zx → ZI (zI2 (zR zy 0)) → ((zI2 zy 23).toInt = 0 ∨ ZI (zI2 (zR zy 24))) → (R3 zR zI2 zx zy) → (RRn zR zI2 zx zy) → (RSH zR zI2 zx zy) → (RIT zR zI2 zx zy) → (RGn zR zI2 zy) → va_P (dC, dI) vwCl (WL cy zL zT zR zI2 zJ2) H → va_D A (WL cy zL zT zR zI2 zJ2) → va_S A s.heap H locs → lv_has ls 4 [(0, .ref b), (1, .ref zx), (2, .ref zy), (3, .int zi9)] → W p l e room_1 s m #[Value.ref b] below meth c H locs 265 67857 Q (F0 m 1785 ls []))
    {H : Heap} {locs : List Loc} {ls : Array Slot} (hP : va_P (dC, dI) vwCl (WL cy zL zT zR zI zJ) H) (hD : va_D A (WL cy zL zT zR zI zJ)) (hS : va_S A s.heap H locs) (hl : lv_has ls 4 [(0, .ref b), (1, .ref zx), (2, .ref zy), (3, .int zi9)]) : W p l e room_1 s m #[Value.ref b] below meth c H locs 265 67857 Q (F0 m 397 ls []) := by
  have h_zI : WM [701, 1802, 3500, 10100] AL zT zR zI zI := WM.rf hw
  have t_1 : zT (zR zy 24) = 109 := sk_f hs t_zy (by decide) rfl (by decide)
  have t_2 : zT (zR zy 0) = 100 := sk_f hs t_zy (by decide) rfl (by decide)
  refine lv_aload_n hx hb dL_law_397 rfl (lv_at hl 1 rfl) ?_
  refine lv_aload_n hx hb dL_law_398 rfl (lv_at hl 0 rfl) ?_
  refine lv_iload_n hx hb dL_law_399 rfl (lv_at hl 3 rfl) ?_
  refine lv_iconst (v := 1) hx hb dL_law_400 (by decide) ?_
  refine lv_iadd hx hb dL_law_401 ?_
  refine lv_topi (fun zi_3 ezi_3 => ?_)
  have tzi_3 : zi_3.toInt = zi9.toInt + (1 : Int) := by rw [ezi_3]; exact tiadd (rfl) (show (1 : Int32).toInt = 1 by decide) (by omega) (by omega)
  refine va_sld hx hb hX hbl hbA hS (vp_in_iff.mpr ⟨by omega, by omega⟩) dL_law_402 ?_
  refine lv_topi (fun zi_4 ezi_4 => ?_)
  refine lv_i2l (v := zi_4.toInt64) hx hb dL_law_403 rfl ?_
  refine lv_topl (fun zj_5 ezj_5 => ?_)
  have tzj_5 : zj_5.toInt = zi_4.toInt := by rw [ezj_5]; exact Int32.toInt_toInt64 _
  refine lv_bipush (v := 32) hx hb dL_law_404 (by decide) ?_
  refine lv_lshl (v := zj_5 <<< ((32 : Int32).toInt64 &&& 63)) hx hb dL_law_406 rfl ?_
  refine lv_topl (fun zj_6 ezj_6 => ?_)
  refine lv_aload_n hx hb dL_law_407 rfl (lv_at hl 0 rfl) ?_
  refine lv_iload_n hx hb dL_law_408 rfl (lv_at hl 3 rfl) ?_
  refine lv_iconst (v := 2) hx hb dL_law_409 (by decide) ?_
  refine lv_iadd hx hb dL_law_410 ?_
  refine lv_topi (fun zi_7 ezi_7 => ?_)
  have tzi_7 : zi_7.toInt = zi9.toInt + (2 : Int) := by rw [ezi_7]; exact tiadd (rfl) (show (2 : Int32).toInt = 2 by decide) (by omega) (by omega)
  refine va_sld hx hb hX hbl hbA hS (vp_in_iff.mpr ⟨by omega, by omega⟩) dL_law_411 ?_
  refine lv_topi (fun zi_8 ezi_8 => ?_)
  refine lv_i2l (v := zi_8.toInt64) hx hb dL_law_412 rfl ?_
  refine lv_topl (fun zj_9 ezj_9 => ?_)
  have tzj_9 : zj_9.toInt = zi_8.toInt := by rw [ezj_9]; exact Int32.toInt_toInt64 _
  refine lv_ldc2 (v := 4294967295) hx hb hown (hts (.constantLong RL 37 4294967295) (by decide +kernel)) dL_law_413 ?_
  refine lv_land hx hb dL_law_416 ?_
  refine lv_topl (fun zj_10 ezj_10 => ?_)
  refine lv_lor hx hb dL_law_417 ?_
  refine lv_topl (fun zj_11 ezj_11 => ?_)
  refine lv_aload_n hx hb dL_law_418 rfl (lv_at hl 0 rfl) ?_
  refine lv_iload_n hx hb dL_law_419 rfl (lv_at hl 3 rfl) ?_
  refine lv_iconst (v := 3) hx hb dL_law_420 (by decide) ?_
  refine lv_iadd hx hb dL_law_421 ?_
  refine lv_topi (fun zi_12 ezi_12 => ?_)
  have tzi_12 : zi_12.toInt = zi9.toInt + (3 : Int) := by rw [ezi_12]; exact tiadd (rfl) (show (3 : Int32).toInt = 3 by decide) (by omega) (by omega)
  refine va_sld hx hb hX hbl hbA hS (vp_in_iff.mpr ⟨by omega, by omega⟩) dL_law_422 ?_
  refine lv_topi (fun zi_13 ezi_13 => ?_)
  refine hj_i (ws := (WL cy zL zT zR zI zJ)) (w1 := fun (u : (Nat → Nat → Int32)) => (WL cy zL zT zR u zJ)) (va_runV (As := [.long zj_11, .int zi_13]) (rest := []) ⟨hx, hb, hml, hown, hts⟩ (t_X10_type l dC dI cy H.size zL zT zR zI zJ zx zj_11 zi_13 hs h_zI.1 t_zx hj) (cwV 2 hts gL_law_X10_type rfl rfl rfl (by decide +kernel) ⟨(Nat.le_of_ble_eq_true rfl), (Nat.le_of_ble_eq_true rfl)⟩) (PRE.v hP hK hD hN (ht_recv hK hP hs t_zx (by decide) rfl rfl)) rfl rfl hl.1 rfl (lv_room (Nat.le_of_ble_eq_true rfl)) dL_law_423 ⟨(Nat.le_of_ble_eq_true rfl), (Nat.le_of_ble_eq_true rfl)⟩) hP hD hS hA (fun zi_14 zI_17 H locs hw_15 hP hD hS => ?_)
  obtain ⟨k_zI_17, b_zi_14, ps_18⟩ : (WM [701, 3500] AL zT zR zI zI_17) ∧ ((-3) ≤ zi_14.toInt ∧ zi_14.toInt ≤ 80) ∧ (JX zR zI_17 zx) := hw_15
  have h_zI_17 : WM [701, 1802, 3500, 10100] AL zT zR zI zI_17 := h_zI.tr k_zI_17 (by decide) (fun _ _ => trivial)
  have hk_19 : (zI_17 zy 23).toInt = 0 ∨ ZI (zI_17 (zR zy 24)) := by rw [k_zI_17.2 zy 23 (Or.inl (by rw [t_zy]; decide)), k_zI_17.2.row t_1 (by decide) (by decide)]; exact hk
  have hsh_zI_17 : RSH zR zI_17 zx zy := RSH.sm hsh hs t_zx t_zy k_zI_17.2 (by decide)
  have hit_zI_17 : RIT zR zI_17 zx zy := RIT.sm hit hs t_zx t_zy k_zI_17.2 (by decide)
  have hrr_zI_17 : RRn zR zI_17 zx zy := RRn.sm hrr hs t_zx t_zy k_zI_17.2 (by decide) (FQR.of (k_zI_17.2.row t_2 (by decide) (by decide)))
  have hrg_zI_17 : RGn zR zI_17 zy := RGn.sm hrg hs t_zy k_zI_17.2 (by decide) (FQR.of (k_zI_17.2.row t_2 (by decide) (by decide)))
  have h3_zI_17 : R3 zR zI_17 zx zy := R3.sm h3 hs t_zx t_zy k_zI_17.2 (by decide) (FQ3.of (k_zI_17.2.row t_2 (by decide) (by decide)))
  refine lv_pop hx hb dL_law_426 rfl ?_
  refine lv_aload_n hx hb dL_law_427 rfl (lv_at hl 2 rfl) ?_
  refine lv_aload_n hx hb dL_law_428 rfl (lv_at hl 0 rfl) ?_
  refine lv_iload_n hx hb dL_law_429 rfl (lv_at hl 3 rfl) ?_
  refine lv_iconst (v := 1) hx hb dL_law_430 (by decide) ?_
  refine lv_iadd hx hb dL_law_431 ?_
  refine lv_topi (fun zi_20 ezi_20 => ?_)
  have tzi_20 : zi_20.toInt = zi9.toInt + (1 : Int) := by rw [ezi_20]; exact tiadd (rfl) (show (1 : Int32).toInt = 1 by decide) (by omega) (by omega)
  obtain rfl : zi_3 = zi_20 := ezi_3.trans ezi_20.symm
  refine va_sld hx hb hX hbl hbA hS (vp_in_iff.mpr ⟨by omega, by omega⟩) dL_law_432 ?_
  refine lv_topi (fun zi_21 ezi_21 => ?_)
  obtain rfl : zi_4 = zi_21 := ezi_4.trans ezi_21.symm
  refine lv_i2l (v := zi_4.toInt64) hx hb dL_law_433 rfl ?_
  refine lv_topl (fun zj_22 ezj_22 => ?_)
  have tzj_22 : zj_22.toInt = zi_4.toInt := by rw [ezj_22]; exact Int32.toInt_toInt64 _
  refine lv_bipush (v := 32) hx hb dL_law_434 (by decide) ?_
  refine lv_lshl (v := zj_22 <<< ((32 : Int32).toInt64 &&& 63)) hx hb dL_law_436 rfl ?_
  refine lv_topl (fun zj_23 ezj_23 => ?_)
  refine lv_aload_n hx hb dL_law_437 rfl (lv_at hl 0 rfl) ?_
  refine lv_iload_n hx hb dL_law_438 rfl (lv_at hl 3 rfl) ?_
  refine lv_iconst (v := 2) hx hb dL_law_439 (by decide) ?_
  refine lv_iadd hx hb dL_law_440 ?_
  refine lv_topi (fun zi_24 ezi_24 => ?_)
  have tzi_24 : zi_24.toInt = zi9.toInt + (2 : Int) := by rw [ezi_24]; exact tiadd (rfl) (show (2 : Int32).toInt = 2 by decide) (by omega) (by omega)
  obtain rfl : zi_7 = zi_24 := ezi_7.trans ezi_24.symm
  refine va_sld hx hb hX hbl hbA hS (vp_in_iff.mpr ⟨by omega, by omega⟩) dL_law_441 ?_
  refine lv_topi (fun zi_25 ezi_25 => ?_)
  obtain rfl : zi_8 = zi_25 := ezi_8.trans ezi_25.symm
  refine lv_i2l (v := zi_8.toInt64) hx hb dL_law_442 rfl ?_
  refine lv_topl (fun zj_26 ezj_26 => ?_)
  have tzj_26 : zj_26.toInt = zi_8.toInt := by rw [ezj_26]; exact Int32.toInt_toInt64 _
  refine lv_ldc2 (v := 4294967295) hx hb hown (hts (.constantLong RL 37 4294967295) (by decide +kernel)) dL_law_443 ?_
  refine lv_land hx hb dL_law_446 ?_
  refine lv_topl (fun zj_27 ezj_27 => ?_)
  refine lv_lor hx hb dL_law_447 ?_
  refine lv_topl (fun zj_28 ezj_28 => ?_)
  refine lv_aload_n hx hb dL_law_448 rfl (lv_at hl 0 rfl) ?_
  refine lv_iload_n hx hb dL_law_449 rfl (lv_at hl 3 rfl) ?_
  refine lv_iconst (v := 3) hx hb dL_law_450 (by decide) ?_
  refine lv_iadd hx hb dL_law_451 ?_
  refine lv_topi (fun zi_29 ezi_29 => ?_)
  have tzi_29 : zi_29.toInt = zi9.toInt + (3 : Int) := by rw [ezi_29]; exact tiadd (rfl) (show (3 : Int32).toInt = 3 by decide) (by omega) (by omega)
  obtain rfl : zi_12 = zi_29 := ezi_12.trans ezi_29.symm
  refine va_sld hx hb hX hbl hbA hS (vp_in_iff.mpr ⟨by omega, by omega⟩) dL_law_452 ?_
  refine lv_topi (fun zi_30 ezi_30 => ?_)
  obtain rfl : zi_13 = zi_30 := ezi_13.trans ezi_30.symm
  refine hj_i (ws := (WL cy zL zT zR zI_17 zJ)) (w1 := fun (u : (Nat → Nat → Int32)) => (WL cy zL zT zR u zJ)) (va_runV (As := [.long zj_28, .int zi_13]) (rest := []) ⟨hx, hb, hml, hown, hts⟩ (t_X11_type l dC dI cy H.size zL zT zR zI_17 zJ zy zj_28 zi_13 hs h_zI_17.1 t_zy) (cwV 2 hts gL_law_X11_type rfl rfl rfl (by decide +kernel) ⟨(Nat.le_of_ble_eq_true rfl), (Nat.le_of_ble_eq_true rfl)⟩) (PRE.v hP hK hD hN (ht_recv hK hP hs t_zy (by decide) rfl rfl)) rfl rfl hl.1 rfl (lv_room (Nat.le_of_ble_eq_true rfl)) dL_law_453 ⟨(Nat.le_of_ble_eq_true rfl), (Nat.le_of_ble_eq_true rfl)⟩) hP hD hS hA (fun zi_31 zI_34 H locs hw_32 hP hD hS => ?_)
  obtain ⟨k_zI_34, b_zi_31⟩ : (WM [1802, 10100] AL zT zR zI_17 zI_34) ∧ ((-3) ≤ zi_31.toInt ∧ zi_31.toInt ≤ 80) := hw_32
  have h_zI_34 : WM [701, 1802, 3500, 10100] AL zT zR zI zI_34 := h_zI_17.tr k_zI_34 (by decide) (fun _ _ => trivial)
  have j_zI_34 : JX zR zI_34 zx := JX.sm ps_18 hs t_zx k_zI_34.2 (by decide) (by decide)
  have hk_35 : (zI_34 zy 23).toInt = 0 ∨ ZI (zI_34 (zR zy 24)) := by rw [k_zI_34.2 zy 23 (Or.inl (by rw [t_zy]; decide)), k_zI_34.2.row t_1 (by decide) (by decide)]; exact hk_19
  have hsh_zI_34 : RSH zR zI_34 zx zy := RSH.sm hsh_zI_17 hs t_zx t_zy k_zI_34.2 (by decide)
  have hit_zI_34 : RIT zR zI_34 zx zy := RIT.sm hit_zI_17 hs t_zx t_zy k_zI_34.2 (by decide)
  have hrr_zI_34 : RRn zR zI_34 zx zy := RRn.sm hrr_zI_17 hs t_zx t_zy k_zI_34.2 (by decide) (FQR.of (k_zI_34.2.row t_2 (by decide) (by decide)))
  have hrg_zI_34 : RGn zR zI_34 zy := RGn.sm hrg_zI_17 hs t_zy k_zI_34.2 (by decide) (FQR.of (k_zI_34.2.row t_2 (by decide) (by decide)))
  have h3_zI_34 : R3 zR zI_34 zx zy := R3.sm h3_zI_17 hs t_zx t_zy k_zI_34.2 (by decide) (FQ3.of (k_zI_34.2.row t_2 (by decide) (by decide)))
  refine lv_pop hx hb dL_law_456 rfl ?_
  refine lv_goto (tgt := 1785) hx hb dL_law_457 (by decide) ?_
  have zz_36 : ZI (zI_34 (zR zy 0)) := by rw [(k_zI_34.2.row t_2 (by decide) (by decide)), (k_zI_17.2.row t_2 (by decide) (by decide))]; exact hz
  exact kx _ _ _ _ _ h_zI_34.1 j_zI_34 zz_36 hk_35 h3_zI_34 hrr_zI_34 hsh_zI_34 hit_zI_34 hrg_zI_34 hP hD hS hl
set_option maxHeartbeats 4000000 in
set_option maxRecDepth 100000 in
theorem lw_c6 {p : Program} {l : Launch} {e : Env} {s : State} {m : MethodId} {below : List Frame} {meth : Method} {c : Code} {b L : Nat} {xs : Nat → Int32} {A : Nat → Prop} {Q : State → Prop} (hx : p.tables.exec = Jvm.exec) (hb : c.code = cL_law) (hml : c.maxLocals = 4) (hown : s.vm.findClass RL = some m.cls) (hts : ∀ w ∈ wsL_law, w.before #[Value.ref b] s = true) (hX : va_X b L xs s s.heap) (hbl : b < s.heap.size) (hbA : ¬ A b) (hA : ∀ q : Nat, s.heap.size ≤ q → A q) (hL : L ≤ 3072) (dC : Nat → ClassId) (dI : Nat → Nat → Nat) (cy : Nat → ClassId) (zL : List Nat) (zT : Nat → Nat) (zR : Nat → Nat → Nat) (zI : Nat → Nat → Int32) (zJ : Nat → Nat → Int64) (zx zy : Nat) (zi9 : Int32) (hs : SKP zL zT zR) (hw : WT zT zR zI) (t_zx : zT zx = 11) (t_zy : zT zy = 18) (hj : JX zR zI zx) (hz : ZI (zI (zR zy 0))) (hk : (zI zy 23).toInt = 0 ∨ ZI (zI (zR zy 24))) (h3 : R3 zR zI zx zy) (hrr : RRn zR zI zx zy) (hsh : RSH zR zI zx zy) (hit : RIT zR zI zx zy) (hrg : RGn zR zI zy) (hK : va_K (dC, dI) vwCl (TY cy) s) (hN : N0 s) (b_zi9 : 0 ≤ zi9.toInt ∧ zi9.toInt ≤ 3066) (hi1 : zi9.toInt + 6 ≤ (L : Int))
    (kx : ∀ (zI2 : Nat → Nat → Int32) (zJ2 : Nat → Nat → Int64) (H : Heap) (locs : List Loc) (ls : Array Slot), WT zT zR zI2 → JX zR zI2 zx → ZI (zI2 (zR zy 0)) → ((zI2 zy 23).toInt = 0 ∨ ZI (zI2 (zR zy 24))) → (R3 zR zI2 zx zy) → (RRn zR zI2 zx zy) → (RSH zR zI2 zx zy) → (RIT zR zI2 zx zy) → (RGn zR zI2 zy) → va_P (dC, dI) vwCl (WL cy zL zT zR zI2 zJ2) H → va_D A (WL cy zL zT zR zI2 zJ2) → va_S A s.heap H locs → lv_has ls 4 [(0, .ref b), (1, .ref zx), (2, .ref zy), (3, .int zi9)] → W p l e room_1 s m #[Value.ref b] below meth c H locs 265 67857 Q (F0 m 1785 ls []))
    {H : Heap} {locs : List Loc} {ls : Array Slot} (hP : va_P (dC, dI) vwCl (WL cy zL zT zR zI zJ) H) (hD : va_D A (WL cy zL zT zR zI zJ)) (hS : va_S A s.heap H locs) (hl : lv_has ls 4 [(0, .ref b), (1, .ref zx), (2, .ref zy), (3, .int zi9)]) : W p l e room_1 s m #[Value.ref b] below meth c H locs 265 67857 Q (F0 m 460 ls []) := by
  have h_zI : WM [505, 701, 702, 703, 1802, 1803, 1804, 2200, 2900, 3000, 10000, 10200] AL zT zR zI zI := WM.rf hw
  have t_1 : zT (zR zy 24) = 109 := sk_f hs t_zy (by decide) rfl (by decide)
  have t_2 : zT (zR zy 0) = 100 := sk_f hs t_zy (by decide) rfl (by decide)
  refine lv_aload_n hx hb dL_law_460 rfl (lv_at hl 1 rfl) ?_
  refine hj_i (ws := (WL cy zL zT zR zI zJ)) (w1 := fun (u : (Nat → Nat → Int32)) => (WL cy zL zT zR u zJ)) (va_runV (As := []) (rest := []) ⟨hx, hb, hml, hown, hts⟩ (t_X10_law l dC dI cy H.size zL zT zR zI zJ zx hs h_zI.1 t_zx hj) (cwV 0 hts gL_law_X10_law rfl rfl rfl (by decide +kernel) ⟨(Nat.le_of_ble_eq_true rfl), (Nat.le_of_ble_eq_true rfl)⟩) (PRE.v hP hK hD hN (ht_recv hK hP hs t_zx (by decide) rfl rfl)) rfl rfl hl.1 rfl (lv_room (Nat.le_of_ble_eq_true rfl)) dL_law_461 ⟨(Nat.le_of_ble_eq_true rfl), (Nat.le_of_ble_eq_true rfl)⟩) hP hD hS hA (fun zi_3 zI_6 H locs hw_4 hP hD hS => ?_)
  obtain ⟨k_zI_6, ps_7⟩ : (WM [505, 701, 702, 703, 2200, 2900, 3000] AL zT zR zI zI_6) ∧ (JX zR zI_6 zx) := hw_4
  have h_zI_6 : WM [505, 701, 702, 703, 1802, 1803, 1804, 2200, 2900, 3000, 10000, 10200] AL zT zR zI zI_6 := h_zI.tr k_zI_6 (by decide) (fun _ _ => trivial)
  have hk_8 : (zI_6 zy 23).toInt = 0 ∨ ZI (zI_6 (zR zy 24)) := by rw [k_zI_6.2 zy 23 (Or.inl (by rw [t_zy]; decide)), k_zI_6.2.row t_1 (by decide) (by decide)]; exact hk
  have hsh_zI_6 : RSH zR zI_6 zx zy := RSH.sm hsh hs t_zx t_zy k_zI_6.2 (by decide)
  have hit_zI_6 : RIT zR zI_6 zx zy := RIT.sm hit hs t_zx t_zy k_zI_6.2 (by decide)
  have hrr_zI_6 : RRn zR zI_6 zx zy := RRn.sm hrr hs t_zx t_zy k_zI_6.2 (by decide) (FQR.of (k_zI_6.2.row t_2 (by decide) (by decide)))
  have hrg_zI_6 : RGn zR zI_6 zy := RGn.sm hrg hs t_zy k_zI_6.2 (by decide) (FQR.of (k_zI_6.2.row t_2 (by decide) (by decide)))
  have h3_zI_6 : R3 zR zI_6 zx zy := R3.sm h3 hs t_zx t_zy k_zI_6.2 (by decide) (FQ3.of (k_zI_6.2.row t_2 (by decide) (by decide)))
  have rzi_3 := rng zi_3
  refine lv_pop hx hb dL_law_464 rfl ?_
  refine lv_aload_n hx hb dL_law_465 rfl (lv_at hl 2 rfl) ?_
  have zz_9 : ZI (zI_6 (zR zy 0)) := by rw [(k_zI_6.2.row t_2 (by decide) (by decide))]; exact hz
  refine hj_i (ws := (WL cy zL zT zR zI_6 zJ)) (w1 := fun (u : (Nat → Nat → Int32)) => (WL cy zL zT zR u zJ)) (va_runV (As := []) (rest := []) ⟨hx, hb, hml, hown, hts⟩ (t_X11_law l dC dI cy H.size zL zT zR zI_6 zJ zy hs h_zI_6.1 t_zy zz_9) (cwV 0 hts gL_law_X11_law rfl rfl rfl (by decide +kernel) ⟨(Nat.le_of_ble_eq_true rfl), (Nat.le_of_ble_eq_true rfl)⟩) (PRE.v hP hK hD hN (ht_recv hK hP hs t_zy (by decide) rfl rfl)) rfl rfl hl.1 rfl (lv_room (Nat.le_of_ble_eq_true rfl)) dL_law_466 ⟨(Nat.le_of_ble_eq_true rfl), (Nat.le_of_ble_eq_true rfl)⟩) hP hD hS hA (fun zi_10 zI_13 H locs hw_11 hP hD hS => ?_)
  obtain ⟨k_zI_13, b_zi_10, ps_14, ps_15⟩ : (WM [1802, 1803, 1804, 10000, 10200] AL zT zR zI_6 zI_13) ∧ ((-100) ≤ zi_10.toInt ∧ zi_10.toInt ≤ 6) ∧ (FQ (zI_6 (zR zy 0)) (zI_13 (zR zy 0))) ∧ (ZI (zI_13 (zR zy 0))) := hw_11
  have h_zI_13 : WM [505, 701, 702, 703, 1802, 1803, 1804, 2200, 2900, 3000, 10000, 10200] AL zT zR zI zI_13 := h_zI_6.tr k_zI_13 (by decide) (fun _ _ => trivial)
  have j_zI_13 : JX zR zI_13 zx := JX.sm ps_7 hs t_zx k_zI_13.2 (by decide) (by decide)
  have hk_16 : (zI_13 zy 23).toInt = 0 ∨ ZI (zI_13 (zR zy 24)) := by rw [k_zI_13.2 zy 23 (Or.inl (by rw [t_zy]; decide)), k_zI_13.2.row t_1 (by decide) (by decide)]; exact hk_8
  have hsh_zI_13 : RSH zR zI_13 zx zy := RSH.sm hsh_zI_6 hs t_zx t_zy k_zI_13.2 (by decide)
  have hit_zI_13 : RIT zR zI_13 zx zy := RIT.sm hit_zI_6 hs t_zx t_zy k_zI_13.2 (by decide)
  have hrr_zI_13 : RRn zR zI_13 zx zy := RRn.sm hrr_zI_6 hs t_zx t_zy k_zI_13.2 (by decide) (FQ.wR ps_14)
  have hrg_zI_13 : RGn zR zI_13 zy := RGn.sm hrg_zI_6 hs t_zy k_zI_13.2 (by decide) (FQ.wR ps_14)
  have h3_zI_13 : R3 zR zI_13 zx zy := R3.sm h3_zI_6 hs t_zx t_zy k_zI_13.2 (by decide) (FQ.w3 ps_14)
  refine lv_pop hx hb dL_law_469 rfl ?_
  refine lv_goto (tgt := 1785) hx hb dL_law_470 (by decide) ?_
  exact kx _ _ _ _ _ h_zI_13.1 j_zI_13 ps_15 hk_16 h3_zI_13 hrr_zI_13 hsh_zI_13 hit_zI_13 hrg_zI_13 hP hD hS hl
set_option maxHeartbeats 4000000 in
set_option maxRecDepth 100000 in
theorem lw_c7 {p : Program} {l : Launch} {e : Env} {s : State} {m : MethodId} {below : List Frame} {meth : Method} {c : Code} {b L : Nat} {xs : Nat → Int32} {A : Nat → Prop} {Q : State → Prop} (hx : p.tables.exec = Jvm.exec) (hb : c.code = cL_law) (hml : c.maxLocals = 4) (hown : s.vm.findClass RL = some m.cls) (hts : ∀ w ∈ wsL_law, w.before #[Value.ref b] s = true) (hX : va_X b L xs s s.heap) (hbl : b < s.heap.size) (hbA : ¬ A b) (hA : ∀ q : Nat, s.heap.size ≤ q → A q) (hL : L ≤ 3072) (dC : Nat → ClassId) (dI : Nat → Nat → Nat) (cy : Nat → ClassId) (zL : List Nat) (zT : Nat → Nat) (zR : Nat → Nat → Nat) (zI : Nat → Nat → Int32) (zJ : Nat → Nat → Int64) (zx zy : Nat) (zi9 : Int32) (hs : SKP zL zT zR) (hw : WT zT zR zI) (t_zx : zT zx = 11) (t_zy : zT zy = 18) (hj : JX zR zI zx) (hz : ZI (zI (zR zy 0))) (hk : (zI zy 23).toInt = 0 ∨ ZI (zI (zR zy 24))) (h3 : R3 zR zI zx zy) (hrr : RRn zR zI zx zy) (hsh : RSH zR zI zx zy) (hit : RIT zR zI zx zy) (hrg : RGn zR zI zy) (hK : va_K (dC, dI) vwCl (TY cy) s) (hN : N0 s) (b_zi9 : 0 ≤ zi9.toInt ∧ zi9.toInt ≤ 3066) (hi1 : zi9.toInt + 6 ≤ (L : Int))
    (kx : ∀ (zI2 : Nat → Nat → Int32) (zJ2 : Nat → Nat → Int64) (H : Heap) (locs : List Loc) (ls : Array Slot), WT zT zR zI2 → JX zR zI2 zx → ZI (zI2 (zR zy 0)) → ((zI2 zy 23).toInt = 0 ∨ ZI (zI2 (zR zy 24))) → (R3 zR zI2 zx zy) → (RRn zR zI2 zx zy) → (RSH zR zI2 zx zy) → (RIT zR zI2 zx zy) → (RGn zR zI2 zy) → va_P (dC, dI) vwCl (WL cy zL zT zR zI2 zJ2) H → va_D A (WL cy zL zT zR zI2 zJ2) → va_S A s.heap H locs → lv_has ls 4 [(0, .ref b), (1, .ref zx), (2, .ref zy), (3, .int zi9)] → W p l e room_1 s m #[Value.ref b] below meth c H locs 265 67857 Q (F0 m 1785 ls []))
    {H : Heap} {locs : List Loc} {ls : Array Slot} (hP : va_P (dC, dI) vwCl (WL cy zL zT zR zI zJ) H) (hD : va_D A (WL cy zL zT zR zI zJ)) (hS : va_S A s.heap H locs) (hl : lv_has ls 4 [(0, .ref b), (1, .ref zx), (2, .ref zy), (3, .int zi9)]) : W p l e room_1 s m #[Value.ref b] below meth c H locs 265 67857 Q (F0 m 473 ls []) := by
  have h_zI : WM [] AL zT zR zI zI := WM.rf hw
  have t_1 : zT (zR zy 24) = 109 := sk_f hs t_zy (by decide) rfl (by decide)
  have t_2 : zT (zR zy 0) = 100 := sk_f hs t_zy (by decide) rfl (by decide)
  refine lv_aload_n hx hb dL_law_473 rfl (lv_at hl 1 rfl) ?_
  refine lv_aload_n hx hb dL_law_474 rfl (lv_at hl 0 rfl) ?_
  refine lv_iload_n hx hb dL_law_475 rfl (lv_at hl 3 rfl) ?_
  refine lv_iconst (v := 1) hx hb dL_law_476 (by decide) ?_
  refine lv_iadd hx hb dL_law_477 ?_
  refine lv_topi (fun zi_3 ezi_3 => ?_)
  have tzi_3 : zi_3.toInt = zi9.toInt + (1 : Int) := by rw [ezi_3]; exact tiadd (rfl) (show (1 : Int32).toInt = 1 by decide) (by omega) (by omega)
  refine va_sld hx hb hX hbl hbA hS (vp_in_iff.mpr ⟨by omega, by omega⟩) dL_law_478 ?_
  refine lv_topi (fun zi_4 ezi_4 => ?_)
  refine hj_i (ws := (WL cy zL zT zR zI zJ)) (w1 := fun (u : Unit) => (WL cy zL zT zR zI zJ)) (va_runV (As := [.int zi_4]) (rest := []) ⟨hx, hb, hml, hown, hts⟩ (t_X10_grows l dC dI cy H.size zL zT zR zI zJ zx zi_4 hs h_zI.1 t_zx hj) (cwV 1 hts gL_law_X10_grows rfl rfl rfl (by decide +kernel) ⟨(Nat.le_of_ble_eq_true rfl), (Nat.le_of_ble_eq_true rfl)⟩) (PRE.v hP hK hD hN (ht_recv hK hP hs t_zx (by decide) rfl rfl)) rfl rfl hl.1 rfl (lv_room (Nat.le_of_ble_eq_true rfl)) dL_law_479 ⟨(Nat.le_of_ble_eq_true rfl), (Nat.le_of_ble_eq_true rfl)⟩) hP hD hS hA (fun zi_5 u_7 H locs hw_6 hP hD hS => ?_)
  have ps_8 : JX zR zI zx := hw_6
  have rzi_5 := rng zi_5
  refine lv_pop hx hb dL_law_482 rfl ?_
  refine lv_aload_n hx hb dL_law_483 rfl (lv_at hl 2 rfl) ?_
  refine lv_aload_n hx hb dL_law_484 rfl (lv_at hl 0 rfl) ?_
  refine lv_iload_n hx hb dL_law_485 rfl (lv_at hl 3 rfl) ?_
  refine lv_iconst (v := 1) hx hb dL_law_486 (by decide) ?_
  refine lv_iadd hx hb dL_law_487 ?_
  refine lv_topi (fun zi_9 ezi_9 => ?_)
  have tzi_9 : zi_9.toInt = zi9.toInt + (1 : Int) := by rw [ezi_9]; exact tiadd (rfl) (show (1 : Int32).toInt = 1 by decide) (by omega) (by omega)
  obtain rfl : zi_3 = zi_9 := ezi_3.trans ezi_9.symm
  refine va_sld hx hb hX hbl hbA hS (vp_in_iff.mpr ⟨by omega, by omega⟩) dL_law_488 ?_
  refine lv_topi (fun zi_10 ezi_10 => ?_)
  obtain rfl : zi_4 = zi_10 := ezi_4.trans ezi_10.symm
  refine hj_i (ws := (WL cy zL zT zR zI zJ)) (w1 := fun (u : Unit) => (WL cy zL zT zR zI zJ)) (va_runV (As := [.int zi_4]) (rest := []) ⟨hx, hb, hml, hown, hts⟩ (t_X11_grows l dC dI cy H.size zL zT zR zI zJ zy zi_4 hs h_zI.1 t_zy hz) (cwV 1 hts gL_law_X11_grows rfl rfl rfl (by decide +kernel) ⟨(Nat.le_of_ble_eq_true rfl), (Nat.le_of_ble_eq_true rfl)⟩) (PRE.v hP hK hD hN (ht_recv hK hP hs t_zy (by decide) rfl rfl)) rfl rfl hl.1 rfl (lv_room (Nat.le_of_ble_eq_true rfl)) dL_law_489 ⟨(Nat.le_of_ble_eq_true rfl), (Nat.le_of_ble_eq_true rfl)⟩) hP hD hS hA (fun zi_11 u_13 H locs hw_12 hP hD hS => ?_)
  have rzi_11 := rng zi_11
  refine lv_pop hx hb dL_law_492 rfl ?_
  refine lv_goto (tgt := 1785) hx hb dL_law_493 (by decide) ?_
  exact kx _ _ _ _ _ h_zI.1 ps_8 hz hk h3 hrr hsh hit hrg hP hD hS hl
set_option maxHeartbeats 4000000 in
set_option maxRecDepth 100000 in
theorem lw_c8 {p : Program} {l : Launch} {e : Env} {s : State} {m : MethodId} {below : List Frame} {meth : Method} {c : Code} {b L : Nat} {xs : Nat → Int32} {A : Nat → Prop} {Q : State → Prop} (hx : p.tables.exec = Jvm.exec) (hb : c.code = cL_law) (hml : c.maxLocals = 4) (hown : s.vm.findClass RL = some m.cls) (hts : ∀ w ∈ wsL_law, w.before #[Value.ref b] s = true) (hX : va_X b L xs s s.heap) (hbl : b < s.heap.size) (hbA : ¬ A b) (hA : ∀ q : Nat, s.heap.size ≤ q → A q) (hL : L ≤ 3072) (dC : Nat → ClassId) (dI : Nat → Nat → Nat) (cy : Nat → ClassId) (zL : List Nat) (zT : Nat → Nat) (zR : Nat → Nat → Nat) (zI : Nat → Nat → Int32) (zJ : Nat → Nat → Int64) (zx zy : Nat) (zi9 : Int32) (hs : SKP zL zT zR) (hw : WT zT zR zI) (t_zx : zT zx = 11) (t_zy : zT zy = 18) (hj : JX zR zI zx) (hz : ZI (zI (zR zy 0))) (hk : (zI zy 23).toInt = 0 ∨ ZI (zI (zR zy 24))) (h3 : R3 zR zI zx zy) (hrr : RRn zR zI zx zy) (hsh : RSH zR zI zx zy) (hit : RIT zR zI zx zy) (hrg : RGn zR zI zy) (hK : va_K (dC, dI) vwCl (TY cy) s) (hN : N0 s) (b_zi9 : 0 ≤ zi9.toInt ∧ zi9.toInt ≤ 3066) (hi1 : zi9.toInt + 6 ≤ (L : Int))
    (kx : ∀ (zI2 : Nat → Nat → Int32) (zJ2 : Nat → Nat → Int64) (H : Heap) (locs : List Loc) (ls : Array Slot), WT zT zR zI2 → JX zR zI2 zx → ZI (zI2 (zR zy 0)) → ((zI2 zy 23).toInt = 0 ∨ ZI (zI2 (zR zy 24))) → (R3 zR zI2 zx zy) → (RRn zR zI2 zx zy) → (RSH zR zI2 zx zy) → (RIT zR zI2 zx zy) → (RGn zR zI2 zy) → va_P (dC, dI) vwCl (WL cy zL zT zR zI2 zJ2) H → va_D A (WL cy zL zT zR zI2 zJ2) → va_S A s.heap H locs → lv_has ls 4 [(0, .ref b), (1, .ref zx), (2, .ref zy), (3, .int zi9)] → W p l e room_1 s m #[Value.ref b] below meth c H locs 265 67857 Q (F0 m 1785 ls []))
    {H : Heap} {locs : List Loc} {ls : Array Slot} (hP : va_P (dC, dI) vwCl (WL cy zL zT zR zI zJ) H) (hD : va_D A (WL cy zL zT zR zI zJ)) (hS : va_S A s.heap H locs) (hl : lv_has ls 4 [(0, .ref b), (1, .ref zx), (2, .ref zy), (3, .int zi9)]) : W p l e room_1 s m #[Value.ref b] below meth c H locs 265 67857 Q (F0 m 496 ls []) := by
  have h_zI : WM [] AL zT zR zI zI := WM.rf hw
  have t_1 : zT (zR zy 24) = 109 := sk_f hs t_zy (by decide) rfl (by decide)
  have t_2 : zT (zR zy 0) = 100 := sk_f hs t_zy (by decide) rfl (by decide)
  refine lv_aload_n hx hb dL_law_496 rfl (lv_at hl 1 rfl) ?_
  refine lv_aload_n hx hb dL_law_497 rfl (lv_at hl 0 rfl) ?_
  refine lv_iload_n hx hb dL_law_498 rfl (lv_at hl 3 rfl) ?_
  refine lv_iconst (v := 1) hx hb dL_law_499 (by decide) ?_
  refine lv_iadd hx hb dL_law_500 ?_
  refine lv_topi (fun zi_3 ezi_3 => ?_)
  have tzi_3 : zi_3.toInt = zi9.toInt + (1 : Int) := by rw [ezi_3]; exact tiadd (rfl) (show (1 : Int32).toInt = 1 by decide) (by omega) (by omega)
  refine va_sld hx hb hX hbl hbA hS (vp_in_iff.mpr ⟨by omega, by omega⟩) dL_law_501 ?_
  refine lv_topi (fun zi_4 ezi_4 => ?_)
  refine lv_aload_n hx hb dL_law_502 rfl (lv_at hl 0 rfl) ?_
  refine lv_iload_n hx hb dL_law_503 rfl (lv_at hl 3 rfl) ?_
  refine lv_iconst (v := 2) hx hb dL_law_504 (by decide) ?_
  refine lv_iadd hx hb dL_law_505 ?_
  refine lv_topi (fun zi_5 ezi_5 => ?_)
  have tzi_5 : zi_5.toInt = zi9.toInt + (2 : Int) := by rw [ezi_5]; exact tiadd (rfl) (show (2 : Int32).toInt = 2 by decide) (by omega) (by omega)
  refine va_sld hx hb hX hbl hbA hS (vp_in_iff.mpr ⟨by omega, by omega⟩) dL_law_506 ?_
  refine lv_topi (fun zi_6 ezi_6 => ?_)
  refine lv_aload_n hx hb dL_law_507 rfl (lv_at hl 0 rfl) ?_
  refine lv_iload_n hx hb dL_law_508 rfl (lv_at hl 3 rfl) ?_
  refine lv_iconst (v := 3) hx hb dL_law_509 (by decide) ?_
  refine lv_iadd hx hb dL_law_510 ?_
  refine lv_topi (fun zi_7 ezi_7 => ?_)
  have tzi_7 : zi_7.toInt = zi9.toInt + (3 : Int) := by rw [ezi_7]; exact tiadd (rfl) (show (3 : Int32).toInt = 3 by decide) (by omega) (by omega)
  refine va_sld hx hb hX hbl hbA hS (vp_in_iff.mpr ⟨by omega, by omega⟩) dL_law_511 ?_
  refine lv_topi (fun zi_8 ezi_8 => ?_)
  refine lv_aload_n hx hb dL_law_512 rfl (lv_at hl 0 rfl) ?_
  refine lv_iload_n hx hb dL_law_513 rfl (lv_at hl 3 rfl) ?_
  refine lv_iconst (v := 4) hx hb dL_law_514 (by decide) ?_
  refine lv_iadd hx hb dL_law_515 ?_
  refine lv_topi (fun zi_9 ezi_9 => ?_)
  have tzi_9 : zi_9.toInt = zi9.toInt + (4 : Int) := by rw [ezi_9]; exact tiadd (rfl) (show (4 : Int32).toInt = 4 by decide) (by omega) (by omega)
  refine va_sld hx hb hX hbl hbA hS (vp_in_iff.mpr ⟨by omega, by omega⟩) dL_law_516 ?_
  refine lv_topi (fun zi_10 ezi_10 => ?_)
  refine lv_aload_n hx hb dL_law_517 rfl (lv_at hl 0 rfl) ?_
  refine lv_iload_n hx hb dL_law_518 rfl (lv_at hl 3 rfl) ?_
  refine lv_iconst (v := 5) hx hb dL_law_519 (by decide) ?_
  refine lv_iadd hx hb dL_law_520 ?_
  refine lv_topi (fun zi_11 ezi_11 => ?_)
  have tzi_11 : zi_11.toInt = zi9.toInt + (5 : Int) := by rw [ezi_11]; exact tiadd (rfl) (show (5 : Int32).toInt = 5 by decide) (by omega) (by omega)
  refine va_sld hx hb hX hbl hbA hS (vp_in_iff.mpr ⟨by omega, by omega⟩) dL_law_521 ?_
  refine lv_topi (fun zi_12 ezi_12 => ?_)
  refine hj_i (ws := (WL cy zL zT zR zI zJ)) (w1 := fun (u : Unit) => (WL cy zL zT zR zI zJ)) (va_runV (As := [.int zi_4, .int zi_6, .int zi_8, .int zi_10, .int zi_12]) (rest := []) ⟨hx, hb, hml, hown, hts⟩ (t_X10_learn l dC dI cy H.size zL zT zR zI zJ zx zi_4 zi_6 zi_8 zi_10 zi_12 hs h_zI.1 t_zx hj) (cwV 5 hts gL_law_X10_learn rfl rfl rfl (by decide +kernel) ⟨(Nat.le_of_ble_eq_true rfl), (Nat.le_of_ble_eq_true rfl)⟩) (PRE.v hP hK hD hN (ht_recv hK hP hs t_zx (by decide) rfl rfl)) rfl rfl hl.1 rfl (lv_room (Nat.le_of_ble_eq_true rfl)) dL_law_522 ⟨(Nat.le_of_ble_eq_true rfl), (Nat.le_of_ble_eq_true rfl)⟩) hP hD hS hA (fun zi_13 u_15 H locs hw_14 hP hD hS => ?_)
  obtain ⟨ps_16, ps_17, ps_18, ps_19, ps_20⟩ : (JX zR zI zx) ∧ (¬ (LNok zi_4.toInt zi_6.toInt zi_10.toInt zi_12.toInt) → zi_13.toInt = -1) ∧ (LNok zi_4.toInt zi_6.toInt zi_10.toInt zi_12.toInt → ¬ (RFS (zI (zR (zR zx 5) zi_4.toNatClampNeg) 3).toInt (zI (zR (zR zx 5) zi_4.toNatClampNeg) 1).toInt (zI (zR (zR zx 5) zi_4.toNatClampNeg) 2).toInt zi_6.toInt zi_8.toInt (2 * zi_10.toInt)) = 0 → zi_13.toInt = (RFS (zI (zR (zR zx 5) zi_4.toNatClampNeg) 3).toInt (zI (zR (zR zx 5) zi_4.toNatClampNeg) 1).toInt (zI (zR (zR zx 5) zi_4.toNatClampNeg) 2).toInt zi_6.toInt zi_8.toInt (2 * zi_10.toInt))) ∧ (LNok zi_4.toInt zi_6.toInt zi_10.toInt zi_12.toInt → (RFS (zI (zR (zR zx 5) zi_4.toNatClampNeg) 3).toInt (zI (zR (zR zx 5) zi_4.toNatClampNeg) 1).toInt (zI (zR (zR zx 5) zi_4.toNatClampNeg) 2).toInt zi_6.toInt zi_8.toInt (2 * zi_10.toInt)) = 0 → ¬ YQ (zI (zR (zR (zR zx 5) zi_4.toNatClampNeg) 0)) zi_8.toInt zi_10.toInt → zi_13.toInt = -2) ∧ (LNok zi_4.toInt zi_6.toInt zi_10.toInt zi_12.toInt → (RFS (zI (zR (zR zx 5) zi_4.toNatClampNeg) 3).toInt (zI (zR (zR zx 5) zi_4.toNatClampNeg) 1).toInt (zI (zR (zR zx 5) zi_4.toNatClampNeg) 2).toInt zi_6.toInt zi_8.toInt (2 * zi_10.toInt)) = 0 → YQ (zI (zR (zR (zR zx 5) zi_4.toNatClampNeg) 0)) zi_8.toInt zi_10.toInt → LNa (fun k9 => ALLB (FTc (fun y9 => WRC (zI (zR (zR (zR (zR zx 0) 0) 0) 0)) (zI (zR (zR (zR (zR zx 0) 0) 0) 1)) y9 k9) (zB (zI (zR (zR (zR zx 5) zi_4.toNatClampNeg) 0))) zi_8.toInt zi_12.toInt) zi_10.toInt) zi_13) := hw_14
  have rzi_13 := rng zi_13
  refine lv_aload_n hx hb dL_law_525 rfl (lv_at hl 2 rfl) ?_
  refine lv_aload_n hx hb dL_law_526 rfl (lv_at hl 0 rfl) ?_
  refine lv_iload_n hx hb dL_law_527 rfl (lv_at hl 3 rfl) ?_
  refine lv_iconst (v := 1) hx hb dL_law_528 (by decide) ?_
  refine lv_iadd hx hb dL_law_529 ?_
  refine lv_topi (fun zi_21 ezi_21 => ?_)
  have tzi_21 : zi_21.toInt = zi9.toInt + (1 : Int) := by rw [ezi_21]; exact tiadd (rfl) (show (1 : Int32).toInt = 1 by decide) (by omega) (by omega)
  obtain rfl : zi_3 = zi_21 := ezi_3.trans ezi_21.symm
  refine va_sld hx hb hX hbl hbA hS (vp_in_iff.mpr ⟨by omega, by omega⟩) dL_law_530 ?_
  refine lv_topi (fun zi_22 ezi_22 => ?_)
  obtain rfl : zi_4 = zi_22 := ezi_4.trans ezi_22.symm
  refine lv_aload_n hx hb dL_law_531 rfl (lv_at hl 0 rfl) ?_
  refine lv_iload_n hx hb dL_law_532 rfl (lv_at hl 3 rfl) ?_
  refine lv_iconst (v := 2) hx hb dL_law_533 (by decide) ?_
  refine lv_iadd hx hb dL_law_534 ?_
  refine lv_topi (fun zi_23 ezi_23 => ?_)
  have tzi_23 : zi_23.toInt = zi9.toInt + (2 : Int) := by rw [ezi_23]; exact tiadd (rfl) (show (2 : Int32).toInt = 2 by decide) (by omega) (by omega)
  obtain rfl : zi_5 = zi_23 := ezi_5.trans ezi_23.symm
  refine va_sld hx hb hX hbl hbA hS (vp_in_iff.mpr ⟨by omega, by omega⟩) dL_law_535 ?_
  refine lv_topi (fun zi_24 ezi_24 => ?_)
  obtain rfl : zi_6 = zi_24 := ezi_6.trans ezi_24.symm
  refine lv_aload_n hx hb dL_law_536 rfl (lv_at hl 0 rfl) ?_
  refine lv_iload_n hx hb dL_law_537 rfl (lv_at hl 3 rfl) ?_
  refine lv_iconst (v := 3) hx hb dL_law_538 (by decide) ?_
  refine lv_iadd hx hb dL_law_539 ?_
  refine lv_topi (fun zi_25 ezi_25 => ?_)
  have tzi_25 : zi_25.toInt = zi9.toInt + (3 : Int) := by rw [ezi_25]; exact tiadd (rfl) (show (3 : Int32).toInt = 3 by decide) (by omega) (by omega)
  obtain rfl : zi_7 = zi_25 := ezi_7.trans ezi_25.symm
  refine va_sld hx hb hX hbl hbA hS (vp_in_iff.mpr ⟨by omega, by omega⟩) dL_law_540 ?_
  refine lv_topi (fun zi_26 ezi_26 => ?_)
  obtain rfl : zi_8 = zi_26 := ezi_8.trans ezi_26.symm
  refine lv_aload_n hx hb dL_law_541 rfl (lv_at hl 0 rfl) ?_
  refine lv_iload_n hx hb dL_law_542 rfl (lv_at hl 3 rfl) ?_
  refine lv_iconst (v := 4) hx hb dL_law_543 (by decide) ?_
  refine lv_iadd hx hb dL_law_544 ?_
  refine lv_topi (fun zi_27 ezi_27 => ?_)
  have tzi_27 : zi_27.toInt = zi9.toInt + (4 : Int) := by rw [ezi_27]; exact tiadd (rfl) (show (4 : Int32).toInt = 4 by decide) (by omega) (by omega)
  obtain rfl : zi_9 = zi_27 := ezi_9.trans ezi_27.symm
  refine va_sld hx hb hX hbl hbA hS (vp_in_iff.mpr ⟨by omega, by omega⟩) dL_law_545 ?_
  refine lv_topi (fun zi_28 ezi_28 => ?_)
  obtain rfl : zi_10 = zi_28 := ezi_10.trans ezi_28.symm
  refine lv_aload_n hx hb dL_law_546 rfl (lv_at hl 0 rfl) ?_
  refine lv_iload_n hx hb dL_law_547 rfl (lv_at hl 3 rfl) ?_
  refine lv_iconst (v := 5) hx hb dL_law_548 (by decide) ?_
  refine lv_iadd hx hb dL_law_549 ?_
  refine lv_topi (fun zi_29 ezi_29 => ?_)
  have tzi_29 : zi_29.toInt = zi9.toInt + (5 : Int) := by rw [ezi_29]; exact tiadd (rfl) (show (5 : Int32).toInt = 5 by decide) (by omega) (by omega)
  obtain rfl : zi_11 = zi_29 := ezi_11.trans ezi_29.symm
  refine va_sld hx hb hX hbl hbA hS (vp_in_iff.mpr ⟨by omega, by omega⟩) dL_law_550 ?_
  refine lv_topi (fun zi_30 ezi_30 => ?_)
  obtain rfl : zi_12 = zi_30 := ezi_12.trans ezi_30.symm
  refine hj_i (ws := (WL cy zL zT zR zI zJ)) (w1 := fun (u : Unit) => (WL cy zL zT zR zI zJ)) (va_runV (As := [.int zi_4, .int zi_6, .int zi_8, .int zi_10, .int zi_12]) (rest := [.int zi_13]) ⟨hx, hb, hml, hown, hts⟩ (t_X11_learn l dC dI cy H.size zL zT zR zI zJ zy zi_4 zi_6 zi_8 zi_10 zi_12 hs h_zI.1 t_zy) (cwV 5 hts gL_law_X11_learn rfl rfl rfl (by decide +kernel) ⟨(Nat.le_of_ble_eq_true rfl), (Nat.le_of_ble_eq_true rfl)⟩) (PRE.v hP hK hD hN (ht_recv hK hP hs t_zy (by decide) rfl rfl)) rfl rfl hl.1 rfl (lv_room (Nat.le_of_ble_eq_true rfl)) dL_law_551 ⟨(Nat.le_of_ble_eq_true rfl), (Nat.le_of_ble_eq_true rfl)⟩) hP hD hS hA (fun zi_31 u_33 H locs hw_32 hP hD hS => ?_)
  obtain ⟨ps_34, ps_35, ps_36, ps_37⟩ : (¬ (LNok zi_4.toInt zi_6.toInt zi_10.toInt zi_12.toInt) → zi_31.toInt = -1) ∧ (LNok zi_4.toInt zi_6.toInt zi_10.toInt zi_12.toInt → ¬ (LKS (zI (zR zy 25) zi_4.toNatClampNeg).toInt (zI (zR zy 26) zi_4.toNatClampNeg).toInt zi_6.toInt zi_8.toInt (2 * zi_10.toInt)) = 0 → zi_31.toInt = (LKS (zI (zR zy 25) zi_4.toNatClampNeg).toInt (zI (zR zy 26) zi_4.toNatClampNeg).toInt zi_6.toInt zi_8.toInt (2 * zi_10.toInt))) ∧ (LNok zi_4.toInt zi_6.toInt zi_10.toInt zi_12.toInt → (LKS (zI (zR zy 25) zi_4.toNatClampNeg).toInt (zI (zR zy 26) zi_4.toNatClampNeg).toInt zi_6.toInt zi_8.toInt (2 * zi_10.toInt)) = 0 → ¬ YQ (zI (zR zy 27)) (24 * zi_4.toInt + zi_8.toInt) zi_10.toInt → zi_31.toInt = -2) ∧ (LNok zi_4.toInt zi_6.toInt zi_10.toInt zi_12.toInt → (LKS (zI (zR zy 25) zi_4.toNatClampNeg).toInt (zI (zR zy 26) zi_4.toNatClampNeg).toInt zi_6.toInt zi_8.toInt (2 * zi_10.toInt)) = 0 → YQ (zI (zR zy 27)) (24 * zi_4.toInt + zi_8.toInt) zi_10.toInt → LNa (fun k9 => ALLB (FTr (zI (zR zy 0)) k9.toNat (zA (zI (zR zy 27))) (24 * zi_4.toInt + zi_8.toInt) zi_12.toInt) zi_10.toInt) zi_31) := hw_32
  have rzi_31 := rng zi_31
  refine lv_icmp_eq (tgt := 1785) hx hb dL_law_554 (by decide) (fun c_38 => ?_) (fun c_38 => absurd (Int32.toInt_inj.mp (LN.both hrr hrg hsh hit h_zI.1 hs t_zx ps_17 ps_18 ps_19 ps_20 ps_34 ps_35 ps_36 ps_37)) c_38)
  exact kx _ _ _ _ _ h_zI.1 ps_16 hz hk h3 hrr hsh hit hrg hP hD hS hl
set_option maxHeartbeats 4000000 in
set_option maxRecDepth 100000 in
theorem lw_c9 {p : Program} {l : Launch} {e : Env} {s : State} {m : MethodId} {below : List Frame} {meth : Method} {c : Code} {b L : Nat} {xs : Nat → Int32} {A : Nat → Prop} {Q : State → Prop} (hx : p.tables.exec = Jvm.exec) (hb : c.code = cL_law) (hml : c.maxLocals = 4) (hown : s.vm.findClass RL = some m.cls) (hts : ∀ w ∈ wsL_law, w.before #[Value.ref b] s = true) (hX : va_X b L xs s s.heap) (hbl : b < s.heap.size) (hbA : ¬ A b) (hA : ∀ q : Nat, s.heap.size ≤ q → A q) (hL : L ≤ 3072) (dC : Nat → ClassId) (dI : Nat → Nat → Nat) (cy : Nat → ClassId) (zL : List Nat) (zT : Nat → Nat) (zR : Nat → Nat → Nat) (zI : Nat → Nat → Int32) (zJ : Nat → Nat → Int64) (zx zy : Nat) (zi9 : Int32) (hs : SKP zL zT zR) (hw : WT zT zR zI) (t_zx : zT zx = 11) (t_zy : zT zy = 18) (hj : JX zR zI zx) (hz : ZI (zI (zR zy 0))) (hk : (zI zy 23).toInt = 0 ∨ ZI (zI (zR zy 24))) (h3 : R3 zR zI zx zy) (hrr : RRn zR zI zx zy) (hsh : RSH zR zI zx zy) (hit : RIT zR zI zx zy) (hrg : RGn zR zI zy) (hK : va_K (dC, dI) vwCl (TY cy) s) (hN : N0 s) (b_zi9 : 0 ≤ zi9.toInt ∧ zi9.toInt ≤ 3066) (hi1 : zi9.toInt + 6 ≤ (L : Int))
    (kx : ∀ (zI2 : Nat → Nat → Int32) (zJ2 : Nat → Nat → Int64) (H : Heap) (locs : List Loc) (ls : Array Slot), WT zT zR zI2 → JX zR zI2 zx → ZI (zI2 (zR zy 0)) → ((zI2 zy 23).toInt = 0 ∨ ZI (zI2 (zR zy 24))) → (R3 zR zI2 zx zy) → (RRn zR zI2 zx zy) → (RSH zR zI2 zx zy) → (RIT zR zI2 zx zy) → (RGn zR zI2 zy) → va_P (dC, dI) vwCl (WL cy zL zT zR zI2 zJ2) H → va_D A (WL cy zL zT zR zI2 zJ2) → va_S A s.heap H locs → lv_has ls 4 [(0, .ref b), (1, .ref zx), (2, .ref zy), (3, .int zi9)] → W p l e room_1 s m #[Value.ref b] below meth c H locs 265 67857 Q (F0 m 1785 ls []))
    {H : Heap} {locs : List Loc} {ls : Array Slot} (hP : va_P (dC, dI) vwCl (WL cy zL zT zR zI zJ) H) (hD : va_D A (WL cy zL zT zR zI zJ)) (hS : va_S A s.heap H locs) (hl : lv_has ls 4 [(0, .ref b), (1, .ref zx), (2, .ref zy), (3, .int zi9)]) : W p l e room_1 s m #[Value.ref b] below meth c H locs 265 67857 Q (F0 m 559 ls []) := by
  have h_zI : WM [107, 108, 110, 306, 2000, 2100, 2400, 2500, 2600, 2700, 4700, 10000] AL zT zR zI zI := WM.rf hw
  have t_1 : zT (zR zy 24) = 109 := sk_f hs t_zy (by decide) rfl (by decide)
  have t_2 : zT (zR zy 0) = 100 := sk_f hs t_zy (by decide) rfl (by decide)
  refine lv_aload_n hx hb dL_law_559 rfl (lv_at hl 1 rfl) ?_
  refine lv_aload_n hx hb dL_law_560 rfl (lv_at hl 0 rfl) ?_
  refine lv_iload_n hx hb dL_law_561 rfl (lv_at hl 3 rfl) ?_
  refine lv_iconst (v := 1) hx hb dL_law_562 (by decide) ?_
  refine lv_iadd hx hb dL_law_563 ?_
  refine lv_topi (fun zi_3 ezi_3 => ?_)
  have tzi_3 : zi_3.toInt = zi9.toInt + (1 : Int) := by rw [ezi_3]; exact tiadd (rfl) (show (1 : Int32).toInt = 1 by decide) (by omega) (by omega)
  refine va_sld hx hb hX hbl hbA hS (vp_in_iff.mpr ⟨by omega, by omega⟩) dL_law_564 ?_
  refine lv_topi (fun zi_4 ezi_4 => ?_)
  refine hj_i (ws := (WL cy zL zT zR zI zJ)) (w1 := fun (u : (Nat → Nat → Int32)) => (WL cy zL zT zR u zJ)) (va_runV (As := [.int zi_4]) (rest := []) ⟨hx, hb, hml, hown, hts⟩ (t_X10_make l dC dI cy H.size zL zT zR zI zJ zx zi_4 hs h_zI.1 t_zx hj) (cwV 1 hts gL_law_X10_make rfl rfl rfl (by decide +kernel) ⟨(Nat.le_of_ble_eq_true rfl), (Nat.le_of_ble_eq_true rfl)⟩) (PRE.v hP hK hD hN (ht_recv hK hP hs t_zx (by decide) rfl rfl)) rfl rfl hl.1 rfl (lv_room (Nat.le_of_ble_eq_true rfl)) dL_law_565 ⟨(Nat.le_of_ble_eq_true rfl), (Nat.le_of_ble_eq_true rfl)⟩) hP hD hS hA (fun zi_5 zI_8 H locs hw_6 hP hD hS => ?_)
  obtain ⟨k_zI_8, b_zi_5, ps_9⟩ : (WM [107, 108, 110, 306, 2000, 2100, 2400, 2500, 2600, 2700, 4700] AL zT zR zI zI_8) ∧ ((-2) ≤ zi_5.toInt ∧ zi_5.toInt ≤ 12) ∧ (JX zR zI_8 zx) := hw_6
  have h_zI_8 : WM [107, 108, 110, 306, 2000, 2100, 2400, 2500, 2600, 2700, 4700, 10000] AL zT zR zI zI_8 := h_zI.tr k_zI_8 (by decide) (fun _ _ => trivial)
  have hk_10 : (zI_8 zy 23).toInt = 0 ∨ ZI (zI_8 (zR zy 24)) := by rw [k_zI_8.2 zy 23 (Or.inl (by rw [t_zy]; decide)), k_zI_8.2.row t_1 (by decide) (by decide)]; exact hk
  have hsh_zI_8 : RSH zR zI_8 zx zy := RSH.sm hsh hs t_zx t_zy k_zI_8.2 (by decide)
  have hit_zI_8 : RIT zR zI_8 zx zy := RIT.sm hit hs t_zx t_zy k_zI_8.2 (by decide)
  have hrr_zI_8 : RRn zR zI_8 zx zy := RRn.sm hrr hs t_zx t_zy k_zI_8.2 (by decide) (FQR.of (k_zI_8.2.row t_2 (by decide) (by decide)))
  have hrg_zI_8 : RGn zR zI_8 zy := RGn.sm hrg hs t_zy k_zI_8.2 (by decide) (FQR.of (k_zI_8.2.row t_2 (by decide) (by decide)))
  have h3_zI_8 : R3 zR zI_8 zx zy := R3.sm h3 hs t_zx t_zy k_zI_8.2 (by decide) (FQ3.of (k_zI_8.2.row t_2 (by decide) (by decide)))
  refine lv_pop hx hb dL_law_568 rfl ?_
  refine lv_aload_n hx hb dL_law_569 rfl (lv_at hl 2 rfl) ?_
  refine lv_aload_n hx hb dL_law_570 rfl (lv_at hl 0 rfl) ?_
  refine lv_iload_n hx hb dL_law_571 rfl (lv_at hl 3 rfl) ?_
  refine lv_iconst (v := 1) hx hb dL_law_572 (by decide) ?_
  refine lv_iadd hx hb dL_law_573 ?_
  refine lv_topi (fun zi_11 ezi_11 => ?_)
  have tzi_11 : zi_11.toInt = zi9.toInt + (1 : Int) := by rw [ezi_11]; exact tiadd (rfl) (show (1 : Int32).toInt = 1 by decide) (by omega) (by omega)
  obtain rfl : zi_3 = zi_11 := ezi_3.trans ezi_11.symm
  refine va_sld hx hb hX hbl hbA hS (vp_in_iff.mpr ⟨by omega, by omega⟩) dL_law_574 ?_
  refine lv_topi (fun zi_12 ezi_12 => ?_)
  obtain rfl : zi_4 = zi_12 := ezi_4.trans ezi_12.symm
  have zz_13 : ZI (zI_8 (zR zy 0)) := by rw [(k_zI_8.2.row t_2 (by decide) (by decide))]; exact hz
  refine hj_i (ws := (WL cy zL zT zR zI_8 zJ)) (w1 := fun (u : (Nat → Nat → Int32)) => (WL cy zL zT zR u zJ)) (va_runV (As := [.int zi_4]) (rest := []) ⟨hx, hb, hml, hown, hts⟩ (t_X11_make l dC dI cy H.size zL zT zR zI_8 zJ zy zi_4 hs h_zI_8.1 t_zy zz_13) (cwV 1 hts gL_law_X11_make rfl rfl rfl (by decide +kernel) ⟨(Nat.le_of_ble_eq_true rfl), (Nat.le_of_ble_eq_true rfl)⟩) (PRE.v hP hK hD hN (ht_recv hK hP hs t_zy (by decide) rfl rfl)) rfl rfl hl.1 rfl (lv_room (Nat.le_of_ble_eq_true rfl)) dL_law_575 ⟨(Nat.le_of_ble_eq_true rfl), (Nat.le_of_ble_eq_true rfl)⟩) hP hD hS hA (fun zi_14 zI_17 H locs hw_15 hP hD hS => ?_)
  obtain ⟨k_zI_17, b_zi_14, ps_18, ps_19⟩ : (WM [10000] AL zT zR zI_8 zI_17) ∧ ((-2) ≤ zi_14.toInt ∧ zi_14.toInt ≤ 12) ∧ (ZI (zI_17 (zR zy 0))) ∧ (FQ (zI_8 (zR zy 0)) (zI_17 (zR zy 0))) := hw_15
  have h_zI_17 : WM [107, 108, 110, 306, 2000, 2100, 2400, 2500, 2600, 2700, 4700, 10000] AL zT zR zI zI_17 := h_zI_8.tr k_zI_17 (by decide) (fun _ _ => trivial)
  have j_zI_17 : JX zR zI_17 zx := JX.sm ps_9 hs t_zx k_zI_17.2 (by decide) (by decide)
  have hk_20 : (zI_17 zy 23).toInt = 0 ∨ ZI (zI_17 (zR zy 24)) := by rw [k_zI_17.2 zy 23 (Or.inl (by rw [t_zy]; decide)), k_zI_17.2.row t_1 (by decide) (by decide)]; exact hk_10
  have hsh_zI_17 : RSH zR zI_17 zx zy := RSH.sm hsh_zI_8 hs t_zx t_zy k_zI_17.2 (by decide)
  have hit_zI_17 : RIT zR zI_17 zx zy := RIT.sm hit_zI_8 hs t_zx t_zy k_zI_17.2 (by decide)
  have hrr_zI_17 : RRn zR zI_17 zx zy := RRn.sm hrr_zI_8 hs t_zx t_zy k_zI_17.2 (by decide) (FQ.wR ps_19)
  have hrg_zI_17 : RGn zR zI_17 zy := RGn.sm hrg_zI_8 hs t_zy k_zI_17.2 (by decide) (FQ.wR ps_19)
  have h3_zI_17 : R3 zR zI_17 zx zy := R3.sm h3_zI_8 hs t_zx t_zy k_zI_17.2 (by decide) (FQ.w3 ps_19)
  refine lv_pop hx hb dL_law_578 rfl ?_
  refine lv_goto (tgt := 1785) hx hb dL_law_579 (by decide) ?_
  exact kx _ _ _ _ _ h_zI_17.1 j_zI_17 ps_18 hk_20 h3_zI_17 hrr_zI_17 hsh_zI_17 hit_zI_17 hrg_zI_17 hP hD hS hl
set_option maxHeartbeats 4000000 in
set_option maxRecDepth 100000 in
theorem lw_c10 {p : Program} {l : Launch} {e : Env} {s : State} {m : MethodId} {below : List Frame} {meth : Method} {c : Code} {b L : Nat} {xs : Nat → Int32} {A : Nat → Prop} {Q : State → Prop} (hx : p.tables.exec = Jvm.exec) (hb : c.code = cL_law) (hml : c.maxLocals = 4) (hown : s.vm.findClass RL = some m.cls) (hts : ∀ w ∈ wsL_law, w.before #[Value.ref b] s = true) (hX : va_X b L xs s s.heap) (hbl : b < s.heap.size) (hbA : ¬ A b) (hA : ∀ q : Nat, s.heap.size ≤ q → A q) (hL : L ≤ 3072) (dC : Nat → ClassId) (dI : Nat → Nat → Nat) (cy : Nat → ClassId) (zL : List Nat) (zT : Nat → Nat) (zR : Nat → Nat → Nat) (zI : Nat → Nat → Int32) (zJ : Nat → Nat → Int64) (zx zy : Nat) (zi9 : Int32) (hs : SKP zL zT zR) (hw : WT zT zR zI) (t_zx : zT zx = 11) (t_zy : zT zy = 18) (hj : JX zR zI zx) (hz : ZI (zI (zR zy 0))) (hk : (zI zy 23).toInt = 0 ∨ ZI (zI (zR zy 24))) (h3 : R3 zR zI zx zy) (hrr : RRn zR zI zx zy) (hsh : RSH zR zI zx zy) (hit : RIT zR zI zx zy) (hrg : RGn zR zI zy) (hK : va_K (dC, dI) vwCl (TY cy) s) (hN : N0 s) (b_zi9 : 0 ≤ zi9.toInt ∧ zi9.toInt ≤ 3066) (hi1 : zi9.toInt + 6 ≤ (L : Int))
    (kx : ∀ (zI2 : Nat → Nat → Int32) (zJ2 : Nat → Nat → Int64) (H : Heap) (locs : List Loc) (ls : Array Slot), WT zT zR zI2 → JX zR zI2 zx → ZI (zI2 (zR zy 0)) → ((zI2 zy 23).toInt = 0 ∨ ZI (zI2 (zR zy 24))) → (R3 zR zI2 zx zy) → (RRn zR zI2 zx zy) → (RSH zR zI2 zx zy) → (RIT zR zI2 zx zy) → (RGn zR zI2 zy) → va_P (dC, dI) vwCl (WL cy zL zT zR zI2 zJ2) H → va_D A (WL cy zL zT zR zI2 zJ2) → va_S A s.heap H locs → lv_has ls 4 [(0, .ref b), (1, .ref zx), (2, .ref zy), (3, .int zi9)] → W p l e room_1 s m #[Value.ref b] below meth c H locs 265 67857 Q (F0 m 1785 ls []))
    {H : Heap} {locs : List Loc} {ls : Array Slot} (hP : va_P (dC, dI) vwCl (WL cy zL zT zR zI zJ) H) (hD : va_D A (WL cy zL zT zR zI zJ)) (hS : va_S A s.heap H locs) (hl : lv_has ls 4 [(0, .ref b), (1, .ref zx), (2, .ref zy), (3, .int zi9)]) : W p l e room_1 s m #[Value.ref b] below meth c H locs 265 67857 Q (F0 m 582 ls []) := by
  have h_zI : WM [] AL zT zR zI zI := WM.rf hw
  have t_1 : zT (zR zy 24) = 109 := sk_f hs t_zy (by decide) rfl (by decide)
  have t_2 : zT (zR zy 0) = 100 := sk_f hs t_zy (by decide) rfl (by decide)
  refine lv_aload_n hx hb dL_law_582 rfl (lv_at hl 1 rfl) ?_
  refine lv_aload_n hx hb dL_law_583 rfl (lv_at hl 0 rfl) ?_
  refine lv_iload_n hx hb dL_law_584 rfl (lv_at hl 3 rfl) ?_
  refine lv_iconst (v := 1) hx hb dL_law_585 (by decide) ?_
  refine lv_iadd hx hb dL_law_586 ?_
  refine lv_topi (fun zi_3 ezi_3 => ?_)
  have tzi_3 : zi_3.toInt = zi9.toInt + (1 : Int) := by rw [ezi_3]; exact tiadd (rfl) (show (1 : Int32).toInt = 1 by decide) (by omega) (by omega)
  refine va_sld hx hb hX hbl hbA hS (vp_in_iff.mpr ⟨by omega, by omega⟩) dL_law_587 ?_
  refine lv_topi (fun zi_4 ezi_4 => ?_)
  refine lv_aload_n hx hb dL_law_588 rfl (lv_at hl 0 rfl) ?_
  refine lv_iload_n hx hb dL_law_589 rfl (lv_at hl 3 rfl) ?_
  refine lv_iconst (v := 2) hx hb dL_law_590 (by decide) ?_
  refine lv_iadd hx hb dL_law_591 ?_
  refine lv_topi (fun zi_5 ezi_5 => ?_)
  have tzi_5 : zi_5.toInt = zi9.toInt + (2 : Int) := by rw [ezi_5]; exact tiadd (rfl) (show (2 : Int32).toInt = 2 by decide) (by omega) (by omega)
  refine va_sld hx hb hX hbl hbA hS (vp_in_iff.mpr ⟨by omega, by omega⟩) dL_law_592 ?_
  refine lv_topi (fun zi_6 ezi_6 => ?_)
  refine hj_i (ws := (WL cy zL zT zR zI zJ)) (w1 := fun (u : Unit) => (WL cy zL zT zR zI zJ)) (va_runV (As := [.int zi_4, .int zi_6]) (rest := []) ⟨hx, hb, hml, hown, hts⟩ (t_X10_truth l dC dI cy H.size zL zT zR zI zJ zx zi_4 zi_6 hs h_zI.1 t_zx hj) (cwV 2 hts gL_law_X10_truth rfl rfl rfl (by decide +kernel) ⟨(Nat.le_of_ble_eq_true rfl), (Nat.le_of_ble_eq_true rfl)⟩) (PRE.v hP hK hD hN (ht_recv hK hP hs t_zx (by decide) rfl rfl)) rfl rfl hl.1 rfl (lv_room (Nat.le_of_ble_eq_true rfl)) dL_law_593 ⟨(Nat.le_of_ble_eq_true rfl), (Nat.le_of_ble_eq_true rfl)⟩) hP hD hS hA (fun zi_7 u_9 H locs hw_8 hP hD hS => ?_)
  have ps_10 : JX zR zI zx := hw_8
  have rzi_7 := rng zi_7
  refine lv_pop hx hb dL_law_596 rfl ?_
  refine lv_aload_n hx hb dL_law_597 rfl (lv_at hl 2 rfl) ?_
  refine lv_aload_n hx hb dL_law_598 rfl (lv_at hl 0 rfl) ?_
  refine lv_iload_n hx hb dL_law_599 rfl (lv_at hl 3 rfl) ?_
  refine lv_iconst (v := 1) hx hb dL_law_600 (by decide) ?_
  refine lv_iadd hx hb dL_law_601 ?_
  refine lv_topi (fun zi_11 ezi_11 => ?_)
  have tzi_11 : zi_11.toInt = zi9.toInt + (1 : Int) := by rw [ezi_11]; exact tiadd (rfl) (show (1 : Int32).toInt = 1 by decide) (by omega) (by omega)
  obtain rfl : zi_3 = zi_11 := ezi_3.trans ezi_11.symm
  refine va_sld hx hb hX hbl hbA hS (vp_in_iff.mpr ⟨by omega, by omega⟩) dL_law_602 ?_
  refine lv_topi (fun zi_12 ezi_12 => ?_)
  obtain rfl : zi_4 = zi_12 := ezi_4.trans ezi_12.symm
  refine lv_aload_n hx hb dL_law_603 rfl (lv_at hl 0 rfl) ?_
  refine lv_iload_n hx hb dL_law_604 rfl (lv_at hl 3 rfl) ?_
  refine lv_iconst (v := 2) hx hb dL_law_605 (by decide) ?_
  refine lv_iadd hx hb dL_law_606 ?_
  refine lv_topi (fun zi_13 ezi_13 => ?_)
  have tzi_13 : zi_13.toInt = zi9.toInt + (2 : Int) := by rw [ezi_13]; exact tiadd (rfl) (show (2 : Int32).toInt = 2 by decide) (by omega) (by omega)
  obtain rfl : zi_5 = zi_13 := ezi_5.trans ezi_13.symm
  refine va_sld hx hb hX hbl hbA hS (vp_in_iff.mpr ⟨by omega, by omega⟩) dL_law_607 ?_
  refine lv_topi (fun zi_14 ezi_14 => ?_)
  obtain rfl : zi_6 = zi_14 := ezi_6.trans ezi_14.symm
  refine hj_i (ws := (WL cy zL zT zR zI zJ)) (w1 := fun (u : Unit) => (WL cy zL zT zR zI zJ)) (va_runV (As := [.int zi_4, .int zi_6]) (rest := []) ⟨hx, hb, hml, hown, hts⟩ (t_X11_truth l dC dI cy H.size zL zT zR zI zJ zy zi_4 zi_6 hs h_zI.1 t_zy hz) (cwV 2 hts gL_law_X11_truth rfl rfl rfl (by decide +kernel) ⟨(Nat.le_of_ble_eq_true rfl), (Nat.le_of_ble_eq_true rfl)⟩) (PRE.v hP hK hD hN (ht_recv hK hP hs t_zy (by decide) rfl rfl)) rfl rfl hl.1 rfl (lv_room (Nat.le_of_ble_eq_true rfl)) dL_law_608 ⟨(Nat.le_of_ble_eq_true rfl), (Nat.le_of_ble_eq_true rfl)⟩) hP hD hS hA (fun zi_15 u_17 H locs hw_16 hP hD hS => ?_)
  have rzi_15 := rng zi_15
  refine lv_pop hx hb dL_law_611 rfl ?_
  refine lv_goto (tgt := 1785) hx hb dL_law_612 (by decide) ?_
  exact kx _ _ _ _ _ h_zI.1 ps_10 hz hk h3 hrr hsh hit hrg hP hD hS hl
set_option maxHeartbeats 4000000 in
set_option maxRecDepth 100000 in
theorem lw_c11 {p : Program} {l : Launch} {e : Env} {s : State} {m : MethodId} {below : List Frame} {meth : Method} {c : Code} {b L : Nat} {xs : Nat → Int32} {A : Nat → Prop} {Q : State → Prop} (hx : p.tables.exec = Jvm.exec) (hb : c.code = cL_law) (hml : c.maxLocals = 4) (hown : s.vm.findClass RL = some m.cls) (hts : ∀ w ∈ wsL_law, w.before #[Value.ref b] s = true) (hX : va_X b L xs s s.heap) (hbl : b < s.heap.size) (hbA : ¬ A b) (hA : ∀ q : Nat, s.heap.size ≤ q → A q) (hL : L ≤ 3072) (dC : Nat → ClassId) (dI : Nat → Nat → Nat) (cy : Nat → ClassId) (zL : List Nat) (zT : Nat → Nat) (zR : Nat → Nat → Nat) (zI : Nat → Nat → Int32) (zJ : Nat → Nat → Int64) (zx zy : Nat) (zi9 : Int32) (hs : SKP zL zT zR) (hw : WT zT zR zI) (t_zx : zT zx = 11) (t_zy : zT zy = 18) (hj : JX zR zI zx) (hz : ZI (zI (zR zy 0))) (hk : (zI zy 23).toInt = 0 ∨ ZI (zI (zR zy 24))) (h3 : R3 zR zI zx zy) (hrr : RRn zR zI zx zy) (hsh : RSH zR zI zx zy) (hit : RIT zR zI zx zy) (hrg : RGn zR zI zy) (hK : va_K (dC, dI) vwCl (TY cy) s) (hN : N0 s) (b_zi9 : 0 ≤ zi9.toInt ∧ zi9.toInt ≤ 3066) (hi1 : zi9.toInt + 6 ≤ (L : Int))
    (kx : ∀ (zI2 : Nat → Nat → Int32) (zJ2 : Nat → Nat → Int64) (H : Heap) (locs : List Loc) (ls : Array Slot), WT zT zR zI2 → JX zR zI2 zx → ZI (zI2 (zR zy 0)) → ((zI2 zy 23).toInt = 0 ∨ ZI (zI2 (zR zy 24))) → (R3 zR zI2 zx zy) → (RRn zR zI2 zx zy) → (RSH zR zI2 zx zy) → (RIT zR zI2 zx zy) → (RGn zR zI2 zy) → va_P (dC, dI) vwCl (WL cy zL zT zR zI2 zJ2) H → va_D A (WL cy zL zT zR zI2 zJ2) → va_S A s.heap H locs → lv_has ls 4 [(0, .ref b), (1, .ref zx), (2, .ref zy), (3, .int zi9)] → W p l e room_1 s m #[Value.ref b] below meth c H locs 265 67857 Q (F0 m 1785 ls []))
    {H : Heap} {locs : List Loc} {ls : Array Slot} (hP : va_P (dC, dI) vwCl (WL cy zL zT zR zI zJ) H) (hD : va_D A (WL cy zL zT zR zI zJ)) (hS : va_S A s.heap H locs) (hl : lv_has ls 4 [(0, .ref b), (1, .ref zx), (2, .ref zy), (3, .int zi9)]) : W p l e room_1 s m #[Value.ref b] below meth c H locs 265 67857 Q (F0 m 615 ls []) := by
  have h_zI : WM [107, 110, 2000, 2100, 4700, 10000] AL zT zR zI zI := WM.rf hw
  have t_1 : zT (zR zy 24) = 109 := sk_f hs t_zy (by decide) rfl (by decide)
  have t_2 : zT (zR zy 0) = 100 := sk_f hs t_zy (by decide) rfl (by decide)
  refine lv_aload_n hx hb dL_law_615 rfl (lv_at hl 1 rfl) ?_
  refine lv_aload_n hx hb dL_law_616 rfl (lv_at hl 0 rfl) ?_
  refine lv_iload_n hx hb dL_law_617 rfl (lv_at hl 3 rfl) ?_
  refine lv_iconst (v := 1) hx hb dL_law_618 (by decide) ?_
  refine lv_iadd hx hb dL_law_619 ?_
  refine lv_topi (fun zi_3 ezi_3 => ?_)
  have tzi_3 : zi_3.toInt = zi9.toInt + (1 : Int) := by rw [ezi_3]; exact tiadd (rfl) (show (1 : Int32).toInt = 1 by decide) (by omega) (by omega)
  refine va_sld hx hb hX hbl hbA hS (vp_in_iff.mpr ⟨by omega, by omega⟩) dL_law_620 ?_
  refine lv_topi (fun zi_4 ezi_4 => ?_)
  refine lv_aload_n hx hb dL_law_621 rfl (lv_at hl 0 rfl) ?_
  refine lv_iload_n hx hb dL_law_622 rfl (lv_at hl 3 rfl) ?_
  refine lv_iconst (v := 2) hx hb dL_law_623 (by decide) ?_
  refine lv_iadd hx hb dL_law_624 ?_
  refine lv_topi (fun zi_5 ezi_5 => ?_)
  have tzi_5 : zi_5.toInt = zi9.toInt + (2 : Int) := by rw [ezi_5]; exact tiadd (rfl) (show (2 : Int32).toInt = 2 by decide) (by omega) (by omega)
  refine va_sld hx hb hX hbl hbA hS (vp_in_iff.mpr ⟨by omega, by omega⟩) dL_law_625 ?_
  refine lv_topi (fun zi_6 ezi_6 => ?_)
  refine lv_aload_n hx hb dL_law_626 rfl (lv_at hl 0 rfl) ?_
  refine lv_iload_n hx hb dL_law_627 rfl (lv_at hl 3 rfl) ?_
  refine lv_iconst (v := 3) hx hb dL_law_628 (by decide) ?_
  refine lv_iadd hx hb dL_law_629 ?_
  refine lv_topi (fun zi_7 ezi_7 => ?_)
  have tzi_7 : zi_7.toInt = zi9.toInt + (3 : Int) := by rw [ezi_7]; exact tiadd (rfl) (show (3 : Int32).toInt = 3 by decide) (by omega) (by omega)
  refine va_sld hx hb hX hbl hbA hS (vp_in_iff.mpr ⟨by omega, by omega⟩) dL_law_630 ?_
  refine lv_topi (fun zi_8 ezi_8 => ?_)
  refine hj_i (ws := (WL cy zL zT zR zI zJ)) (w1 := fun (u : (Nat → Nat → Int32)) => (WL cy zL zT zR u zJ)) (va_runV (As := [.int zi_4, .int zi_6, .int zi_8]) (rest := []) ⟨hx, hb, hml, hown, hts⟩ (t_X10_put l dC dI cy H.size zL zT zR zI zJ zx zi_4 zi_6 zi_8 hs h_zI.1 t_zx hj) (cwV 3 hts gL_law_X10_put rfl rfl rfl (by decide +kernel) ⟨(Nat.le_of_ble_eq_true rfl), (Nat.le_of_ble_eq_true rfl)⟩) (PRE.v hP hK hD hN (ht_recv hK hP hs t_zx (by decide) rfl rfl)) rfl rfl hl.1 rfl (lv_room (Nat.le_of_ble_eq_true rfl)) dL_law_631 ⟨(Nat.le_of_ble_eq_true rfl), (Nat.le_of_ble_eq_true rfl)⟩) hP hD hS hA (fun zi_9 zI_12 H locs hw_10 hP hD hS => ?_)
  obtain ⟨k_zI_12, b_zi_9, ps_13⟩ : (WM [107, 110, 2000, 2100, 4700] AL zT zR zI zI_12) ∧ ((-3) ≤ zi_9.toInt ∧ zi_9.toInt ≤ 11) ∧ (JX zR zI_12 zx) := hw_10
  have h_zI_12 : WM [107, 110, 2000, 2100, 4700, 10000] AL zT zR zI zI_12 := h_zI.tr k_zI_12 (by decide) (fun _ _ => trivial)
  have hk_14 : (zI_12 zy 23).toInt = 0 ∨ ZI (zI_12 (zR zy 24)) := by rw [k_zI_12.2 zy 23 (Or.inl (by rw [t_zy]; decide)), k_zI_12.2.row t_1 (by decide) (by decide)]; exact hk
  have hsh_zI_12 : RSH zR zI_12 zx zy := RSH.sm hsh hs t_zx t_zy k_zI_12.2 (by decide)
  have hit_zI_12 : RIT zR zI_12 zx zy := RIT.sm hit hs t_zx t_zy k_zI_12.2 (by decide)
  have hrr_zI_12 : RRn zR zI_12 zx zy := RRn.sm hrr hs t_zx t_zy k_zI_12.2 (by decide) (FQR.of (k_zI_12.2.row t_2 (by decide) (by decide)))
  have hrg_zI_12 : RGn zR zI_12 zy := RGn.sm hrg hs t_zy k_zI_12.2 (by decide) (FQR.of (k_zI_12.2.row t_2 (by decide) (by decide)))
  have h3_zI_12 : R3 zR zI_12 zx zy := R3.sm h3 hs t_zx t_zy k_zI_12.2 (by decide) (FQ3.of (k_zI_12.2.row t_2 (by decide) (by decide)))
  refine lv_pop hx hb dL_law_634 rfl ?_
  refine lv_aload_n hx hb dL_law_635 rfl (lv_at hl 2 rfl) ?_
  refine lv_aload_n hx hb dL_law_636 rfl (lv_at hl 0 rfl) ?_
  refine lv_iload_n hx hb dL_law_637 rfl (lv_at hl 3 rfl) ?_
  refine lv_iconst (v := 1) hx hb dL_law_638 (by decide) ?_
  refine lv_iadd hx hb dL_law_639 ?_
  refine lv_topi (fun zi_15 ezi_15 => ?_)
  have tzi_15 : zi_15.toInt = zi9.toInt + (1 : Int) := by rw [ezi_15]; exact tiadd (rfl) (show (1 : Int32).toInt = 1 by decide) (by omega) (by omega)
  obtain rfl : zi_3 = zi_15 := ezi_3.trans ezi_15.symm
  refine va_sld hx hb hX hbl hbA hS (vp_in_iff.mpr ⟨by omega, by omega⟩) dL_law_640 ?_
  refine lv_topi (fun zi_16 ezi_16 => ?_)
  obtain rfl : zi_4 = zi_16 := ezi_4.trans ezi_16.symm
  refine lv_aload_n hx hb dL_law_641 rfl (lv_at hl 0 rfl) ?_
  refine lv_iload_n hx hb dL_law_642 rfl (lv_at hl 3 rfl) ?_
  refine lv_iconst (v := 2) hx hb dL_law_643 (by decide) ?_
  refine lv_iadd hx hb dL_law_644 ?_
  refine lv_topi (fun zi_17 ezi_17 => ?_)
  have tzi_17 : zi_17.toInt = zi9.toInt + (2 : Int) := by rw [ezi_17]; exact tiadd (rfl) (show (2 : Int32).toInt = 2 by decide) (by omega) (by omega)
  obtain rfl : zi_5 = zi_17 := ezi_5.trans ezi_17.symm
  refine va_sld hx hb hX hbl hbA hS (vp_in_iff.mpr ⟨by omega, by omega⟩) dL_law_645 ?_
  refine lv_topi (fun zi_18 ezi_18 => ?_)
  obtain rfl : zi_6 = zi_18 := ezi_6.trans ezi_18.symm
  refine lv_aload_n hx hb dL_law_646 rfl (lv_at hl 0 rfl) ?_
  refine lv_iload_n hx hb dL_law_647 rfl (lv_at hl 3 rfl) ?_
  refine lv_iconst (v := 3) hx hb dL_law_648 (by decide) ?_
  refine lv_iadd hx hb dL_law_649 ?_
  refine lv_topi (fun zi_19 ezi_19 => ?_)
  have tzi_19 : zi_19.toInt = zi9.toInt + (3 : Int) := by rw [ezi_19]; exact tiadd (rfl) (show (3 : Int32).toInt = 3 by decide) (by omega) (by omega)
  obtain rfl : zi_7 = zi_19 := ezi_7.trans ezi_19.symm
  refine va_sld hx hb hX hbl hbA hS (vp_in_iff.mpr ⟨by omega, by omega⟩) dL_law_650 ?_
  refine lv_topi (fun zi_20 ezi_20 => ?_)
  obtain rfl : zi_8 = zi_20 := ezi_8.trans ezi_20.symm
  have zz_21 : ZI (zI_12 (zR zy 0)) := by rw [(k_zI_12.2.row t_2 (by decide) (by decide))]; exact hz
  refine hj_i (ws := (WL cy zL zT zR zI_12 zJ)) (w1 := fun (u : (Nat → Nat → Int32)) => (WL cy zL zT zR u zJ)) (va_runV (As := [.int zi_4, .int zi_6, .int zi_8]) (rest := []) ⟨hx, hb, hml, hown, hts⟩ (t_X11_put l dC dI cy H.size zL zT zR zI_12 zJ zy zi_4 zi_6 zi_8 hs h_zI_12.1 t_zy zz_21) (cwV 3 hts gL_law_X11_put rfl rfl rfl (by decide +kernel) ⟨(Nat.le_of_ble_eq_true rfl), (Nat.le_of_ble_eq_true rfl)⟩) (PRE.v hP hK hD hN (ht_recv hK hP hs t_zy (by decide) rfl rfl)) rfl rfl hl.1 rfl (lv_room (Nat.le_of_ble_eq_true rfl)) dL_law_651 ⟨(Nat.le_of_ble_eq_true rfl), (Nat.le_of_ble_eq_true rfl)⟩) hP hD hS hA (fun zi_22 zI_25 H locs hw_23 hP hD hS => ?_)
  obtain ⟨k_zI_25, b_zi_22, ps_26, ps_27⟩ : (WM [10000] AL zT zR zI_12 zI_25) ∧ ((-3) ≤ zi_22.toInt ∧ zi_22.toInt ≤ 11) ∧ (FQ (zI_12 (zR zy 0)) (zI_25 (zR zy 0))) ∧ (ZI (zI_25 (zR zy 0))) := hw_23
  have h_zI_25 : WM [107, 110, 2000, 2100, 4700, 10000] AL zT zR zI zI_25 := h_zI_12.tr k_zI_25 (by decide) (fun _ _ => trivial)
  have j_zI_25 : JX zR zI_25 zx := JX.sm ps_13 hs t_zx k_zI_25.2 (by decide) (by decide)
  have hk_28 : (zI_25 zy 23).toInt = 0 ∨ ZI (zI_25 (zR zy 24)) := by rw [k_zI_25.2 zy 23 (Or.inl (by rw [t_zy]; decide)), k_zI_25.2.row t_1 (by decide) (by decide)]; exact hk_14
  have hsh_zI_25 : RSH zR zI_25 zx zy := RSH.sm hsh_zI_12 hs t_zx t_zy k_zI_25.2 (by decide)
  have hit_zI_25 : RIT zR zI_25 zx zy := RIT.sm hit_zI_12 hs t_zx t_zy k_zI_25.2 (by decide)
  have hrr_zI_25 : RRn zR zI_25 zx zy := RRn.sm hrr_zI_12 hs t_zx t_zy k_zI_25.2 (by decide) (FQ.wR ps_26)
  have hrg_zI_25 : RGn zR zI_25 zy := RGn.sm hrg_zI_12 hs t_zy k_zI_25.2 (by decide) (FQ.wR ps_26)
  have h3_zI_25 : R3 zR zI_25 zx zy := R3.sm h3_zI_12 hs t_zx t_zy k_zI_25.2 (by decide) (FQ.w3 ps_26)
  refine lv_pop hx hb dL_law_654 rfl ?_
  refine lv_goto (tgt := 1785) hx hb dL_law_655 (by decide) ?_
  exact kx _ _ _ _ _ h_zI_25.1 j_zI_25 ps_27 hk_28 h3_zI_25 hrr_zI_25 hsh_zI_25 hit_zI_25 hrg_zI_25 hP hD hS hl
set_option maxHeartbeats 4000000 in
set_option maxRecDepth 100000 in
theorem lw_c12 {p : Program} {l : Launch} {e : Env} {s : State} {m : MethodId} {below : List Frame} {meth : Method} {c : Code} {b L : Nat} {xs : Nat → Int32} {A : Nat → Prop} {Q : State → Prop} (hx : p.tables.exec = Jvm.exec) (hb : c.code = cL_law) (hml : c.maxLocals = 4) (hown : s.vm.findClass RL = some m.cls) (hts : ∀ w ∈ wsL_law, w.before #[Value.ref b] s = true) (hX : va_X b L xs s s.heap) (hbl : b < s.heap.size) (hbA : ¬ A b) (hA : ∀ q : Nat, s.heap.size ≤ q → A q) (hL : L ≤ 3072) (dC : Nat → ClassId) (dI : Nat → Nat → Nat) (cy : Nat → ClassId) (zL : List Nat) (zT : Nat → Nat) (zR : Nat → Nat → Nat) (zI : Nat → Nat → Int32) (zJ : Nat → Nat → Int64) (zx zy : Nat) (zi9 : Int32) (hs : SKP zL zT zR) (hw : WT zT zR zI) (t_zx : zT zx = 11) (t_zy : zT zy = 18) (hj : JX zR zI zx) (hz : ZI (zI (zR zy 0))) (hk : (zI zy 23).toInt = 0 ∨ ZI (zI (zR zy 24))) (h3 : R3 zR zI zx zy) (hrr : RRn zR zI zx zy) (hsh : RSH zR zI zx zy) (hit : RIT zR zI zx zy) (hrg : RGn zR zI zy) (hK : va_K (dC, dI) vwCl (TY cy) s) (hN : N0 s) (b_zi9 : 0 ≤ zi9.toInt ∧ zi9.toInt ≤ 3066) (hi1 : zi9.toInt + 6 ≤ (L : Int))
    (kx : ∀ (zI2 : Nat → Nat → Int32) (zJ2 : Nat → Nat → Int64) (H : Heap) (locs : List Loc) (ls : Array Slot), WT zT zR zI2 → JX zR zI2 zx → ZI (zI2 (zR zy 0)) → ((zI2 zy 23).toInt = 0 ∨ ZI (zI2 (zR zy 24))) → (R3 zR zI2 zx zy) → (RRn zR zI2 zx zy) → (RSH zR zI2 zx zy) → (RIT zR zI2 zx zy) → (RGn zR zI2 zy) → va_P (dC, dI) vwCl (WL cy zL zT zR zI2 zJ2) H → va_D A (WL cy zL zT zR zI2 zJ2) → va_S A s.heap H locs → lv_has ls 4 [(0, .ref b), (1, .ref zx), (2, .ref zy), (3, .int zi9)] → W p l e room_1 s m #[Value.ref b] below meth c H locs 265 67857 Q (F0 m 1785 ls []))
    {H : Heap} {locs : List Loc} {ls : Array Slot} (hP : va_P (dC, dI) vwCl (WL cy zL zT zR zI zJ) H) (hD : va_D A (WL cy zL zT zR zI zJ)) (hS : va_S A s.heap H locs) (hl : lv_has ls 4 [(0, .ref b), (1, .ref zx), (2, .ref zy), (3, .int zi9)]) : W p l e room_1 s m #[Value.ref b] below meth c H locs 265 67857 Q (F0 m 658 ls []) := by
  have h_zI : WM [107, 108, 110, 306, 2200, 2300, 2400, 2500, 2600, 2700, 4700, 10000] AL zT zR zI zI := WM.rf hw
  have t_1 : zT (zR zy 24) = 109 := sk_f hs t_zy (by decide) rfl (by decide)
  have t_2 : zT (zR zy 0) = 100 := sk_f hs t_zy (by decide) rfl (by decide)
  refine lv_aload_n hx hb dL_law_658 rfl (lv_at hl 1 rfl) ?_
  refine lv_aload_n hx hb dL_law_659 rfl (lv_at hl 0 rfl) ?_
  refine lv_iload_n hx hb dL_law_660 rfl (lv_at hl 3 rfl) ?_
  refine lv_iconst (v := 1) hx hb dL_law_661 (by decide) ?_
  refine lv_iadd hx hb dL_law_662 ?_
  refine lv_topi (fun zi_3 ezi_3 => ?_)
  have tzi_3 : zi_3.toInt = zi9.toInt + (1 : Int) := by rw [ezi_3]; exact tiadd (rfl) (show (1 : Int32).toInt = 1 by decide) (by omega) (by omega)
  refine va_sld hx hb hX hbl hbA hS (vp_in_iff.mpr ⟨by omega, by omega⟩) dL_law_663 ?_
  refine lv_topi (fun zi_4 ezi_4 => ?_)
  refine lv_aload_n hx hb dL_law_664 rfl (lv_at hl 0 rfl) ?_
  refine lv_iload_n hx hb dL_law_665 rfl (lv_at hl 3 rfl) ?_
  refine lv_iconst (v := 2) hx hb dL_law_666 (by decide) ?_
  refine lv_iadd hx hb dL_law_667 ?_
  refine lv_topi (fun zi_5 ezi_5 => ?_)
  have tzi_5 : zi_5.toInt = zi9.toInt + (2 : Int) := by rw [ezi_5]; exact tiadd (rfl) (show (2 : Int32).toInt = 2 by decide) (by omega) (by omega)
  refine va_sld hx hb hX hbl hbA hS (vp_in_iff.mpr ⟨by omega, by omega⟩) dL_law_668 ?_
  refine lv_topi (fun zi_6 ezi_6 => ?_)
  refine hj_i (ws := (WL cy zL zT zR zI zJ)) (w1 := fun (u : (Nat → Nat → Int32)) => (WL cy zL zT zR u zJ)) (va_runV (As := [.int zi_4, .int zi_6]) (rest := []) ⟨hx, hb, hml, hown, hts⟩ (t_X10_cut l dC dI cy H.size zL zT zR zI zJ zx zi_4 zi_6 hs h_zI.1 t_zx hj) (cwV 2 hts gL_law_X10_cut rfl rfl rfl (by decide +kernel) ⟨(Nat.le_of_ble_eq_true rfl), (Nat.le_of_ble_eq_true rfl)⟩) (PRE.v hP hK hD hN (ht_recv hK hP hs t_zx (by decide) rfl rfl)) rfl rfl hl.1 rfl (lv_room (Nat.le_of_ble_eq_true rfl)) dL_law_669 ⟨(Nat.le_of_ble_eq_true rfl), (Nat.le_of_ble_eq_true rfl)⟩) hP hD hS hA (fun zi_7 zI_10 H locs hw_8 hP hD hS => ?_)
  obtain ⟨k_zI_10, b_zi_7, ps_11⟩ : (WM [107, 108, 110, 306, 2200, 2300, 2400, 2500, 2600, 2700, 4700] AL zT zR zI zI_10) ∧ ((-1) ≤ zi_7.toInt ∧ zi_7.toInt ≤ 11) ∧ (JX zR zI_10 zx) := hw_8
  have h_zI_10 : WM [107, 108, 110, 306, 2200, 2300, 2400, 2500, 2600, 2700, 4700, 10000] AL zT zR zI zI_10 := h_zI.tr k_zI_10 (by decide) (fun _ _ => trivial)
  have hk_12 : (zI_10 zy 23).toInt = 0 ∨ ZI (zI_10 (zR zy 24)) := by rw [k_zI_10.2 zy 23 (Or.inl (by rw [t_zy]; decide)), k_zI_10.2.row t_1 (by decide) (by decide)]; exact hk
  have hsh_zI_10 : RSH zR zI_10 zx zy := RSH.sm hsh hs t_zx t_zy k_zI_10.2 (by decide)
  have hit_zI_10 : RIT zR zI_10 zx zy := RIT.sm hit hs t_zx t_zy k_zI_10.2 (by decide)
  have hrr_zI_10 : RRn zR zI_10 zx zy := RRn.sm hrr hs t_zx t_zy k_zI_10.2 (by decide) (FQR.of (k_zI_10.2.row t_2 (by decide) (by decide)))
  have hrg_zI_10 : RGn zR zI_10 zy := RGn.sm hrg hs t_zy k_zI_10.2 (by decide) (FQR.of (k_zI_10.2.row t_2 (by decide) (by decide)))
  have h3_zI_10 : R3 zR zI_10 zx zy := R3.sm h3 hs t_zx t_zy k_zI_10.2 (by decide) (FQ3.of (k_zI_10.2.row t_2 (by decide) (by decide)))
  refine lv_pop hx hb dL_law_672 rfl ?_
  refine lv_aload_n hx hb dL_law_673 rfl (lv_at hl 2 rfl) ?_
  refine lv_aload_n hx hb dL_law_674 rfl (lv_at hl 0 rfl) ?_
  refine lv_iload_n hx hb dL_law_675 rfl (lv_at hl 3 rfl) ?_
  refine lv_iconst (v := 1) hx hb dL_law_676 (by decide) ?_
  refine lv_iadd hx hb dL_law_677 ?_
  refine lv_topi (fun zi_13 ezi_13 => ?_)
  have tzi_13 : zi_13.toInt = zi9.toInt + (1 : Int) := by rw [ezi_13]; exact tiadd (rfl) (show (1 : Int32).toInt = 1 by decide) (by omega) (by omega)
  obtain rfl : zi_3 = zi_13 := ezi_3.trans ezi_13.symm
  refine va_sld hx hb hX hbl hbA hS (vp_in_iff.mpr ⟨by omega, by omega⟩) dL_law_678 ?_
  refine lv_topi (fun zi_14 ezi_14 => ?_)
  obtain rfl : zi_4 = zi_14 := ezi_4.trans ezi_14.symm
  refine lv_aload_n hx hb dL_law_679 rfl (lv_at hl 0 rfl) ?_
  refine lv_iload_n hx hb dL_law_680 rfl (lv_at hl 3 rfl) ?_
  refine lv_iconst (v := 2) hx hb dL_law_681 (by decide) ?_
  refine lv_iadd hx hb dL_law_682 ?_
  refine lv_topi (fun zi_15 ezi_15 => ?_)
  have tzi_15 : zi_15.toInt = zi9.toInt + (2 : Int) := by rw [ezi_15]; exact tiadd (rfl) (show (2 : Int32).toInt = 2 by decide) (by omega) (by omega)
  obtain rfl : zi_5 = zi_15 := ezi_5.trans ezi_15.symm
  refine va_sld hx hb hX hbl hbA hS (vp_in_iff.mpr ⟨by omega, by omega⟩) dL_law_683 ?_
  refine lv_topi (fun zi_16 ezi_16 => ?_)
  obtain rfl : zi_6 = zi_16 := ezi_6.trans ezi_16.symm
  have zz_17 : ZI (zI_10 (zR zy 0)) := by rw [(k_zI_10.2.row t_2 (by decide) (by decide))]; exact hz
  refine hj_i (ws := (WL cy zL zT zR zI_10 zJ)) (w1 := fun (u : (Nat → Nat → Int32)) => (WL cy zL zT zR u zJ)) (va_runV (As := [.int zi_4, .int zi_6]) (rest := []) ⟨hx, hb, hml, hown, hts⟩ (t_X11_cut l dC dI cy H.size zL zT zR zI_10 zJ zy zi_4 zi_6 hs h_zI_10.1 t_zy zz_17) (cwV 2 hts gL_law_X11_cut rfl rfl rfl (by decide +kernel) ⟨(Nat.le_of_ble_eq_true rfl), (Nat.le_of_ble_eq_true rfl)⟩) (PRE.v hP hK hD hN (ht_recv hK hP hs t_zy (by decide) rfl rfl)) rfl rfl hl.1 rfl (lv_room (Nat.le_of_ble_eq_true rfl)) dL_law_684 ⟨(Nat.le_of_ble_eq_true rfl), (Nat.le_of_ble_eq_true rfl)⟩) hP hD hS hA (fun zi_18 zI_21 H locs hw_19 hP hD hS => ?_)
  obtain ⟨k_zI_21, b_zi_18, ps_22, ps_23⟩ : (WM [10000] AL zT zR zI_10 zI_21) ∧ ((-1) ≤ zi_18.toInt ∧ zi_18.toInt ≤ 11) ∧ (FQ (zI_10 (zR zy 0)) (zI_21 (zR zy 0))) ∧ (ZI (zI_21 (zR zy 0))) := hw_19
  have h_zI_21 : WM [107, 108, 110, 306, 2200, 2300, 2400, 2500, 2600, 2700, 4700, 10000] AL zT zR zI zI_21 := h_zI_10.tr k_zI_21 (by decide) (fun _ _ => trivial)
  have j_zI_21 : JX zR zI_21 zx := JX.sm ps_11 hs t_zx k_zI_21.2 (by decide) (by decide)
  have hk_24 : (zI_21 zy 23).toInt = 0 ∨ ZI (zI_21 (zR zy 24)) := by rw [k_zI_21.2 zy 23 (Or.inl (by rw [t_zy]; decide)), k_zI_21.2.row t_1 (by decide) (by decide)]; exact hk_12
  have hsh_zI_21 : RSH zR zI_21 zx zy := RSH.sm hsh_zI_10 hs t_zx t_zy k_zI_21.2 (by decide)
  have hit_zI_21 : RIT zR zI_21 zx zy := RIT.sm hit_zI_10 hs t_zx t_zy k_zI_21.2 (by decide)
  have hrr_zI_21 : RRn zR zI_21 zx zy := RRn.sm hrr_zI_10 hs t_zx t_zy k_zI_21.2 (by decide) (FQ.wR ps_22)
  have hrg_zI_21 : RGn zR zI_21 zy := RGn.sm hrg_zI_10 hs t_zy k_zI_21.2 (by decide) (FQ.wR ps_22)
  have h3_zI_21 : R3 zR zI_21 zx zy := R3.sm h3_zI_10 hs t_zx t_zy k_zI_21.2 (by decide) (FQ.w3 ps_22)
  refine lv_pop hx hb dL_law_687 rfl ?_
  refine lv_goto (tgt := 1785) hx hb dL_law_688 (by decide) ?_
  exact kx _ _ _ _ _ h_zI_21.1 j_zI_21 ps_23 hk_24 h3_zI_21 hrr_zI_21 hsh_zI_21 hit_zI_21 hrg_zI_21 hP hD hS hl
set_option maxHeartbeats 4000000 in
set_option maxRecDepth 100000 in
theorem lw_c13 {p : Program} {l : Launch} {e : Env} {s : State} {m : MethodId} {below : List Frame} {meth : Method} {c : Code} {b L : Nat} {xs : Nat → Int32} {A : Nat → Prop} {Q : State → Prop} (hx : p.tables.exec = Jvm.exec) (hb : c.code = cL_law) (hml : c.maxLocals = 4) (hown : s.vm.findClass RL = some m.cls) (hts : ∀ w ∈ wsL_law, w.before #[Value.ref b] s = true) (hX : va_X b L xs s s.heap) (hbl : b < s.heap.size) (hbA : ¬ A b) (hA : ∀ q : Nat, s.heap.size ≤ q → A q) (hL : L ≤ 3072) (dC : Nat → ClassId) (dI : Nat → Nat → Nat) (cy : Nat → ClassId) (zL : List Nat) (zT : Nat → Nat) (zR : Nat → Nat → Nat) (zI : Nat → Nat → Int32) (zJ : Nat → Nat → Int64) (zx zy : Nat) (zi9 : Int32) (hs : SKP zL zT zR) (hw : WT zT zR zI) (t_zx : zT zx = 11) (t_zy : zT zy = 18) (hj : JX zR zI zx) (hz : ZI (zI (zR zy 0))) (hk : (zI zy 23).toInt = 0 ∨ ZI (zI (zR zy 24))) (h3 : R3 zR zI zx zy) (hrr : RRn zR zI zx zy) (hsh : RSH zR zI zx zy) (hit : RIT zR zI zx zy) (hrg : RGn zR zI zy) (hK : va_K (dC, dI) vwCl (TY cy) s) (hN : N0 s) (b_zi9 : 0 ≤ zi9.toInt ∧ zi9.toInt ≤ 3066) (hi1 : zi9.toInt + 6 ≤ (L : Int))
    (kx : ∀ (zI2 : Nat → Nat → Int32) (zJ2 : Nat → Nat → Int64) (H : Heap) (locs : List Loc) (ls : Array Slot), WT zT zR zI2 → JX zR zI2 zx → ZI (zI2 (zR zy 0)) → ((zI2 zy 23).toInt = 0 ∨ ZI (zI2 (zR zy 24))) → (R3 zR zI2 zx zy) → (RRn zR zI2 zx zy) → (RSH zR zI2 zx zy) → (RIT zR zI2 zx zy) → (RGn zR zI2 zy) → va_P (dC, dI) vwCl (WL cy zL zT zR zI2 zJ2) H → va_D A (WL cy zL zT zR zI2 zJ2) → va_S A s.heap H locs → lv_has ls 4 [(0, .ref b), (1, .ref zx), (2, .ref zy), (3, .int zi9)] → W p l e room_1 s m #[Value.ref b] below meth c H locs 265 67857 Q (F0 m 1785 ls []))
    {H : Heap} {locs : List Loc} {ls : Array Slot} (hP : va_P (dC, dI) vwCl (WL cy zL zT zR zI zJ) H) (hD : va_D A (WL cy zL zT zR zI zJ)) (hS : va_S A s.heap H locs) (hl : lv_has ls 4 [(0, .ref b), (1, .ref zx), (2, .ref zy), (3, .int zi9)]) : W p l e room_1 s m #[Value.ref b] below meth c H locs 265 67857 Q (F0 m 691 ls []) := by
  have h_zI : WM [] AL zT zR zI zI := WM.rf hw
  have t_1 : zT (zR zy 24) = 109 := sk_f hs t_zy (by decide) rfl (by decide)
  have t_2 : zT (zR zy 0) = 100 := sk_f hs t_zy (by decide) rfl (by decide)
  refine lv_aload_n hx hb dL_law_691 rfl (lv_at hl 1 rfl) ?_
  refine lv_aload_n hx hb dL_law_692 rfl (lv_at hl 0 rfl) ?_
  refine lv_iload_n hx hb dL_law_693 rfl (lv_at hl 3 rfl) ?_
  refine lv_iconst (v := 1) hx hb dL_law_694 (by decide) ?_
  refine lv_iadd hx hb dL_law_695 ?_
  refine lv_topi (fun zi_3 ezi_3 => ?_)
  have tzi_3 : zi_3.toInt = zi9.toInt + (1 : Int) := by rw [ezi_3]; exact tiadd (rfl) (show (1 : Int32).toInt = 1 by decide) (by omega) (by omega)
  refine va_sld hx hb hX hbl hbA hS (vp_in_iff.mpr ⟨by omega, by omega⟩) dL_law_696 ?_
  refine lv_topi (fun zi_4 ezi_4 => ?_)
  refine lv_aload_n hx hb dL_law_697 rfl (lv_at hl 0 rfl) ?_
  refine lv_iload_n hx hb dL_law_698 rfl (lv_at hl 3 rfl) ?_
  refine lv_iconst (v := 2) hx hb dL_law_699 (by decide) ?_
  refine lv_iadd hx hb dL_law_700 ?_
  refine lv_topi (fun zi_5 ezi_5 => ?_)
  have tzi_5 : zi_5.toInt = zi9.toInt + (2 : Int) := by rw [ezi_5]; exact tiadd (rfl) (show (2 : Int32).toInt = 2 by decide) (by omega) (by omega)
  refine va_sld hx hb hX hbl hbA hS (vp_in_iff.mpr ⟨by omega, by omega⟩) dL_law_701 ?_
  refine lv_topi (fun zi_6 ezi_6 => ?_)
  refine lv_aload_n hx hb dL_law_702 rfl (lv_at hl 0 rfl) ?_
  refine lv_iload_n hx hb dL_law_703 rfl (lv_at hl 3 rfl) ?_
  refine lv_iconst (v := 3) hx hb dL_law_704 (by decide) ?_
  refine lv_iadd hx hb dL_law_705 ?_
  refine lv_topi (fun zi_7 ezi_7 => ?_)
  have tzi_7 : zi_7.toInt = zi9.toInt + (3 : Int) := by rw [ezi_7]; exact tiadd (rfl) (show (3 : Int32).toInt = 3 by decide) (by omega) (by omega)
  refine va_sld hx hb hX hbl hbA hS (vp_in_iff.mpr ⟨by omega, by omega⟩) dL_law_706 ?_
  refine lv_topi (fun zi_8 ezi_8 => ?_)
  refine hj_i (ws := (WL cy zL zT zR zI zJ)) (w1 := fun (u : Unit) => (WL cy zL zT zR zI zJ)) (va_runV (As := [.int zi_4, .int zi_6, .int zi_8]) (rest := []) ⟨hx, hb, hml, hown, hts⟩ (t_X10_thing l dC dI cy H.size zL zT zR zI zJ zx zi_4 zi_6 zi_8 hs h_zI.1 t_zx hj) (cwV 3 hts gL_law_X10_thing rfl rfl rfl (by decide +kernel) ⟨(Nat.le_of_ble_eq_true rfl), (Nat.le_of_ble_eq_true rfl)⟩) (PRE.v hP hK hD hN (ht_recv hK hP hs t_zx (by decide) rfl rfl)) rfl rfl hl.1 rfl (lv_room (Nat.le_of_ble_eq_true rfl)) dL_law_707 ⟨(Nat.le_of_ble_eq_true rfl), (Nat.le_of_ble_eq_true rfl)⟩) hP hD hS hA (fun zi_9 u_11 H locs hw_10 hP hD hS => ?_)
  have ps_12 : JX zR zI zx := hw_10
  have rzi_9 := rng zi_9
  refine lv_pop hx hb dL_law_710 rfl ?_
  refine lv_aload_n hx hb dL_law_711 rfl (lv_at hl 2 rfl) ?_
  refine lv_aload_n hx hb dL_law_712 rfl (lv_at hl 0 rfl) ?_
  refine lv_iload_n hx hb dL_law_713 rfl (lv_at hl 3 rfl) ?_
  refine lv_iconst (v := 1) hx hb dL_law_714 (by decide) ?_
  refine lv_iadd hx hb dL_law_715 ?_
  refine lv_topi (fun zi_13 ezi_13 => ?_)
  have tzi_13 : zi_13.toInt = zi9.toInt + (1 : Int) := by rw [ezi_13]; exact tiadd (rfl) (show (1 : Int32).toInt = 1 by decide) (by omega) (by omega)
  obtain rfl : zi_3 = zi_13 := ezi_3.trans ezi_13.symm
  refine va_sld hx hb hX hbl hbA hS (vp_in_iff.mpr ⟨by omega, by omega⟩) dL_law_716 ?_
  refine lv_topi (fun zi_14 ezi_14 => ?_)
  obtain rfl : zi_4 = zi_14 := ezi_4.trans ezi_14.symm
  refine lv_aload_n hx hb dL_law_717 rfl (lv_at hl 0 rfl) ?_
  refine lv_iload_n hx hb dL_law_718 rfl (lv_at hl 3 rfl) ?_
  refine lv_iconst (v := 2) hx hb dL_law_719 (by decide) ?_
  refine lv_iadd hx hb dL_law_720 ?_
  refine lv_topi (fun zi_15 ezi_15 => ?_)
  have tzi_15 : zi_15.toInt = zi9.toInt + (2 : Int) := by rw [ezi_15]; exact tiadd (rfl) (show (2 : Int32).toInt = 2 by decide) (by omega) (by omega)
  obtain rfl : zi_5 = zi_15 := ezi_5.trans ezi_15.symm
  refine va_sld hx hb hX hbl hbA hS (vp_in_iff.mpr ⟨by omega, by omega⟩) dL_law_721 ?_
  refine lv_topi (fun zi_16 ezi_16 => ?_)
  obtain rfl : zi_6 = zi_16 := ezi_6.trans ezi_16.symm
  refine lv_aload_n hx hb dL_law_722 rfl (lv_at hl 0 rfl) ?_
  refine lv_iload_n hx hb dL_law_723 rfl (lv_at hl 3 rfl) ?_
  refine lv_iconst (v := 3) hx hb dL_law_724 (by decide) ?_
  refine lv_iadd hx hb dL_law_725 ?_
  refine lv_topi (fun zi_17 ezi_17 => ?_)
  have tzi_17 : zi_17.toInt = zi9.toInt + (3 : Int) := by rw [ezi_17]; exact tiadd (rfl) (show (3 : Int32).toInt = 3 by decide) (by omega) (by omega)
  obtain rfl : zi_7 = zi_17 := ezi_7.trans ezi_17.symm
  refine va_sld hx hb hX hbl hbA hS (vp_in_iff.mpr ⟨by omega, by omega⟩) dL_law_726 ?_
  refine lv_topi (fun zi_18 ezi_18 => ?_)
  obtain rfl : zi_8 = zi_18 := ezi_8.trans ezi_18.symm
  refine hj_i (ws := (WL cy zL zT zR zI zJ)) (w1 := fun (u : Unit) => (WL cy zL zT zR zI zJ)) (va_runV (As := [.int zi_4, .int zi_6, .int zi_8]) (rest := []) ⟨hx, hb, hml, hown, hts⟩ (t_X11_thing l dC dI cy H.size zL zT zR zI zJ zy zi_4 zi_6 zi_8 hs h_zI.1 t_zy hz) (cwV 3 hts gL_law_X11_thing rfl rfl rfl (by decide +kernel) ⟨(Nat.le_of_ble_eq_true rfl), (Nat.le_of_ble_eq_true rfl)⟩) (PRE.v hP hK hD hN (ht_recv hK hP hs t_zy (by decide) rfl rfl)) rfl rfl hl.1 rfl (lv_room (Nat.le_of_ble_eq_true rfl)) dL_law_727 ⟨(Nat.le_of_ble_eq_true rfl), (Nat.le_of_ble_eq_true rfl)⟩) hP hD hS hA (fun zi_19 u_21 H locs hw_20 hP hD hS => ?_)
  have rzi_19 := rng zi_19
  refine lv_pop hx hb dL_law_730 rfl ?_
  refine lv_goto (tgt := 1785) hx hb dL_law_731 (by decide) ?_
  exact kx _ _ _ _ _ h_zI.1 ps_12 hz hk h3 hrr hsh hit hrg hP hD hS hl
