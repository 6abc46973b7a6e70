theorem ofL {L : Nat} (h : L ≤ 3072) : (Int32.ofNat L).toInt = (L : Int) := Int32.toInt_ofNat_of_lt (by omega)
set_option maxHeartbeats 4000000 in
set_option maxRecDepth 100000 in
theorem law_loop {p : Program} {l : Launch} {e : Env} {s : State} {m : MethodId} {below : List Frame} {meth : Method} {c : Code} {b L : Nat} {xs : Nat → Int32} {A : Nat → Prop} {Q : State → Prop} (hx : p.tables.exec = Jvm.exec) (hb : c.code = cL_law) (hml : c.maxLocals = 4) (hown : s.vm.findClass RL = some m.cls) (hts : ∀ w ∈ wsL_law, w.before #[Value.ref b] s = true) (hX : va_X b L xs s s.heap) (hbl : b < s.heap.size) (hbA : ¬ A b) (hA : ∀ q : Nat, s.heap.size ≤ q → A q) (hL : L ≤ 3072) (dC : Nat → ClassId) (dI : Nat → Nat → Nat) (cy : Nat → ClassId) (zL : List Nat) (zT : Nat → Nat) (zR : Nat → Nat → Nat) (zx zy : Nat) (hs : SKP zL zT zR) (t_zx : zT zx = 11) (t_zy : zT zy = 18) (hK : va_K (dC, dI) vwCl (TY cy) s) (hN : N0 s)
    (kext : ∀ (H : Heap) (locs : List Loc) (ls : Array Slot), va_S A s.heap H locs → W p l e room_1 s m #[Value.ref b] below meth c H locs 265 67857 Q (F0 m 1791 ls [])) : ∀ (n : Nat) (zI : Nat → Nat → Int32) (zJ : Nat → Nat → Int64) (zi : Int32) (H : Heap) (locs : List Loc) (ls : Array Slot), ((L : Int) - zi.toInt).toNat = n → (0 ≤ zi.toInt ∧ zi.toInt ≤ (L : Int)) → WT zT zR zI → JX zR zI zx → ZI (zI (zR zy 0)) → ((zI zy 23).toInt = 0 ∨ ZI (zI (zR zy 24))) → (R3 zR zI zx zy) → (RRn zR zI zx zy) → (RSH zR zI zx zy) → (RIT zR zI zx zy) → (RGn zR zI zy) → va_P (dC, dI) vwCl (WL cy zL zT zR zI zJ) H → va_D A (WL cy zL zT zR zI zJ) → va_S A s.heap H locs → lv_has ls 4 [(0, .ref b), (1, .ref zx), (2, .ref zy), (3, .int zi)] → W p l e room_1 s m #[Value.ref b] below meth c H locs 265 67857 Q (F0 m 18 ls []) := by
  intro n
  induction n using Nat.strongRecOn with
  | _ n ih =>
    intro zI zJ zi H locs ls hn b_zi hw hj hz hk h3 hrr hsh hit hrg hP hD hS hl
    have hLi := ofL hL
    refine lv_iload_n hx hb dL_law_18 rfl (lv_at hl 3 rfl) ?_
    refine lv_aload_n hx hb dL_law_19 rfl (lv_at hl 0 rfl) ?_
    refine va_slen hx hb hX hbl hbA hS dL_law_20 ?_
    refine lv_bipush (v := 6) hx hb dL_law_21 (by decide) ?_
    refine lv_isub hx hb dL_law_23 ?_
    refine lv_topi (fun zi_2 ezi_2 => ?_)
    have t_2 : zi_2.toInt = (L : Int) - 6 := by rw [ezi_2]; exact tisub hLi (show (6 : Int32).toInt = 6 by decide) (by omega) (by omega)
    refine lv_icmp_gt (tgt := 1791) hx hb dL_law_24 (by decide) (fun c_1 => kext _ _ _ hS) (fun c_1 => ?_)
    have f_1 : ¬ (zi.toInt > zi_2.toInt) := ic_ngt rfl rfl c_1
    refine lv_aload_n hx hb dL_law_27 rfl (lv_at hl 0 rfl) ?_
    refine lv_iload_n hx hb dL_law_28 rfl (lv_at hl 3 rfl) ?_
    refine va_sld hx hb hX hbl hbA hS (vp_in_iff.mpr ⟨by omega, by omega⟩) dL_law_29 ?_
    refine lv_bipush (v := 63) hx hb dL_law_30 (by decide) ?_
    refine lv_iand hx hb dL_law_32 ?_
    refine lv_topi (fun v_1 ev_1 => ?_)
    have kx : ∀ (zI : Nat → Nat → Int32) (zJ : Nat → Nat → Int64) (H : Heap) (locs : List Loc) (ls : Array Slot), WT zT zR zI → JX zR zI zx → ZI (zI (zR zy 0)) → ((zI zy 23).toInt = 0 ∨ ZI (zI (zR zy 24))) → (R3 zR zI zx zy) → (RRn zR zI zx zy) → (RSH zR zI zx zy) → (RIT zR zI zx zy) → (RGn zR zI zy) → va_P (dC, dI) vwCl (WL cy zL zT zR zI zJ) H → va_D A (WL cy zL zT zR zI zJ) → va_S A s.heap H locs → lv_has ls 4 [(0, .ref b), (1, .ref zx), (2, .ref zy), (3, .int zi)] → W p l e room_1 s m #[Value.ref b] below meth c H locs 265 67857 Q (F0 m 1785 ls []) := by
      intro zI zJ H locs ls hw hj hz hk h3 hrr hsh hit hrg hP hD hS hl
      obtain ⟨zi_3, ezi_3⟩ : ∃ y : Int32, y = zi + 6 := ⟨_, rfl⟩
      have t_3 : zi_3.toInt = zi.toInt + 6 := by rw [ezi_3]; exact tadd rfl (show (6 : Int32).toInt = 6 by decide) (by omega) (by omega)
      refine lv_iinc (v := zi_3) (lv' := [(3, .int zi_3), (0, .ref b), (1, .ref zx), (2, .ref zy)]) hx hb dL_law_1785 hl (k := 3) rfl (by rw [ezi_3]; rfl) (by decide) rfl (fun ls hl => ?_)
      refine lv_goto (tgt := 18) hx hb dL_law_1788 (by decide) ?_
      exact ih ((L : Int) - zi_3.toInt).toNat (by omega) zI zJ zi_3 _ _ _ rfl ⟨by omega, by omega⟩ hw hj hz hk h3 hrr hsh hit hrg hP hD hS (lv_sub hl [1, 2, 3, 0] rfl)
    rcases sw_40 v_1 with k_1 | rfl | rfl | rfl | rfl | rfl | rfl | rfl | rfl | rfl | rfl | rfl | rfl | rfl | rfl | rfl | rfl | rfl | rfl | rfl | rfl | rfl | rfl | rfl | rfl | rfl | rfl | rfl | rfl | rfl | rfl | rfl | rfl | rfl | rfl | rfl | rfl | rfl | rfl | rfl | rfl | rfl
    · refine lv_tableOut (tgt := 1785) hx hb dL_law_33 (by omega) (by decide) ?_
      exact kx _ _ _ _ _ hw hj hz hk h3 hrr hsh hit hrg hP hD hS hl
    · refine lv_tableIn (off := 179) (tgt := 212) hx hb dL_law_33 (by decide) (by decide) (by decide) (by decide) ?_
      exact lw_c0 hx hb hml hown hts hX hbl hbA hA hL dC dI cy zL zT zR zI zJ zx zy zi hs hw t_zx t_zy hj hz hk h3 hrr hsh hit hrg hK hN ⟨by omega, by omega⟩ (by omega) kx hP hD hS hl
    · refine lv_tableIn (off := 222) (tgt := 255) hx hb dL_law_33 (by decide) (by decide) (by decide) (by decide) ?_
      exact lw_c1 hx hb hml hown hts hX hbl hbA hA hL dC dI cy zL zT zR zI zJ zx zy zi hs hw t_zx t_zy hj hz hk h3 hrr hsh hit hrg hK hN ⟨by omega, by omega⟩ (by omega) kx hP hD hS hl
    · refine lv_tableIn (off := 285) (tgt := 318) hx hb dL_law_33 (by decide) (by decide) (by decide) (by decide) ?_
      exact lw_c2 hx hb hml hown hts hX hbl hbA hA hL dC dI cy zL zT zR zI zJ zx zy zi hs hw t_zx t_zy hj hz hk h3 hrr hsh hit hrg hK hN ⟨by omega, by omega⟩ (by omega) kx hP hD hS hl
    · refine lv_tableIn (off := 318) (tgt := 351) hx hb dL_law_33 (by decide) (by decide) (by decide) (by decide) ?_
      exact lw_c3 hx hb hml hown hts hX hbl hbA hA hL dC dI cy zL zT zR zI zJ zx zy zi hs hw t_zx t_zy hj hz hk h3 hrr hsh hit hrg hK hN ⟨by omega, by omega⟩ (by omega) kx hP hD hS hl
    · refine lv_tableIn (off := 341) (tgt := 374) hx hb dL_law_33 (by decide) (by decide) (by decide) (by decide) ?_
      exact lw_c4 hx hb hml hown hts hX hbl hbA hA hL dC dI cy zL zT zR zI zJ zx zy zi hs hw t_zx t_zy hj hz hk h3 hrr hsh hit hrg hK hN ⟨by omega, by omega⟩ (by omega) kx hP hD hS hl
    · refine lv_tableIn (off := 364) (tgt := 397) hx hb dL_law_33 (by decide) (by decide) (by decide) (by decide) ?_
      exact lw_c5 hx hb hml hown hts hX hbl hbA hA hL dC dI cy zL zT zR zI zJ zx zy zi hs hw t_zx t_zy hj hz hk h3 hrr hsh hit hrg hK hN ⟨by omega, by omega⟩ (by omega) kx hP hD hS hl
    · refine lv_tableIn (off := 427) (tgt := 460) hx hb dL_law_33 (by decide) (by decide) (by decide) (by decide) ?_
      exact lw_c6 hx hb hml hown hts hX hbl hbA hA hL dC dI cy zL zT zR zI zJ zx zy zi hs hw t_zx t_zy hj hz hk h3 hrr hsh hit hrg hK hN ⟨by omega, by omega⟩ (by omega) kx hP hD hS hl
    · refine lv_tableIn (off := 440) (tgt := 473) hx hb dL_law_33 (by decide) (by decide) (by decide) (by decide) ?_
      exact lw_c7 hx hb hml hown hts hX hbl hbA hA hL dC dI cy zL zT zR zI zJ zx zy zi hs hw t_zx t_zy hj hz hk h3 hrr hsh hit hrg hK hN ⟨by omega, by omega⟩ (by omega) kx hP hD hS hl
    · refine lv_tableIn (off := 463) (tgt := 496) hx hb dL_law_33 (by decide) (by decide) (by decide) (by decide) ?_
      exact lw_c8 hx hb hml hown hts hX hbl hbA hA hL dC dI cy zL zT zR zI zJ zx zy zi hs hw t_zx t_zy hj hz hk h3 hrr hsh hit hrg hK hN ⟨by omega, by omega⟩ (by omega) kx hP hD hS hl
    · refine lv_tableIn (off := 526) (tgt := 559) hx hb dL_law_33 (by decide) (by decide) (by decide) (by decide) ?_
      exact lw_c9 hx hb hml hown hts hX hbl hbA hA hL dC dI cy zL zT zR zI zJ zx zy zi hs hw t_zx t_zy hj hz hk h3 hrr hsh hit hrg hK hN ⟨by omega, by omega⟩ (by omega) kx hP hD hS hl
    · refine lv_tableIn (off := 549) (tgt := 582) hx hb dL_law_33 (by decide) (by decide) (by decide) (by decide) ?_
      exact lw_c10 hx hb hml hown hts hX hbl hbA hA hL dC dI cy zL zT zR zI zJ zx zy zi hs hw t_zx t_zy hj hz hk h3 hrr hsh hit hrg hK hN ⟨by omega, by omega⟩ (by omega) kx hP hD hS hl
    · refine lv_tableIn (off := 582) (tgt := 615) hx hb dL_law_33 (by decide) (by decide) (by decide) (by decide) ?_
      exact lw_c11 hx hb hml hown hts hX hbl hbA hA hL dC dI cy zL zT zR zI zJ zx zy zi hs hw t_zx t_zy hj hz hk h3 hrr hsh hit hrg hK hN ⟨by omega, by omega⟩ (by omega) kx hP hD hS hl
    · refine lv_tableIn (off := 625) (tgt := 658) hx hb dL_law_33 (by decide) (by decide) (by decide) (by decide) ?_
      exact lw_c12 hx hb hml hown hts hX hbl hbA hA hL dC dI cy zL zT zR zI zJ zx zy zi hs hw t_zx t_zy hj hz hk h3 hrr hsh hit hrg hK hN ⟨by omega, by omega⟩ (by omega) kx hP hD hS hl
    · refine lv_tableIn (off := 658) (tgt := 691) hx hb dL_law_33 (by decide) (by decide) (by decide) (by decide) ?_
      exact lw_c13 hx hb hml hown hts hX hbl hbA hA hL dC dI cy zL zT zR zI zJ zx zy zi hs hw t_zx t_zy hj hz hk h3 hrr hsh hit hrg hK hN ⟨by omega, by omega⟩ (by omega) kx hP hD hS hl
    · refine lv_tableIn (off := 701) (tgt := 734) hx hb dL_law_33 (by decide) (by decide) (by decide) (by decide) ?_
      exact lw_c14 hx hb hml hown hts hX hbl hbA hA hL dC dI cy zL zT zR zI zJ zx zy zi hs hw t_zx t_zy hj hz hk h3 hrr hsh hit hrg hK hN ⟨by omega, by omega⟩ (by omega) kx hP hD hS hl
    · refine lv_tableIn (off := 734) (tgt := 767) hx hb dL_law_33 (by decide) (by decide) (by decide) (by decide) ?_
      exact lw_c15 hx hb hml hown hts hX hbl hbA hA hL dC dI cy zL zT zR zI zJ zx zy zi hs hw t_zx t_zy hj hz hk h3 hrr hsh hit hrg hK hN ⟨by omega, by omega⟩ (by omega) kx hP hD hS hl
    · refine lv_tableIn (off := 797) (tgt := 830) hx hb dL_law_33 (by decide) (by decide) (by decide) (by decide) ?_
      exact lw_c16 hx hb hml hown hts hX hbl hbA hA hL dC dI cy zL zT zR zI zJ zx zy zi hs hw t_zx t_zy hj hz hk h3 hrr hsh hit hrg hK hN ⟨by omega, by omega⟩ (by omega) kx hP hD hS hl
    · refine lv_tableIn (off := 860) (tgt := 893) hx hb dL_law_33 (by decide) (by decide) (by decide) (by decide) ?_
      exact lw_c17 hx hb hml hown hts hX hbl hbA hA hL dC dI cy zL zT zR zI zJ zx zy zi hs hw t_zx t_zy hj hz hk h3 hrr hsh hit hrg hK hN ⟨by omega, by omega⟩ (by omega) kx hP hD hS hl
    · refine lv_tableIn (off := 893) (tgt := 926) hx hb dL_law_33 (by decide) (by decide) (by decide) (by decide) ?_
      exact lw_c18 hx hb hml hown hts hX hbl hbA hA hL dC dI cy zL zT zR zI zJ zx zy zi hs hw t_zx t_zy hj hz hk h3 hrr hsh hit hrg hK hN ⟨by omega, by omega⟩ (by omega) kx hP hD hS hl
    · refine lv_tableIn (off := 916) (tgt := 949) hx hb dL_law_33 (by decide) (by decide) (by decide) (by decide) ?_
      exact lw_c19 hx hb hml hown hts hX hbl hbA hA hL dC dI cy zL zT zR zI zJ zx zy zi hs hw t_zx t_zy hj hz hk h3 hrr hsh hit hrg hK hN ⟨by omega, by omega⟩ (by omega) kx hP hD hS hl
    · refine lv_tableIn (off := 939) (tgt := 972) hx hb dL_law_33 (by decide) (by decide) (by decide) (by decide) ?_
      exact lw_c20 hx hb hml hown hts hX hbl hbA hA hL dC dI cy zL zT zR zI zJ zx zy zi hs hw t_zx t_zy hj hz hk h3 hrr hsh hit hrg hK hN ⟨by omega, by omega⟩ (by omega) kx hP hD hS hl
    · refine lv_tableIn (off := 982) (tgt := 1015) hx hb dL_law_33 (by decide) (by decide) (by decide) (by decide) ?_
      exact lw_c21 hx hb hml hown hts hX hbl hbA hA hL dC dI cy zL zT zR zI zJ zx zy zi hs hw t_zx t_zy hj hz hk h3 hrr hsh hit hrg hK hN ⟨by omega, by omega⟩ (by omega) kx hP hD hS hl
    · refine lv_tableIn (off := 1035) (tgt := 1068) hx hb dL_law_33 (by decide) (by decide) (by decide) (by decide) ?_
      exact lw_c22 hx hb hml hown hts hX hbl hbA hA hL dC dI cy zL zT zR zI zJ zx zy zi hs hw t_zx t_zy hj hz hk h3 hrr hsh hit hrg hK hN ⟨by omega, by omega⟩ (by omega) kx hP hD hS hl
    · refine lv_tableIn (off := 1088) (tgt := 1121) hx hb dL_law_33 (by decide) (by decide) (by decide) (by decide) ?_
      exact lw_c23 hx hb hml hown hts hX hbl hbA hA hL dC dI cy zL zT zR zI zJ zx zy zi hs hw t_zx t_zy hj hz hk h3 hrr hsh hit hrg hK hN ⟨by omega, by omega⟩ (by omega) kx hP hD hS hl
    · refine lv_tableIn (off := 1151) (tgt := 1184) hx hb dL_law_33 (by decide) (by decide) (by decide) (by decide) ?_
      exact lw_c24 hx hb hml hown hts hX hbl hbA hA hL dC dI cy zL zT zR zI zJ zx zy zi hs hw t_zx t_zy hj hz hk h3 hrr hsh hit hrg hK hN ⟨by omega, by omega⟩ (by omega) kx hP hD hS hl
    · refine lv_tableIn (off := 1184) (tgt := 1217) hx hb dL_law_33 (by decide) (by decide) (by decide) (by decide) ?_
      exact lw_c25 hx hb hml hown hts hX hbl hbA hA hL dC dI cy zL zT zR zI zJ zx zy zi hs hw t_zx t_zy hj hz hk h3 hrr hsh hit hrg hK hN ⟨by omega, by omega⟩ (by omega) kx hP hD hS hl
    · refine lv_tableIn (off := 1207) (tgt := 1240) hx hb dL_law_33 (by decide) (by decide) (by decide) (by decide) ?_
      exact lw_c26 hx hb hml hown hts hX hbl hbA hA hL dC dI cy zL zT zR zI zJ zx zy zi hs hw t_zx t_zy hj hz hk h3 hrr hsh hit hrg hK hN ⟨by omega, by omega⟩ (by omega) kx hP hD hS hl
    · refine lv_tableIn (off := 1250) (tgt := 1283) hx hb dL_law_33 (by decide) (by decide) (by decide) (by decide) ?_
      exact lw_c27 hx hb hml hown hts hX hbl hbA hA hL dC dI cy zL zT zR zI zJ zx zy zi hs hw t_zx t_zy hj hz hk h3 hrr hsh hit hrg hK hN ⟨by omega, by omega⟩ (by omega) kx hP hD hS hl
    · refine lv_tableIn (off := 1303) (tgt := 1336) hx hb dL_law_33 (by decide) (by decide) (by decide) (by decide) ?_
      exact lw_c28 hx hb hml hown hts hX hbl hbA hA hL dC dI cy zL zT zR zI zJ zx zy zi hs hw t_zx t_zy hj hz hk h3 hrr hsh hit hrg hK hN ⟨by omega, by omega⟩ (by omega) kx hP hD hS hl
    · refine lv_tableIn (off := 1346) (tgt := 1379) hx hb dL_law_33 (by decide) (by decide) (by decide) (by decide) ?_
      exact lw_c29 hx hb hml hown hts hX hbl hbA hA hL dC dI cy zL zT zR zI zJ zx zy zi hs hw t_zx t_zy hj hz hk h3 hrr hsh hit hrg hK hN ⟨by omega, by omega⟩ (by omega) kx hP hD hS hl
    · refine lv_tableIn (off := 1369) (tgt := 1402) hx hb dL_law_33 (by decide) (by decide) (by decide) (by decide) ?_
      exact lw_c30 hx hb hml hown hts hX hbl hbA hA hL dC dI cy zL zT zR zI zJ zx zy zi hs hw t_zx t_zy hj hz hk h3 hrr hsh hit hrg hK hN ⟨by omega, by omega⟩ (by omega) kx hP hD hS hl
    · refine lv_tableIn (off := 1382) (tgt := 1415) hx hb dL_law_33 (by decide) (by decide) (by decide) (by decide) ?_
      exact lw_c31 hx hb hml hown hts hX hbl hbA hA hL dC dI cy zL zT zR zI zJ zx zy zi hs hw t_zx t_zy hj hz hk h3 hrr hsh hit hrg hK hN ⟨by omega, by omega⟩ (by omega) kx hP hD hS hl
    · refine lv_tableIn (off := 1425) (tgt := 1458) hx hb dL_law_33 (by decide) (by decide) (by decide) (by decide) ?_
      exact lw_c32 hx hb hml hown hts hX hbl hbA hA hL dC dI cy zL zT zR zI zJ zx zy zi hs hw t_zx t_zy hj hz hk h3 hrr hsh hit hrg hK hN ⟨by omega, by omega⟩ (by omega) kx hP hD hS hl
    · refine lv_tableIn (off := 1458) (tgt := 1491) hx hb dL_law_33 (by decide) (by decide) (by decide) (by decide) ?_
      exact lw_c33 hx hb hml hown hts hX hbl hbA hA hL dC dI cy zL zT zR zI zJ zx zy zi hs hw t_zx t_zy hj hz hk h3 hrr hsh hit hrg hK hN ⟨by omega, by omega⟩ (by omega) kx hP hD hS hl
    · refine lv_tableIn (off := 1521) (tgt := 1554) hx hb dL_law_33 (by decide) (by decide) (by decide) (by decide) ?_
      exact lw_c34 hx hb hml hown hts hX hbl hbA hA hL dC dI cy zL zT zR zI zJ zx zy zi hs hw t_zx t_zy hj hz hk h3 hrr hsh hit hrg hK hN ⟨by omega, by omega⟩ (by omega) kx hP hD hS hl
    · refine lv_tableIn (off := 1554) (tgt := 1587) hx hb dL_law_33 (by decide) (by decide) (by decide) (by decide) ?_
      exact lw_c35 hx hb hml hown hts hX hbl hbA hA hL dC dI cy zL zT zR zI zJ zx zy zi hs hw t_zx t_zy hj hz hk h3 hrr hsh hit hrg hK hN ⟨by omega, by omega⟩ (by omega) kx hP hD hS hl
    · refine lv_tableIn (off := 1607) (tgt := 1640) hx hb dL_law_33 (by decide) (by decide) (by decide) (by decide) ?_
      exact lw_c36 hx hb hml hown hts hX hbl hbA hA hL dC dI cy zL zT zR zI zJ zx zy zi hs hw t_zx t_zy hj hz hk h3 hrr hsh hit hrg hK hN ⟨by omega, by omega⟩ (by omega) kx hP hD hS hl
    · refine lv_tableIn (off := 1620) (tgt := 1653) hx hb dL_law_33 (by decide) (by decide) (by decide) (by decide) ?_
      exact lw_c37 hx hb hml hown hts hX hbl hbA hA hL dC dI cy zL zT zR zI zJ zx zy zi hs hw t_zx t_zy hj hz hk h3 hrr hsh hit hrg hK hN ⟨by omega, by omega⟩ (by omega) kx hP hD hS hl
    · refine lv_tableIn (off := 1633) (tgt := 1666) hx hb dL_law_33 (by decide) (by decide) (by decide) (by decide) ?_
      exact lw_c38 hx hb hml hown hts hX hbl hbA hA hL dC dI cy zL zT zR zI zJ zx zy zi hs hw t_zx t_zy hj hz hk h3 hrr hsh hit hrg hK hN ⟨by omega, by omega⟩ (by omega) kx hP hD hS hl
    · refine lv_tableIn (off := 1676) (tgt := 1709) hx hb dL_law_33 (by decide) (by decide) (by decide) (by decide) ?_
      exact lw_c39 hx hb hml hown hts hX hbl hbA hA hL dC dI cy zL zT zR zI zJ zx zy zi hs hw t_zx t_zy hj hz hk h3 hrr hsh hit hrg hK hN ⟨by omega, by omega⟩ (by omega) kx hP hD hS hl
    · refine lv_tableIn (off := 1699) (tgt := 1732) hx hb dL_law_33 (by decide) (by decide) (by decide) (by decide) ?_
      exact lw_c40 hx hb hml hown hts hX hbl hbA hA hL dC dI cy zL zT zR zI zJ zx zy zi hs hw t_zx t_zy hj hz hk h3 hrr hsh hit hrg hK hN ⟨by omega, by omega⟩ (by omega) kx hP hD hS hl
