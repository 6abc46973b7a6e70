set_option maxHeartbeats 8000000 in
set_option maxRecDepth 100000 in
theorem t_X11_dropDates (l : Launch) (dC : Nat → ClassId) (dI : Nat → Nat → Nat) (cy : Nat → ClassId) (sz : Nat) (zL : List Nat) (zT : Nat → Nat) (zR : Nat → Nat → Nat) (zI : Nat → Nat → Int32) (zJ : Nat → Nat → Int64) (zy : Nat) (zia : Int32) (zib : Int32) (hs : SKP zL zT zR) (hw : WT zT zR zI) (t_zy : zT zy = 18) (b_zia : 0 ≤ zia.toInt ∧ zia.toInt ≤ 1) (hz : ZI (zI (zR zy 0))) : Met l yX11_dropDates wsX11_dropDates ({ frames := 1, cells := 0, slots := 0, locals := 21 } : Room) (va_Pc [.ref zy, .int zia, .int zib] (PRE dC dI cy (WL cy zL zT zR zI zJ) sz)) (va_Qv (fun (u : (Nat → Nat → Int32)) => (WM [10000] AL zT zR zI u) ∧ (ZI (u (zR zy 0))) ∧ (DR (u (zR zy 0)) zia.toInt zib.toInt)) (fun u t => POST dC dI cy (va_A (WL cy zL zT zR zI zJ) sz) (WL cy zL zT zR u zJ) t) (va_A (WL cy zL zT zR zI zJ) sz)) 0 0 (va_A (WL cy zL zT zR zI zJ) sz) := by
  refine Met.ofW (cc := cX11_dropDates) (maxL := 6) (ret := none) (by decide) rfl ?_
  intro p e s m args below meth c s₁ B hml hv
  obtain ⟨rfl, hsz, hP, hK, hD0, hN⟩ := hv
  have hx := B.exec
  have hb := B.bytes
  have hr := B.returns
  have hts := atoms_spec (ws := wsX11_dropDates) B.pre
  have hown : s.vm.findClass RX11 = some m.cls := findClass_of_methodNamed B.named
  have hlocks := B.notSynchronized
  subst hsz
  have hD := hD0.self (sz := s.heap.size)
  generalize hAe : va_A (WL cy zL zT zR zI zJ) s.heap.size = A at hD ⊢
  have hA : ∀ q : Nat, s.heap.size ≤ q → A q := fun q h => by rw [← hAe]; exact Or.inr h
  have hS : va_S A s.heap s.heap [] := va_S.rf
  have hP : va_P (dC, dI) vwCl (WL cy zL zT zR zI zJ) s.heap := hP
  have hl := lv_entry ([.ref zy, .int zia, .int zib] : List Value) (n := 6) (Nat.le_of_ble_eq_true rfl)
  rw [lg_entry_eq]
  generalize (lg_sl ([.ref zy, .int zia, .int zib] : List Value) ++ List.replicate (6 - (lg_sl ([.ref zy, .int zia, .int zib] : List Value)).length) Slot.unset).toArray = ls at hl ⊢
  have hl : lv_has ls 6 [(0, .ref zy), (1, .int zia), (2, .int zib)] := hl
  refine w_q (fun Q hQ => ?_)
  have h_zI : WM [10000] AL zT zR zI zI := WM.rf hw
  have z11 : 0 ≤ zA (zI (zR zy 0)) (11) ∧ zA (zI (zR zy 0)) (11) ≤ 8 := by have r9 := hz.1; unfold ZR at r9; omega
  refine lv_iconst (v := 0) hx hb dX11_dropDates_0 (by decide) ?_
  refine lv_istore_n (lv' := [(3, .int 0), (0, .ref zy), (1, .int zia), (2, .int zib)]) hx hb dX11_dropDates_1 rfl hl (by decide) rfl (fun ls hl => ?_)
  refine lv_iconst (v := 0) hx hb dX11_dropDates_2 (by decide) ?_
  refine lv_istore (lv' := [(4, .int 0), (3, .int 0), (0, .ref zy), (1, .int zia), (2, .int zib)]) hx hb dX11_dropDates_3 hl (by decide) rfl (fun ls hl => ?_)
  have lp_950 : ∀ (n : Nat) (zi_849 : Int32) (zi_850 : Int32) (zI_851 : Nat → Nat → Int32) (H : Heap) (locs : List Loc) (ls : Array Slot), (8 - zi_850.toInt).toNat = n → (0 ≤ zi_849.toInt ∧ zi_849.toInt ≤ 8) → (0 ≤ zi_850.toInt ∧ zi_850.toInt ≤ 8) → (WM [10000] AL zT zR zI zI_851) → (DD (zI (zR zy 0)) (zI_851 (zR zy 0)) zia.toInt zib.toInt zi_849.toInt zi_850.toInt 0) → (zi_849.toInt ≤ zi_850.toInt ∧ zi_850.toInt ≤ zA (zI (zR zy 0)) (11)) → va_P (dC, dI) vwCl (WL cy zL zT zR zI_851 zJ) H → va_D A (WL cy zL zT zR zI_851 zJ) → va_S A s.heap H locs → lv_has ls 6 [(0, .ref zy), (1, .int zia), (2, .int zib), (3, .int zi_849), (4, .int zi_850)] → W p l e ({ frames := 1, cells := 0, slots := 0, locals := 21 } : Room) s m ([.ref zy, .int zia, .int zib] : List Value).toArray below meth c H locs 0 0 Q (F0 m 5 ls []) := by
    intro n
    induction n using Nat.strongRecOn with
    | _ n ih_950 =>
      intro zi_849 zi_850 zI_851 H locs ls hn b_zi_849 b_zi_850 h_zI_851 e_lp_950_0 e_lp_950_1 hP hD hS hl
      refine lv_iload hx hb dX11_dropDates_5 (lv_at hl 4 rfl) ?_
      have dq_951 : zA (zI_851 (zR zy 0)) (11) = zA (zI (zR zy 0)) (11) := e_lp_950_0.1 (11) (by omega) (by omega)
      refine lv_aload_n hx hb dX11_dropDates_7 rfl (lv_at hl 0 rfl) ?_
      refine ht_getr (C := RX11) (T := TX11) (N := 28) hx hb hts (by decide +kernel) hown hK hP hs t_zy (by decide) rfl rfl 0 (by decide) (hts (.fieldLink RX11 7 "DripStoneModel" "z" "[I") (by decide +kernel)) (fun _ h9 => h9) rfl dX11_dropDates_8 ?_
      have t_952 : zT (zR zy 0) = 100 := sk_f hs t_zy (by decide) rfl (by decide)
      refine lv_bipush (v := 11) hx hb dX11_dropDates_11 (by decide) ?_
      refine ht_iald (n := 392) (q := 0) hx hb hK hP hs t_952 (by decide) rfl rfl ⟨by decide, by decide⟩ dX11_dropDates_13 ?_
      refine lv_topi (fun zi_953 ezi_953 => ?_)
      have la_954 : zi_953.toInt = zA (zI_851 (zR zy 0)) (11) := (congrArg Int32.toInt (show zI_851 (zR zy 0) (11 : Int32).toNatClampNeg = zi_953 from ezi_953.symm).symm).trans (congrArg (zA (zI_851 (zR zy 0))) (show (11 : Int32).toInt = 11 from by decide))
      refine lv_icmp_ge (tgt := 101) hx hb dX11_dropDates_14 (by decide) (fun c_955 => ?_) (fun c_955 => ?_)
      · have f_956 : zi_850.toInt ≥ zi_953.toInt := ic_ge (rfl) (rfl) c_955
        refine lv_aload_n hx hb dX11_dropDates_101 rfl (lv_at hl 0 rfl) ?_
        refine ht_getr (C := RX11) (T := TX11) (N := 28) hx hb hts (by decide +kernel) hown hK hP hs t_zy (by decide) rfl rfl 0 (by decide) (hts (.fieldLink RX11 7 "DripStoneModel" "z" "[I") (by decide +kernel)) (fun _ h9 => h9) rfl dX11_dropDates_102 ?_
        refine lv_bipush (v := 11) hx hb dX11_dropDates_105 (by decide) ?_
        refine lv_iload_n hx hb dX11_dropDates_107 rfl (lv_at hl 3 rfl) ?_
        refine ht_iast (v := zi_849) (n := 392) (q := 0) hx hb hK hP hD hS hs t_952 (by decide) rfl rfl ⟨by decide, by decide⟩ dX11_dropDates_108 (fun H locs hP hD hS => ?_)
        have h_zI_957 : WM [10000] AL zT zR zI (u2 zI_851 (zR zy 0) (11 : Int32).toNatClampNeg zi_849) := h_zI_851.putA hs t_952 rfl (rgF _) (by decide) (fun h => absurd h (by decide)) (by decide) trivial
        generalize uzI_957 : u2 zI_851 (zR zy 0) (11 : Int32).toNatClampNeg zi_849 = zI_957 at hP hD h_zI_957
        have zd_958 : ZI (zI_957 (zR zy 0)) ∧ DR (zI_957 (zR zy 0)) zia.toInt zib.toInt := by rw [← uzI_957, u2_r]; exact DD.e hz e_lp_950_0 (by decide) rfl (by omega)
        subst hQ
        exact W.vret hx hb hr (fun t ht hW => ⟨⟨zI_957, rfl, ⟨h_zI_957, (show ZI (zI_957 (zR zy 0)) from zd_958.1), (show DR (zI_957 (zR zy 0)) zia.toInt zib.toInt from zd_958.2)⟩, ⟨by rw [ht]; exact hP, va_K.moved hW.alike hK, hD⟩⟩, hS.F ht⟩) hS.2.2 dX11_dropDates_109
      · have f_956 : ¬ (zi_850.toInt ≥ zi_953.toInt) := ic_nge (rfl) (rfl) c_955
        have dq_959 : zA (zI_851 (zR zy 0)) (278 + 6 * zi_850.toInt) = zA (zI (zR zy 0)) (278 + 6 * zi_850.toInt) := e_lp_950_0.2.1 (278 + 6 * zi_850.toInt) (by omega) (by omega)
        have dq_960 : zA (zI_851 (zR zy 0)) (279 + 6 * zi_850.toInt) = zA (zI (zR zy 0)) (279 + 6 * zi_850.toInt) := e_lp_950_0.2.1 (279 + 6 * zi_850.toInt) (by omega) (by omega)
        refine lv_aload_n hx hb dX11_dropDates_17 rfl (lv_at hl 0 rfl) ?_
        refine ht_getr (C := RX11) (T := TX11) (N := 28) hx hb hts (by decide +kernel) hown hK hP hs t_zy (by decide) rfl rfl 0 (by decide) (hts (.fieldLink RX11 7 "DripStoneModel" "z" "[I") (by decide +kernel)) (fun _ h9 => h9) rfl dX11_dropDates_18 ?_
        refine lv_aload_n hx hb dX11_dropDates_21 rfl (lv_at hl 0 rfl) ?_
        refine lv_iload hx hb dX11_dropDates_22 (lv_at hl 4 rfl) ?_
        refine hj_i (ws := (WL cy zL zT zR zI_851 zJ)) (w1 := fun (u : Unit) => (WL cy zL zT zR zI_851 zJ)) (va_runV (As := [.int zi_850]) (rest := [.ref (zR zy 0)]) ⟨hx, hb, hml, hown, hts⟩ (t_X11_dateAt l dC dI cy H.size zL zT zR zI_851 zJ zy zi_850 hs h_zI_851.1 t_zy (by omega)) (cwV 1 hts gX11_dropDates_X11_dateAt rfl rfl rfl (by decide +kernel) ⟨(Nat.le_of_ble_eq_true rfl), (Nat.le_of_ble_eq_true rfl)⟩) (PRE.v hP hK hD hN (ht_recv hK hP hs t_zy (by decide) rfl rfl)) rfl rfl hl.1 rfl (lv_room (Nat.le_of_ble_eq_true rfl)) dX11_dropDates_24 ⟨(Nat.le_of_ble_eq_true rfl), (Nat.le_of_ble_eq_true rfl)⟩) hP hD hS hA (fun zi_961 u_963 H locs hw_962 hP hD hS => ?_)
        obtain ⟨b_zi_961, ps_964⟩ : (278 ≤ zi_961.toInt ∧ zi_961.toInt ≤ 326) ∧ (zi_961.toInt = 278 + 6 * zi_850.toInt) := hw_962
        refine ht_iald (n := 392) (q := 0) hx hb hK hP hs t_952 (by decide) rfl rfl ⟨by omega, by omega⟩ dX11_dropDates_27 ?_
        refine lv_topi (fun zi_965 ezi_965 => ?_)
        have la_966 : zi_965.toInt = zA (zI_851 (zR zy 0)) (278 + 6 * zi_850.toInt) := (congrArg Int32.toInt (show zI_851 (zR zy 0) zi_961.toNatClampNeg = zi_965 from ezi_965.symm).symm).trans (congrArg (zA (zI_851 (zR zy 0))) (show zi_961.toInt = 278 + 6 * zi_850.toInt from by omega))
        refine lv_iload_n hx hb dX11_dropDates_28 rfl (lv_at hl 1 rfl) ?_
        refine lv_icmp_ne (tgt := 49) hx hb dX11_dropDates_29 (by decide) (fun c_967 => ?_) (fun c_967 => ?_)
        · have f_968 : zi_965.toInt ≠ zia.toInt := ic_ne (rfl) (rfl) c_967
          refine lv_iconst (v := 0) hx hb dX11_dropDates_49 (by decide) ?_
          refine lv_istore (lv' := [(5, .int 0), (0, .ref zy), (1, .int zia), (2, .int zib), (3, .int zi_849), (4, .int zi_850)]) hx hb dX11_dropDates_50 hl (by decide) rfl (fun ls hl => ?_)
          have lp_987 : ∀ (n : Nat) (zi_969 : Int32) (zI_970 : Nat → Nat → Int32) (H : Heap) (locs : List Loc) (ls : Array Slot), (6 - zi_969.toInt).toNat = n → (0 ≤ zi_969.toInt ∧ zi_969.toInt ≤ 6) → (WM [10000] AL zT zR zI zI_970) → (DD (zI (zR zy 0)) (zI_970 (zR zy 0)) zia.toInt zib.toInt zi_849.toInt zi_850.toInt zi_969.toInt) → va_P (dC, dI) vwCl (WL cy zL zT zR zI_970 zJ) H → va_D A (WL cy zL zT zR zI_970 zJ) → va_S A s.heap H locs → lv_has ls 6 [(0, .ref zy), (1, .int zia), (2, .int zib), (3, .int zi_849), (4, .int zi_850), (5, .int zi_969)] → W p l e ({ frames := 1, cells := 0, slots := 0, locals := 21 } : Room) s m ([.ref zy, .int zia, .int zib] : List Value).toArray below meth c H locs 0 0 Q (F0 m 52 ls []) := by
            intro n
            induction n using Nat.strongRecOn with
            | _ n ih_987 =>
              intro zi_969 zI_970 H locs ls hn b_zi_969 h_zI_970 e_lp_987_0 hP hD hS hl
              refine lv_iload hx hb dX11_dropDates_52 (lv_at hl 5 rfl) ?_
              refine lv_bipush (v := 6) hx hb dX11_dropDates_54 (by decide) ?_
              refine lv_icmp_ge (tgt := 92) hx hb dX11_dropDates_56 (by decide) (fun c_988 => ?_) (fun c_988 => ?_)
              · have f_989 : zi_969.toInt ≥ (6 : Int) := ic_ge (rfl) (show (6 : Int32).toInt = 6 by decide) c_988
                obtain ⟨zi_990, ezi_990⟩ : ∃ y : Int32, y = zi_849 + 1 := ⟨_, rfl⟩
                have tzi_990 : zi_990.toInt = zi_849.toInt + 1 := by rw [ezi_990]; exact tadd rfl (show (1 : Int32).toInt = 1 by decide) (by omega) (by omega)
                refine lv_iinc (v := zi_990) (lv' := [(3, .int zi_990), (0, .ref zy), (1, .int zia), (2, .int zib), (4, .int zi_850), (5, .int zi_969)]) hx hb dX11_dropDates_92 hl (k := 3) rfl (by rw [ezi_990]; rfl) (by decide) rfl (fun ls hl => ?_)
                obtain ⟨zi_991, ezi_991⟩ : ∃ y : Int32, y = zi_850 + 1 := ⟨_, rfl⟩
                have tzi_991 : zi_991.toInt = zi_850.toInt + 1 := by rw [ezi_991]; exact tadd rfl (show (1 : Int32).toInt = 1 by decide) (by omega) (by omega)
                refine lv_iinc (v := zi_991) (lv' := [(4, .int zi_991), (3, .int zi_990), (0, .ref zy), (1, .int zia), (2, .int zib), (5, .int zi_969)]) hx hb dX11_dropDates_95 hl (k := 4) rfl (by rw [ezi_991]; rfl) (by decide) rfl (fun ls hl => ?_)
                refine lv_goto (tgt := 5) hx hb dX11_dropDates_98 (by decide) ?_
                exact ih_950 (8 - zi_991.toInt).toNat (by omega) zi_990 zi_991 zI_970 _ _ _ rfl (by omega) (by omega) h_zI_970 (DD.k e_lp_987_0 (by omega) (by omega) (by omega) (fun h9 => by omega) (by omega) (by omega)) (by omega) hP hD hS (lv_sub hl [2, 3, 4, 1, 0] rfl)
              · have f_989 : ¬ (zi_969.toInt ≥ (6 : Int)) := ic_nge (rfl) (show (6 : Int32).toInt = 6 by decide) c_988
                refine lv_aload_n hx hb dX11_dropDates_59 rfl (lv_at hl 0 rfl) ?_
                refine ht_getr (C := RX11) (T := TX11) (N := 28) hx hb hts (by decide +kernel) hown hK hP hs t_zy (by decide) rfl rfl 0 (by decide) (hts (.fieldLink RX11 7 "DripStoneModel" "z" "[I") (by decide +kernel)) (fun _ h9 => h9) rfl dX11_dropDates_60 ?_
                refine lv_aload_n hx hb dX11_dropDates_63 rfl (lv_at hl 0 rfl) ?_
                refine lv_iload_n hx hb dX11_dropDates_64 rfl (lv_at hl 3 rfl) ?_
                refine hj_i (ws := (WL cy zL zT zR zI_970 zJ)) (w1 := fun (u : Unit) => (WL cy zL zT zR zI_970 zJ)) (va_runV (As := [.int zi_849]) (rest := [.ref (zR zy 0)]) ⟨hx, hb, hml, hown, hts⟩ (t_X11_dateAt l dC dI cy H.size zL zT zR zI_970 zJ zy zi_849 hs h_zI_970.1 t_zy (by omega)) (cwV 1 hts gX11_dropDates_X11_dateAt rfl rfl rfl (by decide +kernel) ⟨(Nat.le_of_ble_eq_true rfl), (Nat.le_of_ble_eq_true rfl)⟩) (PRE.v hP hK hD hN (ht_recv hK hP hs t_zy (by decide) rfl rfl)) rfl rfl hl.1 rfl (lv_room (Nat.le_of_ble_eq_true rfl)) dX11_dropDates_65 ⟨(Nat.le_of_ble_eq_true rfl), (Nat.le_of_ble_eq_true rfl)⟩) hP hD hS hA (fun zi_992 u_994 H locs hw_993 hP hD hS => ?_)
                obtain ⟨b_zi_992, ps_995⟩ : (278 ≤ zi_992.toInt ∧ zi_992.toInt ≤ 326) ∧ (zi_992.toInt = 278 + 6 * zi_849.toInt) := hw_993
                refine lv_iload hx hb dX11_dropDates_68 (lv_at hl 5 rfl) ?_
                refine lv_iadd hx hb dX11_dropDates_70 ?_
                refine lv_topi (fun zi_996 ezi_996 => ?_)
                have tzi_996 : zi_996.toInt = zi_992.toInt + zi_969.toInt := by rw [ezi_996]; exact tiadd (rfl) (rfl) (by omega) (by omega)
                refine lv_aload_n hx hb dX11_dropDates_71 rfl (lv_at hl 0 rfl) ?_
                refine ht_getr (C := RX11) (T := TX11) (N := 28) hx hb hts (by decide +kernel) hown hK hP hs t_zy (by decide) rfl rfl 0 (by decide) (hts (.fieldLink RX11 7 "DripStoneModel" "z" "[I") (by decide +kernel)) (fun _ h9 => h9) rfl dX11_dropDates_72 ?_
                refine lv_aload_n hx hb dX11_dropDates_75 rfl (lv_at hl 0 rfl) ?_
                refine lv_iload hx hb dX11_dropDates_76 (lv_at hl 4 rfl) ?_
                refine hj_i (ws := (WL cy zL zT zR zI_970 zJ)) (w1 := fun (u : Unit) => (WL cy zL zT zR zI_970 zJ)) (va_runV (As := [.int zi_850]) (rest := [.ref (zR zy 0), .int zi_996, .ref (zR zy 0)]) ⟨hx, hb, hml, hown, hts⟩ (t_X11_dateAt l dC dI cy H.size zL zT zR zI_970 zJ zy zi_850 hs h_zI_970.1 t_zy (by omega)) (cwV 1 hts gX11_dropDates_X11_dateAt rfl rfl rfl (by decide +kernel) ⟨(Nat.le_of_ble_eq_true rfl), (Nat.le_of_ble_eq_true rfl)⟩) (PRE.v hP hK hD hN (ht_recv hK hP hs t_zy (by decide) rfl rfl)) rfl rfl hl.1 rfl (lv_room (Nat.le_of_ble_eq_true rfl)) dX11_dropDates_78 ⟨(Nat.le_of_ble_eq_true rfl), (Nat.le_of_ble_eq_true rfl)⟩) hP hD hS hA (fun zi_997 u_999 H locs hw_998 hP hD hS => ?_)
                obtain ⟨b_zi_997, ps_1000⟩ : (278 ≤ zi_997.toInt ∧ zi_997.toInt ≤ 326) ∧ (zi_997.toInt = 278 + 6 * zi_850.toInt) := hw_998
                refine lv_iload hx hb dX11_dropDates_81 (lv_at hl 5 rfl) ?_
                refine lv_iadd hx hb dX11_dropDates_83 ?_
                refine lv_topi (fun zi_1001 ezi_1001 => ?_)
                have tzi_1001 : zi_1001.toInt = zi_997.toInt + zi_969.toInt := by rw [ezi_1001]; exact tiadd (rfl) (rfl) (by omega) (by omega)
                refine ht_iald (n := 392) (q := 0) hx hb hK hP hs t_952 (by decide) rfl rfl ⟨by omega, by omega⟩ dX11_dropDates_84 ?_
                refine lv_topi (fun zi_1002 ezi_1002 => ?_)
                have la_1003 : zi_1002.toInt = zA (zI_970 (zR zy 0)) (278 + 6 * zi_850.toInt + zi_969.toInt) := (congrArg Int32.toInt (show zI_970 (zR zy 0) zi_1001.toNatClampNeg = zi_1002 from ezi_1002.symm).symm).trans (congrArg (zA (zI_970 (zR zy 0))) (show zi_1001.toInt = 278 + 6 * zi_850.toInt + zi_969.toInt from by omega))
                refine ht_iast (v := zi_1002) (n := 392) (q := 0) hx hb hK hP hD hS hs t_952 (by decide) rfl rfl ⟨by omega, by omega⟩ dX11_dropDates_85 (fun H locs hP hD hS => ?_)
                have h_zI_1004 : WM [10000] AL zT zR zI (u2 zI_970 (zR zy 0) zi_996.toNatClampNeg zi_1002) := h_zI_970.putA hs t_952 rfl (rgF _) (by decide) (fun h => absurd h (by decide)) (by decide) trivial
                generalize uzI_1004 : u2 zI_970 (zR zy 0) zi_996.toNatClampNeg zi_1002 = zI_1004 at hP hD h_zI_1004
                obtain ⟨zi_1005, ezi_1005⟩ : ∃ y : Int32, y = zi_969 + 1 := ⟨_, rfl⟩
                have tzi_1005 : zi_1005.toInt = zi_969.toInt + 1 := by rw [ezi_1005]; exact tadd rfl (show (1 : Int32).toInt = 1 by decide) (by omega) (by omega)
                refine lv_iinc (v := zi_1005) (lv' := [(5, .int zi_1005), (0, .ref zy), (1, .int zia), (2, .int zib), (3, .int zi_849), (4, .int zi_850)]) hx hb dX11_dropDates_86 hl (k := 5) rfl (by rw [ezi_1005]; rfl) (by decide) rfl (fun ls hl => ?_)
                refine lv_goto (tgt := 52) hx hb dX11_dropDates_89 (by decide) ?_
                exact ih_987 (6 - zi_1005.toInt).toNat (by omega) zi_1005 zI_1004 _ _ _ rfl (by omega) h_zI_1004 (by rw [← uzI_1004, u2_r]; exact DD.s (d := zi_850.toInt) (k := zi_969.toInt) e_lp_987_0 (by omega) (by omega) (by omega) (by omega) (la_1003.trans (congrArg (zA (zI_970 (zR zy 0))) (by omega))) (by omega)) hP hD hS (lv_sub hl [1, 2, 3, 4, 5, 0] rfl)
          have qc_0 : (0 : Int32).toInt = 0 := by decide
          exact lp_987 _ (0 : Int32) zI_851 _ _ _ rfl (by decide) h_zI_851 (show DD (zI (zR zy 0)) (zI_851 (zR zy 0)) zia.toInt zib.toInt zi_849.toInt zi_850.toInt (0 : Int32).toInt from e_lp_950_0) hP hD hS (lv_sub hl [1, 2, 3, 4, 5, 0] rfl)
        · have f_968 : ¬ (zi_965.toInt ≠ zia.toInt) := ic_nne (rfl) (rfl) c_967
          refine lv_aload_n hx hb dX11_dropDates_32 rfl (lv_at hl 0 rfl) ?_
          refine ht_getr (C := RX11) (T := TX11) (N := 28) hx hb hts (by decide +kernel) hown hK hP hs t_zy (by decide) rfl rfl 0 (by decide) (hts (.fieldLink RX11 7 "DripStoneModel" "z" "[I") (by decide +kernel)) (fun _ h9 => h9) rfl dX11_dropDates_33 ?_
          refine lv_aload_n hx hb dX11_dropDates_36 rfl (lv_at hl 0 rfl) ?_
          refine lv_iload hx hb dX11_dropDates_37 (lv_at hl 4 rfl) ?_
          refine hj_i (ws := (WL cy zL zT zR zI_851 zJ)) (w1 := fun (u : Unit) => (WL cy zL zT zR zI_851 zJ)) (va_runV (As := [.int zi_850]) (rest := [.ref (zR zy 0)]) ⟨hx, hb, hml, hown, hts⟩ (t_X11_dateAt l dC dI cy H.size zL zT zR zI_851 zJ zy zi_850 hs h_zI_851.1 t_zy (by omega)) (cwV 1 hts gX11_dropDates_X11_dateAt rfl rfl rfl (by decide +kernel) ⟨(Nat.le_of_ble_eq_true rfl), (Nat.le_of_ble_eq_true rfl)⟩) (PRE.v hP hK hD hN (ht_recv hK hP hs t_zy (by decide) rfl rfl)) rfl rfl hl.1 rfl (lv_room (Nat.le_of_ble_eq_true rfl)) dX11_dropDates_39 ⟨(Nat.le_of_ble_eq_true rfl), (Nat.le_of_ble_eq_true rfl)⟩) hP hD hS hA (fun zi_1006 u_1008 H locs hw_1007 hP hD hS => ?_)
          obtain ⟨b_zi_1006, ps_1009⟩ : (278 ≤ zi_1006.toInt ∧ zi_1006.toInt ≤ 326) ∧ (zi_1006.toInt = 278 + 6 * zi_850.toInt) := hw_1007
          refine lv_iconst (v := 1) hx hb dX11_dropDates_42 (by decide) ?_
          refine lv_iadd hx hb dX11_dropDates_43 ?_
          refine lv_topi (fun zi_1010 ezi_1010 => ?_)
          have tzi_1010 : zi_1010.toInt = zi_1006.toInt + (1 : Int) := by rw [ezi_1010]; exact tiadd (rfl) (show (1 : Int32).toInt = 1 by decide) (by omega) (by omega)
          refine ht_iald (n := 392) (q := 0) hx hb hK hP hs t_952 (by decide) rfl rfl ⟨by omega, by omega⟩ dX11_dropDates_44 ?_
          refine lv_topi (fun zi_1011 ezi_1011 => ?_)
          have la_1012 : zi_1011.toInt = zA (zI_851 (zR zy 0)) (279 + 6 * zi_850.toInt) := (congrArg Int32.toInt (show zI_851 (zR zy 0) zi_1010.toNatClampNeg = zi_1011 from ezi_1011.symm).symm).trans (congrArg (zA (zI_851 (zR zy 0))) (show zi_1010.toInt = 279 + 6 * zi_850.toInt from by omega))
          refine lv_iload_n hx hb dX11_dropDates_45 rfl (lv_at hl 2 rfl) ?_
          refine lv_icmp_ge (tgt := 95) hx hb dX11_dropDates_46 (by decide) (fun c_1013 => ?_) (fun c_1013 => ?_)
          · have f_1014 : zi_1011.toInt ≥ zib.toInt := ic_ge (rfl) (rfl) c_1013
            obtain ⟨zi_1015, ezi_1015⟩ : ∃ y : Int32, y = zi_850 + 1 := ⟨_, rfl⟩
            have tzi_1015 : zi_1015.toInt = zi_850.toInt + 1 := by rw [ezi_1015]; exact tadd rfl (show (1 : Int32).toInt = 1 by decide) (by omega) (by omega)
            refine lv_iinc (v := zi_1015) (lv' := [(4, .int zi_1015), (0, .ref zy), (1, .int zia), (2, .int zib), (3, .int zi_849)]) hx hb dX11_dropDates_95 hl (k := 4) rfl (by rw [ezi_1015]; rfl) (by decide) rfl (fun ls hl => ?_)
            refine lv_goto (tgt := 5) hx hb dX11_dropDates_98 (by decide) ?_
            exact ih_950 (8 - zi_1015.toInt).toNat (by omega) zi_849 zi_1015 zI_851 _ _ _ rfl (by omega) (by omega) h_zI_851 (DD.g e_lp_950_0 (by omega)) (by omega) hP hD hS (lv_sub hl [1, 2, 3, 4, 0] rfl)
          · have f_1014 : ¬ (zi_1011.toInt ≥ zib.toInt) := ic_nge (rfl) (rfl) c_1013
            refine lv_iconst (v := 0) hx hb dX11_dropDates_49 (by decide) ?_
            refine lv_istore (lv' := [(5, .int 0), (0, .ref zy), (1, .int zia), (2, .int zib), (3, .int zi_849), (4, .int zi_850)]) hx hb dX11_dropDates_50 hl (by decide) rfl (fun ls hl => ?_)
            have lp_1034 : ∀ (n : Nat) (zi_1016 : Int32) (zI_1017 : Nat → Nat → Int32) (H : Heap) (locs : List Loc) (ls : Array Slot), (6 - zi_1016.toInt).toNat = n → (0 ≤ zi_1016.toInt ∧ zi_1016.toInt ≤ 6) → (WM [10000] AL zT zR zI zI_1017) → (DD (zI (zR zy 0)) (zI_1017 (zR zy 0)) zia.toInt zib.toInt zi_849.toInt zi_850.toInt zi_1016.toInt) → va_P (dC, dI) vwCl (WL cy zL zT zR zI_1017 zJ) H → va_D A (WL cy zL zT zR zI_1017 zJ) → va_S A s.heap H locs → lv_has ls 6 [(0, .ref zy), (1, .int zia), (2, .int zib), (3, .int zi_849), (4, .int zi_850), (5, .int zi_1016)] → W p l e ({ frames := 1, cells := 0, slots := 0, locals := 21 } : Room) s m ([.ref zy, .int zia, .int zib] : List Value).toArray below meth c H locs 0 0 Q (F0 m 52 ls []) := by
              intro n
              induction n using Nat.strongRecOn with
              | _ n ih_1034 =>
                intro zi_1016 zI_1017 H locs ls hn b_zi_1016 h_zI_1017 e_lp_1034_0 hP hD hS hl
                refine lv_iload hx hb dX11_dropDates_52 (lv_at hl 5 rfl) ?_
                refine lv_bipush (v := 6) hx hb dX11_dropDates_54 (by decide) ?_
                refine lv_icmp_ge (tgt := 92) hx hb dX11_dropDates_56 (by decide) (fun c_1035 => ?_) (fun c_1035 => ?_)
                · have f_1036 : zi_1016.toInt ≥ (6 : Int) := ic_ge (rfl) (show (6 : Int32).toInt = 6 by decide) c_1035
                  obtain ⟨zi_1037, ezi_1037⟩ : ∃ y : Int32, y = zi_849 + 1 := ⟨_, rfl⟩
                  have tzi_1037 : zi_1037.toInt = zi_849.toInt + 1 := by rw [ezi_1037]; exact tadd rfl (show (1 : Int32).toInt = 1 by decide) (by omega) (by omega)
                  refine lv_iinc (v := zi_1037) (lv' := [(3, .int zi_1037), (0, .ref zy), (1, .int zia), (2, .int zib), (4, .int zi_850), (5, .int zi_1016)]) hx hb dX11_dropDates_92 hl (k := 3) rfl (by rw [ezi_1037]; rfl) (by decide) rfl (fun ls hl => ?_)
                  obtain ⟨zi_1038, ezi_1038⟩ : ∃ y : Int32, y = zi_850 + 1 := ⟨_, rfl⟩
                  have tzi_1038 : zi_1038.toInt = zi_850.toInt + 1 := by rw [ezi_1038]; exact tadd rfl (show (1 : Int32).toInt = 1 by decide) (by omega) (by omega)
                  refine lv_iinc (v := zi_1038) (lv' := [(4, .int zi_1038), (3, .int zi_1037), (0, .ref zy), (1, .int zia), (2, .int zib), (5, .int zi_1016)]) hx hb dX11_dropDates_95 hl (k := 4) rfl (by rw [ezi_1038]; rfl) (by decide) rfl (fun ls hl => ?_)
                  refine lv_goto (tgt := 5) hx hb dX11_dropDates_98 (by decide) ?_
                  exact ih_950 (8 - zi_1038.toInt).toNat (by omega) zi_1037 zi_1038 zI_1017 _ _ _ rfl (by omega) (by omega) h_zI_1017 (DD.k e_lp_1034_0 (by omega) (by omega) (by omega) (fun h9 => by omega) (by omega) (by omega)) (by omega) hP hD hS (lv_sub hl [2, 3, 4, 1, 0] rfl)
                · have f_1036 : ¬ (zi_1016.toInt ≥ (6 : Int)) := ic_nge (rfl) (show (6 : Int32).toInt = 6 by decide) c_1035
                  refine lv_aload_n hx hb dX11_dropDates_59 rfl (lv_at hl 0 rfl) ?_
                  refine ht_getr (C := RX11) (T := TX11) (N := 28) hx hb hts (by decide +kernel) hown hK hP hs t_zy (by decide) rfl rfl 0 (by decide) (hts (.fieldLink RX11 7 "DripStoneModel" "z" "[I") (by decide +kernel)) (fun _ h9 => h9) rfl dX11_dropDates_60 ?_
                  refine lv_aload_n hx hb dX11_dropDates_63 rfl (lv_at hl 0 rfl) ?_
                  refine lv_iload_n hx hb dX11_dropDates_64 rfl (lv_at hl 3 rfl) ?_
                  refine hj_i (ws := (WL cy zL zT zR zI_1017 zJ)) (w1 := fun (u : Unit) => (WL cy zL zT zR zI_1017 zJ)) (va_runV (As := [.int zi_849]) (rest := [.ref (zR zy 0)]) ⟨hx, hb, hml, hown, hts⟩ (t_X11_dateAt l dC dI cy H.size zL zT zR zI_1017 zJ zy zi_849 hs h_zI_1017.1 t_zy (by omega)) (cwV 1 hts gX11_dropDates_X11_dateAt rfl rfl rfl (by decide +kernel) ⟨(Nat.le_of_ble_eq_true rfl), (Nat.le_of_ble_eq_true rfl)⟩) (PRE.v hP hK hD hN (ht_recv hK hP hs t_zy (by decide) rfl rfl)) rfl rfl hl.1 rfl (lv_room (Nat.le_of_ble_eq_true rfl)) dX11_dropDates_65 ⟨(Nat.le_of_ble_eq_true rfl), (Nat.le_of_ble_eq_true rfl)⟩) hP hD hS hA (fun zi_1039 u_1041 H locs hw_1040 hP hD hS => ?_)
                  obtain ⟨b_zi_1039, ps_1042⟩ : (278 ≤ zi_1039.toInt ∧ zi_1039.toInt ≤ 326) ∧ (zi_1039.toInt = 278 + 6 * zi_849.toInt) := hw_1040
                  refine lv_iload hx hb dX11_dropDates_68 (lv_at hl 5 rfl) ?_
                  refine lv_iadd hx hb dX11_dropDates_70 ?_
                  refine lv_topi (fun zi_1043 ezi_1043 => ?_)
                  have tzi_1043 : zi_1043.toInt = zi_1039.toInt + zi_1016.toInt := by rw [ezi_1043]; exact tiadd (rfl) (rfl) (by omega) (by omega)
                  refine lv_aload_n hx hb dX11_dropDates_71 rfl (lv_at hl 0 rfl) ?_
                  refine ht_getr (C := RX11) (T := TX11) (N := 28) hx hb hts (by decide +kernel) hown hK hP hs t_zy (by decide) rfl rfl 0 (by decide) (hts (.fieldLink RX11 7 "DripStoneModel" "z" "[I") (by decide +kernel)) (fun _ h9 => h9) rfl dX11_dropDates_72 ?_
                  refine lv_aload_n hx hb dX11_dropDates_75 rfl (lv_at hl 0 rfl) ?_
                  refine lv_iload hx hb dX11_dropDates_76 (lv_at hl 4 rfl) ?_
                  refine hj_i (ws := (WL cy zL zT zR zI_1017 zJ)) (w1 := fun (u : Unit) => (WL cy zL zT zR zI_1017 zJ)) (va_runV (As := [.int zi_850]) (rest := [.ref (zR zy 0), .int zi_1043, .ref (zR zy 0)]) ⟨hx, hb, hml, hown, hts⟩ (t_X11_dateAt l dC dI cy H.size zL zT zR zI_1017 zJ zy zi_850 hs h_zI_1017.1 t_zy (by omega)) (cwV 1 hts gX11_dropDates_X11_dateAt rfl rfl rfl (by decide +kernel) ⟨(Nat.le_of_ble_eq_true rfl), (Nat.le_of_ble_eq_true rfl)⟩) (PRE.v hP hK hD hN (ht_recv hK hP hs t_zy (by decide) rfl rfl)) rfl rfl hl.1 rfl (lv_room (Nat.le_of_ble_eq_true rfl)) dX11_dropDates_78 ⟨(Nat.le_of_ble_eq_true rfl), (Nat.le_of_ble_eq_true rfl)⟩) hP hD hS hA (fun zi_1044 u_1046 H locs hw_1045 hP hD hS => ?_)
                  obtain ⟨b_zi_1044, ps_1047⟩ : (278 ≤ zi_1044.toInt ∧ zi_1044.toInt ≤ 326) ∧ (zi_1044.toInt = 278 + 6 * zi_850.toInt) := hw_1045
                  refine lv_iload hx hb dX11_dropDates_81 (lv_at hl 5 rfl) ?_
                  refine lv_iadd hx hb dX11_dropDates_83 ?_
                  refine lv_topi (fun zi_1048 ezi_1048 => ?_)
                  have tzi_1048 : zi_1048.toInt = zi_1044.toInt + zi_1016.toInt := by rw [ezi_1048]; exact tiadd (rfl) (rfl) (by omega) (by omega)
                  refine ht_iald (n := 392) (q := 0) hx hb hK hP hs t_952 (by decide) rfl rfl ⟨by omega, by omega⟩ dX11_dropDates_84 ?_
                  refine lv_topi (fun zi_1049 ezi_1049 => ?_)
                  have la_1050 : zi_1049.toInt = zA (zI_1017 (zR zy 0)) (278 + zi_1016.toInt + 6 * zi_850.toInt) := (congrArg Int32.toInt (show zI_1017 (zR zy 0) zi_1048.toNatClampNeg = zi_1049 from ezi_1049.symm).symm).trans (congrArg (zA (zI_1017 (zR zy 0))) (show zi_1048.toInt = 278 + zi_1016.toInt + 6 * zi_850.toInt from by omega))
                  refine ht_iast (v := zi_1049) (n := 392) (q := 0) hx hb hK hP hD hS hs t_952 (by decide) rfl rfl ⟨by omega, by omega⟩ dX11_dropDates_85 (fun H locs hP hD hS => ?_)
                  have h_zI_1051 : WM [10000] AL zT zR zI (u2 zI_1017 (zR zy 0) zi_1043.toNatClampNeg zi_1049) := h_zI_1017.putA hs t_952 rfl (rgF _) (by decide) (fun h => absurd h (by decide)) (by decide) trivial
                  generalize uzI_1051 : u2 zI_1017 (zR zy 0) zi_1043.toNatClampNeg zi_1049 = zI_1051 at hP hD h_zI_1051
                  obtain ⟨zi_1052, ezi_1052⟩ : ∃ y : Int32, y = zi_1016 + 1 := ⟨_, rfl⟩
                  have tzi_1052 : zi_1052.toInt = zi_1016.toInt + 1 := by rw [ezi_1052]; exact tadd rfl (show (1 : Int32).toInt = 1 by decide) (by omega) (by omega)
                  refine lv_iinc (v := zi_1052) (lv' := [(5, .int zi_1052), (0, .ref zy), (1, .int zia), (2, .int zib), (3, .int zi_849), (4, .int zi_850)]) hx hb dX11_dropDates_86 hl (k := 5) rfl (by rw [ezi_1052]; rfl) (by decide) rfl (fun ls hl => ?_)
                  refine lv_goto (tgt := 52) hx hb dX11_dropDates_89 (by decide) ?_
                  exact ih_1034 (6 - zi_1052.toInt).toNat (by omega) zi_1052 zI_1051 _ _ _ rfl (by omega) h_zI_1051 (by rw [← uzI_1051, u2_r]; exact DD.s (d := zi_850.toInt) (k := zi_1016.toInt) e_lp_1034_0 (by omega) (by omega) (by omega) (by omega) (la_1050.trans (congrArg (zA (zI_1017 (zR zy 0))) (by omega))) (by omega)) hP hD hS (lv_sub hl [1, 2, 3, 4, 5, 0] rfl)
            have qc_0 : (0 : Int32).toInt = 0 := by decide
            exact lp_1034 _ (0 : Int32) zI_851 _ _ _ rfl (by decide) h_zI_851 (show DD (zI (zR zy 0)) (zI_851 (zR zy 0)) zia.toInt zib.toInt zi_849.toInt zi_850.toInt (0 : Int32).toInt from e_lp_950_0) hP hD hS (lv_sub hl [1, 2, 3, 4, 5, 0] rfl)
  have qc_0 : (0 : Int32).toInt = 0 := by decide
  exact lp_950 _ (0 : Int32) (0 : Int32) zI _ _ _ rfl (by decide) (by decide) h_zI DD.z (by omega) hP hD hS (lv_sub hl [2, 3, 4, 1, 0] rfl)
set_option maxHeartbeats 8000000 in
set_option maxRecDepth 100000 in
theorem t_X11_cut (l : Launch) (dC : Nat → ClassId) (dI : Nat → Nat → Nat) (cy : Nat → ClassId) (sz : Nat) (zL : List Nat) (zT : Nat → Nat) (zR : Nat → Nat → Nat) (zI : Nat → Nat → Int32) (zJ : Nat → Nat → Int64) (zy : Nat) (zia : Int32) (zib : Int32) (hs : SKP zL zT zR) (hw : WT zT zR zI) (t_zy : zT zy = 18) (hz : ZI (zI (zR zy 0))) : Met l yX11_cut wsX11_cut ({ frames := 2, cells := 0, slots := 0, locals := 47 } : Room) (va_Pc [.ref zy, .int zia, .int zib] (PRE dC dI cy (WL cy zL zT zR zI zJ) sz)) (va_Qi (fun (r : Int32) (u : (Nat → Nat → Int32)) => (WM [10000] AL zT zR zI u) ∧ ((-1) ≤ r.toInt ∧ r.toInt ≤ 11) ∧ (ZI (u (zR zy 0)))) (fun u t => POST dC dI cy (va_A (WL cy zL zT zR zI zJ) sz) (WL cy zL zT zR u zJ) t) (va_A (WL cy zL zT zR zI zJ) sz)) 0 0 (va_A (WL cy zL zT zR zI zJ) sz) := by
  refine Met.ofW (cc := cX11_cut) (maxL := 3) (ret := (some .int)) (by decide) rfl ?_
  intro p e s m args below meth c s₁ B hml hv
  obtain ⟨rfl, hsz, hP, hK, hD0, hN⟩ := hv
  have hx := B.exec
  have hb := B.bytes
  have hr := B.returns
  have hts := atoms_spec (ws := wsX11_cut) B.pre
  have hown : s.vm.findClass RX11 = some m.cls := findClass_of_methodNamed B.named
  have hlocks := B.notSynchronized
  subst hsz
  have hD := hD0.self (sz := s.heap.size)
  generalize hAe : va_A (WL cy zL zT zR zI zJ) s.heap.size = A at hD ⊢
  have hA : ∀ q : Nat, s.heap.size ≤ q → A q := fun q h => by rw [← hAe]; exact Or.inr h
  have hS : va_S A s.heap s.heap [] := va_S.rf
  have hP : va_P (dC, dI) vwCl (WL cy zL zT zR zI zJ) s.heap := hP
  have hl := lv_entry ([.ref zy, .int zia, .int zib] : List Value) (n := 3) (Nat.le_of_ble_eq_true rfl)
  rw [lg_entry_eq]
  generalize (lg_sl ([.ref zy, .int zia, .int zib] : List Value) ++ List.replicate (3 - (lg_sl ([.ref zy, .int zia, .int zib] : List Value)).length) Slot.unset).toArray = ls at hl ⊢
  have hl : lv_has ls 3 [(0, .ref zy), (1, .int zia), (2, .int zib)] := hl
  refine w_q (fun Q hQ => ?_)
  have h_zI : WM [10000] AL zT zR zI zI := WM.rf hw
  refine lv_iload_n hx hb dX11_cut_0 rfl (lv_at hl 1 rfl) ?_
  refine hj0_i (ws := (WL cy zL zT zR zI zJ)) (va_runS (As := [.int zia]) (rest := []) ⟨hx, hb, hml, hown, hts⟩ (c_X11_isCandle l dC dI cy s.heap.size zia) (va_cwS 1 hts gX11_cut_X11_isCandle rfl rfl rfl (by decide +kernel) ⟨(Nat.le_of_ble_eq_true rfl), (Nat.le_of_ble_eq_true rfl)⟩) (PRE.s (hP.sub [] rfl) hK (hD.sub [] (by decide) rfl) hN) rfl rfl hl.1 rfl (lv_room (Nat.le_of_ble_eq_true rfl)) dX11_cut_1 ⟨(Nat.le_of_ble_eq_true rfl), (Nat.le_of_ble_eq_true rfl)⟩) hP hD hS hA (fun zi_1 u_3 H locs hw_2 hP hD hS => ?_)
  have hw_2 : zi_1 = if 0 ≤ zia.toInt ∧ zia.toInt ≤ 1 then 1 else 0 := hw_2
  have b_zi_1 : 0 ≤ zi_1.toInt ∧ zi_1.toInt ≤ 1 := bz_b hw_2
  refine lv_if_eq (tgt := 16) hx hb dX11_cut_4 (by decide) (fun c_4 => ?_) (fun c_4 => ?_)
  · have f_5 : ¬ (0 ≤ zia.toInt ∧ zia.toInt ≤ 1) := bz_0 hw_2 c_4
    refine lv_iconst (v := (-1)) hx hb dX11_cut_16 (by decide) ?_
    subst hQ
    have qc_m1 : (-1 : Int32).toInt = -1 := by decide
    exact W.iret (v := (-1 : Int32)) hx hb hr (fun t ht hW => ⟨⟨(-1 : Int32), zI, rfl, ⟨h_zI, (show (-1) ≤ (-1 : Int32).toInt ∧ (-1 : Int32).toInt ≤ 11 from by omega), (show ZI (zI (zR zy 0)) from hz)⟩, ⟨by rw [ht]; exact hP, va_K.moved hW.alike hK, hD⟩⟩, hS.F ht⟩) hS.2.2 dX11_cut_17
  · have f_5 : 0 ≤ zia.toInt ∧ zia.toInt ≤ 1 := bz_1 hw_2 c_4
    refine lv_aload_n hx hb dX11_cut_7 rfl (lv_at hl 0 rfl) ?_
    refine lv_iload_n hx hb dX11_cut_8 rfl (lv_at hl 1 rfl) ?_
    refine lv_iload_n hx hb dX11_cut_9 rfl (lv_at hl 2 rfl) ?_
    refine hj_i (ws := (WL cy zL zT zR zI zJ)) (w1 := fun (u : Unit) => (WL cy zL zT zR zI zJ)) (va_runV (As := [.int zia, .int zib]) (rest := []) ⟨hx, hb, hml, hown, hts⟩ (t_X11_isThing l dC dI cy H.size zL zT zR zI zJ zy zia zib hs h_zI.1 t_zy (by omega) hz) (cwV 2 hts gX11_cut_X11_isThing rfl rfl rfl (by decide +kernel) ⟨(Nat.le_of_ble_eq_true rfl), (Nat.le_of_ble_eq_true rfl)⟩) (PRE.v hP hK hD hN (ht_recv hK hP hs t_zy (by decide) rfl rfl)) rfl rfl hl.1 rfl (lv_room (Nat.le_of_ble_eq_true rfl)) dX11_cut_10 ⟨(Nat.le_of_ble_eq_true rfl), (Nat.le_of_ble_eq_true rfl)⟩) hP hD hS hA (fun zi_6 u_8 H locs hw_7 hP hD hS => ?_)
    obtain ⟨b_zi_6, ps_9, ps_10⟩ : (0 ≤ zi_6.toInt ∧ zi_6.toInt ≤ 1) ∧ (zi_6.toInt = 0 ∨ (0 ≤ zib.toInt ∧ zib.toInt ≤ 11)) ∧ (zi_6.toInt = 0 ∨ zib.toInt < zA (zI (zR zy 0)) (5 + zia.toInt)) := hw_7
    refine lv_if_ne (tgt := 18) hx hb dX11_cut_13 (by decide) (fun c_11 => ?_) (fun c_11 => ?_)
    · have f_12 : zi_6.toInt ≠ 0 := ic_ne (rfl) (by decide) c_11
      have b9_zib : 0 ≤ zib.toInt ∧ zib.toInt ≤ 11 := by omega
      refine lv_aload_n hx hb dX11_cut_18 rfl (lv_at hl 0 rfl) ?_
      refine lv_iload_n hx hb dX11_cut_19 rfl (lv_at hl 1 rfl) ?_
      refine lv_iload_n hx hb dX11_cut_20 rfl (lv_at hl 2 rfl) ?_
      refine hj_v (ws := (WL cy zL zT zR zI zJ)) (w1 := fun (u : (Nat → Nat → Int32)) => (WL cy zL zT zR u zJ)) (va_runV (As := [.int zia, .int zib]) (rest := []) ⟨hx, hb, hml, hown, hts⟩ (t_X11_dropStretches l dC dI cy H.size zL zT zR zI zJ zy zia zib hs h_zI.1 t_zy (by omega) hz) (cwV 2 hts gX11_cut_X11_dropStretches rfl rfl rfl (by decide +kernel) ⟨(Nat.le_of_ble_eq_true rfl), (Nat.le_of_ble_eq_true rfl)⟩) (PRE.v hP hK hD hN (ht_recv hK hP hs t_zy (by decide) rfl rfl)) rfl rfl hl.1 rfl (lv_room (Nat.le_of_ble_eq_true rfl)) dX11_cut_21 ⟨(Nat.le_of_ble_eq_true rfl), (Nat.le_of_ble_eq_true rfl)⟩) hP hD hS hA (fun zI_16 H locs hw_14 hP hD hS => ?_)
      obtain ⟨k_zI_16, ps_17⟩ : (WM [10000] AL zT zR zI zI_16) ∧ (ZI (zI_16 (zR zy 0))) := hw_14
      have h_zI_16 : WM [10000] AL zT zR zI zI_16 := h_zI.tr k_zI_16 (by decide) (fun _ _ => trivial)
      refine lv_aload_n hx hb dX11_cut_24 rfl (lv_at hl 0 rfl) ?_
      refine lv_iload_n hx hb dX11_cut_25 rfl (lv_at hl 1 rfl) ?_
      refine lv_iload_n hx hb dX11_cut_26 rfl (lv_at hl 2 rfl) ?_
      refine hj_v (ws := (WL cy zL zT zR zI_16 zJ)) (w1 := fun (u : (Nat → Nat → Int32)) => (WL cy zL zT zR u zJ)) (va_runV (As := [.int zia, .int zib]) (rest := []) ⟨hx, hb, hml, hown, hts⟩ (t_X11_dropDates l dC dI cy H.size zL zT zR zI_16 zJ zy zia zib hs h_zI_16.1 t_zy (by omega) ps_17) (cwV 2 hts gX11_cut_X11_dropDates rfl rfl rfl (by decide +kernel) ⟨(Nat.le_of_ble_eq_true rfl), (Nat.le_of_ble_eq_true rfl)⟩) (PRE.v hP hK hD hN (ht_recv hK hP hs t_zy (by decide) rfl rfl)) rfl rfl hl.1 rfl (lv_room (Nat.le_of_ble_eq_true rfl)) dX11_cut_27 ⟨(Nat.le_of_ble_eq_true rfl), (Nat.le_of_ble_eq_true rfl)⟩) hP hD hS hA (fun zI_21 H locs hw_19 hP hD hS => ?_)
      obtain ⟨k_zI_21, ps_22, ps_23⟩ : (WM [10000] AL zT zR zI_16 zI_21) ∧ (ZI (zI_21 (zR zy 0))) ∧ (DR (zI_21 (zR zy 0)) zia.toInt zib.toInt) := hw_19
      have h_zI_21 : WM [10000] AL zT zR zI zI_21 := h_zI_16.tr k_zI_21 (by decide) (fun _ _ => trivial)
      refine lv_aload_n hx hb dX11_cut_30 rfl (lv_at hl 0 rfl) ?_
      refine ht_getr (C := RX11) (T := TX11) (N := 28) hx hb hts (by decide +kernel) hown hK hP hs t_zy (by decide) rfl rfl 0 (by decide) (hts (.fieldLink RX11 7 "DripStoneModel" "z" "[I") (by decide +kernel)) (fun _ h9 => h9) rfl dX11_cut_31 ?_
      have t_24 : zT (zR zy 0) = 100 := sk_f hs t_zy (by decide) rfl (by decide)
      refine lv_iconst (v := 5) hx hb dX11_cut_34 (by decide) ?_
      refine lv_iload_n hx hb dX11_cut_35 rfl (lv_at hl 1 rfl) ?_
      refine lv_iadd hx hb dX11_cut_36 ?_
      refine lv_topi (fun zi_25 ezi_25 => ?_)
      have tzi_25 : zi_25.toInt = (5 : Int) + zia.toInt := by rw [ezi_25]; exact tiadd (show (5 : Int32).toInt = 5 by decide) (rfl) (by omega) (by omega)
      refine lv_iload_n hx hb dX11_cut_37 rfl (lv_at hl 2 rfl) ?_
      refine ht_iast (v := zib) (n := 392) (q := 0) hx hb hK hP hD hS hs t_24 (by decide) rfl rfl ⟨by omega, by omega⟩ dX11_cut_38 (fun H locs hP hD hS => ?_)
      have h_zI_26 : WM [10000] AL zT zR zI (u2 zI_21 (zR zy 0) zi_25.toNatClampNeg zib) := h_zI_21.putA hs t_24 rfl (rgF _) (by decide) (fun h => absurd h (by decide)) (by decide) trivial
      generalize uzI_26 : u2 zI_21 (zR zy 0) zi_25.toNatClampNeg zib = zI_26 at hP hD h_zI_26
      have z_zI_26 : ZI (zI_26 (zR zy 0)) := by rw [← uzI_26, u2_r]; exact ZI.sz ps_22 (c := zia.toInt) (by omega) (by omega) (by omega) (fun d d0 d1 hd => ps_23 d d0 d1 hd)
      refine lv_aload_n hx hb dX11_cut_39 rfl (lv_at hl 0 rfl) ?_
      refine ht_getr (C := RX11) (T := TX11) (N := 28) hx hb hts (by decide +kernel) hown hK hP hs t_zy (by decide) rfl rfl 0 (by decide) (hts (.fieldLink RX11 7 "DripStoneModel" "z" "[I") (by decide +kernel)) (fun _ h9 => h9) rfl dX11_cut_40 ?_
      refine lv_bipush (v := 7) hx hb dX11_cut_43 (by decide) ?_
      refine lv_iload_n hx hb dX11_cut_45 rfl (lv_at hl 1 rfl) ?_
      refine lv_iadd hx hb dX11_cut_46 ?_
      refine lv_topi (fun zi_27 ezi_27 => ?_)
      have tzi_27 : zi_27.toInt = (7 : Int) + zia.toInt := by rw [ezi_27]; exact tiadd (show (7 : Int32).toInt = 7 by decide) (rfl) (by omega) (by omega)
      refine lv_iconst (v := 0) hx hb dX11_cut_47 (by decide) ?_
      refine ht_iast (v := (0 : Int32)) (n := 392) (q := 0) hx hb hK hP hD hS hs t_24 (by decide) rfl rfl ⟨by omega, by omega⟩ dX11_cut_48 (fun H locs hP hD hS => ?_)
      have h_zI_28 : WM [10000] AL zT zR zI (u2 zI_26 (zR zy 0) zi_27.toNatClampNeg (0 : Int32)) := h_zI_26.putA hs t_24 rfl (rgF _) (by decide) (fun h => absurd h (by decide)) (by decide) trivial
      generalize uzI_28 : u2 zI_26 (zR zy 0) zi_27.toNatClampNeg (0 : Int32) = zI_28 at hP hD h_zI_28
      have z_zI_28 : ZI (zI_28 (zR zy 0)) := by rw [← uzI_28, u2_r]; exact ZI.fr z_zI_26 (by omega)
      refine lv_iload_n hx hb dX11_cut_49 rfl (lv_at hl 2 rfl) ?_
      subst hQ
      exact W.iret (v := zib) hx hb hr (fun t ht hW => ⟨⟨zib, zI_28, rfl, ⟨h_zI_28, (show (-1) ≤ zib.toInt ∧ zib.toInt ≤ 11 from by omega), (show ZI (zI_28 (zR zy 0)) from z_zI_28)⟩, ⟨by rw [ht]; exact hP, va_K.moved hW.alike hK, hD⟩⟩, hS.F ht⟩) hS.2.2 dX11_cut_50
    · have f_12 : ¬ (zi_6.toInt ≠ 0) := ic_nne (rfl) (by decide) c_11
      refine lv_iconst (v := (-1)) hx hb dX11_cut_16 (by decide) ?_
      subst hQ
      have qc_m1 : (-1 : Int32).toInt = -1 := by decide
      exact W.iret (v := (-1 : Int32)) hx hb hr (fun t ht hW => ⟨⟨(-1 : Int32), zI, rfl, ⟨h_zI, (show (-1) ≤ (-1 : Int32).toInt ∧ (-1 : Int32).toInt ≤ 11 from by omega), (show ZI (zI (zR zy 0)) from hz)⟩, ⟨by rw [ht]; exact hP, va_K.moved hW.alike hK, hD⟩⟩, hS.F ht⟩) hS.2.2 dX11_cut_17
set_option maxHeartbeats 8000000 in
set_option maxRecDepth 100000 in
theorem t_X11_make (l : Launch) (dC : Nat → ClassId) (dI : Nat → Nat → Nat) (cy : Nat → ClassId) (sz : Nat) (zL : List Nat) (zT : Nat → Nat) (zR : Nat → Nat → Nat) (zI : Nat → Nat → Int32) (zJ : Nat → Nat → Int64) (zy : Nat) (zia : Int32) (hs : SKP zL zT zR) (hw : WT zT zR zI) (t_zy : zT zy = 18) (hz : ZI (zI (zR zy 0))) : Met l yX11_make wsX11_make ({ frames := 3, cells := 0, slots := 0, locals := 74 } : Room) (va_Pc [.ref zy, .int zia] (PRE dC dI cy (WL cy zL zT zR zI zJ) sz)) (va_Qi (fun (r : Int32) (u : (Nat → Nat → Int32)) => (WM [10000] AL zT zR zI u) ∧ ((-2) ≤ r.toInt ∧ r.toInt ≤ 12) ∧ (ZI (u (zR zy 0)))) (fun u t => POST dC dI cy (va_A (WL cy zL zT zR zI zJ) sz) (WL cy zL zT zR u zJ) t) (va_A (WL cy zL zT zR zI zJ) sz)) 0 0 (va_A (WL cy zL zT zR zI zJ) sz) := by
  refine Met.ofW (cc := cX11_make) (maxL := 6) (ret := (some .int)) (by decide) rfl ?_
  intro p e s m args below meth c s₁ B hml hv
  obtain ⟨rfl, hsz, hP, hK, hD0, hN⟩ := hv
  have hx := B.exec
  have hb := B.bytes
  have hr := B.returns
  have hts := atoms_spec (ws := wsX11_make) B.pre
  have hown : s.vm.findClass RX11 = some m.cls := findClass_of_methodNamed B.named
  have hlocks := B.notSynchronized
  subst hsz
  have hD := hD0.self (sz := s.heap.size)
  generalize hAe : va_A (WL cy zL zT zR zI zJ) s.heap.size = A at hD ⊢
  have hA : ∀ q : Nat, s.heap.size ≤ q → A q := fun q h => by rw [← hAe]; exact Or.inr h
  have hS : va_S A s.heap s.heap [] := va_S.rf
  have hP : va_P (dC, dI) vwCl (WL cy zL zT zR zI zJ) s.heap := hP
  have hl := lv_entry ([.ref zy, .int zia] : List Value) (n := 6) (Nat.le_of_ble_eq_true rfl)
  rw [lg_entry_eq]
  generalize (lg_sl ([.ref zy, .int zia] : List Value) ++ List.replicate (6 - (lg_sl ([.ref zy, .int zia] : List Value)).length) Slot.unset).toArray = ls at hl ⊢
  have hl : lv_has ls 6 [(0, .ref zy), (1, .int zia)] := hl
  refine w_q (fun Q hQ => ?_)
  have h_zI : WM [10000] AL zT zR zI zI := WM.rf hw
  refine lv_iload_n hx hb dX11_make_0 rfl (lv_at hl 1 rfl) ?_
  refine hj0_i (ws := (WL cy zL zT zR zI zJ)) (va_runS (As := [.int zia]) (rest := []) ⟨hx, hb, hml, hown, hts⟩ (c_X11_isCandle l dC dI cy s.heap.size zia) (va_cwS 1 hts gX11_make_X11_isCandle rfl rfl rfl (by decide +kernel) ⟨(Nat.le_of_ble_eq_true rfl), (Nat.le_of_ble_eq_true rfl)⟩) (PRE.s (hP.sub [] rfl) hK (hD.sub [] (by decide) rfl) hN) rfl rfl hl.1 rfl (lv_room (Nat.le_of_ble_eq_true rfl)) dX11_make_1 ⟨(Nat.le_of_ble_eq_true rfl), (Nat.le_of_ble_eq_true rfl)⟩) hP hD hS hA (fun zi_1 u_3 H locs hw_2 hP hD hS => ?_)
  have hw_2 : zi_1 = if 0 ≤ zia.toInt ∧ zia.toInt ≤ 1 then 1 else 0 := hw_2
  have b_zi_1 : 0 ≤ zi_1.toInt ∧ zi_1.toInt ≤ 1 := bz_b hw_2
  refine lv_if_ne (tgt := 9) hx hb dX11_make_4 (by decide) (fun c_4 => ?_) (fun c_4 => ?_)
  · have f_5 : 0 ≤ zia.toInt ∧ zia.toInt ≤ 1 := bz_1 hw_2 c_4
    refine lv_aload_n hx hb dX11_make_9 rfl (lv_at hl 0 rfl) ?_
    refine ht_getr (C := RX11) (T := TX11) (N := 28) hx hb hts (by decide +kernel) hown hK hP hs t_zy (by decide) rfl rfl 0 (by decide) (hts (.fieldLink RX11 7 "DripStoneModel" "z" "[I") (by decide +kernel)) (fun _ h9 => h9) rfl dX11_make_10 ?_
    have t_6 : zT (zR zy 0) = 100 := sk_f hs t_zy (by decide) rfl (by decide)
    refine lv_iconst (v := 2) hx hb dX11_make_13 (by decide) ?_
    refine ht_iald (n := 392) (q := 0) hx hb hK hP hs t_6 (by decide) rfl rfl ⟨by decide, by decide⟩ dX11_make_14 ?_
    refine lv_topi (fun zi_7 ezi_7 => ?_)
    have la_8 : zi_7.toInt = zA (zI (zR zy 0)) (2) := (congrArg Int32.toInt (show zI (zR zy 0) (2 : Int32).toNatClampNeg = zi_7 from ezi_7.symm).symm).trans (congrArg (zA (zI (zR zy 0))) (show (2 : Int32).toInt = 2 from by decide))
    have tz_9 : 0 ≤ zi_7.toInt ∧ zi_7.toInt ≤ 6 := by rw [← (show zI (zR zy 0) (2 : Int32).toNatClampNeg = zi_7 from ezi_7.symm)]; exact ZI.g2 hz (by decide) (by decide)
    refine lv_if_ne (tgt := 21) hx hb dX11_make_15 (by decide) (fun c_10 => ?_) (fun c_10 => ?_)
    · have f_11 : zi_7.toInt ≠ 0 := ic_ne (rfl) (by decide) c_10
      refine lv_aload_n hx hb dX11_make_21 rfl (lv_at hl 0 rfl) ?_
      refine lv_iload_n hx hb dX11_make_22 rfl (lv_at hl 1 rfl) ?_
      refine lv_iconst (v := 0) hx hb dX11_make_23 (by decide) ?_
      have qc_0 : (0 : Int32).toInt = 0 := by decide
      refine hj_v (ws := (WL cy zL zT zR zI zJ)) (w1 := fun (u : (Nat → Nat → Int32)) => (WL cy zL zT zR u zJ)) (va_runV (As := [.int zia, .int 0]) (rest := []) ⟨hx, hb, hml, hown, hts⟩ (t_X11_dropStretches l dC dI cy H.size zL zT zR zI zJ zy zia (0 : Int32) hs h_zI.1 t_zy (by omega) hz) (cwV 2 hts gX11_make_X11_dropStretches rfl rfl rfl (by decide +kernel) ⟨(Nat.le_of_ble_eq_true rfl), (Nat.le_of_ble_eq_true rfl)⟩) (PRE.v hP hK hD hN (ht_recv hK hP hs t_zy (by decide) rfl rfl)) rfl rfl hl.1 rfl (lv_room (Nat.le_of_ble_eq_true rfl)) dX11_make_24 ⟨(Nat.le_of_ble_eq_true rfl), (Nat.le_of_ble_eq_true rfl)⟩) hP hD hS hA (fun zI_15 H locs hw_13 hP hD hS => ?_)
      obtain ⟨k_zI_15, ps_16⟩ : (WM [10000] AL zT zR zI zI_15) ∧ (ZI (zI_15 (zR zy 0))) := hw_13
      have h_zI_15 : WM [10000] AL zT zR zI zI_15 := h_zI.tr k_zI_15 (by decide) (fun _ _ => trivial)
      refine lv_aload_n hx hb dX11_make_27 rfl (lv_at hl 0 rfl) ?_
      refine lv_iload_n hx hb dX11_make_28 rfl (lv_at hl 1 rfl) ?_
      refine lv_iconst (v := 0) hx hb dX11_make_29 (by decide) ?_
      refine hj_v (ws := (WL cy zL zT zR zI_15 zJ)) (w1 := fun (u : (Nat → Nat → Int32)) => (WL cy zL zT zR u zJ)) (va_runV (As := [.int zia, .int 0]) (rest := []) ⟨hx, hb, hml, hown, hts⟩ (t_X11_dropDates l dC dI cy H.size zL zT zR zI_15 zJ zy zia (0 : Int32) hs h_zI_15.1 t_zy (by omega) ps_16) (cwV 2 hts gX11_make_X11_dropDates rfl rfl rfl (by decide +kernel) ⟨(Nat.le_of_ble_eq_true rfl), (Nat.le_of_ble_eq_true rfl)⟩) (PRE.v hP hK hD hN (ht_recv hK hP hs t_zy (by decide) rfl rfl)) rfl rfl hl.1 rfl (lv_room (Nat.le_of_ble_eq_true rfl)) dX11_make_30 ⟨(Nat.le_of_ble_eq_true rfl), (Nat.le_of_ble_eq_true rfl)⟩) hP hD hS hA (fun zI_20 H locs hw_18 hP hD hS => ?_)
      obtain ⟨k_zI_20, ps_21, ps_22⟩ : (WM [10000] AL zT zR zI_15 zI_20) ∧ (ZI (zI_20 (zR zy 0))) ∧ (DR (zI_20 (zR zy 0)) zia.toInt (0 : Int32).toInt) := hw_18
      have h_zI_20 : WM [10000] AL zT zR zI zI_20 := h_zI_15.tr k_zI_20 (by decide) (fun _ _ => trivial)
      refine lv_aload_n hx hb dX11_make_33 rfl (lv_at hl 0 rfl) ?_
      refine ht_getr (C := RX11) (T := TX11) (N := 28) hx hb hts (by decide +kernel) hown hK hP hs t_zy (by decide) rfl rfl 0 (by decide) (hts (.fieldLink RX11 7 "DripStoneModel" "z" "[I") (by decide +kernel)) (fun _ h9 => h9) rfl dX11_make_34 ?_
      refine lv_iconst (v := 5) hx hb dX11_make_37 (by decide) ?_
      refine lv_iload_n hx hb dX11_make_38 rfl (lv_at hl 1 rfl) ?_
      refine lv_iadd hx hb dX11_make_39 ?_
      refine lv_topi (fun zi_23 ezi_23 => ?_)
      have tzi_23 : zi_23.toInt = (5 : Int) + zia.toInt := by rw [ezi_23]; exact tiadd (show (5 : Int32).toInt = 5 by decide) (rfl) (by omega) (by omega)
      refine lv_iconst (v := 0) hx hb dX11_make_40 (by decide) ?_
      refine ht_iast (v := (0 : Int32)) (n := 392) (q := 0) hx hb hK hP hD hS hs t_6 (by decide) rfl rfl ⟨by omega, by omega⟩ dX11_make_41 (fun H locs hP hD hS => ?_)
      have qz_0 : (0 : Int32).toInt = 0 := by decide
      have h_zI_24 : WM [10000] AL zT zR zI (u2 zI_20 (zR zy 0) zi_23.toNatClampNeg (0 : Int32)) := h_zI_20.putA hs t_6 rfl (rgF _) (by decide) (fun h => absurd h (by decide)) (by decide) trivial
      generalize uzI_24 : u2 zI_20 (zR zy 0) zi_23.toNatClampNeg (0 : Int32) = zI_24 at hP hD h_zI_24
      have z_zI_24 : ZI (zI_24 (zR zy 0)) := by rw [← uzI_24, u2_r]; exact ZI.sz ps_21 (c := zia.toInt) (by omega) (by omega) (by omega) (fun d d0 d1 hd => ps_22 d d0 d1 hd)
      refine lv_bipush (v := (-4)) hx hb dX11_make_42 (by decide) ?_
      refine lv_istore_n (lv' := [(2, .int (-4)), (0, .ref zy), (1, .int zia)]) hx hb dX11_make_44 rfl hl (by decide) rfl (fun ls hl => ?_)
      refine lv_iconst (v := 0) hx hb dX11_make_45 (by decide) ?_
      refine lv_istore_n (lv' := [(3, .int 0), (2, .int (-4)), (0, .ref zy), (1, .int zia)]) hx hb dX11_make_46 rfl hl (by decide) rfl (fun ls hl => ?_)
      have lp_1091 : ∀ (n : Nat) (zi_911 : Int32) (zi_912 : Int32) (zI_913 : Nat → Nat → Int32) (H : Heap) (locs : List Loc) (ls : Array Slot), (24 - zi_912.toInt).toNat = n → ((-4) ≤ zi_911.toInt ∧ zi_911.toInt ≤ 23) → (0 ≤ zi_912.toInt ∧ zi_912.toInt ≤ 24) → (WM [10000] AL zT zR zI zI_913) → (ZI (zI_913 (zR zy 0))) → va_P (dC, dI) vwCl (WL cy zL zT zR zI_913 zJ) H → va_D A (WL cy zL zT zR zI_913 zJ) → va_S A s.heap H locs → lv_has ls 6 [(0, .ref zy), (1, .int zia), (2, .int zi_911), (3, .int zi_912)] → W p l e ({ frames := 3, cells := 0, slots := 0, locals := 74 } : Room) s m ([.ref zy, .int zia] : List Value).toArray below meth c H locs 0 0 Q (F0 m 47 ls []) := by
        intro n
        induction n using Nat.strongRecOn with
        | _ n ih_1091 =>
          intro zi_911 zi_912 zI_913 H locs ls hn b_zi_911 b_zi_912 h_zI_913 e_lp_1091_0 hP hD hS hl
          refine lv_iload_n hx hb dX11_make_47 rfl (lv_at hl 3 rfl) ?_
          refine lv_bipush (v := 24) hx hb dX11_make_48 (by decide) ?_
          refine lv_icmp_ge (tgt := 156) hx hb dX11_make_50 (by decide) (fun c_1092 => ?_) (fun c_1092 => ?_)
          · have f_1093 : zi_912.toInt ≥ (24 : Int) := ic_ge (rfl) (show (24 : Int32).toInt = 24 by decide) c_1092
            refine lv_aload_n hx hb dX11_make_156 rfl (lv_at hl 0 rfl) ?_
            refine ht_getr (C := RX11) (T := TX11) (N := 28) hx hb hts (by decide +kernel) hown hK hP hs t_zy (by decide) rfl rfl 0 (by decide) (hts (.fieldLink RX11 7 "DripStoneModel" "z" "[I") (by decide +kernel)) (fun _ h9 => h9) rfl dX11_make_157 ?_
            refine lv_bipush (v := 7) hx hb dX11_make_160 (by decide) ?_
            refine lv_iload_n hx hb dX11_make_162 rfl (lv_at hl 1 rfl) ?_
            refine lv_iadd hx hb dX11_make_163 ?_
            refine lv_topi (fun zi_1094 ezi_1094 => ?_)
            have tzi_1094 : zi_1094.toInt = (7 : Int) + zia.toInt := by rw [ezi_1094]; exact tiadd (show (7 : Int32).toInt = 7 by decide) (rfl) (by omega) (by omega)
            refine lv_iconst (v := 1) hx hb dX11_make_164 (by decide) ?_
            refine ht_iast (v := (1 : Int32)) (n := 392) (q := 0) hx hb hK hP hD hS hs t_6 (by decide) rfl rfl ⟨by omega, by omega⟩ dX11_make_165 (fun H locs hP hD hS => ?_)
            have h_zI_1095 : WM [10000] AL zT zR zI (u2 zI_913 (zR zy 0) zi_1094.toNatClampNeg (1 : Int32)) := h_zI_913.putA hs t_6 rfl (rgF _) (by decide) (fun h => absurd h (by decide)) (by decide) trivial
            generalize uzI_1095 : u2 zI_913 (zR zy 0) zi_1094.toNatClampNeg (1 : Int32) = zI_1095 at hP hD h_zI_1095
            have z_zI_1095 : ZI (zI_1095 (zR zy 0)) := by rw [← uzI_1095, u2_r]; exact ZI.fr e_lp_1091_0 (by omega)
            refine lv_aload_n hx hb dX11_make_166 rfl (lv_at hl 0 rfl) ?_
            refine ht_getr (C := RX11) (T := TX11) (N := 28) hx hb hts (by decide +kernel) hown hK hP hs t_zy (by decide) rfl rfl 0 (by decide) (hts (.fieldLink RX11 7 "DripStoneModel" "z" "[I") (by decide +kernel)) (fun _ h9 => h9) rfl dX11_make_167 ?_
            refine lv_iconst (v := 5) hx hb dX11_make_170 (by decide) ?_
            refine lv_iload_n hx hb dX11_make_171 rfl (lv_at hl 1 rfl) ?_
            refine lv_iadd hx hb dX11_make_172 ?_
            refine lv_topi (fun zi_1096 ezi_1096 => ?_)
            have tzi_1096 : zi_1096.toInt = (5 : Int) + zia.toInt := by rw [ezi_1096]; exact tiadd (show (5 : Int32).toInt = 5 by decide) (rfl) (by omega) (by omega)
            refine ht_iald (n := 392) (q := 0) hx hb hK hP hs t_6 (by decide) rfl rfl ⟨by omega, by omega⟩ dX11_make_173 ?_
            refine lv_topi (fun zi_1097 ezi_1097 => ?_)
            have la_1098 : zi_1097.toInt = zA (zI_1095 (zR zy 0)) (5 + zia.toInt) := (congrArg Int32.toInt (show zI_1095 (zR zy 0) zi_1096.toNatClampNeg = zi_1097 from ezi_1097.symm).symm).trans (congrArg (zA (zI_1095 (zR zy 0))) (show zi_1096.toInt = 5 + zia.toInt from by omega))
            have tz_1099 : 0 ≤ zi_1097.toInt ∧ zi_1097.toInt ≤ 12 := by rw [← (show zI_1095 (zR zy 0) zi_1096.toNatClampNeg = zi_1097 from ezi_1097.symm)]; exact ZI.g5 z_zI_1095 (by omega) (by omega)
            subst hQ
            exact W.iret (v := zi_1097) hx hb hr (fun t ht hW => ⟨⟨zi_1097, zI_1095, rfl, ⟨h_zI_1095, (show (-2) ≤ zi_1097.toInt ∧ zi_1097.toInt ≤ 12 from by omega), (show ZI (zI_1095 (zR zy 0)) from z_zI_1095)⟩, ⟨by rw [ht]; exact hP, va_K.moved hW.alike hK, hD⟩⟩, hS.F ht⟩) hS.2.2 dX11_make_174
          · have f_1093 : ¬ (zi_912.toInt ≥ (24 : Int)) := ic_nge (rfl) (show (24 : Int32).toInt = 24 by decide) c_1092
            refine lv_aload_n hx hb dX11_make_53 rfl (lv_at hl 0 rfl) ?_
            refine lv_iload_n hx hb dX11_make_54 rfl (lv_at hl 3 rfl) ?_
            refine hj_i (ws := (WL cy zL zT zR zI_913 zJ)) (w1 := fun (u : Unit) => (WL cy zL zT zR zI_913 zJ)) (va_runV (As := [.int zi_912]) (rest := []) ⟨hx, hb, hml, hown, hts⟩ (t_X11_growthOf l dC dI cy H.size zL zT zR zI_913 zJ zy zi_912 hs h_zI_913.1 t_zy (by omega) e_lp_1091_0) (cwV 1 hts gX11_make_X11_growthOf rfl rfl rfl (by decide +kernel) ⟨(Nat.le_of_ble_eq_true rfl), (Nat.le_of_ble_eq_true rfl)⟩) (PRE.v hP hK hD hN (ht_recv hK hP hs t_zy (by decide) rfl rfl)) rfl rfl hl.1 rfl (lv_room (Nat.le_of_ble_eq_true rfl)) dX11_make_55 ⟨(Nat.le_of_ble_eq_true rfl), (Nat.le_of_ble_eq_true rfl)⟩) hP hD hS hA (fun zi_1100 u_1102 H locs hw_1101 hP hD hS => ?_)
            have ps_1103 : zi_1100.toInt ≤ 0 ∨ ¬ WS (zI_913 (zR zy 0)) (zA (zI_913 (zR zy 0)) (0)).toNat zi_912.toInt 0 = 0 := hw_1101
            have rzi_1100 := rng zi_1100
            refine lv_istore (lv' := [(4, .int zi_1100), (0, .ref zy), (1, .int zia), (2, .int zi_911), (3, .int zi_912)]) hx hb dX11_make_58 hl (by decide) rfl (fun ls hl => ?_)
            refine lv_iload hx hb dX11_make_60 (lv_at hl 0 rfl) ?_
            refine lv_if_le (tgt := 91) hx hb dX11_make_62 (by decide) (fun c_1104 => ?_) (fun c_1104 => ?_)
            · have f_1105 : zi_1100.toInt ≤ 0 := ic_le (rfl) (by decide) c_1104
              refine lv_iconst (v := 0) hx hb dX11_make_91 (by decide) ?_
              refine lv_istore (lv' := [(5, .int 0), (4, .int zi_1100), (0, .ref zy), (1, .int zia), (2, .int zi_911), (3, .int zi_912)]) hx hb dX11_make_92 hl (by decide) rfl (fun ls hl => ?_)
              refine lv_iload hx hb dX11_make_94 (lv_at hl 0 rfl) ?_
              refine lv_iload hx hb dX11_make_96 (lv_at hl 1 rfl) ?_
              refine lv_icmp_ge (tgt := 139) hx hb dX11_make_98 (by decide) (fun c_1114 => ?_) (fun c_1114 => ?_)
              · have f_1115 : (0 : Int) ≥ zi_1100.toInt := ic_ge (show (0 : Int32).toInt = 0 by decide) (rfl) c_1114
                refine lv_iload hx hb dX11_make_139 (lv_at hl 1 rfl) ?_
                refine lv_if_le (tgt := 148) hx hb dX11_make_141 (by decide) (fun c_1116 => ?_) (fun c_1116 => ?_)
                · have f_1117 : zi_1100.toInt ≤ 0 := ic_le (rfl) (by decide) c_1116
                  refine lv_iload_n hx hb dX11_make_148 rfl (lv_at hl 4 rfl) ?_
                  refine lv_istore_n (lv' := [(2, .int zi_911), (5, .int 0), (4, .int zi_1100), (0, .ref zy), (1, .int zia), (3, .int zi_912)]) hx hb dX11_make_149 rfl hl (by decide) rfl (fun ls hl => ?_)
                  obtain ⟨zi_1118, ezi_1118⟩ : ∃ y : Int32, y = zi_912 + 1 := ⟨_, rfl⟩
                  have tzi_1118 : zi_1118.toInt = zi_912.toInt + 1 := by rw [ezi_1118]; exact tadd rfl (show (1 : Int32).toInt = 1 by decide) (by omega) (by omega)
                  refine lv_iinc (v := zi_1118) (lv' := [(3, .int zi_1118), (2, .int zi_911), (5, .int 0), (4, .int zi_1100), (0, .ref zy), (1, .int zia)]) hx hb dX11_make_150 hl (k := 5) rfl (by rw [ezi_1118]; rfl) (by decide) rfl (fun ls hl => ?_)
                  refine lv_goto (tgt := 47) hx hb dX11_make_153 (by decide) ?_
                  exact ih_1091 (24 - zi_1118.toInt).toNat (by omega) zi_911 zi_1118 zI_913 _ _ _ rfl (by omega) (by omega) h_zI_913 e_lp_1091_0 hP hD hS (lv_sub hl [4, 5, 1, 0] rfl)
                · have f_1117 : ¬ (zi_1100.toInt ≤ 0) := ic_nle (rfl) (by decide) c_1116
                  exfalso; omega
              · have f_1115 : ¬ ((0 : Int) ≥ zi_1100.toInt) := ic_nge (show (0 : Int32).toInt = 0 by decide) (rfl) c_1114
                exfalso; omega
            · have f_1105 : ¬ (zi_1100.toInt ≤ 0) := ic_nle (rfl) (by decide) c_1104
              refine lv_iload_n hx hb dX11_make_65 rfl (lv_at hl 3 rfl) ?_
              refine lv_if_lt (tgt := 91) hx hb dX11_make_66 (by decide) (fun c_1119 => ?_) (fun c_1119 => ?_)
              · have f_1120 : zi_911.toInt < 0 := ic_lt (rfl) (by decide) c_1119
                refine lv_iconst (v := 0) hx hb dX11_make_91 (by decide) ?_
                refine lv_istore (lv' := [(5, .int 0), (4, .int zi_1100), (0, .ref zy), (1, .int zia), (2, .int zi_911), (3, .int zi_912)]) hx hb dX11_make_92 hl (by decide) rfl (fun ls hl => ?_)
                have lp_1144 : ∀ (n : Nat) (zi_1121 : Int32) (zI_1122 : Nat → Nat → Int32) (H : Heap) (locs : List Loc) (ls : Array Slot), (zi_1100.toInt - zi_1121.toInt).toNat = n → (0 ≤ zi_1121.toInt) → (WM [10000] AL zT zR zI zI_1122) → (WP (zI_1122 (zR zy 0)) zi_912.toInt zi_1100.toInt) → (ZI (zI_1122 (zR zy 0))) → va_P (dC, dI) vwCl (WL cy zL zT zR zI_1122 zJ) H → va_D A (WL cy zL zT zR zI_1122 zJ) → va_S A s.heap H locs → lv_has ls 6 [(0, .ref zy), (1, .int zia), (2, .int zi_911), (3, .int zi_912), (4, .int zi_1100), (5, .int zi_1121)] → W p l e ({ frames := 3, cells := 0, slots := 0, locals := 74 } : Room) s m ([.ref zy, .int zia] : List Value).toArray below meth c H locs 0 0 Q (F0 m 94 ls []) := by
                  intro n
                  induction n using Nat.strongRecOn with
                  | _ n ih_1144 =>
                    intro zi_1121 zI_1122 H locs ls hn b_zi_1121 h_zI_1122 e_lp_1144_0 e_lp_1144_1 hP hD hS hl
                    refine lv_iload hx hb dX11_make_94 (lv_at hl 5 rfl) ?_
                    refine lv_iload hx hb dX11_make_96 (lv_at hl 4 rfl) ?_
                    refine lv_icmp_ge (tgt := 139) hx hb dX11_make_98 (by decide) (fun c_1145 => ?_) (fun c_1145 => ?_)
                    · have f_1146 : zi_1121.toInt ≥ zi_1100.toInt := ic_ge (rfl) (rfl) c_1145
                      refine lv_iload hx hb dX11_make_139 (lv_at hl 4 rfl) ?_
                      refine lv_if_le (tgt := 148) hx hb dX11_make_141 (by decide) (fun c_1147 => ?_) (fun c_1147 => ?_)
                      · have f_1148 : zi_1100.toInt ≤ 0 := ic_le (rfl) (by decide) c_1147
                        exfalso; omega
                      · have f_1148 : ¬ (zi_1100.toInt ≤ 0) := ic_nle (rfl) (by decide) c_1147
                        refine lv_iload_n hx hb dX11_make_144 rfl (lv_at hl 3 rfl) ?_
                        refine lv_goto (tgt := 149) hx hb dX11_make_145 (by decide) ?_
                        refine lv_istore_n (lv' := [(2, .int zi_912), (0, .ref zy), (1, .int zia), (3, .int zi_912), (4, .int zi_1100), (5, .int zi_1121)]) hx hb dX11_make_149 rfl hl (by decide) rfl (fun ls hl => ?_)
                        obtain ⟨zi_1149, ezi_1149⟩ : ∃ y : Int32, y = zi_912 + 1 := ⟨_, rfl⟩
                        have tzi_1149 : zi_1149.toInt = zi_912.toInt + 1 := by rw [ezi_1149]; exact tadd rfl (show (1 : Int32).toInt = 1 by decide) (by omega) (by omega)
                        refine lv_iinc (v := zi_1149) (lv' := [(3, .int zi_1149), (2, .int zi_912), (0, .ref zy), (1, .int zia), (4, .int zi_1100), (5, .int zi_1121)]) hx hb dX11_make_150 hl (k := 3) rfl (by rw [ezi_1149]; rfl) (by decide) rfl (fun ls hl => ?_)
                        refine lv_goto (tgt := 47) hx hb dX11_make_153 (by decide) ?_
                        exact ih_1091 (24 - zi_1149.toInt).toNat (by omega) zi_912 zi_1149 zI_1122 _ _ _ rfl (by omega) (by omega) h_zI_1122 e_lp_1144_1 hP hD hS (lv_sub hl [2, 3, 1, 0] rfl)
                    · have f_1146 : ¬ (zi_1121.toInt ≥ zi_1100.toInt) := ic_nge (rfl) (rfl) c_1145
                      refine lv_aload_n hx hb dX11_make_101 rfl (lv_at hl 0 rfl) ?_
                      refine lv_iload_n hx hb dX11_make_102 rfl (lv_at hl 1 rfl) ?_
                      refine lv_iconst (v := 0) hx hb dX11_make_103 (by decide) ?_
                      refine lv_aload_n hx hb dX11_make_104 rfl (lv_at hl 0 rfl) ?_
                      refine lv_iload_n hx hb dX11_make_105 rfl (lv_at hl 3 rfl) ?_
                      refine lv_aload_n hx hb dX11_make_106 rfl (lv_at hl 0 rfl) ?_
                      refine ht_getr (C := RX11) (T := TX11) (N := 28) hx hb hts (by decide +kernel) hown hK hP hs t_zy (by decide) rfl rfl 0 (by decide) (hts (.fieldLink RX11 7 "DripStoneModel" "z" "[I") (by decide +kernel)) (fun _ h9 => h9) rfl dX11_make_107 ?_
                      refine lv_iconst (v := 0) hx hb dX11_make_110 (by decide) ?_
                      refine ht_iald (n := 392) (q := 0) hx hb hK hP hs t_6 (by decide) rfl rfl ⟨by decide, by decide⟩ dX11_make_111 ?_
                      refine lv_topi (fun zi_1150 ezi_1150 => ?_)
                      have la_1151 : zi_1150.toInt = zA (zI_1122 (zR zy 0)) (0) := (congrArg Int32.toInt (show zI_1122 (zR zy 0) (0 : Int32).toNatClampNeg = zi_1150 from ezi_1150.symm).symm).trans (congrArg (zA (zI_1122 (zR zy 0))) (show (0 : Int32).toInt = 0 from by decide))
                      have tz_1152 : 1 ≤ zi_1150.toInt ∧ zi_1150.toInt ≤ 5 := by rw [← (show zI_1122 (zR zy 0) (0 : Int32).toNatClampNeg = zi_1150 from ezi_1150.symm)]; exact ZI.g0 e_lp_1144_1 (by decide) (by decide)
                      refine hj_i (ws := (WL cy zL zT zR zI_1122 zJ)) (w1 := fun (u : Unit) => (WL cy zL zT zR zI_1122 zJ)) (va_runV (As := [.int zi_912, .int zi_1150]) (rest := [.int 0, .int zia, .ref zy]) ⟨hx, hb, hml, hown, hts⟩ (t_X11_waterBy l dC dI cy H.size zL zT zR zI_1122 zJ zy zi_912 zi_1150 hs h_zI_1122.1 t_zy (by omega) (by omega) (WP.at e_lp_1144_0 (by omega) (by omega))) (cwV 2 hts gX11_make_X11_waterBy rfl rfl rfl (by decide +kernel) ⟨(Nat.le_of_ble_eq_true rfl), (Nat.le_of_ble_eq_true rfl)⟩) (PRE.v hP hK hD hN (ht_recv hK hP hs t_zy (by decide) rfl rfl)) rfl rfl hl.1 rfl (lv_room (Nat.le_of_ble_eq_true rfl)) dX11_make_112 ⟨(Nat.le_of_ble_eq_true rfl), (Nat.le_of_ble_eq_true rfl)⟩) hP hD hS hA (fun zi_1153 u_1155 H locs hw_1154 hP hD hS => ?_)
                      have rzi_1153 := rng zi_1153
                      refine lv_aload_n hx hb dX11_make_115 rfl (lv_at hl 0 rfl) ?_
                      refine ht_getr (C := RX11) (T := TX11) (N := 28) hx hb hts (by decide +kernel) hown hK hP hs t_zy (by decide) rfl rfl 0 (by decide) (hts (.fieldLink RX11 7 "DripStoneModel" "z" "[I") (by decide +kernel)) (fun _ h9 => h9) rfl dX11_make_116 ?_
                      refine lv_bipush (v := 20) hx hb dX11_make_119 (by decide) ?_
                      refine lv_iconst (v := 3) hx hb dX11_make_121 (by decide) ?_
                      refine lv_iload_n hx hb dX11_make_122 rfl (lv_at hl 3 rfl) ?_
                      refine lv_imul hx hb dX11_make_123 ?_
                      refine lv_topi (fun zi_1156 ezi_1156 => ?_)
                      have tzi_1156 : zi_1156.toInt = (3 : Int) * zi_912.toInt := by rw [ezi_1156]; exact timul (show (3 : Int32).toInt = 3 by decide) (rfl) (by omega) (by omega)
                      refine lv_iadd hx hb dX11_make_124 ?_
                      refine lv_topi (fun zi_1157 ezi_1157 => ?_)
                      have tzi_1157 : zi_1157.toInt = (20 : Int) + zi_1156.toInt := by rw [ezi_1157]; exact tiadd (show (20 : Int32).toInt = 20 by decide) (rfl) (by omega) (by omega)
                      refine lv_iconst (v := 2) hx hb dX11_make_125 (by decide) ?_
                      refine lv_iadd hx hb dX11_make_126 ?_
                      refine lv_topi (fun zi_1158 ezi_1158 => ?_)
                      have tzi_1158 : zi_1158.toInt = zi_1157.toInt + (2 : Int) := by rw [ezi_1158]; exact tiadd (rfl) (show (2 : Int32).toInt = 2 by decide) (by omega) (by omega)
                      refine ht_iald (n := 392) (q := 0) hx hb hK hP hs t_6 (by decide) rfl rfl ⟨by omega, by omega⟩ dX11_make_127 ?_
                      refine lv_topi (fun zi_1159 ezi_1159 => ?_)
                      have la_1160 : zi_1159.toInt = zA (zI_1122 (zR zy 0)) (22 + 3 * zi_912.toInt) := (congrArg Int32.toInt (show zI_1122 (zR zy 0) zi_1158.toNatClampNeg = zi_1159 from ezi_1159.symm).symm).trans (congrArg (zA (zI_1122 (zR zy 0))) (show zi_1158.toInt = 22 + 3 * zi_912.toInt from by omega))
                      refine lv_isub hx hb dX11_make_128 ?_
                      refine lv_topi (fun zi_1161 ezi_1161 => ?_)
                      refine lv_iload_n hx hb dX11_make_129 rfl (lv_at hl 3 rfl) ?_
                      refine hj_v (ws := (WL cy zL zT zR zI_1122 zJ)) (w1 := fun (u : (Nat → Nat → Int32)) => (WL cy zL zT zR u zJ)) (va_runV (As := [.int zia, .int 0, .int zi_1161, .int zi_912]) (rest := []) ⟨hx, hb, hml, hown, hts⟩ (t_X11_addThing l dC dI cy H.size zL zT zR zI_1122 zJ zy zia (0 : Int32) zi_1161 zi_912 hs h_zI_1122.1 t_zy (by omega) e_lp_1144_1) (cwV 4 hts gX11_make_X11_addThing rfl rfl rfl (by decide +kernel) ⟨(Nat.le_of_ble_eq_true rfl), (Nat.le_of_ble_eq_true rfl)⟩) (PRE.v hP hK hD hN (ht_recv hK hP hs t_zy (by decide) rfl rfl)) rfl rfl hl.1 rfl (lv_room (Nat.le_of_ble_eq_true rfl)) dX11_make_130 ⟨(Nat.le_of_ble_eq_true rfl), (Nat.le_of_ble_eq_true rfl)⟩) hP hD hS hA (fun zI_1165 H locs hw_1163 hP hD hS => ?_)
                      obtain ⟨k_zI_1165, ps_1166, ps_1167⟩ : (WM [10000] AL zT zR zI_1122 zI_1165) ∧ (FA (zI_1122 (zR zy 0)) (zI_1165 (zR zy 0))) ∧ (ZI (zI_1165 (zR zy 0))) := hw_1163
                      have h_zI_1165 : WM [10000] AL zT zR zI zI_1165 := h_zI_1122.tr k_zI_1165 (by decide) (fun _ _ => trivial)
                      obtain ⟨zi_1168, ezi_1168⟩ : ∃ y : Int32, y = zi_1121 + 1 := ⟨_, rfl⟩
                      have tzi_1168 : zi_1168.toInt = zi_1121.toInt + 1 := by rw [ezi_1168]; exact tadd rfl (show (1 : Int32).toInt = 1 by decide) (by omega) (by omega)
                      refine lv_iinc (v := zi_1168) (lv' := [(5, .int zi_1168), (0, .ref zy), (1, .int zia), (2, .int zi_911), (3, .int zi_912), (4, .int zi_1100)]) hx hb dX11_make_133 hl (k := 5) rfl (by rw [ezi_1168]; rfl) (by decide) rfl (fun ls hl => ?_)
                      refine lv_goto (tgt := 94) hx hb dX11_make_136 (by decide) ?_
                      exact ih_1144 (zi_1100.toInt - zi_1168.toInt).toNat (by omega) zi_1168 zI_1165 _ _ _ rfl (by omega) h_zI_1165 (WP.fa e_lp_1144_0 ps_1166 (by omega)) ps_1167 hP hD hS (lv_sub hl [1, 2, 3, 4, 5, 0] rfl)
                exact lp_1144 _ (0 : Int32) zI_913 _ _ _ rfl (by decide) h_zI_913 ps_1103 e_lp_1091_0 hP hD hS (lv_sub hl [2, 3, 4, 5, 1, 0] rfl)
              · have f_1120 : ¬ (zi_911.toInt < 0) := ic_nlt (rfl) (by decide) c_1119
                refine lv_iload_n hx hb dX11_make_69 rfl (lv_at hl 4 rfl) ?_
                refine lv_iload_n hx hb dX11_make_70 rfl (lv_at hl 3 rfl) ?_
                refine lv_isub hx hb dX11_make_71 ?_
                refine lv_topi (fun zi_1169 ezi_1169 => ?_)
                have tzi_1169 : zi_1169.toInt = zi_912.toInt - zi_911.toInt := by rw [ezi_1169]; exact tisub (rfl) (rfl) (by omega) (by omega)
                refine lv_iconst (v := 1) hx hb dX11_make_72 (by decide) ?_
                refine lv_isub hx hb dX11_make_73 ?_
                refine lv_topi (fun zi_1170 ezi_1170 => ?_)
                have tzi_1170 : zi_1170.toInt = zi_1169.toInt - (1 : Int) := by rw [ezi_1170]; exact tisub (rfl) (show (1 : Int32).toInt = 1 by decide) (by omega) (by omega)
                refine lv_aload_n hx hb dX11_make_74 rfl (lv_at hl 1 rfl) ?_
                refine ht_getr (C := RX11) (T := TX11) (N := 28) hx hb hts (by decide +kernel) hown hK hP hs t_zy (by decide) rfl rfl 0 (by decide) (hts (.fieldLink RX11 7 "DripStoneModel" "z" "[I") (by decide +kernel)) (fun _ h9 => h9) rfl dX11_make_75 ?_
                refine lv_iconst (v := 1) hx hb dX11_make_78 (by decide) ?_
                refine ht_iald (n := 392) (q := 0) hx hb hK hP hs t_6 (by decide) rfl rfl ⟨by decide, by decide⟩ dX11_make_79 ?_
                refine lv_topi (fun zi_1171 ezi_1171 => ?_)
                have la_1172 : zi_1171.toInt = zA (zI_913 (zR zy 0)) (1) := (congrArg Int32.toInt (show zI_913 (zR zy 0) (1 : Int32).toNatClampNeg = zi_1171 from ezi_1171.symm).symm).trans (congrArg (zA (zI_913 (zR zy 0))) (show (1 : Int32).toInt = 1 from by decide))
                have tz_1173 : 1 ≤ zi_1171.toInt ∧ zi_1171.toInt ≤ 9 := by rw [← (show zI_913 (zR zy 0) (1 : Int32).toNatClampNeg = zi_1171 from ezi_1171.symm)]; exact ZI.g1 e_lp_1091_0 (by decide) (by decide)
                refine lv_icmp_lt (tgt := 91) hx hb dX11_make_80 (by decide) (fun c_1174 => ?_) (fun c_1174 => ?_)
                · have f_1175 : zi_1170.toInt < zi_1171.toInt := ic_lt (rfl) (rfl) c_1174
                  refine lv_iconst (v := 0) hx hb dX11_make_91 (by decide) ?_
                  refine lv_istore (lv' := [(5, .int 0), (4, .int zi_1100), (0, .ref zy), (1, .int zia), (2, .int zi_911), (3, .int zi_912)]) hx hb dX11_make_92 hl (by decide) rfl (fun ls hl => ?_)
                  have lp_1199 : ∀ (n : Nat) (zi_1176 : Int32) (zI_1177 : Nat → Nat → Int32) (H : Heap) (locs : List Loc) (ls : Array Slot), (zi_1100.toInt - zi_1176.toInt).toNat = n → (0 ≤ zi_1176.toInt) → (WM [10000] AL zT zR zI zI_1177) → (WP (zI_1177 (zR zy 0)) zi_912.toInt zi_1100.toInt) → (ZI (zI_1177 (zR zy 0))) → va_P (dC, dI) vwCl (WL cy zL zT zR zI_1177 zJ) H → va_D A (WL cy zL zT zR zI_1177 zJ) → va_S A s.heap H locs → lv_has ls 6 [(0, .ref zy), (1, .int zia), (2, .int zi_911), (3, .int zi_912), (4, .int zi_1100), (5, .int zi_1176)] → W p l e ({ frames := 3, cells := 0, slots := 0, locals := 74 } : Room) s m ([.ref zy, .int zia] : List Value).toArray below meth c H locs 0 0 Q (F0 m 94 ls []) := by
                    intro n
                    induction n using Nat.strongRecOn with
                    | _ n ih_1199 =>
                      intro zi_1176 zI_1177 H locs ls hn b_zi_1176 h_zI_1177 e_lp_1199_0 e_lp_1199_1 hP hD hS hl
                      refine lv_iload hx hb dX11_make_94 (lv_at hl 5 rfl) ?_
                      refine lv_iload hx hb dX11_make_96 (lv_at hl 4 rfl) ?_
                      refine lv_icmp_ge (tgt := 139) hx hb dX11_make_98 (by decide) (fun c_1200 => ?_) (fun c_1200 => ?_)
                      · have f_1201 : zi_1176.toInt ≥ zi_1100.toInt := ic_ge (rfl) (rfl) c_1200
                        refine lv_iload hx hb dX11_make_139 (lv_at hl 4 rfl) ?_
                        refine lv_if_le (tgt := 148) hx hb dX11_make_141 (by decide) (fun c_1202 => ?_) (fun c_1202 => ?_)
                        · have f_1203 : zi_1100.toInt ≤ 0 := ic_le (rfl) (by decide) c_1202
                          exfalso; omega
                        · have f_1203 : ¬ (zi_1100.toInt ≤ 0) := ic_nle (rfl) (by decide) c_1202
                          refine lv_iload_n hx hb dX11_make_144 rfl (lv_at hl 3 rfl) ?_
                          refine lv_goto (tgt := 149) hx hb dX11_make_145 (by decide) ?_
                          refine lv_istore_n (lv' := [(2, .int zi_912), (0, .ref zy), (1, .int zia), (3, .int zi_912), (4, .int zi_1100), (5, .int zi_1176)]) hx hb dX11_make_149 rfl hl (by decide) rfl (fun ls hl => ?_)
                          obtain ⟨zi_1204, ezi_1204⟩ : ∃ y : Int32, y = zi_912 + 1 := ⟨_, rfl⟩
                          have tzi_1204 : zi_1204.toInt = zi_912.toInt + 1 := by rw [ezi_1204]; exact tadd rfl (show (1 : Int32).toInt = 1 by decide) (by omega) (by omega)
                          refine lv_iinc (v := zi_1204) (lv' := [(3, .int zi_1204), (2, .int zi_912), (0, .ref zy), (1, .int zia), (4, .int zi_1100), (5, .int zi_1176)]) hx hb dX11_make_150 hl (k := 3) rfl (by rw [ezi_1204]; rfl) (by decide) rfl (fun ls hl => ?_)
                          refine lv_goto (tgt := 47) hx hb dX11_make_153 (by decide) ?_
                          exact ih_1091 (24 - zi_1204.toInt).toNat (by omega) zi_912 zi_1204 zI_1177 _ _ _ rfl (by omega) (by omega) h_zI_1177 e_lp_1199_1 hP hD hS (lv_sub hl [2, 3, 1, 0] rfl)
                      · have f_1201 : ¬ (zi_1176.toInt ≥ zi_1100.toInt) := ic_nge (rfl) (rfl) c_1200
                        refine lv_aload_n hx hb dX11_make_101 rfl (lv_at hl 0 rfl) ?_
                        refine lv_iload_n hx hb dX11_make_102 rfl (lv_at hl 1 rfl) ?_
                        refine lv_iconst (v := 0) hx hb dX11_make_103 (by decide) ?_
                        refine lv_aload_n hx hb dX11_make_104 rfl (lv_at hl 0 rfl) ?_
                        refine lv_iload_n hx hb dX11_make_105 rfl (lv_at hl 3 rfl) ?_
                        refine lv_aload_n hx hb dX11_make_106 rfl (lv_at hl 0 rfl) ?_
                        refine ht_getr (C := RX11) (T := TX11) (N := 28) hx hb hts (by decide +kernel) hown hK hP hs t_zy (by decide) rfl rfl 0 (by decide) (hts (.fieldLink RX11 7 "DripStoneModel" "z" "[I") (by decide +kernel)) (fun _ h9 => h9) rfl dX11_make_107 ?_
                        refine lv_iconst (v := 0) hx hb dX11_make_110 (by decide) ?_
                        refine ht_iald (n := 392) (q := 0) hx hb hK hP hs t_6 (by decide) rfl rfl ⟨by decide, by decide⟩ dX11_make_111 ?_
                        refine lv_topi (fun zi_1205 ezi_1205 => ?_)
                        have la_1206 : zi_1205.toInt = zA (zI_1177 (zR zy 0)) (0) := (congrArg Int32.toInt (show zI_1177 (zR zy 0) (0 : Int32).toNatClampNeg = zi_1205 from ezi_1205.symm).symm).trans (congrArg (zA (zI_1177 (zR zy 0))) (show (0 : Int32).toInt = 0 from by decide))
                        have tz_1207 : 1 ≤ zi_1205.toInt ∧ zi_1205.toInt ≤ 5 := by rw [← (show zI_1177 (zR zy 0) (0 : Int32).toNatClampNeg = zi_1205 from ezi_1205.symm)]; exact ZI.g0 e_lp_1199_1 (by decide) (by decide)
                        refine hj_i (ws := (WL cy zL zT zR zI_1177 zJ)) (w1 := fun (u : Unit) => (WL cy zL zT zR zI_1177 zJ)) (va_runV (As := [.int zi_912, .int zi_1205]) (rest := [.int 0, .int zia, .ref zy]) ⟨hx, hb, hml, hown, hts⟩ (t_X11_waterBy l dC dI cy H.size zL zT zR zI_1177 zJ zy zi_912 zi_1205 hs h_zI_1177.1 t_zy (by omega) (by omega) (WP.at e_lp_1199_0 (by omega) (by omega))) (cwV 2 hts gX11_make_X11_waterBy rfl rfl rfl (by decide +kernel) ⟨(Nat.le_of_ble_eq_true rfl), (Nat.le_of_ble_eq_true rfl)⟩) (PRE.v hP hK hD hN (ht_recv hK hP hs t_zy (by decide) rfl rfl)) rfl rfl hl.1 rfl (lv_room (Nat.le_of_ble_eq_true rfl)) dX11_make_112 ⟨(Nat.le_of_ble_eq_true rfl), (Nat.le_of_ble_eq_true rfl)⟩) hP hD hS hA (fun zi_1208 u_1210 H locs hw_1209 hP hD hS => ?_)
                        have rzi_1208 := rng zi_1208
                        refine lv_aload_n hx hb dX11_make_115 rfl (lv_at hl 0 rfl) ?_
                        refine ht_getr (C := RX11) (T := TX11) (N := 28) hx hb hts (by decide +kernel) hown hK hP hs t_zy (by decide) rfl rfl 0 (by decide) (hts (.fieldLink RX11 7 "DripStoneModel" "z" "[I") (by decide +kernel)) (fun _ h9 => h9) rfl dX11_make_116 ?_
                        refine lv_bipush (v := 20) hx hb dX11_make_119 (by decide) ?_
                        refine lv_iconst (v := 3) hx hb dX11_make_121 (by decide) ?_
                        refine lv_iload_n hx hb dX11_make_122 rfl (lv_at hl 3 rfl) ?_
                        refine lv_imul hx hb dX11_make_123 ?_
                        refine lv_topi (fun zi_1211 ezi_1211 => ?_)
                        have tzi_1211 : zi_1211.toInt = (3 : Int) * zi_912.toInt := by rw [ezi_1211]; exact timul (show (3 : Int32).toInt = 3 by decide) (rfl) (by omega) (by omega)
                        refine lv_iadd hx hb dX11_make_124 ?_
                        refine lv_topi (fun zi_1212 ezi_1212 => ?_)
                        have tzi_1212 : zi_1212.toInt = (20 : Int) + zi_1211.toInt := by rw [ezi_1212]; exact tiadd (show (20 : Int32).toInt = 20 by decide) (rfl) (by omega) (by omega)
                        refine lv_iconst (v := 2) hx hb dX11_make_125 (by decide) ?_
                        refine lv_iadd hx hb dX11_make_126 ?_
                        refine lv_topi (fun zi_1213 ezi_1213 => ?_)
                        have tzi_1213 : zi_1213.toInt = zi_1212.toInt + (2 : Int) := by rw [ezi_1213]; exact tiadd (rfl) (show (2 : Int32).toInt = 2 by decide) (by omega) (by omega)
                        refine ht_iald (n := 392) (q := 0) hx hb hK hP hs t_6 (by decide) rfl rfl ⟨by omega, by omega⟩ dX11_make_127 ?_
                        refine lv_topi (fun zi_1214 ezi_1214 => ?_)
                        have la_1215 : zi_1214.toInt = zA (zI_1177 (zR zy 0)) (22 + 3 * zi_912.toInt) := (congrArg Int32.toInt (show zI_1177 (zR zy 0) zi_1213.toNatClampNeg = zi_1214 from ezi_1214.symm).symm).trans (congrArg (zA (zI_1177 (zR zy 0))) (show zi_1213.toInt = 22 + 3 * zi_912.toInt from by omega))
                        refine lv_isub hx hb dX11_make_128 ?_
                        refine lv_topi (fun zi_1216 ezi_1216 => ?_)
                        refine lv_iload_n hx hb dX11_make_129 rfl (lv_at hl 3 rfl) ?_
                        refine hj_v (ws := (WL cy zL zT zR zI_1177 zJ)) (w1 := fun (u : (Nat → Nat → Int32)) => (WL cy zL zT zR u zJ)) (va_runV (As := [.int zia, .int 0, .int zi_1216, .int zi_912]) (rest := []) ⟨hx, hb, hml, hown, hts⟩ (t_X11_addThing l dC dI cy H.size zL zT zR zI_1177 zJ zy zia (0 : Int32) zi_1216 zi_912 hs h_zI_1177.1 t_zy (by omega) e_lp_1199_1) (cwV 4 hts gX11_make_X11_addThing rfl rfl rfl (by decide +kernel) ⟨(Nat.le_of_ble_eq_true rfl), (Nat.le_of_ble_eq_true rfl)⟩) (PRE.v hP hK hD hN (ht_recv hK hP hs t_zy (by decide) rfl rfl)) rfl rfl hl.1 rfl (lv_room (Nat.le_of_ble_eq_true rfl)) dX11_make_130 ⟨(Nat.le_of_ble_eq_true rfl), (Nat.le_of_ble_eq_true rfl)⟩) hP hD hS hA (fun zI_1220 H locs hw_1218 hP hD hS => ?_)
                        obtain ⟨k_zI_1220, ps_1221, ps_1222⟩ : (WM [10000] AL zT zR zI_1177 zI_1220) ∧ (FA (zI_1177 (zR zy 0)) (zI_1220 (zR zy 0))) ∧ (ZI (zI_1220 (zR zy 0))) := hw_1218
                        have h_zI_1220 : WM [10000] AL zT zR zI zI_1220 := h_zI_1177.tr k_zI_1220 (by decide) (fun _ _ => trivial)
                        obtain ⟨zi_1223, ezi_1223⟩ : ∃ y : Int32, y = zi_1176 + 1 := ⟨_, rfl⟩
                        have tzi_1223 : zi_1223.toInt = zi_1176.toInt + 1 := by rw [ezi_1223]; exact tadd rfl (show (1 : Int32).toInt = 1 by decide) (by omega) (by omega)
                        refine lv_iinc (v := zi_1223) (lv' := [(5, .int zi_1223), (0, .ref zy), (1, .int zia), (2, .int zi_911), (3, .int zi_912), (4, .int zi_1100)]) hx hb dX11_make_133 hl (k := 5) rfl (by rw [ezi_1223]; rfl) (by decide) rfl (fun ls hl => ?_)
                        refine lv_goto (tgt := 94) hx hb dX11_make_136 (by decide) ?_
                        exact ih_1199 (zi_1100.toInt - zi_1223.toInt).toNat (by omega) zi_1223 zI_1220 _ _ _ rfl (by omega) h_zI_1220 (WP.fa e_lp_1199_0 ps_1221 (by omega)) ps_1222 hP hD hS (lv_sub hl [1, 2, 3, 4, 5, 0] rfl)
                  exact lp_1199 _ (0 : Int32) zI_913 _ _ _ rfl (by decide) h_zI_913 ps_1103 e_lp_1091_0 hP hD hS (lv_sub hl [2, 3, 4, 5, 1, 0] rfl)
                · have f_1175 : ¬ (zi_1170.toInt < zi_1171.toInt) := ic_nlt (rfl) (rfl) c_1174
                  refine lv_aload_n hx hb dX11_make_83 rfl (lv_at hl 1 rfl) ?_
                  refine lv_iload_n hx hb dX11_make_84 rfl (lv_at hl 2 rfl) ?_
                  refine lv_iconst (v := 2) hx hb dX11_make_85 (by decide) ?_
                  refine lv_iconst (v := 0) hx hb dX11_make_86 (by decide) ?_
                  refine lv_iconst (v := 0) hx hb dX11_make_87 (by decide) ?_
                  have qc_2 : (2 : Int32).toInt = 2 := by decide
                  refine hj_v (ws := (WL cy zL zT zR zI_913 zJ)) (w1 := fun (u : (Nat → Nat → Int32)) => (WL cy zL zT zR u zJ)) (va_runV (As := [.int zia, .int 2, .int 0, .int 0]) (rest := []) ⟨hx, hb, hml, hown, hts⟩ (t_X11_addThing l dC dI cy H.size zL zT zR zI_913 zJ zy zia (2 : Int32) (0 : Int32) (0 : Int32) hs h_zI_913.1 t_zy (by omega) e_lp_1091_0) (cwV 4 hts gX11_make_X11_addThing rfl rfl rfl (by decide +kernel) ⟨(Nat.le_of_ble_eq_true rfl), (Nat.le_of_ble_eq_true rfl)⟩) (PRE.v hP hK hD hN (ht_recv hK hP hs t_zy (by decide) rfl rfl)) rfl rfl hl.1 rfl (lv_room (Nat.le_of_ble_eq_true rfl)) dX11_make_88 ⟨(Nat.le_of_ble_eq_true rfl), (Nat.le_of_ble_eq_true rfl)⟩) hP hD hS hA (fun zI_1227 H locs hw_1225 hP hD hS => ?_)
                  obtain ⟨k_zI_1227, ps_1228, ps_1229⟩ : (WM [10000] AL zT zR zI_913 zI_1227) ∧ (FA (zI_913 (zR zy 0)) (zI_1227 (zR zy 0))) ∧ (ZI (zI_1227 (zR zy 0))) := hw_1225
                  have h_zI_1227 : WM [10000] AL zT zR zI zI_1227 := h_zI_913.tr k_zI_1227 (by decide) (fun _ _ => trivial)
                  refine lv_iconst (v := 0) hx hb dX11_make_91 (by decide) ?_
                  refine lv_istore (lv' := [(5, .int 0), (4, .int zi_1100), (0, .ref zy), (1, .int zia), (2, .int zi_911), (3, .int zi_912)]) hx hb dX11_make_92 hl (by decide) rfl (fun ls hl => ?_)
                  have lp_1253 : ∀ (n : Nat) (zi_1230 : Int32) (zI_1231 : Nat → Nat → Int32) (H : Heap) (locs : List Loc) (ls : Array Slot), (zi_1100.toInt - zi_1230.toInt).toNat = n → (0 ≤ zi_1230.toInt) → (WM [10000] AL zT zR zI zI_1231) → (WP (zI_1231 (zR zy 0)) zi_912.toInt zi_1100.toInt) → (ZI (zI_1231 (zR zy 0))) → va_P (dC, dI) vwCl (WL cy zL zT zR zI_1231 zJ) H → va_D A (WL cy zL zT zR zI_1231 zJ) → va_S A s.heap H locs → lv_has ls 6 [(0, .ref zy), (1, .int zia), (2, .int zi_911), (3, .int zi_912), (4, .int zi_1100), (5, .int zi_1230)] → W p l e ({ frames := 3, cells := 0, slots := 0, locals := 74 } : Room) s m ([.ref zy, .int zia] : List Value).toArray below meth c H locs 0 0 Q (F0 m 94 ls []) := by
                    intro n
                    induction n using Nat.strongRecOn with
                    | _ n ih_1253 =>
                      intro zi_1230 zI_1231 H locs ls hn b_zi_1230 h_zI_1231 e_lp_1253_0 e_lp_1253_1 hP hD hS hl
                      refine lv_iload hx hb dX11_make_94 (lv_at hl 5 rfl) ?_
                      refine lv_iload hx hb dX11_make_96 (lv_at hl 4 rfl) ?_
                      refine lv_icmp_ge (tgt := 139) hx hb dX11_make_98 (by decide) (fun c_1254 => ?_) (fun c_1254 => ?_)
                      · have f_1255 : zi_1230.toInt ≥ zi_1100.toInt := ic_ge (rfl) (rfl) c_1254
                        refine lv_iload hx hb dX11_make_139 (lv_at hl 4 rfl) ?_
                        refine lv_if_le (tgt := 148) hx hb dX11_make_141 (by decide) (fun c_1256 => ?_) (fun c_1256 => ?_)
                        · have f_1257 : zi_1100.toInt ≤ 0 := ic_le (rfl) (by decide) c_1256
                          exfalso; omega
                        · have f_1257 : ¬ (zi_1100.toInt ≤ 0) := ic_nle (rfl) (by decide) c_1256
                          refine lv_iload_n hx hb dX11_make_144 rfl (lv_at hl 3 rfl) ?_
                          refine lv_goto (tgt := 149) hx hb dX11_make_145 (by decide) ?_
                          refine lv_istore_n (lv' := [(2, .int zi_912), (0, .ref zy), (1, .int zia), (3, .int zi_912), (4, .int zi_1100), (5, .int zi_1230)]) hx hb dX11_make_149 rfl hl (by decide) rfl (fun ls hl => ?_)
                          obtain ⟨zi_1258, ezi_1258⟩ : ∃ y : Int32, y = zi_912 + 1 := ⟨_, rfl⟩
                          have tzi_1258 : zi_1258.toInt = zi_912.toInt + 1 := by rw [ezi_1258]; exact tadd rfl (show (1 : Int32).toInt = 1 by decide) (by omega) (by omega)
                          refine lv_iinc (v := zi_1258) (lv' := [(3, .int zi_1258), (2, .int zi_912), (0, .ref zy), (1, .int zia), (4, .int zi_1100), (5, .int zi_1230)]) hx hb dX11_make_150 hl (k := 3) rfl (by rw [ezi_1258]; rfl) (by decide) rfl (fun ls hl => ?_)
                          refine lv_goto (tgt := 47) hx hb dX11_make_153 (by decide) ?_
                          exact ih_1091 (24 - zi_1258.toInt).toNat (by omega) zi_912 zi_1258 zI_1231 _ _ _ rfl (by omega) (by omega) h_zI_1231 e_lp_1253_1 hP hD hS (lv_sub hl [2, 3, 1, 0] rfl)
                      · have f_1255 : ¬ (zi_1230.toInt ≥ zi_1100.toInt) := ic_nge (rfl) (rfl) c_1254
                        refine lv_aload_n hx hb dX11_make_101 rfl (lv_at hl 0 rfl) ?_
                        refine lv_iload_n hx hb dX11_make_102 rfl (lv_at hl 1 rfl) ?_
                        refine lv_iconst (v := 0) hx hb dX11_make_103 (by decide) ?_
                        refine lv_aload_n hx hb dX11_make_104 rfl (lv_at hl 0 rfl) ?_
                        refine lv_iload_n hx hb dX11_make_105 rfl (lv_at hl 3 rfl) ?_
                        refine lv_aload_n hx hb dX11_make_106 rfl (lv_at hl 0 rfl) ?_
                        refine ht_getr (C := RX11) (T := TX11) (N := 28) hx hb hts (by decide +kernel) hown hK hP hs t_zy (by decide) rfl rfl 0 (by decide) (hts (.fieldLink RX11 7 "DripStoneModel" "z" "[I") (by decide +kernel)) (fun _ h9 => h9) rfl dX11_make_107 ?_
                        refine lv_iconst (v := 0) hx hb dX11_make_110 (by decide) ?_
                        refine ht_iald (n := 392) (q := 0) hx hb hK hP hs t_6 (by decide) rfl rfl ⟨by decide, by decide⟩ dX11_make_111 ?_
                        refine lv_topi (fun zi_1259 ezi_1259 => ?_)
                        have la_1260 : zi_1259.toInt = zA (zI_1231 (zR zy 0)) (0) := (congrArg Int32.toInt (show zI_1231 (zR zy 0) (0 : Int32).toNatClampNeg = zi_1259 from ezi_1259.symm).symm).trans (congrArg (zA (zI_1231 (zR zy 0))) (show (0 : Int32).toInt = 0 from by decide))
                        have tz_1261 : 1 ≤ zi_1259.toInt ∧ zi_1259.toInt ≤ 5 := by rw [← (show zI_1231 (zR zy 0) (0 : Int32).toNatClampNeg = zi_1259 from ezi_1259.symm)]; exact ZI.g0 e_lp_1253_1 (by decide) (by decide)
                        refine hj_i (ws := (WL cy zL zT zR zI_1231 zJ)) (w1 := fun (u : Unit) => (WL cy zL zT zR zI_1231 zJ)) (va_runV (As := [.int zi_912, .int zi_1259]) (rest := [.int 0, .int zia, .ref zy]) ⟨hx, hb, hml, hown, hts⟩ (t_X11_waterBy l dC dI cy H.size zL zT zR zI_1231 zJ zy zi_912 zi_1259 hs h_zI_1231.1 t_zy (by omega) (by omega) (WP.at e_lp_1253_0 (by omega) (by omega))) (cwV 2 hts gX11_make_X11_waterBy rfl rfl rfl (by decide +kernel) ⟨(Nat.le_of_ble_eq_true rfl), (Nat.le_of_ble_eq_true rfl)⟩) (PRE.v hP hK hD hN (ht_recv hK hP hs t_zy (by decide) rfl rfl)) rfl rfl hl.1 rfl (lv_room (Nat.le_of_ble_eq_true rfl)) dX11_make_112 ⟨(Nat.le_of_ble_eq_true rfl), (Nat.le_of_ble_eq_true rfl)⟩) hP hD hS hA (fun zi_1262 u_1264 H locs hw_1263 hP hD hS => ?_)
                        have rzi_1262 := rng zi_1262
                        refine lv_aload_n hx hb dX11_make_115 rfl (lv_at hl 0 rfl) ?_
                        refine ht_getr (C := RX11) (T := TX11) (N := 28) hx hb hts (by decide +kernel) hown hK hP hs t_zy (by decide) rfl rfl 0 (by decide) (hts (.fieldLink RX11 7 "DripStoneModel" "z" "[I") (by decide +kernel)) (fun _ h9 => h9) rfl dX11_make_116 ?_
                        refine lv_bipush (v := 20) hx hb dX11_make_119 (by decide) ?_
                        refine lv_iconst (v := 3) hx hb dX11_make_121 (by decide) ?_
                        refine lv_iload_n hx hb dX11_make_122 rfl (lv_at hl 3 rfl) ?_
                        refine lv_imul hx hb dX11_make_123 ?_
                        refine lv_topi (fun zi_1265 ezi_1265 => ?_)
                        have tzi_1265 : zi_1265.toInt = (3 : Int) * zi_912.toInt := by rw [ezi_1265]; exact timul (show (3 : Int32).toInt = 3 by decide) (rfl) (by omega) (by omega)
                        refine lv_iadd hx hb dX11_make_124 ?_
                        refine lv_topi (fun zi_1266 ezi_1266 => ?_)
                        have tzi_1266 : zi_1266.toInt = (20 : Int) + zi_1265.toInt := by rw [ezi_1266]; exact tiadd (show (20 : Int32).toInt = 20 by decide) (rfl) (by omega) (by omega)
                        refine lv_iconst (v := 2) hx hb dX11_make_125 (by decide) ?_
                        refine lv_iadd hx hb dX11_make_126 ?_
                        refine lv_topi (fun zi_1267 ezi_1267 => ?_)
                        have tzi_1267 : zi_1267.toInt = zi_1266.toInt + (2 : Int) := by rw [ezi_1267]; exact tiadd (rfl) (show (2 : Int32).toInt = 2 by decide) (by omega) (by omega)
                        refine ht_iald (n := 392) (q := 0) hx hb hK hP hs t_6 (by decide) rfl rfl ⟨by omega, by omega⟩ dX11_make_127 ?_
                        refine lv_topi (fun zi_1268 ezi_1268 => ?_)
                        have la_1269 : zi_1268.toInt = zA (zI_1231 (zR zy 0)) (22 + 3 * zi_912.toInt) := (congrArg Int32.toInt (show zI_1231 (zR zy 0) zi_1267.toNatClampNeg = zi_1268 from ezi_1268.symm).symm).trans (congrArg (zA (zI_1231 (zR zy 0))) (show zi_1267.toInt = 22 + 3 * zi_912.toInt from by omega))
                        refine lv_isub hx hb dX11_make_128 ?_
                        refine lv_topi (fun zi_1270 ezi_1270 => ?_)
                        refine lv_iload_n hx hb dX11_make_129 rfl (lv_at hl 3 rfl) ?_
                        refine hj_v (ws := (WL cy zL zT zR zI_1231 zJ)) (w1 := fun (u : (Nat → Nat → Int32)) => (WL cy zL zT zR u zJ)) (va_runV (As := [.int zia, .int 0, .int zi_1270, .int zi_912]) (rest := []) ⟨hx, hb, hml, hown, hts⟩ (t_X11_addThing l dC dI cy H.size zL zT zR zI_1231 zJ zy zia (0 : Int32) zi_1270 zi_912 hs h_zI_1231.1 t_zy (by omega) e_lp_1253_1) (cwV 4 hts gX11_make_X11_addThing rfl rfl rfl (by decide +kernel) ⟨(Nat.le_of_ble_eq_true rfl), (Nat.le_of_ble_eq_true rfl)⟩) (PRE.v hP hK hD hN (ht_recv hK hP hs t_zy (by decide) rfl rfl)) rfl rfl hl.1 rfl (lv_room (Nat.le_of_ble_eq_true rfl)) dX11_make_130 ⟨(Nat.le_of_ble_eq_true rfl), (Nat.le_of_ble_eq_true rfl)⟩) hP hD hS hA (fun zI_1274 H locs hw_1272 hP hD hS => ?_)
                        obtain ⟨k_zI_1274, ps_1275, ps_1276⟩ : (WM [10000] AL zT zR zI_1231 zI_1274) ∧ (FA (zI_1231 (zR zy 0)) (zI_1274 (zR zy 0))) ∧ (ZI (zI_1274 (zR zy 0))) := hw_1272
                        have h_zI_1274 : WM [10000] AL zT zR zI zI_1274 := h_zI_1231.tr k_zI_1274 (by decide) (fun _ _ => trivial)
                        obtain ⟨zi_1277, ezi_1277⟩ : ∃ y : Int32, y = zi_1230 + 1 := ⟨_, rfl⟩
                        have tzi_1277 : zi_1277.toInt = zi_1230.toInt + 1 := by rw [ezi_1277]; exact tadd rfl (show (1 : Int32).toInt = 1 by decide) (by omega) (by omega)
                        refine lv_iinc (v := zi_1277) (lv' := [(5, .int zi_1277), (0, .ref zy), (1, .int zia), (2, .int zi_911), (3, .int zi_912), (4, .int zi_1100)]) hx hb dX11_make_133 hl (k := 5) rfl (by rw [ezi_1277]; rfl) (by decide) rfl (fun ls hl => ?_)
                        refine lv_goto (tgt := 94) hx hb dX11_make_136 (by decide) ?_
                        exact ih_1253 (zi_1100.toInt - zi_1277.toInt).toNat (by omega) zi_1277 zI_1274 _ _ _ rfl (by omega) h_zI_1274 (WP.fa e_lp_1253_0 ps_1275 (by omega)) ps_1276 hP hD hS (lv_sub hl [1, 2, 3, 4, 5, 0] rfl)
                  exact lp_1253 _ (0 : Int32) zI_1227 _ _ _ rfl (by decide) h_zI_1227 (WP.fa ps_1103 ps_1228 (by omega)) ps_1229 hP hD hS (lv_sub hl [2, 3, 4, 5, 1, 0] rfl)
      have qc_m4 : ((-4) : Int32).toInt = -4 := by decide
      exact lp_1091 _ (-4 : Int32) (0 : Int32) zI_24 _ _ _ rfl (by decide) (by decide) h_zI_24 z_zI_24 hP hD hS (lv_sub hl [2, 3, 1, 0] rfl)
    · have f_11 : ¬ (zi_7.toInt ≠ 0) := ic_nne (rfl) (by decide) c_10
      refine lv_bipush (v := (-2)) hx hb dX11_make_18 (by decide) ?_
      subst hQ
      have qc_m2 : (-2 : Int32).toInt = -2 := by decide
      exact W.iret (v := (-2 : Int32)) hx hb hr (fun t ht hW => ⟨⟨(-2 : Int32), zI, rfl, ⟨h_zI, (show (-2) ≤ (-2 : Int32).toInt ∧ (-2 : Int32).toInt ≤ 12 from by omega), (show ZI (zI (zR zy 0)) from hz)⟩, ⟨by rw [ht]; exact hP, va_K.moved hW.alike hK, hD⟩⟩, hS.F ht⟩) hS.2.2 dX11_make_20
  · have f_5 : ¬ (0 ≤ zia.toInt ∧ zia.toInt ≤ 1) := bz_0 hw_2 c_4
    refine lv_iconst (v := (-1)) hx hb dX11_make_7 (by decide) ?_
    subst hQ
    have qc_m1 : (-1 : Int32).toInt = -1 := by decide
    exact W.iret (v := (-1 : Int32)) hx hb hr (fun t ht hW => ⟨⟨(-1 : Int32), zI, rfl, ⟨h_zI, (show (-2) ≤ (-1 : Int32).toInt ∧ (-1 : Int32).toInt ≤ 12 from by omega), (show ZI (zI (zR zy 0)) from hz)⟩, ⟨by rw [ht]; exact hP, va_K.moved hW.alike hK, hD⟩⟩, hS.F ht⟩) hS.2.2 dX11_make_8
