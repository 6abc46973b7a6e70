set_option maxHeartbeats 8000000 in
set_option maxRecDepth 100000 in
theorem t_X11_dropDates (l : Launch) (dC : Nat → ClassId) (dI : Nat → Nat → Nat) (cy : Nat → ClassId) (sz : Nat) (zL : List Nat) (zT : Nat → Nat) (zR : Nat → Nat → Nat) (zI : Nat → Nat → Int32) (zJ : Nat → Nat → Int64) (zy : Nat) (zia : Int32) (zib : Int32) (hs : SKP zL zT zR) (hw : WT zT zR zI) (t_zy : zT zy = 18) (b_zia : 0 ≤ zia.toInt ∧ zia.toInt ≤ 1) (hz : ZI (zI (zR zy 0))) : Met l yX11_dropDates wsX11_dropDates ({ frames := 1, cells := 0, slots := 0, locals := 21 } : Room) (va_Pc [.ref zy, .int zia, .int zib] (PRE dC dI cy (WL cy zL zT zR zI zJ) sz)) (va_Qv (fun (u : (Nat → Nat → Int32)) => (WM [10000] AL zT zR zI u) ∧ (ZI (u (zR zy 0))) ∧ (DR (u (zR zy 0)) zia.toInt zib.toInt) ∧ (FQ (zI (zR zy 0)) (u (zR zy 0)))) (fun u t => POST dC dI cy (va_A (WL cy zL zT zR zI zJ) sz) (WL cy zL zT zR u zJ) t) (va_A (WL cy zL zT zR zI zJ) sz)) 0 0 (va_A (WL cy zL zT zR zI zJ) sz) := by
  refine Met.ofW (cc := cX11_dropDates) (maxL := 6) (ret := none) (by decide) rfl ?_
  intro p e s m args below meth c s₁ B hml hv
  obtain ⟨rfl, hsz, hP, hK, hD0, hN⟩ := hv
  have hx := B.exec
  have hb := B.bytes
  have hr := B.returns
  have hts := atoms_spec (ws := wsX11_dropDates) B.pre
  have hown : s.vm.findClass RX11 = some m.cls := findClass_of_methodNamed B.named
  have hlocks := B.notSynchronized
  subst hsz
  have hD := hD0.self (sz := s.heap.size)
  generalize hAe : va_A (WL cy zL zT zR zI zJ) s.heap.size = A at hD ⊢
  have hA : ∀ q : Nat, s.heap.size ≤ q → A q := fun q h => by rw [← hAe]; exact Or.inr h
  have hS : va_S A s.heap s.heap [] := va_S.rf
  have hP : va_P (dC, dI) vwCl (WL cy zL zT zR zI zJ) s.heap := hP
  have hl := lv_entry ([.ref zy, .int zia, .int zib] : List Value) (n := 6) (Nat.le_of_ble_eq_true rfl)
  rw [lg_entry_eq]
  generalize (lg_sl ([.ref zy, .int zia, .int zib] : List Value) ++ List.replicate (6 - (lg_sl ([.ref zy, .int zia, .int zib] : List Value)).length) Slot.unset).toArray = ls at hl ⊢
  have hl : lv_has ls 6 [(0, .ref zy), (1, .int zia), (2, .int zib)] := hl
  refine w_q (fun Q hQ => ?_)
  have h_zI : WM [10000] AL zT zR zI zI := WM.rf hw
  have z11 : 0 ≤ zA (zI (zR zy 0)) (11) ∧ zA (zI (zR zy 0)) (11) ≤ 8 := by have r9 := hz.1; unfold ZR at r9; omega
  refine lv_iconst (v := 0) hx hb dX11_dropDates_0 (by decide) ?_
  refine lv_istore_n (lv' := [(3, .int 0), (0, .ref zy), (1, .int zia), (2, .int zib)]) hx hb dX11_dropDates_1 rfl hl (by decide) rfl (fun ls hl => ?_)
  refine lv_iconst (v := 0) hx hb dX11_dropDates_2 (by decide) ?_
  refine lv_istore (lv' := [(4, .int 0), (3, .int 0), (0, .ref zy), (1, .int zia), (2, .int zib)]) hx hb dX11_dropDates_3 hl (by decide) rfl (fun ls hl => ?_)
  have lp_950 : ∀ (n : Nat) (zi_849 : Int32) (zi_850 : Int32) (zI_851 : Nat → Nat → Int32) (H : Heap) (locs : List Loc) (ls : Array Slot), (8 - zi_850.toInt).toNat = n → (0 ≤ zi_849.toInt ∧ zi_849.toInt ≤ 8) → (0 ≤ zi_850.toInt ∧ zi_850.toInt ≤ 8) → (WM [10000] AL zT zR zI zI_851) → (DD (zI (zR zy 0)) (zI_851 (zR zy 0)) zia.toInt zib.toInt zi_849.toInt zi_850.toInt 0) → (zi_849.toInt ≤ zi_850.toInt ∧ zi_850.toInt ≤ zA (zI (zR zy 0)) (11)) → (FQ (zI (zR zy 0)) (zI_851 (zR zy 0))) → va_P (dC, dI) vwCl (WL cy zL zT zR zI_851 zJ) H → va_D A (WL cy zL zT zR zI_851 zJ) → va_S A s.heap H locs → lv_has ls 6 [(0, .ref zy), (1, .int zia), (2, .int zib), (3, .int zi_849), (4, .int zi_850)] → W p l e ({ frames := 1, cells := 0, slots := 0, locals := 21 } : Room) s m ([.ref zy, .int zia, .int zib] : List Value).toArray below meth c H locs 0 0 Q (F0 m 5 ls []) := by
    intro n
    induction n using Nat.strongRecOn with
    | _ n ih_950 =>
      intro zi_849 zi_850 zI_851 H locs ls hn b_zi_849 b_zi_850 h_zI_851 e_lp_950_0 e_lp_950_1 e_lp_950_2 hP hD hS hl
      refine lv_iload hx hb dX11_dropDates_5 (lv_at hl 4 rfl) ?_
      have dq_951 : zA (zI_851 (zR zy 0)) (11) = zA (zI (zR zy 0)) (11) := e_lp_950_0.1 (11) (by omega) (by omega)
      refine lv_aload_n hx hb dX11_dropDates_7 rfl (lv_at hl 0 rfl) ?_
      refine ht_getr (C := RX11) (T := TX11) (N := 28) hx hb hts (by decide +kernel) hown hK hP hs t_zy (by decide) rfl rfl 0 (by decide) (hts (.fieldLink RX11 7 "DripStoneModel" "z" "[I") (by decide +kernel)) (fun _ h9 => h9) rfl dX11_dropDates_8 ?_
      have t_952 : zT (zR zy 0) = 100 := sk_f hs t_zy (by decide) rfl (by decide)
      refine lv_bipush (v := 11) hx hb dX11_dropDates_11 (by decide) ?_
      refine ht_iald (n := 392) (q := 0) hx hb hK hP hs t_952 (by decide) rfl rfl ⟨by decide, by decide⟩ dX11_dropDates_13 ?_
      refine lv_topi (fun zi_953 ezi_953 => ?_)
      have la_954 : zi_953.toInt = zA (zI_851 (zR zy 0)) (11) := (congrArg Int32.toInt (show zI_851 (zR zy 0) (11 : Int32).toNatClampNeg = zi_953 from ezi_953.symm).symm).trans (congrArg (zA (zI_851 (zR zy 0))) (show (11 : Int32).toInt = 11 from by decide))
      refine lv_icmp_ge (tgt := 101) hx hb dX11_dropDates_14 (by decide) (fun c_955 => ?_) (fun c_955 => ?_)
      · have f_956 : zi_850.toInt ≥ zi_953.toInt := ic_ge (rfl) (rfl) c_955
        refine lv_aload_n hx hb dX11_dropDates_101 rfl (lv_at hl 0 rfl) ?_
        refine ht_getr (C := RX11) (T := TX11) (N := 28) hx hb hts (by decide +kernel) hown hK hP hs t_zy (by decide) rfl rfl 0 (by decide) (hts (.fieldLink RX11 7 "DripStoneModel" "z" "[I") (by decide +kernel)) (fun _ h9 => h9) rfl dX11_dropDates_102 ?_
        refine lv_bipush (v := 11) hx hb dX11_dropDates_105 (by decide) ?_
        refine lv_iload_n hx hb dX11_dropDates_107 rfl (lv_at hl 3 rfl) ?_
        refine ht_iast (v := zi_849) (n := 392) (q := 0) hx hb hK hP hD hS hs t_952 (by decide) rfl rfl ⟨by decide, by decide⟩ dX11_dropDates_108 (fun H locs hP hD hS => ?_)
        have h_zI_957 : WM [10000] AL zT zR zI (u2 zI_851 (zR zy 0) (11 : Int32).toNatClampNeg zi_849) := h_zI_851.putA hs t_952 rfl (rgF _) (by decide) (fun h => absurd h (by decide)) (by decide) trivial
        generalize uzI_957 : u2 zI_851 (zR zy 0) (11 : Int32).toNatClampNeg zi_849 = zI_957 at hP hD h_zI_957
        have qc_11 : (11 : Int32).toInt = 11 := by decide
        have fq_zI_957 : FQ (zI (zR zy 0)) (zI_957 (zR zy 0)) := by rw [← uzI_957, u2_r]; exact FQ.up e_lp_950_2 (by omega) (by omega)
        have zd_958 : ZI (zI_957 (zR zy 0)) ∧ DR (zI_957 (zR zy 0)) zia.toInt zib.toInt := by rw [← uzI_957, u2_r]; exact DD.e hz e_lp_950_0 (by decide) rfl (by omega)
        subst hQ
        exact W.vret hx hb hr (fun t ht hW => ⟨⟨zI_957, rfl, ⟨h_zI_957, (show ZI (zI_957 (zR zy 0)) from zd_958.1), (show DR (zI_957 (zR zy 0)) zia.toInt zib.toInt from zd_958.2), (show FQ (zI (zR zy 0)) (zI_957 (zR zy 0)) from fq_zI_957)⟩, ⟨by rw [ht]; exact hP, va_K.moved hW.alike hK, hD⟩⟩, hS.F ht⟩) hS.2.2 dX11_dropDates_109
      · have f_956 : ¬ (zi_850.toInt ≥ zi_953.toInt) := ic_nge (rfl) (rfl) c_955
        have dq_959 : zA (zI_851 (zR zy 0)) (278 + 6 * zi_850.toInt) = zA (zI (zR zy 0)) (278 + 6 * zi_850.toInt) := e_lp_950_0.2.1 (278 + 6 * zi_850.toInt) (by omega) (by omega)
        have dq_960 : zA (zI_851 (zR zy 0)) (279 + 6 * zi_850.toInt) = zA (zI (zR zy 0)) (279 + 6 * zi_850.toInt) := e_lp_950_0.2.1 (279 + 6 * zi_850.toInt) (by omega) (by omega)
        refine lv_aload_n hx hb dX11_dropDates_17 rfl (lv_at hl 0 rfl) ?_
        refine ht_getr (C := RX11) (T := TX11) (N := 28) hx hb hts (by decide +kernel) hown hK hP hs t_zy (by decide) rfl rfl 0 (by decide) (hts (.fieldLink RX11 7 "DripStoneModel" "z" "[I") (by decide +kernel)) (fun _ h9 => h9) rfl dX11_dropDates_18 ?_
        refine lv_aload_n hx hb dX11_dropDates_21 rfl (lv_at hl 0 rfl) ?_
        refine lv_iload hx hb dX11_dropDates_22 (lv_at hl 4 rfl) ?_
        refine hj_i (ws := (WL cy zL zT zR zI_851 zJ)) (w1 := fun (u : Unit) => (WL cy zL zT zR zI_851 zJ)) (va_runV (As := [.int zi_850]) (rest := [.ref (zR zy 0)]) ⟨hx, hb, hml, hown, hts⟩ (t_X11_dateAt l dC dI cy H.size zL zT zR zI_851 zJ zy zi_850 hs h_zI_851.1 t_zy (by omega)) (cwV 1 hts gX11_dropDates_X11_dateAt rfl rfl rfl (by decide +kernel) ⟨(Nat.le_of_ble_eq_true rfl), (Nat.le_of_ble_eq_true rfl)⟩) (PRE.v hP hK hD hN (ht_recv hK hP hs t_zy (by decide) rfl rfl)) rfl rfl hl.1 rfl (lv_room (Nat.le_of_ble_eq_true rfl)) dX11_dropDates_24 ⟨(Nat.le_of_ble_eq_true rfl), (Nat.le_of_ble_eq_true rfl)⟩) hP hD hS hA (fun zi_961 u_963 H locs hw_962 hP hD hS => ?_)
        obtain ⟨b_zi_961, ps_964⟩ : (278 ≤ zi_961.toInt ∧ zi_961.toInt ≤ 326) ∧ (zi_961.toInt = 278 + 6 * zi_850.toInt) := hw_962
        refine ht_iald (n := 392) (q := 0) hx hb hK hP hs t_952 (by decide) rfl rfl ⟨by omega, by omega⟩ dX11_dropDates_27 ?_
        refine lv_topi (fun zi_965 ezi_965 => ?_)
        have la_966 : zi_965.toInt = zA (zI_851 (zR zy 0)) (278 + 6 * zi_850.toInt) := (congrArg Int32.toInt (show zI_851 (zR zy 0) zi_961.toNatClampNeg = zi_965 from ezi_965.symm).symm).trans (congrArg (zA (zI_851 (zR zy 0))) (show zi_961.toInt = 278 + 6 * zi_850.toInt from by omega))
        refine lv_iload_n hx hb dX11_dropDates_28 rfl (lv_at hl 1 rfl) ?_
        refine lv_icmp_ne (tgt := 49) hx hb dX11_dropDates_29 (by decide) (fun c_967 => ?_) (fun c_967 => ?_)
        · have f_968 : zi_965.toInt ≠ zia.toInt := ic_ne (rfl) (rfl) c_967
          refine lv_iconst (v := 0) hx hb dX11_dropDates_49 (by decide) ?_
          refine lv_istore (lv' := [(5, .int 0), (0, .ref zy), (1, .int zia), (2, .int zib), (3, .int zi_849), (4, .int zi_850)]) hx hb dX11_dropDates_50 hl (by decide) rfl (fun ls hl => ?_)
          have lp_987 : ∀ (n : Nat) (zi_969 : Int32) (zI_970 : Nat → Nat → Int32) (H : Heap) (locs : List Loc) (ls : Array Slot), (6 - zi_969.toInt).toNat = n → (0 ≤ zi_969.toInt ∧ zi_969.toInt ≤ 6) → (WM [10000] AL zT zR zI zI_970) → (DD (zI (zR zy 0)) (zI_970 (zR zy 0)) zia.toInt zib.toInt zi_849.toInt zi_850.toInt zi_969.toInt) → (FQ (zI (zR zy 0)) (zI_970 (zR zy 0))) → va_P (dC, dI) vwCl (WL cy zL zT zR zI_970 zJ) H → va_D A (WL cy zL zT zR zI_970 zJ) → va_S A s.heap H locs → lv_has ls 6 [(0, .ref zy), (1, .int zia), (2, .int zib), (3, .int zi_849), (4, .int zi_850), (5, .int zi_969)] → W p l e ({ frames := 1, cells := 0, slots := 0, locals := 21 } : Room) s m ([.ref zy, .int zia, .int zib] : List Value).toArray below meth c H locs 0 0 Q (F0 m 52 ls []) := by
            intro n
            induction n using Nat.strongRecOn with
            | _ n ih_987 =>
              intro zi_969 zI_970 H locs ls hn b_zi_969 h_zI_970 e_lp_987_0 e_lp_987_1 hP hD hS hl
              refine lv_iload hx hb dX11_dropDates_52 (lv_at hl 5 rfl) ?_
              refine lv_bipush (v := 6) hx hb dX11_dropDates_54 (by decide) ?_
              refine lv_icmp_ge (tgt := 92) hx hb dX11_dropDates_56 (by decide) (fun c_988 => ?_) (fun c_988 => ?_)
              · have f_989 : zi_969.toInt ≥ (6 : Int) := ic_ge (rfl) (show (6 : Int32).toInt = 6 by decide) c_988
                obtain ⟨zi_990, ezi_990⟩ : ∃ y : Int32, y = zi_849 + 1 := ⟨_, rfl⟩
                have tzi_990 : zi_990.toInt = zi_849.toInt + 1 := by rw [ezi_990]; exact tadd rfl (show (1 : Int32).toInt = 1 by decide) (by omega) (by omega)
                refine lv_iinc (v := zi_990) (lv' := [(3, .int zi_990), (0, .ref zy), (1, .int zia), (2, .int zib), (4, .int zi_850), (5, .int zi_969)]) hx hb dX11_dropDates_92 hl (k := 3) rfl (by rw [ezi_990]; rfl) (by decide) rfl (fun ls hl => ?_)
                obtain ⟨zi_991, ezi_991⟩ : ∃ y : Int32, y = zi_850 + 1 := ⟨_, rfl⟩
                have tzi_991 : zi_991.toInt = zi_850.toInt + 1 := by rw [ezi_991]; exact tadd rfl (show (1 : Int32).toInt = 1 by decide) (by omega) (by omega)
                refine lv_iinc (v := zi_991) (lv' := [(4, .int zi_991), (3, .int zi_990), (0, .ref zy), (1, .int zia), (2, .int zib), (5, .int zi_969)]) hx hb dX11_dropDates_95 hl (k := 4) rfl (by rw [ezi_991]; rfl) (by decide) rfl (fun ls hl => ?_)
                refine lv_goto (tgt := 5) hx hb dX11_dropDates_98 (by decide) ?_
                exact ih_950 (8 - zi_991.toInt).toNat (by omega) zi_990 zi_991 zI_970 _ _ _ rfl (by omega) (by omega) h_zI_970 (DD.k e_lp_987_0 (by omega) (by omega) (by omega) (fun h9 => by omega) (by omega) (by omega)) (by omega) e_lp_987_1 hP hD hS (lv_sub hl [2, 3, 4, 1, 0] rfl)
              · have f_989 : ¬ (zi_969.toInt ≥ (6 : Int)) := ic_nge (rfl) (show (6 : Int32).toInt = 6 by decide) c_988
                refine lv_aload_n hx hb dX11_dropDates_59 rfl (lv_at hl 0 rfl) ?_
                refine ht_getr (C := RX11) (T := TX11) (N := 28) hx hb hts (by decide +kernel) hown hK hP hs t_zy (by decide) rfl rfl 0 (by decide) (hts (.fieldLink RX11 7 "DripStoneModel" "z" "[I") (by decide +kernel)) (fun _ h9 => h9) rfl dX11_dropDates_60 ?_
                refine lv_aload_n hx hb dX11_dropDates_63 rfl (lv_at hl 0 rfl) ?_
                refine lv_iload_n hx hb dX11_dropDates_64 rfl (lv_at hl 3 rfl) ?_
                refine hj_i (ws := (WL cy zL zT zR zI_970 zJ)) (w1 := fun (u : Unit) => (WL cy zL zT zR zI_970 zJ)) (va_runV (As := [.int zi_849]) (rest := [.ref (zR zy 0)]) ⟨hx, hb, hml, hown, hts⟩ (t_X11_dateAt l dC dI cy H.size zL zT zR zI_970 zJ zy zi_849 hs h_zI_970.1 t_zy (by omega)) (cwV 1 hts gX11_dropDates_X11_dateAt rfl rfl rfl (by decide +kernel) ⟨(Nat.le_of_ble_eq_true rfl), (Nat.le_of_ble_eq_true rfl)⟩) (PRE.v hP hK hD hN (ht_recv hK hP hs t_zy (by decide) rfl rfl)) rfl rfl hl.1 rfl (lv_room (Nat.le_of_ble_eq_true rfl)) dX11_dropDates_65 ⟨(Nat.le_of_ble_eq_true rfl), (Nat.le_of_ble_eq_true rfl)⟩) hP hD hS hA (fun zi_992 u_994 H locs hw_993 hP hD hS => ?_)
                obtain ⟨b_zi_992, ps_995⟩ : (278 ≤ zi_992.toInt ∧ zi_992.toInt ≤ 326) ∧ (zi_992.toInt = 278 + 6 * zi_849.toInt) := hw_993
                refine lv_iload hx hb dX11_dropDates_68 (lv_at hl 5 rfl) ?_
                refine lv_iadd hx hb dX11_dropDates_70 ?_
                refine lv_topi (fun zi_996 ezi_996 => ?_)
                have tzi_996 : zi_996.toInt = zi_992.toInt + zi_969.toInt := by rw [ezi_996]; exact tiadd (rfl) (rfl) (by omega) (by omega)
                refine lv_aload_n hx hb dX11_dropDates_71 rfl (lv_at hl 0 rfl) ?_
                refine ht_getr (C := RX11) (T := TX11) (N := 28) hx hb hts (by decide +kernel) hown hK hP hs t_zy (by decide) rfl rfl 0 (by decide) (hts (.fieldLink RX11 7 "DripStoneModel" "z" "[I") (by decide +kernel)) (fun _ h9 => h9) rfl dX11_dropDates_72 ?_
                refine lv_aload_n hx hb dX11_dropDates_75 rfl (lv_at hl 0 rfl) ?_
                refine lv_iload hx hb dX11_dropDates_76 (lv_at hl 4 rfl) ?_
                refine hj_i (ws := (WL cy zL zT zR zI_970 zJ)) (w1 := fun (u : Unit) => (WL cy zL zT zR zI_970 zJ)) (va_runV (As := [.int zi_850]) (rest := [.ref (zR zy 0), .int zi_996, .ref (zR zy 0)]) ⟨hx, hb, hml, hown, hts⟩ (t_X11_dateAt l dC dI cy H.size zL zT zR zI_970 zJ zy zi_850 hs h_zI_970.1 t_zy (by omega)) (cwV 1 hts gX11_dropDates_X11_dateAt rfl rfl rfl (by decide +kernel) ⟨(Nat.le_of_ble_eq_true rfl), (Nat.le_of_ble_eq_true rfl)⟩) (PRE.v hP hK hD hN (ht_recv hK hP hs t_zy (by decide) rfl rfl)) rfl rfl hl.1 rfl (lv_room (Nat.le_of_ble_eq_true rfl)) dX11_dropDates_78 ⟨(Nat.le_of_ble_eq_true rfl), (Nat.le_of_ble_eq_true rfl)⟩) hP hD hS hA (fun zi_997 u_999 H locs hw_998 hP hD hS => ?_)
                obtain ⟨b_zi_997, ps_1000⟩ : (278 ≤ zi_997.toInt ∧ zi_997.toInt ≤ 326) ∧ (zi_997.toInt = 278 + 6 * zi_850.toInt) := hw_998
                refine lv_iload hx hb dX11_dropDates_81 (lv_at hl 5 rfl) ?_
                refine lv_iadd hx hb dX11_dropDates_83 ?_
                refine lv_topi (fun zi_1001 ezi_1001 => ?_)
                have tzi_1001 : zi_1001.toInt = zi_997.toInt + zi_969.toInt := by rw [ezi_1001]; exact tiadd (rfl) (rfl) (by omega) (by omega)
                refine ht_iald (n := 392) (q := 0) hx hb hK hP hs t_952 (by decide) rfl rfl ⟨by omega, by omega⟩ dX11_dropDates_84 ?_
                refine lv_topi (fun zi_1002 ezi_1002 => ?_)
                have la_1003 : zi_1002.toInt = zA (zI_970 (zR zy 0)) (278 + 6 * zi_850.toInt + zi_969.toInt) := (congrArg Int32.toInt (show zI_970 (zR zy 0) zi_1001.toNatClampNeg = zi_1002 from ezi_1002.symm).symm).trans (congrArg (zA (zI_970 (zR zy 0))) (show zi_1001.toInt = 278 + 6 * zi_850.toInt + zi_969.toInt from by omega))
                refine ht_iast (v := zi_1002) (n := 392) (q := 0) hx hb hK hP hD hS hs t_952 (by decide) rfl rfl ⟨by omega, by omega⟩ dX11_dropDates_85 (fun H locs hP hD hS => ?_)
                have h_zI_1004 : WM [10000] AL zT zR zI (u2 zI_970 (zR zy 0) zi_996.toNatClampNeg zi_1002) := h_zI_970.putA hs t_952 rfl (rgF _) (by decide) (fun h => absurd h (by decide)) (by decide) trivial
                generalize uzI_1004 : u2 zI_970 (zR zy 0) zi_996.toNatClampNeg zi_1002 = zI_1004 at hP hD h_zI_1004
                have fq_zI_1004 : FQ (zI (zR zy 0)) (zI_1004 (zR zy 0)) := by rw [← uzI_1004, u2_r]; exact FQ.up e_lp_987_1 (by omega) (by omega)
                obtain ⟨zi_1005, ezi_1005⟩ : ∃ y : Int32, y = zi_969 + 1 := ⟨_, rfl⟩
                have tzi_1005 : zi_1005.toInt = zi_969.toInt + 1 := by rw [ezi_1005]; exact tadd rfl (show (1 : Int32).toInt = 1 by decide) (by omega) (by omega)
                refine lv_iinc (v := zi_1005) (lv' := [(5, .int zi_1005), (0, .ref zy), (1, .int zia), (2, .int zib), (3, .int zi_849), (4, .int zi_850)]) hx hb dX11_dropDates_86 hl (k := 5) rfl (by rw [ezi_1005]; rfl) (by decide) rfl (fun ls hl => ?_)
                refine lv_goto (tgt := 52) hx hb dX11_dropDates_89 (by decide) ?_
                exact ih_987 (6 - zi_1005.toInt).toNat (by omega) zi_1005 zI_1004 _ _ _ rfl (by omega) h_zI_1004 (by rw [← uzI_1004, u2_r]; exact DD.s (d := zi_850.toInt) (k := zi_969.toInt) e_lp_987_0 (by omega) (by omega) (by omega) (by omega) (la_1003.trans (congrArg (zA (zI_970 (zR zy 0))) (by omega))) (by omega)) fq_zI_1004 hP hD hS (lv_sub hl [1, 2, 3, 4, 5, 0] rfl)
          have qc_0 : (0 : Int32).toInt = 0 := by decide
          exact lp_987 _ (0 : Int32) zI_851 _ _ _ rfl (by decide) h_zI_851 (show DD (zI (zR zy 0)) (zI_851 (zR zy 0)) zia.toInt zib.toInt zi_849.toInt zi_850.toInt (0 : Int32).toInt from e_lp_950_0) e_lp_950_2 hP hD hS (lv_sub hl [1, 2, 3, 4, 5, 0] rfl)
        · have f_968 : ¬ (zi_965.toInt ≠ zia.toInt) := ic_nne (rfl) (rfl) c_967
          refine lv_aload_n hx hb dX11_dropDates_32 rfl (lv_at hl 0 rfl) ?_
          refine ht_getr (C := RX11) (T := TX11) (N := 28) hx hb hts (by decide +kernel) hown hK hP hs t_zy (by decide) rfl rfl 0 (by decide) (hts (.fieldLink RX11 7 "DripStoneModel" "z" "[I") (by decide +kernel)) (fun _ h9 => h9) rfl dX11_dropDates_33 ?_
          refine lv_aload_n hx hb dX11_dropDates_36 rfl (lv_at hl 0 rfl) ?_
          refine lv_iload hx hb dX11_dropDates_37 (lv_at hl 4 rfl) ?_
          refine hj_i (ws := (WL cy zL zT zR zI_851 zJ)) (w1 := fun (u : Unit) => (WL cy zL zT zR zI_851 zJ)) (va_runV (As := [.int zi_850]) (rest := [.ref (zR zy 0)]) ⟨hx, hb, hml, hown, hts⟩ (t_X11_dateAt l dC dI cy H.size zL zT zR zI_851 zJ zy zi_850 hs h_zI_851.1 t_zy (by omega)) (cwV 1 hts gX11_dropDates_X11_dateAt rfl rfl rfl (by decide +kernel) ⟨(Nat.le_of_ble_eq_true rfl), (Nat.le_of_ble_eq_true rfl)⟩) (PRE.v hP hK hD hN (ht_recv hK hP hs t_zy (by decide) rfl rfl)) rfl rfl hl.1 rfl (lv_room (Nat.le_of_ble_eq_true rfl)) dX11_dropDates_39 ⟨(Nat.le_of_ble_eq_true rfl), (Nat.le_of_ble_eq_true rfl)⟩) hP hD hS hA (fun zi_1006 u_1008 H locs hw_1007 hP hD hS => ?_)
          obtain ⟨b_zi_1006, ps_1009⟩ : (278 ≤ zi_1006.toInt ∧ zi_1006.toInt ≤ 326) ∧ (zi_1006.toInt = 278 + 6 * zi_850.toInt) := hw_1007
          refine lv_iconst (v := 1) hx hb dX11_dropDates_42 (by decide) ?_
          refine lv_iadd hx hb dX11_dropDates_43 ?_
          refine lv_topi (fun zi_1010 ezi_1010 => ?_)
          have tzi_1010 : zi_1010.toInt = zi_1006.toInt + (1 : Int) := by rw [ezi_1010]; exact tiadd (rfl) (show (1 : Int32).toInt = 1 by decide) (by omega) (by omega)
          refine ht_iald (n := 392) (q := 0) hx hb hK hP hs t_952 (by decide) rfl rfl ⟨by omega, by omega⟩ dX11_dropDates_44 ?_
          refine lv_topi (fun zi_1011 ezi_1011 => ?_)
          have la_1012 : zi_1011.toInt = zA (zI_851 (zR zy 0)) (279 + 6 * zi_850.toInt) := (congrArg Int32.toInt (show zI_851 (zR zy 0) zi_1010.toNatClampNeg = zi_1011 from ezi_1011.symm).symm).trans (congrArg (zA (zI_851 (zR zy 0))) (show zi_1010.toInt = 279 + 6 * zi_850.toInt from by omega))
          refine lv_iload_n hx hb dX11_dropDates_45 rfl (lv_at hl 2 rfl) ?_
          refine lv_icmp_ge (tgt := 95) hx hb dX11_dropDates_46 (by decide) (fun c_1013 => ?_) (fun c_1013 => ?_)
          · have f_1014 : zi_1011.toInt ≥ zib.toInt := ic_ge (rfl) (rfl) c_1013
            obtain ⟨zi_1015, ezi_1015⟩ : ∃ y : Int32, y = zi_850 + 1 := ⟨_, rfl⟩
            have tzi_1015 : zi_1015.toInt = zi_850.toInt + 1 := by rw [ezi_1015]; exact tadd rfl (show (1 : Int32).toInt = 1 by decide) (by omega) (by omega)
            refine lv_iinc (v := zi_1015) (lv' := [(4, .int zi_1015), (0, .ref zy), (1, .int zia), (2, .int zib), (3, .int zi_849)]) hx hb dX11_dropDates_95 hl (k := 4) rfl (by rw [ezi_1015]; rfl) (by decide) rfl (fun ls hl => ?_)
            refine lv_goto (tgt := 5) hx hb dX11_dropDates_98 (by decide) ?_
            exact ih_950 (8 - zi_1015.toInt).toNat (by omega) zi_849 zi_1015 zI_851 _ _ _ rfl (by omega) (by omega) h_zI_851 (DD.g e_lp_950_0 (by omega)) (by omega) e_lp_950_2 hP hD hS (lv_sub hl [1, 2, 3, 4, 0] rfl)
          · have f_1014 : ¬ (zi_1011.toInt ≥ zib.toInt) := ic_nge (rfl) (rfl) c_1013
            refine lv_iconst (v := 0) hx hb dX11_dropDates_49 (by decide) ?_
            refine lv_istore (lv' := [(5, .int 0), (0, .ref zy), (1, .int zia), (2, .int zib), (3, .int zi_849), (4, .int zi_850)]) hx hb dX11_dropDates_50 hl (by decide) rfl (fun ls hl => ?_)
            have lp_1034 : ∀ (n : Nat) (zi_1016 : Int32) (zI_1017 : Nat → Nat → Int32) (H : Heap) (locs : List Loc) (ls : Array Slot), (6 - zi_1016.toInt).toNat = n → (0 ≤ zi_1016.toInt ∧ zi_1016.toInt ≤ 6) → (WM [10000] AL zT zR zI zI_1017) → (DD (zI (zR zy 0)) (zI_1017 (zR zy 0)) zia.toInt zib.toInt zi_849.toInt zi_850.toInt zi_1016.toInt) → (FQ (zI (zR zy 0)) (zI_1017 (zR zy 0))) → va_P (dC, dI) vwCl (WL cy zL zT zR zI_1017 zJ) H → va_D A (WL cy zL zT zR zI_1017 zJ) → va_S A s.heap H locs → lv_has ls 6 [(0, .ref zy), (1, .int zia), (2, .int zib), (3, .int zi_849), (4, .int zi_850), (5, .int zi_1016)] → W p l e ({ frames := 1, cells := 0, slots := 0, locals := 21 } : Room) s m ([.ref zy, .int zia, .int zib] : List Value).toArray below meth c H locs 0 0 Q (F0 m 52 ls []) := by
              intro n
              induction n using Nat.strongRecOn with
              | _ n ih_1034 =>
                intro zi_1016 zI_1017 H locs ls hn b_zi_1016 h_zI_1017 e_lp_1034_0 e_lp_1034_1 hP hD hS hl
                refine lv_iload hx hb dX11_dropDates_52 (lv_at hl 5 rfl) ?_
                refine lv_bipush (v := 6) hx hb dX11_dropDates_54 (by decide) ?_
                refine lv_icmp_ge (tgt := 92) hx hb dX11_dropDates_56 (by decide) (fun c_1035 => ?_) (fun c_1035 => ?_)
                · have f_1036 : zi_1016.toInt ≥ (6 : Int) := ic_ge (rfl) (show (6 : Int32).toInt = 6 by decide) c_1035
                  obtain ⟨zi_1037, ezi_1037⟩ : ∃ y : Int32, y = zi_849 + 1 := ⟨_, rfl⟩
                  have tzi_1037 : zi_1037.toInt = zi_849.toInt + 1 := by rw [ezi_1037]; exact tadd rfl (show (1 : Int32).toInt = 1 by decide) (by omega) (by omega)
                  refine lv_iinc (v := zi_1037) (lv' := [(3, .int zi_1037), (0, .ref zy), (1, .int zia), (2, .int zib), (4, .int zi_850), (5, .int zi_1016)]) hx hb dX11_dropDates_92 hl (k := 3) rfl (by rw [ezi_1037]; rfl) (by decide) rfl (fun ls hl => ?_)
                  obtain ⟨zi_1038, ezi_1038⟩ : ∃ y : Int32, y = zi_850 + 1 := ⟨_, rfl⟩
                  have tzi_1038 : zi_1038.toInt = zi_850.toInt + 1 := by rw [ezi_1038]; exact tadd rfl (show (1 : Int32).toInt = 1 by decide) (by omega) (by omega)
                  refine lv_iinc (v := zi_1038) (lv' := [(4, .int zi_1038), (3, .int zi_1037), (0, .ref zy), (1, .int zia), (2, .int zib), (5, .int zi_1016)]) hx hb dX11_dropDates_95 hl (k := 4) rfl (by rw [ezi_1038]; rfl) (by decide) rfl (fun ls hl => ?_)
                  refine lv_goto (tgt := 5) hx hb dX11_dropDates_98 (by decide) ?_
                  exact ih_950 (8 - zi_1038.toInt).toNat (by omega) zi_1037 zi_1038 zI_1017 _ _ _ rfl (by omega) (by omega) h_zI_1017 (DD.k e_lp_1034_0 (by omega) (by omega) (by omega) (fun h9 => by omega) (by omega) (by omega)) (by omega) e_lp_1034_1 hP hD hS (lv_sub hl [2, 3, 4, 1, 0] rfl)
                · have f_1036 : ¬ (zi_1016.toInt ≥ (6 : Int)) := ic_nge (rfl) (show (6 : Int32).toInt = 6 by decide) c_1035
                  refine lv_aload_n hx hb dX11_dropDates_59 rfl (lv_at hl 0 rfl) ?_
                  refine ht_getr (C := RX11) (T := TX11) (N := 28) hx hb hts (by decide +kernel) hown hK hP hs t_zy (by decide) rfl rfl 0 (by decide) (hts (.fieldLink RX11 7 "DripStoneModel" "z" "[I") (by decide +kernel)) (fun _ h9 => h9) rfl dX11_dropDates_60 ?_
                  refine lv_aload_n hx hb dX11_dropDates_63 rfl (lv_at hl 0 rfl) ?_
                  refine lv_iload_n hx hb dX11_dropDates_64 rfl (lv_at hl 3 rfl) ?_
                  refine hj_i (ws := (WL cy zL zT zR zI_1017 zJ)) (w1 := fun (u : Unit) => (WL cy zL zT zR zI_1017 zJ)) (va_runV (As := [.int zi_849]) (rest := [.ref (zR zy 0)]) ⟨hx, hb, hml, hown, hts⟩ (t_X11_dateAt l dC dI cy H.size zL zT zR zI_1017 zJ zy zi_849 hs h_zI_1017.1 t_zy (by omega)) (cwV 1 hts gX11_dropDates_X11_dateAt rfl rfl rfl (by decide +kernel) ⟨(Nat.le_of_ble_eq_true rfl), (Nat.le_of_ble_eq_true rfl)⟩) (PRE.v hP hK hD hN (ht_recv hK hP hs t_zy (by decide) rfl rfl)) rfl rfl hl.1 rfl (lv_room (Nat.le_of_ble_eq_true rfl)) dX11_dropDates_65 ⟨(Nat.le_of_ble_eq_true rfl), (Nat.le_of_ble_eq_true rfl)⟩) hP hD hS hA (fun zi_1039 u_1041 H locs hw_1040 hP hD hS => ?_)
                  obtain ⟨b_zi_1039, ps_1042⟩ : (278 ≤ zi_1039.toInt ∧ zi_1039.toInt ≤ 326) ∧ (zi_1039.toInt = 278 + 6 * zi_849.toInt) := hw_1040
                  refine lv_iload hx hb dX11_dropDates_68 (lv_at hl 5 rfl) ?_
                  refine lv_iadd hx hb dX11_dropDates_70 ?_
                  refine lv_topi (fun zi_1043 ezi_1043 => ?_)
                  have tzi_1043 : zi_1043.toInt = zi_1039.toInt + zi_1016.toInt := by rw [ezi_1043]; exact tiadd (rfl) (rfl) (by omega) (by omega)
                  refine lv_aload_n hx hb dX11_dropDates_71 rfl (lv_at hl 0 rfl) ?_
                  refine ht_getr (C := RX11) (T := TX11) (N := 28) hx hb hts (by decide +kernel) hown hK hP hs t_zy (by decide) rfl rfl 0 (by decide) (hts (.fieldLink RX11 7 "DripStoneModel" "z" "[I") (by decide +kernel)) (fun _ h9 => h9) rfl dX11_dropDates_72 ?_
                  refine lv_aload_n hx hb dX11_dropDates_75 rfl (lv_at hl 0 rfl) ?_
                  refine lv_iload hx hb dX11_dropDates_76 (lv_at hl 4 rfl) ?_
                  refine hj_i (ws := (WL cy zL zT zR zI_1017 zJ)) (w1 := fun (u : Unit) => (WL cy zL zT zR zI_1017 zJ)) (va_runV (As := [.int zi_850]) (rest := [.ref (zR zy 0), .int zi_1043, .ref (zR zy 0)]) ⟨hx, hb, hml, hown, hts⟩ (t_X11_dateAt l dC dI cy H.size zL zT zR zI_1017 zJ zy zi_850 hs h_zI_1017.1 t_zy (by omega)) (cwV 1 hts gX11_dropDates_X11_dateAt rfl rfl rfl (by decide +kernel) ⟨(Nat.le_of_ble_eq_true rfl), (Nat.le_of_ble_eq_true rfl)⟩) (PRE.v hP hK hD hN (ht_recv hK hP hs t_zy (by decide) rfl rfl)) rfl rfl hl.1 rfl (lv_room (Nat.le_of_ble_eq_true rfl)) dX11_dropDates_78 ⟨(Nat.le_of_ble_eq_true rfl), (Nat.le_of_ble_eq_true rfl)⟩) hP hD hS hA (fun zi_1044 u_1046 H locs hw_1045 hP hD hS => ?_)
                  obtain ⟨b_zi_1044, ps_1047⟩ : (278 ≤ zi_1044.toInt ∧ zi_1044.toInt ≤ 326) ∧ (zi_1044.toInt = 278 + 6 * zi_850.toInt) := hw_1045
                  refine lv_iload hx hb dX11_dropDates_81 (lv_at hl 5 rfl) ?_
                  refine lv_iadd hx hb dX11_dropDates_83 ?_
                  refine lv_topi (fun zi_1048 ezi_1048 => ?_)
                  have tzi_1048 : zi_1048.toInt = zi_1044.toInt + zi_1016.toInt := by rw [ezi_1048]; exact tiadd (rfl) (rfl) (by omega) (by omega)
                  refine ht_iald (n := 392) (q := 0) hx hb hK hP hs t_952 (by decide) rfl rfl ⟨by omega, by omega⟩ dX11_dropDates_84 ?_
                  refine lv_topi (fun zi_1049 ezi_1049 => ?_)
                  have la_1050 : zi_1049.toInt = zA (zI_1017 (zR zy 0)) (278 + zi_1016.toInt + 6 * zi_850.toInt) := (congrArg Int32.toInt (show zI_1017 (zR zy 0) zi_1048.toNatClampNeg = zi_1049 from ezi_1049.symm).symm).trans (congrArg (zA (zI_1017 (zR zy 0))) (show zi_1048.toInt = 278 + zi_1016.toInt + 6 * zi_850.toInt from by omega))
                  refine ht_iast (v := zi_1049) (n := 392) (q := 0) hx hb hK hP hD hS hs t_952 (by decide) rfl rfl ⟨by omega, by omega⟩ dX11_dropDates_85 (fun H locs hP hD hS => ?_)
                  have h_zI_1051 : WM [10000] AL zT zR zI (u2 zI_1017 (zR zy 0) zi_1043.toNatClampNeg zi_1049) := h_zI_1017.putA hs t_952 rfl (rgF _) (by decide) (fun h => absurd h (by decide)) (by decide) trivial
                  generalize uzI_1051 : u2 zI_1017 (zR zy 0) zi_1043.toNatClampNeg zi_1049 = zI_1051 at hP hD h_zI_1051
                  have fq_zI_1051 : FQ (zI (zR zy 0)) (zI_1051 (zR zy 0)) := by rw [← uzI_1051, u2_r]; exact FQ.up e_lp_1034_1 (by omega) (by omega)
                  obtain ⟨zi_1052, ezi_1052⟩ : ∃ y : Int32, y = zi_1016 + 1 := ⟨_, rfl⟩
                  have tzi_1052 : zi_1052.toInt = zi_1016.toInt + 1 := by rw [ezi_1052]; exact tadd rfl (show (1 : Int32).toInt = 1 by decide) (by omega) (by omega)
                  refine lv_iinc (v := zi_1052) (lv' := [(5, .int zi_1052), (0, .ref zy), (1, .int zia), (2, .int zib), (3, .int zi_849), (4, .int zi_850)]) hx hb dX11_dropDates_86 hl (k := 5) rfl (by rw [ezi_1052]; rfl) (by decide) rfl (fun ls hl => ?_)
                  refine lv_goto (tgt := 52) hx hb dX11_dropDates_89 (by decide) ?_
                  exact ih_1034 (6 - zi_1052.toInt).toNat (by omega) zi_1052 zI_1051 _ _ _ rfl (by omega) h_zI_1051 (by rw [← uzI_1051, u2_r]; exact DD.s (d := zi_850.toInt) (k := zi_1016.toInt) e_lp_1034_0 (by omega) (by omega) (by omega) (by omega) (la_1050.trans (congrArg (zA (zI_1017 (zR zy 0))) (by omega))) (by omega)) fq_zI_1051 hP hD hS (lv_sub hl [1, 2, 3, 4, 5, 0] rfl)
            have qc_0 : (0 : Int32).toInt = 0 := by decide
            exact lp_1034 _ (0 : Int32) zI_851 _ _ _ rfl (by decide) h_zI_851 (show DD (zI (zR zy 0)) (zI_851 (zR zy 0)) zia.toInt zib.toInt zi_849.toInt zi_850.toInt (0 : Int32).toInt from e_lp_950_0) e_lp_950_2 hP hD hS (lv_sub hl [1, 2, 3, 4, 5, 0] rfl)
  have qc_0 : (0 : Int32).toInt = 0 := by decide
  exact lp_950 _ (0 : Int32) (0 : Int32) zI _ _ _ rfl (by decide) (by decide) h_zI DD.z (by omega) FQ.rf hP hD hS (lv_sub hl [2, 3, 4, 1, 0] rfl)
set_option maxHeartbeats 8000000 in
set_option maxRecDepth 100000 in
theorem t_X11_cut (l : Launch) (dC : Nat → ClassId) (dI : Nat → Nat → Nat) (cy : Nat → ClassId) (sz : Nat) (zL : List Nat) (zT : Nat → Nat) (zR : Nat → Nat → Nat) (zI : Nat → Nat → Int32) (zJ : Nat → Nat → Int64) (zy : Nat) (zia : Int32) (zib : Int32) (hs : SKP zL zT zR) (hw : WT zT zR zI) (t_zy : zT zy = 18) (hz : ZI (zI (zR zy 0))) : Met l yX11_cut wsX11_cut ({ frames := 2, cells := 0, slots := 0, locals := 47 } : Room) (va_Pc [.ref zy, .int zia, .int zib] (PRE dC dI cy (WL cy zL zT zR zI zJ) sz)) (va_Qi (fun (r : Int32) (u : (Nat → Nat → Int32)) => (WM [10000] AL zT zR zI u) ∧ ((-1) ≤ r.toInt ∧ r.toInt ≤ 11) ∧ (FQ (zI (zR zy 0)) (u (zR zy 0))) ∧ (ZI (u (zR zy 0)))) (fun u t => POST dC dI cy (va_A (WL cy zL zT zR zI zJ) sz) (WL cy zL zT zR u zJ) t) (va_A (WL cy zL zT zR zI zJ) sz)) 0 0 (va_A (WL cy zL zT zR zI zJ) sz) := by
  refine Met.ofW (cc := cX11_cut) (maxL := 3) (ret := (some .int)) (by decide) rfl ?_
  intro p e s m args below meth c s₁ B hml hv
  obtain ⟨rfl, hsz, hP, hK, hD0, hN⟩ := hv
  have hx := B.exec
  have hb := B.bytes
  have hr := B.returns
  have hts := atoms_spec (ws := wsX11_cut) B.pre
  have hown : s.vm.findClass RX11 = some m.cls := findClass_of_methodNamed B.named
  have hlocks := B.notSynchronized
  subst hsz
  have hD := hD0.self (sz := s.heap.size)
  generalize hAe : va_A (WL cy zL zT zR zI zJ) s.heap.size = A at hD ⊢
  have hA : ∀ q : Nat, s.heap.size ≤ q → A q := fun q h => by rw [← hAe]; exact Or.inr h
  have hS : va_S A s.heap s.heap [] := va_S.rf
  have hP : va_P (dC, dI) vwCl (WL cy zL zT zR zI zJ) s.heap := hP
  have hl := lv_entry ([.ref zy, .int zia, .int zib] : List Value) (n := 3) (Nat.le_of_ble_eq_true rfl)
  rw [lg_entry_eq]
  generalize (lg_sl ([.ref zy, .int zia, .int zib] : List Value) ++ List.replicate (3 - (lg_sl ([.ref zy, .int zia, .int zib] : List Value)).length) Slot.unset).toArray = ls at hl ⊢
  have hl : lv_has ls 3 [(0, .ref zy), (1, .int zia), (2, .int zib)] := hl
  refine w_q (fun Q hQ => ?_)
  have h_zI : WM [10000] AL zT zR zI zI := WM.rf hw
  refine lv_iload_n hx hb dX11_cut_0 rfl (lv_at hl 1 rfl) ?_
  refine hj0_i (ws := (WL cy zL zT zR zI zJ)) (va_runS (As := [.int zia]) (rest := []) ⟨hx, hb, hml, hown, hts⟩ (c_X11_isCandle l dC dI cy s.heap.size zia) (va_cwS 1 hts gX11_cut_X11_isCandle rfl rfl rfl (by decide +kernel) ⟨(Nat.le_of_ble_eq_true rfl), (Nat.le_of_ble_eq_true rfl)⟩) (PRE.s (hP.sub [] rfl) hK (hD.sub [] (by decide) rfl) hN) rfl rfl hl.1 rfl (lv_room (Nat.le_of_ble_eq_true rfl)) dX11_cut_1 ⟨(Nat.le_of_ble_eq_true rfl), (Nat.le_of_ble_eq_true rfl)⟩) hP hD hS hA (fun zi_1 u_3 H locs hw_2 hP hD hS => ?_)
  have hw_2 : zi_1 = if 0 ≤ zia.toInt ∧ zia.toInt ≤ 1 then 1 else 0 := hw_2
  have b_zi_1 : 0 ≤ zi_1.toInt ∧ zi_1.toInt ≤ 1 := bz_b hw_2
  refine lv_if_eq (tgt := 16) hx hb dX11_cut_4 (by decide) (fun c_4 => ?_) (fun c_4 => ?_)
  · have f_5 : ¬ (0 ≤ zia.toInt ∧ zia.toInt ≤ 1) := bz_0 hw_2 c_4
    refine lv_iconst (v := (-1)) hx hb dX11_cut_16 (by decide) ?_
    subst hQ
    have qc_m1 : (-1 : Int32).toInt = -1 := by decide
    exact W.iret (v := (-1 : Int32)) hx hb hr (fun t ht hW => ⟨⟨(-1 : Int32), zI, rfl, ⟨h_zI, (show (-1) ≤ (-1 : Int32).toInt ∧ (-1 : Int32).toInt ≤ 11 from by omega), (show FQ (zI (zR zy 0)) (zI (zR zy 0)) from FQ.rf), (show ZI (zI (zR zy 0)) from hz)⟩, ⟨by rw [ht]; exact hP, va_K.moved hW.alike hK, hD⟩⟩, hS.F ht⟩) hS.2.2 dX11_cut_17
  · have f_5 : 0 ≤ zia.toInt ∧ zia.toInt ≤ 1 := bz_1 hw_2 c_4
    refine lv_aload_n hx hb dX11_cut_7 rfl (lv_at hl 0 rfl) ?_
    refine lv_iload_n hx hb dX11_cut_8 rfl (lv_at hl 1 rfl) ?_
    refine lv_iload_n hx hb dX11_cut_9 rfl (lv_at hl 2 rfl) ?_
    refine hj_i (ws := (WL cy zL zT zR zI zJ)) (w1 := fun (u : Unit) => (WL cy zL zT zR zI zJ)) (va_runV (As := [.int zia, .int zib]) (rest := []) ⟨hx, hb, hml, hown, hts⟩ (t_X11_isThing l dC dI cy H.size zL zT zR zI zJ zy zia zib hs h_zI.1 t_zy (by omega) hz) (cwV 2 hts gX11_cut_X11_isThing rfl rfl rfl (by decide +kernel) ⟨(Nat.le_of_ble_eq_true rfl), (Nat.le_of_ble_eq_true rfl)⟩) (PRE.v hP hK hD hN (ht_recv hK hP hs t_zy (by decide) rfl rfl)) rfl rfl hl.1 rfl (lv_room (Nat.le_of_ble_eq_true rfl)) dX11_cut_10 ⟨(Nat.le_of_ble_eq_true rfl), (Nat.le_of_ble_eq_true rfl)⟩) hP hD hS hA (fun zi_6 u_8 H locs hw_7 hP hD hS => ?_)
    obtain ⟨b_zi_6, ps_9, ps_10⟩ : (0 ≤ zi_6.toInt ∧ zi_6.toInt ≤ 1) ∧ (zi_6.toInt = 0 ∨ (0 ≤ zib.toInt ∧ zib.toInt ≤ 11)) ∧ (zi_6.toInt = 0 ∨ zib.toInt < zA (zI (zR zy 0)) (5 + zia.toInt)) := hw_7
    refine lv_if_ne (tgt := 18) hx hb dX11_cut_13 (by decide) (fun c_11 => ?_) (fun c_11 => ?_)
    · have f_12 : zi_6.toInt ≠ 0 := ic_ne (rfl) (by decide) c_11
      have b9_zib : 0 ≤ zib.toInt ∧ zib.toInt ≤ 11 := by omega
      refine lv_aload_n hx hb dX11_cut_18 rfl (lv_at hl 0 rfl) ?_
      refine lv_iload_n hx hb dX11_cut_19 rfl (lv_at hl 1 rfl) ?_
      refine lv_iload_n hx hb dX11_cut_20 rfl (lv_at hl 2 rfl) ?_
      refine hj_v (ws := (WL cy zL zT zR zI zJ)) (w1 := fun (u : (Nat → Nat → Int32)) => (WL cy zL zT zR u zJ)) (va_runV (As := [.int zia, .int zib]) (rest := []) ⟨hx, hb, hml, hown, hts⟩ (t_X11_dropStretches l dC dI cy H.size zL zT zR zI zJ zy zia zib hs h_zI.1 t_zy (by omega) hz) (cwV 2 hts gX11_cut_X11_dropStretches rfl rfl rfl (by decide +kernel) ⟨(Nat.le_of_ble_eq_true rfl), (Nat.le_of_ble_eq_true rfl)⟩) (PRE.v hP hK hD hN (ht_recv hK hP hs t_zy (by decide) rfl rfl)) rfl rfl hl.1 rfl (lv_room (Nat.le_of_ble_eq_true rfl)) dX11_cut_21 ⟨(Nat.le_of_ble_eq_true rfl), (Nat.le_of_ble_eq_true rfl)⟩) hP hD hS hA (fun zI_16 H locs hw_14 hP hD hS => ?_)
      obtain ⟨k_zI_16, ps_17, ps_18⟩ : (WM [10000] AL zT zR zI zI_16) ∧ (FQ (zI (zR zy 0)) (zI_16 (zR zy 0))) ∧ (ZI (zI_16 (zR zy 0))) := hw_14
      have h_zI_16 : WM [10000] AL zT zR zI zI_16 := h_zI.tr k_zI_16 (by decide) (fun _ _ => trivial)
      have fq_zI_16 : FQ (zI (zR zy 0)) (zI_16 (zR zy 0)) := FQ.tr FQ.rf ps_17
      refine lv_aload_n hx hb dX11_cut_24 rfl (lv_at hl 0 rfl) ?_
      refine lv_iload_n hx hb dX11_cut_25 rfl (lv_at hl 1 rfl) ?_
      refine lv_iload_n hx hb dX11_cut_26 rfl (lv_at hl 2 rfl) ?_
      refine hj_v (ws := (WL cy zL zT zR zI_16 zJ)) (w1 := fun (u : (Nat → Nat → Int32)) => (WL cy zL zT zR u zJ)) (va_runV (As := [.int zia, .int zib]) (rest := []) ⟨hx, hb, hml, hown, hts⟩ (t_X11_dropDates l dC dI cy H.size zL zT zR zI_16 zJ zy zia zib hs h_zI_16.1 t_zy (by omega) ps_18) (cwV 2 hts gX11_cut_X11_dropDates rfl rfl rfl (by decide +kernel) ⟨(Nat.le_of_ble_eq_true rfl), (Nat.le_of_ble_eq_true rfl)⟩) (PRE.v hP hK hD hN (ht_recv hK hP hs t_zy (by decide) rfl rfl)) rfl rfl hl.1 rfl (lv_room (Nat.le_of_ble_eq_true rfl)) dX11_cut_27 ⟨(Nat.le_of_ble_eq_true rfl), (Nat.le_of_ble_eq_true rfl)⟩) hP hD hS hA (fun zI_22 H locs hw_20 hP hD hS => ?_)
      obtain ⟨k_zI_22, ps_23, ps_24, ps_25⟩ : (WM [10000] AL zT zR zI_16 zI_22) ∧ (ZI (zI_22 (zR zy 0))) ∧ (DR (zI_22 (zR zy 0)) zia.toInt zib.toInt) ∧ (FQ (zI_16 (zR zy 0)) (zI_22 (zR zy 0))) := hw_20
      have h_zI_22 : WM [10000] AL zT zR zI zI_22 := h_zI_16.tr k_zI_22 (by decide) (fun _ _ => trivial)
      have fq_zI_22 : FQ (zI (zR zy 0)) (zI_22 (zR zy 0)) := FQ.tr fq_zI_16 ps_25
      refine lv_aload_n hx hb dX11_cut_30 rfl (lv_at hl 0 rfl) ?_
      refine ht_getr (C := RX11) (T := TX11) (N := 28) hx hb hts (by decide +kernel) hown hK hP hs t_zy (by decide) rfl rfl 0 (by decide) (hts (.fieldLink RX11 7 "DripStoneModel" "z" "[I") (by decide +kernel)) (fun _ h9 => h9) rfl dX11_cut_31 ?_
      have t_26 : zT (zR zy 0) = 100 := sk_f hs t_zy (by decide) rfl (by decide)
      refine lv_iconst (v := 5) hx hb dX11_cut_34 (by decide) ?_
      refine lv_iload_n hx hb dX11_cut_35 rfl (lv_at hl 1 rfl) ?_
      refine lv_iadd hx hb dX11_cut_36 ?_
      refine lv_topi (fun zi_27 ezi_27 => ?_)
      have tzi_27 : zi_27.toInt = (5 : Int) + zia.toInt := by rw [ezi_27]; exact tiadd (show (5 : Int32).toInt = 5 by decide) (rfl) (by omega) (by omega)
      refine lv_iload_n hx hb dX11_cut_37 rfl (lv_at hl 2 rfl) ?_
      refine ht_iast (v := zib) (n := 392) (q := 0) hx hb hK hP hD hS hs t_26 (by decide) rfl rfl ⟨by omega, by omega⟩ dX11_cut_38 (fun H locs hP hD hS => ?_)
      have h_zI_28 : WM [10000] AL zT zR zI (u2 zI_22 (zR zy 0) zi_27.toNatClampNeg zib) := h_zI_22.putA hs t_26 rfl (rgF _) (by decide) (fun h => absurd h (by decide)) (by decide) trivial
      generalize uzI_28 : u2 zI_22 (zR zy 0) zi_27.toNatClampNeg zib = zI_28 at hP hD h_zI_28
      have z_zI_28 : ZI (zI_28 (zR zy 0)) := by rw [← uzI_28, u2_r]; exact ZI.sz ps_23 (c := zia.toInt) (by omega) (by omega) (by omega) (fun d d0 d1 hd => ps_24 d d0 d1 hd)
      have fq_zI_28 : FQ (zI (zR zy 0)) (zI_28 (zR zy 0)) := by rw [← uzI_28, u2_r]; exact FQ.up fq_zI_22 (by omega) (by omega)
      refine lv_aload_n hx hb dX11_cut_39 rfl (lv_at hl 0 rfl) ?_
      refine ht_getr (C := RX11) (T := TX11) (N := 28) hx hb hts (by decide +kernel) hown hK hP hs t_zy (by decide) rfl rfl 0 (by decide) (hts (.fieldLink RX11 7 "DripStoneModel" "z" "[I") (by decide +kernel)) (fun _ h9 => h9) rfl dX11_cut_40 ?_
      refine lv_bipush (v := 7) hx hb dX11_cut_43 (by decide) ?_
      refine lv_iload_n hx hb dX11_cut_45 rfl (lv_at hl 1 rfl) ?_
      refine lv_iadd hx hb dX11_cut_46 ?_
      refine lv_topi (fun zi_29 ezi_29 => ?_)
      have tzi_29 : zi_29.toInt = (7 : Int) + zia.toInt := by rw [ezi_29]; exact tiadd (show (7 : Int32).toInt = 7 by decide) (rfl) (by omega) (by omega)
      refine lv_iconst (v := 0) hx hb dX11_cut_47 (by decide) ?_
      refine ht_iast (v := (0 : Int32)) (n := 392) (q := 0) hx hb hK hP hD hS hs t_26 (by decide) rfl rfl ⟨by omega, by omega⟩ dX11_cut_48 (fun H locs hP hD hS => ?_)
      have h_zI_30 : WM [10000] AL zT zR zI (u2 zI_28 (zR zy 0) zi_29.toNatClampNeg (0 : Int32)) := h_zI_28.putA hs t_26 rfl (rgF _) (by decide) (fun h => absurd h (by decide)) (by decide) trivial
      generalize uzI_30 : u2 zI_28 (zR zy 0) zi_29.toNatClampNeg (0 : Int32) = zI_30 at hP hD h_zI_30
      have z_zI_30 : ZI (zI_30 (zR zy 0)) := by rw [← uzI_30, u2_r]; exact ZI.fr z_zI_28 (by omega)
      have fq_zI_30 : FQ (zI (zR zy 0)) (zI_30 (zR zy 0)) := by rw [← uzI_30, u2_r]; exact FQ.up fq_zI_28 (by omega) (by omega)
      refine lv_iload_n hx hb dX11_cut_49 rfl (lv_at hl 2 rfl) ?_
      subst hQ
      exact W.iret (v := zib) hx hb hr (fun t ht hW => ⟨⟨zib, zI_30, rfl, ⟨h_zI_30, (show (-1) ≤ zib.toInt ∧ zib.toInt ≤ 11 from by omega), (show FQ (zI (zR zy 0)) (zI_30 (zR zy 0)) from fq_zI_30), (show ZI (zI_30 (zR zy 0)) from z_zI_30)⟩, ⟨by rw [ht]; exact hP, va_K.moved hW.alike hK, hD⟩⟩, hS.F ht⟩) hS.2.2 dX11_cut_50
    · have f_12 : ¬ (zi_6.toInt ≠ 0) := ic_nne (rfl) (by decide) c_11
      refine lv_iconst (v := (-1)) hx hb dX11_cut_16 (by decide) ?_
      subst hQ
      have qc_m1 : (-1 : Int32).toInt = -1 := by decide
      exact W.iret (v := (-1 : Int32)) hx hb hr (fun t ht hW => ⟨⟨(-1 : Int32), zI, rfl, ⟨h_zI, (show (-1) ≤ (-1 : Int32).toInt ∧ (-1 : Int32).toInt ≤ 11 from by omega), (show FQ (zI (zR zy 0)) (zI (zR zy 0)) from FQ.rf), (show ZI (zI (zR zy 0)) from hz)⟩, ⟨by rw [ht]; exact hP, va_K.moved hW.alike hK, hD⟩⟩, hS.F ht⟩) hS.2.2 dX11_cut_17
set_option maxHeartbeats 8000000 in
set_option maxRecDepth 100000 in
theorem t_X11_make (l : Launch) (dC : Nat → ClassId) (dI : Nat → Nat → Nat) (cy : Nat → ClassId) (sz : Nat) (zL : List Nat) (zT : Nat → Nat) (zR : Nat → Nat → Nat) (zI : Nat → Nat → Int32) (zJ : Nat → Nat → Int64) (zy : Nat) (zia : Int32) (hs : SKP zL zT zR) (hw : WT zT zR zI) (t_zy : zT zy = 18) (hz : ZI (zI (zR zy 0))) : Met l yX11_make wsX11_make ({ frames := 3, cells := 0, slots := 0, locals := 74 } : Room) (va_Pc [.ref zy, .int zia] (PRE dC dI cy (WL cy zL zT zR zI zJ) sz)) (va_Qi (fun (r : Int32) (u : (Nat → Nat → Int32)) => (WM [10000] AL zT zR zI u) ∧ ((-2) ≤ r.toInt ∧ r.toInt ≤ 12) ∧ (ZI (u (zR zy 0))) ∧ (FQ (zI (zR zy 0)) (u (zR zy 0)))) (fun u t => POST dC dI cy (va_A (WL cy zL zT zR zI zJ) sz) (WL cy zL zT zR u zJ) t) (va_A (WL cy zL zT zR zI zJ) sz)) 0 0 (va_A (WL cy zL zT zR zI zJ) sz) := by
  refine Met.ofW (cc := cX11_make) (maxL := 6) (ret := (some .int)) (by decide) rfl ?_
  intro p e s m args below meth c s₁ B hml hv
  obtain ⟨rfl, hsz, hP, hK, hD0, hN⟩ := hv
  have hx := B.exec
  have hb := B.bytes
  have hr := B.returns
  have hts := atoms_spec (ws := wsX11_make) B.pre
  have hown : s.vm.findClass RX11 = some m.cls := findClass_of_methodNamed B.named
  have hlocks := B.notSynchronized
  subst hsz
  have hD := hD0.self (sz := s.heap.size)
  generalize hAe : va_A (WL cy zL zT zR zI zJ) s.heap.size = A at hD ⊢
  have hA : ∀ q : Nat, s.heap.size ≤ q → A q := fun q h => by rw [← hAe]; exact Or.inr h
  have hS : va_S A s.heap s.heap [] := va_S.rf
  have hP : va_P (dC, dI) vwCl (WL cy zL zT zR zI zJ) s.heap := hP
  have hl := lv_entry ([.ref zy, .int zia] : List Value) (n := 6) (Nat.le_of_ble_eq_true rfl)
  rw [lg_entry_eq]
  generalize (lg_sl ([.ref zy, .int zia] : List Value) ++ List.replicate (6 - (lg_sl ([.ref zy, .int zia] : List Value)).length) Slot.unset).toArray = ls at hl ⊢
  have hl : lv_has ls 6 [(0, .ref zy), (1, .int zia)] := hl
  refine w_q (fun Q hQ => ?_)
  have h_zI : WM [10000] AL zT zR zI zI := WM.rf hw
  refine lv_iload_n hx hb dX11_make_0 rfl (lv_at hl 1 rfl) ?_
  refine hj0_i (ws := (WL cy zL zT zR zI zJ)) (va_runS (As := [.int zia]) (rest := []) ⟨hx, hb, hml, hown, hts⟩ (c_X11_isCandle l dC dI cy s.heap.size zia) (va_cwS 1 hts gX11_make_X11_isCandle rfl rfl rfl (by decide +kernel) ⟨(Nat.le_of_ble_eq_true rfl), (Nat.le_of_ble_eq_true rfl)⟩) (PRE.s (hP.sub [] rfl) hK (hD.sub [] (by decide) rfl) hN) rfl rfl hl.1 rfl (lv_room (Nat.le_of_ble_eq_true rfl)) dX11_make_1 ⟨(Nat.le_of_ble_eq_true rfl), (Nat.le_of_ble_eq_true rfl)⟩) hP hD hS hA (fun zi_1 u_3 H locs hw_2 hP hD hS => ?_)
  have hw_2 : zi_1 = if 0 ≤ zia.toInt ∧ zia.toInt ≤ 1 then 1 else 0 := hw_2
  have b_zi_1 : 0 ≤ zi_1.toInt ∧ zi_1.toInt ≤ 1 := bz_b hw_2
  refine lv_if_ne (tgt := 9) hx hb dX11_make_4 (by decide) (fun c_4 => ?_) (fun c_4 => ?_)
  · have f_5 : 0 ≤ zia.toInt ∧ zia.toInt ≤ 1 := bz_1 hw_2 c_4
    refine lv_aload_n hx hb dX11_make_9 rfl (lv_at hl 0 rfl) ?_
    refine ht_getr (C := RX11) (T := TX11) (N := 28) hx hb hts (by decide +kernel) hown hK hP hs t_zy (by decide) rfl rfl 0 (by decide) (hts (.fieldLink RX11 7 "DripStoneModel" "z" "[I") (by decide +kernel)) (fun _ h9 => h9) rfl dX11_make_10 ?_
    have t_6 : zT (zR zy 0) = 100 := sk_f hs t_zy (by decide) rfl (by decide)
    refine lv_iconst (v := 2) hx hb dX11_make_13 (by decide) ?_
    refine ht_iald (n := 392) (q := 0) hx hb hK hP hs t_6 (by decide) rfl rfl ⟨by decide, by decide⟩ dX11_make_14 ?_
    refine lv_topi (fun zi_7 ezi_7 => ?_)
    have la_8 : zi_7.toInt = zA (zI (zR zy 0)) (2) := (congrArg Int32.toInt (show zI (zR zy 0) (2 : Int32).toNatClampNeg = zi_7 from ezi_7.symm).symm).trans (congrArg (zA (zI (zR zy 0))) (show (2 : Int32).toInt = 2 from by decide))
    have tz_9 : 0 ≤ zi_7.toInt ∧ zi_7.toInt ≤ 6 := by rw [← (show zI (zR zy 0) (2 : Int32).toNatClampNeg = zi_7 from ezi_7.symm)]; exact ZI.g2 hz (by decide) (by decide)
    refine lv_if_ne (tgt := 21) hx hb dX11_make_15 (by decide) (fun c_10 => ?_) (fun c_10 => ?_)
    · have f_11 : zi_7.toInt ≠ 0 := ic_ne (rfl) (by decide) c_10
      refine lv_aload_n hx hb dX11_make_21 rfl (lv_at hl 0 rfl) ?_
      refine lv_iload_n hx hb dX11_make_22 rfl (lv_at hl 1 rfl) ?_
      refine lv_iconst (v := 0) hx hb dX11_make_23 (by decide) ?_
      have qc_0 : (0 : Int32).toInt = 0 := by decide
      refine hj_v (ws := (WL cy zL zT zR zI zJ)) (w1 := fun (u : (Nat → Nat → Int32)) => (WL cy zL zT zR u zJ)) (va_runV (As := [.int zia, .int 0]) (rest := []) ⟨hx, hb, hml, hown, hts⟩ (t_X11_dropStretches l dC dI cy H.size zL zT zR zI zJ zy zia (0 : Int32) hs h_zI.1 t_zy (by omega) hz) (cwV 2 hts gX11_make_X11_dropStretches rfl rfl rfl (by decide +kernel) ⟨(Nat.le_of_ble_eq_true rfl), (Nat.le_of_ble_eq_true rfl)⟩) (PRE.v hP hK hD hN (ht_recv hK hP hs t_zy (by decide) rfl rfl)) rfl rfl hl.1 rfl (lv_room (Nat.le_of_ble_eq_true rfl)) dX11_make_24 ⟨(Nat.le_of_ble_eq_true rfl), (Nat.le_of_ble_eq_true rfl)⟩) hP hD hS hA (fun zI_15 H locs hw_13 hP hD hS => ?_)
      obtain ⟨k_zI_15, ps_16, ps_17⟩ : (WM [10000] AL zT zR zI zI_15) ∧ (FQ (zI (zR zy 0)) (zI_15 (zR zy 0))) ∧ (ZI (zI_15 (zR zy 0))) := hw_13
      have h_zI_15 : WM [10000] AL zT zR zI zI_15 := h_zI.tr k_zI_15 (by decide) (fun _ _ => trivial)
      have fq_zI_15 : FQ (zI (zR zy 0)) (zI_15 (zR zy 0)) := FQ.tr FQ.rf ps_16
      refine lv_aload_n hx hb dX11_make_27 rfl (lv_at hl 0 rfl) ?_
      refine lv_iload_n hx hb dX11_make_28 rfl (lv_at hl 1 rfl) ?_
      refine lv_iconst (v := 0) hx hb dX11_make_29 (by decide) ?_
      refine hj_v (ws := (WL cy zL zT zR zI_15 zJ)) (w1 := fun (u : (Nat → Nat → Int32)) => (WL cy zL zT zR u zJ)) (va_runV (As := [.int zia, .int 0]) (rest := []) ⟨hx, hb, hml, hown, hts⟩ (t_X11_dropDates l dC dI cy H.size zL zT zR zI_15 zJ zy zia (0 : Int32) hs h_zI_15.1 t_zy (by omega) ps_17) (cwV 2 hts gX11_make_X11_dropDates rfl rfl rfl (by decide +kernel) ⟨(Nat.le_of_ble_eq_true rfl), (Nat.le_of_ble_eq_true rfl)⟩) (PRE.v hP hK hD hN (ht_recv hK hP hs t_zy (by decide) rfl rfl)) rfl rfl hl.1 rfl (lv_room (Nat.le_of_ble_eq_true rfl)) dX11_make_30 ⟨(Nat.le_of_ble_eq_true rfl), (Nat.le_of_ble_eq_true rfl)⟩) hP hD hS hA (fun zI_21 H locs hw_19 hP hD hS => ?_)
      obtain ⟨k_zI_21, ps_22, ps_23, ps_24⟩ : (WM [10000] AL zT zR zI_15 zI_21) ∧ (ZI (zI_21 (zR zy 0))) ∧ (DR (zI_21 (zR zy 0)) zia.toInt (0 : Int32).toInt) ∧ (FQ (zI_15 (zR zy 0)) (zI_21 (zR zy 0))) := hw_19
      have h_zI_21 : WM [10000] AL zT zR zI zI_21 := h_zI_15.tr k_zI_21 (by decide) (fun _ _ => trivial)
      have fq_zI_21 : FQ (zI (zR zy 0)) (zI_21 (zR zy 0)) := FQ.tr fq_zI_15 ps_24
      refine lv_aload_n hx hb dX11_make_33 rfl (lv_at hl 0 rfl) ?_
      refine ht_getr (C := RX11) (T := TX11) (N := 28) hx hb hts (by decide +kernel) hown hK hP hs t_zy (by decide) rfl rfl 0 (by decide) (hts (.fieldLink RX11 7 "DripStoneModel" "z" "[I") (by decide +kernel)) (fun _ h9 => h9) rfl dX11_make_34 ?_
      refine lv_iconst (v := 5) hx hb dX11_make_37 (by decide) ?_
      refine lv_iload_n hx hb dX11_make_38 rfl (lv_at hl 1 rfl) ?_
      refine lv_iadd hx hb dX11_make_39 ?_
      refine lv_topi (fun zi_25 ezi_25 => ?_)
      have tzi_25 : zi_25.toInt = (5 : Int) + zia.toInt := by rw [ezi_25]; exact tiadd (show (5 : Int32).toInt = 5 by decide) (rfl) (by omega) (by omega)
      refine lv_iconst (v := 0) hx hb dX11_make_40 (by decide) ?_
      refine ht_iast (v := (0 : Int32)) (n := 392) (q := 0) hx hb hK hP hD hS hs t_6 (by decide) rfl rfl ⟨by omega, by omega⟩ dX11_make_41 (fun H locs hP hD hS => ?_)
      have qz_0 : (0 : Int32).toInt = 0 := by decide
      have h_zI_26 : WM [10000] AL zT zR zI (u2 zI_21 (zR zy 0) zi_25.toNatClampNeg (0 : Int32)) := h_zI_21.putA hs t_6 rfl (rgF _) (by decide) (fun h => absurd h (by decide)) (by decide) trivial
      generalize uzI_26 : u2 zI_21 (zR zy 0) zi_25.toNatClampNeg (0 : Int32) = zI_26 at hP hD h_zI_26
      have z_zI_26 : ZI (zI_26 (zR zy 0)) := by rw [← uzI_26, u2_r]; exact ZI.sz ps_22 (c := zia.toInt) (by omega) (by omega) (by omega) (fun d d0 d1 hd => ps_23 d d0 d1 hd)
      have fq_zI_26 : FQ (zI (zR zy 0)) (zI_26 (zR zy 0)) := by rw [← uzI_26, u2_r]; exact FQ.up fq_zI_21 (by omega) (by omega)
      refine lv_bipush (v := (-4)) hx hb dX11_make_42 (by decide) ?_
      refine lv_istore_n (lv' := [(2, .int (-4)), (0, .ref zy), (1, .int zia)]) hx hb dX11_make_44 rfl hl (by decide) rfl (fun ls hl => ?_)
      refine lv_iconst (v := 0) hx hb dX11_make_45 (by decide) ?_
      refine lv_istore_n (lv' := [(3, .int 0), (2, .int (-4)), (0, .ref zy), (1, .int zia)]) hx hb dX11_make_46 rfl hl (by decide) rfl (fun ls hl => ?_)
      have lp_1174 : ∀ (n : Nat) (zi_981 : Int32) (zi_982 : Int32) (zI_983 : Nat → Nat → Int32) (H : Heap) (locs : List Loc) (ls : Array Slot), (24 - zi_982.toInt).toNat = n → ((-4) ≤ zi_981.toInt ∧ zi_981.toInt ≤ 23) → (0 ≤ zi_982.toInt ∧ zi_982.toInt ≤ 24) → (WM [10000] AL zT zR zI zI_983) → (FQ (zI (zR zy 0)) (zI_983 (zR zy 0))) → (ZI (zI_983 (zR zy 0))) → va_P (dC, dI) vwCl (WL cy zL zT zR zI_983 zJ) H → va_D A (WL cy zL zT zR zI_983 zJ) → va_S A s.heap H locs → lv_has ls 6 [(0, .ref zy), (1, .int zia), (2, .int zi_981), (3, .int zi_982)] → W p l e ({ frames := 3, cells := 0, slots := 0, locals := 74 } : Room) s m ([.ref zy, .int zia] : List Value).toArray below meth c H locs 0 0 Q (F0 m 47 ls []) := by
        intro n
        induction n using Nat.strongRecOn with
        | _ n ih_1174 =>
          intro zi_981 zi_982 zI_983 H locs ls hn b_zi_981 b_zi_982 h_zI_983 e_lp_1174_0 e_lp_1174_1 hP hD hS hl
          refine lv_iload_n hx hb dX11_make_47 rfl (lv_at hl 3 rfl) ?_
          refine lv_bipush (v := 24) hx hb dX11_make_48 (by decide) ?_
          refine lv_icmp_ge (tgt := 156) hx hb dX11_make_50 (by decide) (fun c_1175 => ?_) (fun c_1175 => ?_)
          · have f_1176 : zi_982.toInt ≥ (24 : Int) := ic_ge (rfl) (show (24 : Int32).toInt = 24 by decide) c_1175
            refine lv_aload_n hx hb dX11_make_156 rfl (lv_at hl 0 rfl) ?_
            refine ht_getr (C := RX11) (T := TX11) (N := 28) hx hb hts (by decide +kernel) hown hK hP hs t_zy (by decide) rfl rfl 0 (by decide) (hts (.fieldLink RX11 7 "DripStoneModel" "z" "[I") (by decide +kernel)) (fun _ h9 => h9) rfl dX11_make_157 ?_
            refine lv_bipush (v := 7) hx hb dX11_make_160 (by decide) ?_
            refine lv_iload_n hx hb dX11_make_162 rfl (lv_at hl 1 rfl) ?_
            refine lv_iadd hx hb dX11_make_163 ?_
            refine lv_topi (fun zi_1177 ezi_1177 => ?_)
            have tzi_1177 : zi_1177.toInt = (7 : Int) + zia.toInt := by rw [ezi_1177]; exact tiadd (show (7 : Int32).toInt = 7 by decide) (rfl) (by omega) (by omega)
            refine lv_iconst (v := 1) hx hb dX11_make_164 (by decide) ?_
            refine ht_iast (v := (1 : Int32)) (n := 392) (q := 0) hx hb hK hP hD hS hs t_6 (by decide) rfl rfl ⟨by omega, by omega⟩ dX11_make_165 (fun H locs hP hD hS => ?_)
            have h_zI_1178 : WM [10000] AL zT zR zI (u2 zI_983 (zR zy 0) zi_1177.toNatClampNeg (1 : Int32)) := h_zI_983.putA hs t_6 rfl (rgF _) (by decide) (fun h => absurd h (by decide)) (by decide) trivial
            generalize uzI_1178 : u2 zI_983 (zR zy 0) zi_1177.toNatClampNeg (1 : Int32) = zI_1178 at hP hD h_zI_1178
            have z_zI_1178 : ZI (zI_1178 (zR zy 0)) := by rw [← uzI_1178, u2_r]; exact ZI.fr e_lp_1174_1 (by omega)
            have fq_zI_1178 : FQ (zI (zR zy 0)) (zI_1178 (zR zy 0)) := by rw [← uzI_1178, u2_r]; exact FQ.up e_lp_1174_0 (by omega) (by omega)
            refine lv_aload_n hx hb dX11_make_166 rfl (lv_at hl 0 rfl) ?_
            refine ht_getr (C := RX11) (T := TX11) (N := 28) hx hb hts (by decide +kernel) hown hK hP hs t_zy (by decide) rfl rfl 0 (by decide) (hts (.fieldLink RX11 7 "DripStoneModel" "z" "[I") (by decide +kernel)) (fun _ h9 => h9) rfl dX11_make_167 ?_
            refine lv_iconst (v := 5) hx hb dX11_make_170 (by decide) ?_
            refine lv_iload_n hx hb dX11_make_171 rfl (lv_at hl 1 rfl) ?_
            refine lv_iadd hx hb dX11_make_172 ?_
            refine lv_topi (fun zi_1179 ezi_1179 => ?_)
            have tzi_1179 : zi_1179.toInt = (5 : Int) + zia.toInt := by rw [ezi_1179]; exact tiadd (show (5 : Int32).toInt = 5 by decide) (rfl) (by omega) (by omega)
            refine ht_iald (n := 392) (q := 0) hx hb hK hP hs t_6 (by decide) rfl rfl ⟨by omega, by omega⟩ dX11_make_173 ?_
            refine lv_topi (fun zi_1180 ezi_1180 => ?_)
            have la_1181 : zi_1180.toInt = zA (zI_1178 (zR zy 0)) (5 + zia.toInt) := (congrArg Int32.toInt (show zI_1178 (zR zy 0) zi_1179.toNatClampNeg = zi_1180 from ezi_1180.symm).symm).trans (congrArg (zA (zI_1178 (zR zy 0))) (show zi_1179.toInt = 5 + zia.toInt from by omega))
            have tz_1182 : 0 ≤ zi_1180.toInt ∧ zi_1180.toInt ≤ 12 := by rw [← (show zI_1178 (zR zy 0) zi_1179.toNatClampNeg = zi_1180 from ezi_1180.symm)]; exact ZI.g5 z_zI_1178 (by omega) (by omega)
            subst hQ
            exact W.iret (v := zi_1180) hx hb hr (fun t ht hW => ⟨⟨zi_1180, zI_1178, rfl, ⟨h_zI_1178, (show (-2) ≤ zi_1180.toInt ∧ zi_1180.toInt ≤ 12 from by omega), (show ZI (zI_1178 (zR zy 0)) from z_zI_1178), (show FQ (zI (zR zy 0)) (zI_1178 (zR zy 0)) from fq_zI_1178)⟩, ⟨by rw [ht]; exact hP, va_K.moved hW.alike hK, hD⟩⟩, hS.F ht⟩) hS.2.2 dX11_make_174
          · have f_1176 : ¬ (zi_982.toInt ≥ (24 : Int)) := ic_nge (rfl) (show (24 : Int32).toInt = 24 by decide) c_1175
            refine lv_aload_n hx hb dX11_make_53 rfl (lv_at hl 0 rfl) ?_
            refine lv_iload_n hx hb dX11_make_54 rfl (lv_at hl 3 rfl) ?_
            refine hj_i (ws := (WL cy zL zT zR zI_983 zJ)) (w1 := fun (u : Unit) => (WL cy zL zT zR zI_983 zJ)) (va_runV (As := [.int zi_982]) (rest := []) ⟨hx, hb, hml, hown, hts⟩ (t_X11_growthOf l dC dI cy H.size zL zT zR zI_983 zJ zy zi_982 hs h_zI_983.1 t_zy (by omega) e_lp_1174_1) (cwV 1 hts gX11_make_X11_growthOf rfl rfl rfl (by decide +kernel) ⟨(Nat.le_of_ble_eq_true rfl), (Nat.le_of_ble_eq_true rfl)⟩) (PRE.v hP hK hD hN (ht_recv hK hP hs t_zy (by decide) rfl rfl)) rfl rfl hl.1 rfl (lv_room (Nat.le_of_ble_eq_true rfl)) dX11_make_55 ⟨(Nat.le_of_ble_eq_true rfl), (Nat.le_of_ble_eq_true rfl)⟩) hP hD hS hA (fun zi_1183 u_1185 H locs hw_1184 hP hD hS => ?_)
            have ps_1186 : zi_1183.toInt ≤ 0 ∨ ¬ WS (zI_983 (zR zy 0)) (zA (zI_983 (zR zy 0)) (0)).toNat zi_982.toInt 0 = 0 := hw_1184
            have rzi_1183 := rng zi_1183
            refine lv_istore (lv' := [(4, .int zi_1183), (0, .ref zy), (1, .int zia), (2, .int zi_981), (3, .int zi_982)]) hx hb dX11_make_58 hl (by decide) rfl (fun ls hl => ?_)
            refine lv_iload hx hb dX11_make_60 (lv_at hl 0 rfl) ?_
            refine lv_if_le (tgt := 91) hx hb dX11_make_62 (by decide) (fun c_1187 => ?_) (fun c_1187 => ?_)
            · have f_1188 : zi_1183.toInt ≤ 0 := ic_le (rfl) (by decide) c_1187
              refine lv_iconst (v := 0) hx hb dX11_make_91 (by decide) ?_
              refine lv_istore (lv' := [(5, .int 0), (4, .int zi_1183), (0, .ref zy), (1, .int zia), (2, .int zi_981), (3, .int zi_982)]) hx hb dX11_make_92 hl (by decide) rfl (fun ls hl => ?_)
              refine lv_iload hx hb dX11_make_94 (lv_at hl 0 rfl) ?_
              refine lv_iload hx hb dX11_make_96 (lv_at hl 1 rfl) ?_
              refine lv_icmp_ge (tgt := 139) hx hb dX11_make_98 (by decide) (fun c_1197 => ?_) (fun c_1197 => ?_)
              · have f_1198 : (0 : Int) ≥ zi_1183.toInt := ic_ge (show (0 : Int32).toInt = 0 by decide) (rfl) c_1197
                refine lv_iload hx hb dX11_make_139 (lv_at hl 1 rfl) ?_
                refine lv_if_le (tgt := 148) hx hb dX11_make_141 (by decide) (fun c_1199 => ?_) (fun c_1199 => ?_)
                · have f_1200 : zi_1183.toInt ≤ 0 := ic_le (rfl) (by decide) c_1199
                  refine lv_iload_n hx hb dX11_make_148 rfl (lv_at hl 4 rfl) ?_
                  refine lv_istore_n (lv' := [(2, .int zi_981), (5, .int 0), (4, .int zi_1183), (0, .ref zy), (1, .int zia), (3, .int zi_982)]) hx hb dX11_make_149 rfl hl (by decide) rfl (fun ls hl => ?_)
                  obtain ⟨zi_1201, ezi_1201⟩ : ∃ y : Int32, y = zi_982 + 1 := ⟨_, rfl⟩
                  have tzi_1201 : zi_1201.toInt = zi_982.toInt + 1 := by rw [ezi_1201]; exact tadd rfl (show (1 : Int32).toInt = 1 by decide) (by omega) (by omega)
                  refine lv_iinc (v := zi_1201) (lv' := [(3, .int zi_1201), (2, .int zi_981), (5, .int 0), (4, .int zi_1183), (0, .ref zy), (1, .int zia)]) hx hb dX11_make_150 hl (k := 5) rfl (by rw [ezi_1201]; rfl) (by decide) rfl (fun ls hl => ?_)
                  refine lv_goto (tgt := 47) hx hb dX11_make_153 (by decide) ?_
                  exact ih_1174 (24 - zi_1201.toInt).toNat (by omega) zi_981 zi_1201 zI_983 _ _ _ rfl (by omega) (by omega) h_zI_983 e_lp_1174_0 e_lp_1174_1 hP hD hS (lv_sub hl [4, 5, 1, 0] rfl)
                · have f_1200 : ¬ (zi_1183.toInt ≤ 0) := ic_nle (rfl) (by decide) c_1199
                  exfalso; omega
              · have f_1198 : ¬ ((0 : Int) ≥ zi_1183.toInt) := ic_nge (show (0 : Int32).toInt = 0 by decide) (rfl) c_1197
                exfalso; omega
            · have f_1188 : ¬ (zi_1183.toInt ≤ 0) := ic_nle (rfl) (by decide) c_1187
              refine lv_iload_n hx hb dX11_make_65 rfl (lv_at hl 3 rfl) ?_
              refine lv_if_lt (tgt := 91) hx hb dX11_make_66 (by decide) (fun c_1202 => ?_) (fun c_1202 => ?_)
              · have f_1203 : zi_981.toInt < 0 := ic_lt (rfl) (by decide) c_1202
                refine lv_iconst (v := 0) hx hb dX11_make_91 (by decide) ?_
                refine lv_istore (lv' := [(5, .int 0), (4, .int zi_1183), (0, .ref zy), (1, .int zia), (2, .int zi_981), (3, .int zi_982)]) hx hb dX11_make_92 hl (by decide) rfl (fun ls hl => ?_)
                have lp_1229 : ∀ (n : Nat) (zi_1204 : Int32) (zI_1205 : Nat → Nat → Int32) (H : Heap) (locs : List Loc) (ls : Array Slot), (zi_1183.toInt - zi_1204.toInt).toNat = n → (0 ≤ zi_1204.toInt) → (WM [10000] AL zT zR zI zI_1205) → (WP (zI_1205 (zR zy 0)) zi_982.toInt zi_1183.toInt) → (FQ (zI (zR zy 0)) (zI_1205 (zR zy 0))) → (ZI (zI_1205 (zR zy 0))) → va_P (dC, dI) vwCl (WL cy zL zT zR zI_1205 zJ) H → va_D A (WL cy zL zT zR zI_1205 zJ) → va_S A s.heap H locs → lv_has ls 6 [(0, .ref zy), (1, .int zia), (2, .int zi_981), (3, .int zi_982), (4, .int zi_1183), (5, .int zi_1204)] → W p l e ({ frames := 3, cells := 0, slots := 0, locals := 74 } : Room) s m ([.ref zy, .int zia] : List Value).toArray below meth c H locs 0 0 Q (F0 m 94 ls []) := by
                  intro n
                  induction n using Nat.strongRecOn with
                  | _ n ih_1229 =>
                    intro zi_1204 zI_1205 H locs ls hn b_zi_1204 h_zI_1205 e_lp_1229_0 e_lp_1229_1 e_lp_1229_2 hP hD hS hl
                    refine lv_iload hx hb dX11_make_94 (lv_at hl 5 rfl) ?_
                    refine lv_iload hx hb dX11_make_96 (lv_at hl 4 rfl) ?_
                    refine lv_icmp_ge (tgt := 139) hx hb dX11_make_98 (by decide) (fun c_1230 => ?_) (fun c_1230 => ?_)
                    · have f_1231 : zi_1204.toInt ≥ zi_1183.toInt := ic_ge (rfl) (rfl) c_1230
                      refine lv_iload hx hb dX11_make_139 (lv_at hl 4 rfl) ?_
                      refine lv_if_le (tgt := 148) hx hb dX11_make_141 (by decide) (fun c_1232 => ?_) (fun c_1232 => ?_)
                      · have f_1233 : zi_1183.toInt ≤ 0 := ic_le (rfl) (by decide) c_1232
                        exfalso; omega
                      · have f_1233 : ¬ (zi_1183.toInt ≤ 0) := ic_nle (rfl) (by decide) c_1232
                        refine lv_iload_n hx hb dX11_make_144 rfl (lv_at hl 3 rfl) ?_
                        refine lv_goto (tgt := 149) hx hb dX11_make_145 (by decide) ?_
                        refine lv_istore_n (lv' := [(2, .int zi_982), (0, .ref zy), (1, .int zia), (3, .int zi_982), (4, .int zi_1183), (5, .int zi_1204)]) hx hb dX11_make_149 rfl hl (by decide) rfl (fun ls hl => ?_)
                        obtain ⟨zi_1234, ezi_1234⟩ : ∃ y : Int32, y = zi_982 + 1 := ⟨_, rfl⟩
                        have tzi_1234 : zi_1234.toInt = zi_982.toInt + 1 := by rw [ezi_1234]; exact tadd rfl (show (1 : Int32).toInt = 1 by decide) (by omega) (by omega)
                        refine lv_iinc (v := zi_1234) (lv' := [(3, .int zi_1234), (2, .int zi_982), (0, .ref zy), (1, .int zia), (4, .int zi_1183), (5, .int zi_1204)]) hx hb dX11_make_150 hl (k := 3) rfl (by rw [ezi_1234]; rfl) (by decide) rfl (fun ls hl => ?_)
                        refine lv_goto (tgt := 47) hx hb dX11_make_153 (by decide) ?_
                        exact ih_1174 (24 - zi_1234.toInt).toNat (by omega) zi_982 zi_1234 zI_1205 _ _ _ rfl (by omega) (by omega) h_zI_1205 e_lp_1229_1 e_lp_1229_2 hP hD hS (lv_sub hl [2, 3, 1, 0] rfl)
                    · have f_1231 : ¬ (zi_1204.toInt ≥ zi_1183.toInt) := ic_nge (rfl) (rfl) c_1230
                      refine lv_aload_n hx hb dX11_make_101 rfl (lv_at hl 0 rfl) ?_
                      refine lv_iload_n hx hb dX11_make_102 rfl (lv_at hl 1 rfl) ?_
                      refine lv_iconst (v := 0) hx hb dX11_make_103 (by decide) ?_
                      refine lv_aload_n hx hb dX11_make_104 rfl (lv_at hl 0 rfl) ?_
                      refine lv_iload_n hx hb dX11_make_105 rfl (lv_at hl 3 rfl) ?_
                      refine lv_aload_n hx hb dX11_make_106 rfl (lv_at hl 0 rfl) ?_
                      refine ht_getr (C := RX11) (T := TX11) (N := 28) hx hb hts (by decide +kernel) hown hK hP hs t_zy (by decide) rfl rfl 0 (by decide) (hts (.fieldLink RX11 7 "DripStoneModel" "z" "[I") (by decide +kernel)) (fun _ h9 => h9) rfl dX11_make_107 ?_
                      refine lv_iconst (v := 0) hx hb dX11_make_110 (by decide) ?_
                      refine ht_iald (n := 392) (q := 0) hx hb hK hP hs t_6 (by decide) rfl rfl ⟨by decide, by decide⟩ dX11_make_111 ?_
                      refine lv_topi (fun zi_1235 ezi_1235 => ?_)
                      have la_1236 : zi_1235.toInt = zA (zI_1205 (zR zy 0)) (0) := (congrArg Int32.toInt (show zI_1205 (zR zy 0) (0 : Int32).toNatClampNeg = zi_1235 from ezi_1235.symm).symm).trans (congrArg (zA (zI_1205 (zR zy 0))) (show (0 : Int32).toInt = 0 from by decide))
                      have tz_1237 : 1 ≤ zi_1235.toInt ∧ zi_1235.toInt ≤ 5 := by rw [← (show zI_1205 (zR zy 0) (0 : Int32).toNatClampNeg = zi_1235 from ezi_1235.symm)]; exact ZI.g0 e_lp_1229_2 (by decide) (by decide)
                      refine hj_i (ws := (WL cy zL zT zR zI_1205 zJ)) (w1 := fun (u : Unit) => (WL cy zL zT zR zI_1205 zJ)) (va_runV (As := [.int zi_982, .int zi_1235]) (rest := [.int 0, .int zia, .ref zy]) ⟨hx, hb, hml, hown, hts⟩ (t_X11_waterBy l dC dI cy H.size zL zT zR zI_1205 zJ zy zi_982 zi_1235 hs h_zI_1205.1 t_zy (by omega) (by omega) (WP.at e_lp_1229_0 (by omega) (by omega))) (cwV 2 hts gX11_make_X11_waterBy rfl rfl rfl (by decide +kernel) ⟨(Nat.le_of_ble_eq_true rfl), (Nat.le_of_ble_eq_true rfl)⟩) (PRE.v hP hK hD hN (ht_recv hK hP hs t_zy (by decide) rfl rfl)) rfl rfl hl.1 rfl (lv_room (Nat.le_of_ble_eq_true rfl)) dX11_make_112 ⟨(Nat.le_of_ble_eq_true rfl), (Nat.le_of_ble_eq_true rfl)⟩) hP hD hS hA (fun zi_1238 u_1240 H locs hw_1239 hP hD hS => ?_)
                      have ps_1241 : zi_1238 = WSP (zI_1205 (zR zy 0)) (zi_1235.toInt).toNat zi_982.toInt 0 / WS (zI_1205 (zR zy 0)) (zi_1235.toInt).toNat zi_982.toInt 0 := hw_1239
                      have rzi_1238 := rng zi_1238
                      refine lv_aload_n hx hb dX11_make_115 rfl (lv_at hl 0 rfl) ?_
                      refine ht_getr (C := RX11) (T := TX11) (N := 28) hx hb hts (by decide +kernel) hown hK hP hs t_zy (by decide) rfl rfl 0 (by decide) (hts (.fieldLink RX11 7 "DripStoneModel" "z" "[I") (by decide +kernel)) (fun _ h9 => h9) rfl dX11_make_116 ?_
                      refine lv_bipush (v := 20) hx hb dX11_make_119 (by decide) ?_
                      refine lv_iconst (v := 3) hx hb dX11_make_121 (by decide) ?_
                      refine lv_iload_n hx hb dX11_make_122 rfl (lv_at hl 3 rfl) ?_
                      refine lv_imul hx hb dX11_make_123 ?_
                      refine lv_topi (fun zi_1242 ezi_1242 => ?_)
                      have tzi_1242 : zi_1242.toInt = (3 : Int) * zi_982.toInt := by rw [ezi_1242]; exact timul (show (3 : Int32).toInt = 3 by decide) (rfl) (by omega) (by omega)
                      refine lv_iadd hx hb dX11_make_124 ?_
                      refine lv_topi (fun zi_1243 ezi_1243 => ?_)
                      have tzi_1243 : zi_1243.toInt = (20 : Int) + zi_1242.toInt := by rw [ezi_1243]; exact tiadd (show (20 : Int32).toInt = 20 by decide) (rfl) (by omega) (by omega)
                      refine lv_iconst (v := 2) hx hb dX11_make_125 (by decide) ?_
                      refine lv_iadd hx hb dX11_make_126 ?_
                      refine lv_topi (fun zi_1244 ezi_1244 => ?_)
                      have tzi_1244 : zi_1244.toInt = zi_1243.toInt + (2 : Int) := by rw [ezi_1244]; exact tiadd (rfl) (show (2 : Int32).toInt = 2 by decide) (by omega) (by omega)
                      refine ht_iald (n := 392) (q := 0) hx hb hK hP hs t_6 (by decide) rfl rfl ⟨by omega, by omega⟩ dX11_make_127 ?_
                      refine lv_topi (fun zi_1245 ezi_1245 => ?_)
                      have la_1246 : zi_1245.toInt = zA (zI_1205 (zR zy 0)) (22 + 3 * zi_982.toInt) := (congrArg Int32.toInt (show zI_1205 (zR zy 0) zi_1244.toNatClampNeg = zi_1245 from ezi_1245.symm).symm).trans (congrArg (zA (zI_1205 (zR zy 0))) (show zi_1244.toInt = 22 + 3 * zi_982.toInt from by omega))
                      refine lv_isub hx hb dX11_make_128 ?_
                      refine lv_topi (fun zi_1247 ezi_1247 => ?_)
                      refine lv_iload_n hx hb dX11_make_129 rfl (lv_at hl 3 rfl) ?_
                      refine hj_v (ws := (WL cy zL zT zR zI_1205 zJ)) (w1 := fun (u : (Nat → Nat → Int32)) => (WL cy zL zT zR u zJ)) (va_runV (As := [.int zia, .int 0, .int zi_1247, .int zi_982]) (rest := []) ⟨hx, hb, hml, hown, hts⟩ (t_X11_addThing l dC dI cy H.size zL zT zR zI_1205 zJ zy zia (0 : Int32) zi_1247 zi_982 hs h_zI_1205.1 t_zy (by omega) e_lp_1229_2) (cwV 4 hts gX11_make_X11_addThing rfl rfl rfl (by decide +kernel) ⟨(Nat.le_of_ble_eq_true rfl), (Nat.le_of_ble_eq_true rfl)⟩) (PRE.v hP hK hD hN (ht_recv hK hP hs t_zy (by decide) rfl rfl)) rfl rfl hl.1 rfl (lv_room (Nat.le_of_ble_eq_true rfl)) dX11_make_130 ⟨(Nat.le_of_ble_eq_true rfl), (Nat.le_of_ble_eq_true rfl)⟩) hP hD hS hA (fun zI_1251 H locs hw_1249 hP hD hS => ?_)
                      obtain ⟨k_zI_1251, ps_1252, ps_1253, ps_1254⟩ : (WM [10000] AL zT zR zI_1205 zI_1251) ∧ (FA (zI_1205 (zR zy 0)) (zI_1251 (zR zy 0))) ∧ (FQ (zI_1205 (zR zy 0)) (zI_1251 (zR zy 0))) ∧ (ZI (zI_1251 (zR zy 0))) := hw_1249
                      have h_zI_1251 : WM [10000] AL zT zR zI zI_1251 := h_zI_1205.tr k_zI_1251 (by decide) (fun _ _ => trivial)
                      have fq_zI_1251 : FQ (zI (zR zy 0)) (zI_1251 (zR zy 0)) := FQ.tr e_lp_1229_1 ps_1253
                      obtain ⟨zi_1255, ezi_1255⟩ : ∃ y : Int32, y = zi_1204 + 1 := ⟨_, rfl⟩
                      have tzi_1255 : zi_1255.toInt = zi_1204.toInt + 1 := by rw [ezi_1255]; exact tadd rfl (show (1 : Int32).toInt = 1 by decide) (by omega) (by omega)
                      refine lv_iinc (v := zi_1255) (lv' := [(5, .int zi_1255), (0, .ref zy), (1, .int zia), (2, .int zi_981), (3, .int zi_982), (4, .int zi_1183)]) hx hb dX11_make_133 hl (k := 5) rfl (by rw [ezi_1255]; rfl) (by decide) rfl (fun ls hl => ?_)
                      refine lv_goto (tgt := 94) hx hb dX11_make_136 (by decide) ?_
                      exact ih_1229 (zi_1183.toInt - zi_1255.toInt).toNat (by omega) zi_1255 zI_1251 _ _ _ rfl (by omega) h_zI_1251 (WP.fa e_lp_1229_0 ps_1252 (by omega)) fq_zI_1251 ps_1254 hP hD hS (lv_sub hl [1, 2, 3, 4, 5, 0] rfl)
                exact lp_1229 _ (0 : Int32) zI_983 _ _ _ rfl (by decide) h_zI_983 ps_1186 e_lp_1174_0 e_lp_1174_1 hP hD hS (lv_sub hl [2, 3, 4, 5, 1, 0] rfl)
              · have f_1203 : ¬ (zi_981.toInt < 0) := ic_nlt (rfl) (by decide) c_1202
                refine lv_iload_n hx hb dX11_make_69 rfl (lv_at hl 4 rfl) ?_
                refine lv_iload_n hx hb dX11_make_70 rfl (lv_at hl 3 rfl) ?_
                refine lv_isub hx hb dX11_make_71 ?_
                refine lv_topi (fun zi_1256 ezi_1256 => ?_)
                have tzi_1256 : zi_1256.toInt = zi_982.toInt - zi_981.toInt := by rw [ezi_1256]; exact tisub (rfl) (rfl) (by omega) (by omega)
                refine lv_iconst (v := 1) hx hb dX11_make_72 (by decide) ?_
                refine lv_isub hx hb dX11_make_73 ?_
                refine lv_topi (fun zi_1257 ezi_1257 => ?_)
                have tzi_1257 : zi_1257.toInt = zi_1256.toInt - (1 : Int) := by rw [ezi_1257]; exact tisub (rfl) (show (1 : Int32).toInt = 1 by decide) (by omega) (by omega)
                refine lv_aload_n hx hb dX11_make_74 rfl (lv_at hl 1 rfl) ?_
                refine ht_getr (C := RX11) (T := TX11) (N := 28) hx hb hts (by decide +kernel) hown hK hP hs t_zy (by decide) rfl rfl 0 (by decide) (hts (.fieldLink RX11 7 "DripStoneModel" "z" "[I") (by decide +kernel)) (fun _ h9 => h9) rfl dX11_make_75 ?_
                refine lv_iconst (v := 1) hx hb dX11_make_78 (by decide) ?_
                refine ht_iald (n := 392) (q := 0) hx hb hK hP hs t_6 (by decide) rfl rfl ⟨by decide, by decide⟩ dX11_make_79 ?_
                refine lv_topi (fun zi_1258 ezi_1258 => ?_)
                have la_1259 : zi_1258.toInt = zA (zI_983 (zR zy 0)) (1) := (congrArg Int32.toInt (show zI_983 (zR zy 0) (1 : Int32).toNatClampNeg = zi_1258 from ezi_1258.symm).symm).trans (congrArg (zA (zI_983 (zR zy 0))) (show (1 : Int32).toInt = 1 from by decide))
                have tz_1260 : 1 ≤ zi_1258.toInt ∧ zi_1258.toInt ≤ 9 := by rw [← (show zI_983 (zR zy 0) (1 : Int32).toNatClampNeg = zi_1258 from ezi_1258.symm)]; exact ZI.g1 e_lp_1174_1 (by decide) (by decide)
                refine lv_icmp_lt (tgt := 91) hx hb dX11_make_80 (by decide) (fun c_1261 => ?_) (fun c_1261 => ?_)
                · have f_1262 : zi_1257.toInt < zi_1258.toInt := ic_lt (rfl) (rfl) c_1261
                  refine lv_iconst (v := 0) hx hb dX11_make_91 (by decide) ?_
                  refine lv_istore (lv' := [(5, .int 0), (4, .int zi_1183), (0, .ref zy), (1, .int zia), (2, .int zi_981), (3, .int zi_982)]) hx hb dX11_make_92 hl (by decide) rfl (fun ls hl => ?_)
                  have lp_1288 : ∀ (n : Nat) (zi_1263 : Int32) (zI_1264 : Nat → Nat → Int32) (H : Heap) (locs : List Loc) (ls : Array Slot), (zi_1183.toInt - zi_1263.toInt).toNat = n → (0 ≤ zi_1263.toInt) → (WM [10000] AL zT zR zI zI_1264) → (WP (zI_1264 (zR zy 0)) zi_982.toInt zi_1183.toInt) → (FQ (zI (zR zy 0)) (zI_1264 (zR zy 0))) → (ZI (zI_1264 (zR zy 0))) → va_P (dC, dI) vwCl (WL cy zL zT zR zI_1264 zJ) H → va_D A (WL cy zL zT zR zI_1264 zJ) → va_S A s.heap H locs → lv_has ls 6 [(0, .ref zy), (1, .int zia), (2, .int zi_981), (3, .int zi_982), (4, .int zi_1183), (5, .int zi_1263)] → W p l e ({ frames := 3, cells := 0, slots := 0, locals := 74 } : Room) s m ([.ref zy, .int zia] : List Value).toArray below meth c H locs 0 0 Q (F0 m 94 ls []) := by
                    intro n
                    induction n using Nat.strongRecOn with
                    | _ n ih_1288 =>
                      intro zi_1263 zI_1264 H locs ls hn b_zi_1263 h_zI_1264 e_lp_1288_0 e_lp_1288_1 e_lp_1288_2 hP hD hS hl
                      refine lv_iload hx hb dX11_make_94 (lv_at hl 5 rfl) ?_
                      refine lv_iload hx hb dX11_make_96 (lv_at hl 4 rfl) ?_
                      refine lv_icmp_ge (tgt := 139) hx hb dX11_make_98 (by decide) (fun c_1289 => ?_) (fun c_1289 => ?_)
                      · have f_1290 : zi_1263.toInt ≥ zi_1183.toInt := ic_ge (rfl) (rfl) c_1289
                        refine lv_iload hx hb dX11_make_139 (lv_at hl 4 rfl) ?_
                        refine lv_if_le (tgt := 148) hx hb dX11_make_141 (by decide) (fun c_1291 => ?_) (fun c_1291 => ?_)
                        · have f_1292 : zi_1183.toInt ≤ 0 := ic_le (rfl) (by decide) c_1291
                          exfalso; omega
                        · have f_1292 : ¬ (zi_1183.toInt ≤ 0) := ic_nle (rfl) (by decide) c_1291
                          refine lv_iload_n hx hb dX11_make_144 rfl (lv_at hl 3 rfl) ?_
                          refine lv_goto (tgt := 149) hx hb dX11_make_145 (by decide) ?_
                          refine lv_istore_n (lv' := [(2, .int zi_982), (0, .ref zy), (1, .int zia), (3, .int zi_982), (4, .int zi_1183), (5, .int zi_1263)]) hx hb dX11_make_149 rfl hl (by decide) rfl (fun ls hl => ?_)
                          obtain ⟨zi_1293, ezi_1293⟩ : ∃ y : Int32, y = zi_982 + 1 := ⟨_, rfl⟩
                          have tzi_1293 : zi_1293.toInt = zi_982.toInt + 1 := by rw [ezi_1293]; exact tadd rfl (show (1 : Int32).toInt = 1 by decide) (by omega) (by omega)
                          refine lv_iinc (v := zi_1293) (lv' := [(3, .int zi_1293), (2, .int zi_982), (0, .ref zy), (1, .int zia), (4, .int zi_1183), (5, .int zi_1263)]) hx hb dX11_make_150 hl (k := 3) rfl (by rw [ezi_1293]; rfl) (by decide) rfl (fun ls hl => ?_)
                          refine lv_goto (tgt := 47) hx hb dX11_make_153 (by decide) ?_
                          exact ih_1174 (24 - zi_1293.toInt).toNat (by omega) zi_982 zi_1293 zI_1264 _ _ _ rfl (by omega) (by omega) h_zI_1264 e_lp_1288_1 e_lp_1288_2 hP hD hS (lv_sub hl [2, 3, 1, 0] rfl)
                      · have f_1290 : ¬ (zi_1263.toInt ≥ zi_1183.toInt) := ic_nge (rfl) (rfl) c_1289
                        refine lv_aload_n hx hb dX11_make_101 rfl (lv_at hl 0 rfl) ?_
                        refine lv_iload_n hx hb dX11_make_102 rfl (lv_at hl 1 rfl) ?_
                        refine lv_iconst (v := 0) hx hb dX11_make_103 (by decide) ?_
                        refine lv_aload_n hx hb dX11_make_104 rfl (lv_at hl 0 rfl) ?_
                        refine lv_iload_n hx hb dX11_make_105 rfl (lv_at hl 3 rfl) ?_
                        refine lv_aload_n hx hb dX11_make_106 rfl (lv_at hl 0 rfl) ?_
                        refine ht_getr (C := RX11) (T := TX11) (N := 28) hx hb hts (by decide +kernel) hown hK hP hs t_zy (by decide) rfl rfl 0 (by decide) (hts (.fieldLink RX11 7 "DripStoneModel" "z" "[I") (by decide +kernel)) (fun _ h9 => h9) rfl dX11_make_107 ?_
                        refine lv_iconst (v := 0) hx hb dX11_make_110 (by decide) ?_
                        refine ht_iald (n := 392) (q := 0) hx hb hK hP hs t_6 (by decide) rfl rfl ⟨by decide, by decide⟩ dX11_make_111 ?_
                        refine lv_topi (fun zi_1294 ezi_1294 => ?_)
                        have la_1295 : zi_1294.toInt = zA (zI_1264 (zR zy 0)) (0) := (congrArg Int32.toInt (show zI_1264 (zR zy 0) (0 : Int32).toNatClampNeg = zi_1294 from ezi_1294.symm).symm).trans (congrArg (zA (zI_1264 (zR zy 0))) (show (0 : Int32).toInt = 0 from by decide))
                        have tz_1296 : 1 ≤ zi_1294.toInt ∧ zi_1294.toInt ≤ 5 := by rw [← (show zI_1264 (zR zy 0) (0 : Int32).toNatClampNeg = zi_1294 from ezi_1294.symm)]; exact ZI.g0 e_lp_1288_2 (by decide) (by decide)
                        refine hj_i (ws := (WL cy zL zT zR zI_1264 zJ)) (w1 := fun (u : Unit) => (WL cy zL zT zR zI_1264 zJ)) (va_runV (As := [.int zi_982, .int zi_1294]) (rest := [.int 0, .int zia, .ref zy]) ⟨hx, hb, hml, hown, hts⟩ (t_X11_waterBy l dC dI cy H.size zL zT zR zI_1264 zJ zy zi_982 zi_1294 hs h_zI_1264.1 t_zy (by omega) (by omega) (WP.at e_lp_1288_0 (by omega) (by omega))) (cwV 2 hts gX11_make_X11_waterBy rfl rfl rfl (by decide +kernel) ⟨(Nat.le_of_ble_eq_true rfl), (Nat.le_of_ble_eq_true rfl)⟩) (PRE.v hP hK hD hN (ht_recv hK hP hs t_zy (by decide) rfl rfl)) rfl rfl hl.1 rfl (lv_room (Nat.le_of_ble_eq_true rfl)) dX11_make_112 ⟨(Nat.le_of_ble_eq_true rfl), (Nat.le_of_ble_eq_true rfl)⟩) hP hD hS hA (fun zi_1297 u_1299 H locs hw_1298 hP hD hS => ?_)
                        have ps_1300 : zi_1297 = WSP (zI_1264 (zR zy 0)) (zi_1294.toInt).toNat zi_982.toInt 0 / WS (zI_1264 (zR zy 0)) (zi_1294.toInt).toNat zi_982.toInt 0 := hw_1298
                        have rzi_1297 := rng zi_1297
                        refine lv_aload_n hx hb dX11_make_115 rfl (lv_at hl 0 rfl) ?_
                        refine ht_getr (C := RX11) (T := TX11) (N := 28) hx hb hts (by decide +kernel) hown hK hP hs t_zy (by decide) rfl rfl 0 (by decide) (hts (.fieldLink RX11 7 "DripStoneModel" "z" "[I") (by decide +kernel)) (fun _ h9 => h9) rfl dX11_make_116 ?_
                        refine lv_bipush (v := 20) hx hb dX11_make_119 (by decide) ?_
                        refine lv_iconst (v := 3) hx hb dX11_make_121 (by decide) ?_
                        refine lv_iload_n hx hb dX11_make_122 rfl (lv_at hl 3 rfl) ?_
                        refine lv_imul hx hb dX11_make_123 ?_
                        refine lv_topi (fun zi_1301 ezi_1301 => ?_)
                        have tzi_1301 : zi_1301.toInt = (3 : Int) * zi_982.toInt := by rw [ezi_1301]; exact timul (show (3 : Int32).toInt = 3 by decide) (rfl) (by omega) (by omega)
                        refine lv_iadd hx hb dX11_make_124 ?_
                        refine lv_topi (fun zi_1302 ezi_1302 => ?_)
                        have tzi_1302 : zi_1302.toInt = (20 : Int) + zi_1301.toInt := by rw [ezi_1302]; exact tiadd (show (20 : Int32).toInt = 20 by decide) (rfl) (by omega) (by omega)
                        refine lv_iconst (v := 2) hx hb dX11_make_125 (by decide) ?_
                        refine lv_iadd hx hb dX11_make_126 ?_
                        refine lv_topi (fun zi_1303 ezi_1303 => ?_)
                        have tzi_1303 : zi_1303.toInt = zi_1302.toInt + (2 : Int) := by rw [ezi_1303]; exact tiadd (rfl) (show (2 : Int32).toInt = 2 by decide) (by omega) (by omega)
                        refine ht_iald (n := 392) (q := 0) hx hb hK hP hs t_6 (by decide) rfl rfl ⟨by omega, by omega⟩ dX11_make_127 ?_
                        refine lv_topi (fun zi_1304 ezi_1304 => ?_)
                        have la_1305 : zi_1304.toInt = zA (zI_1264 (zR zy 0)) (22 + 3 * zi_982.toInt) := (congrArg Int32.toInt (show zI_1264 (zR zy 0) zi_1303.toNatClampNeg = zi_1304 from ezi_1304.symm).symm).trans (congrArg (zA (zI_1264 (zR zy 0))) (show zi_1303.toInt = 22 + 3 * zi_982.toInt from by omega))
                        refine lv_isub hx hb dX11_make_128 ?_
                        refine lv_topi (fun zi_1306 ezi_1306 => ?_)
                        refine lv_iload_n hx hb dX11_make_129 rfl (lv_at hl 3 rfl) ?_
                        refine hj_v (ws := (WL cy zL zT zR zI_1264 zJ)) (w1 := fun (u : (Nat → Nat → Int32)) => (WL cy zL zT zR u zJ)) (va_runV (As := [.int zia, .int 0, .int zi_1306, .int zi_982]) (rest := []) ⟨hx, hb, hml, hown, hts⟩ (t_X11_addThing l dC dI cy H.size zL zT zR zI_1264 zJ zy zia (0 : Int32) zi_1306 zi_982 hs h_zI_1264.1 t_zy (by omega) e_lp_1288_2) (cwV 4 hts gX11_make_X11_addThing rfl rfl rfl (by decide +kernel) ⟨(Nat.le_of_ble_eq_true rfl), (Nat.le_of_ble_eq_true rfl)⟩) (PRE.v hP hK hD hN (ht_recv hK hP hs t_zy (by decide) rfl rfl)) rfl rfl hl.1 rfl (lv_room (Nat.le_of_ble_eq_true rfl)) dX11_make_130 ⟨(Nat.le_of_ble_eq_true rfl), (Nat.le_of_ble_eq_true rfl)⟩) hP hD hS hA (fun zI_1310 H locs hw_1308 hP hD hS => ?_)
                        obtain ⟨k_zI_1310, ps_1311, ps_1312, ps_1313⟩ : (WM [10000] AL zT zR zI_1264 zI_1310) ∧ (FA (zI_1264 (zR zy 0)) (zI_1310 (zR zy 0))) ∧ (FQ (zI_1264 (zR zy 0)) (zI_1310 (zR zy 0))) ∧ (ZI (zI_1310 (zR zy 0))) := hw_1308
                        have h_zI_1310 : WM [10000] AL zT zR zI zI_1310 := h_zI_1264.tr k_zI_1310 (by decide) (fun _ _ => trivial)
                        have fq_zI_1310 : FQ (zI (zR zy 0)) (zI_1310 (zR zy 0)) := FQ.tr e_lp_1288_1 ps_1312
                        obtain ⟨zi_1314, ezi_1314⟩ : ∃ y : Int32, y = zi_1263 + 1 := ⟨_, rfl⟩
                        have tzi_1314 : zi_1314.toInt = zi_1263.toInt + 1 := by rw [ezi_1314]; exact tadd rfl (show (1 : Int32).toInt = 1 by decide) (by omega) (by omega)
                        refine lv_iinc (v := zi_1314) (lv' := [(5, .int zi_1314), (0, .ref zy), (1, .int zia), (2, .int zi_981), (3, .int zi_982), (4, .int zi_1183)]) hx hb dX11_make_133 hl (k := 5) rfl (by rw [ezi_1314]; rfl) (by decide) rfl (fun ls hl => ?_)
                        refine lv_goto (tgt := 94) hx hb dX11_make_136 (by decide) ?_
                        exact ih_1288 (zi_1183.toInt - zi_1314.toInt).toNat (by omega) zi_1314 zI_1310 _ _ _ rfl (by omega) h_zI_1310 (WP.fa e_lp_1288_0 ps_1311 (by omega)) fq_zI_1310 ps_1313 hP hD hS (lv_sub hl [1, 2, 3, 4, 5, 0] rfl)
                  exact lp_1288 _ (0 : Int32) zI_983 _ _ _ rfl (by decide) h_zI_983 ps_1186 e_lp_1174_0 e_lp_1174_1 hP hD hS (lv_sub hl [2, 3, 4, 5, 1, 0] rfl)
                · have f_1262 : ¬ (zi_1257.toInt < zi_1258.toInt) := ic_nlt (rfl) (rfl) c_1261
                  refine lv_aload_n hx hb dX11_make_83 rfl (lv_at hl 1 rfl) ?_
                  refine lv_iload_n hx hb dX11_make_84 rfl (lv_at hl 2 rfl) ?_
                  refine lv_iconst (v := 2) hx hb dX11_make_85 (by decide) ?_
                  refine lv_iconst (v := 0) hx hb dX11_make_86 (by decide) ?_
                  refine lv_iconst (v := 0) hx hb dX11_make_87 (by decide) ?_
                  have qc_2 : (2 : Int32).toInt = 2 := by decide
                  refine hj_v (ws := (WL cy zL zT zR zI_983 zJ)) (w1 := fun (u : (Nat → Nat → Int32)) => (WL cy zL zT zR u zJ)) (va_runV (As := [.int zia, .int 2, .int 0, .int 0]) (rest := []) ⟨hx, hb, hml, hown, hts⟩ (t_X11_addThing l dC dI cy H.size zL zT zR zI_983 zJ zy zia (2 : Int32) (0 : Int32) (0 : Int32) hs h_zI_983.1 t_zy (by omega) e_lp_1174_1) (cwV 4 hts gX11_make_X11_addThing rfl rfl rfl (by decide +kernel) ⟨(Nat.le_of_ble_eq_true rfl), (Nat.le_of_ble_eq_true rfl)⟩) (PRE.v hP hK hD hN (ht_recv hK hP hs t_zy (by decide) rfl rfl)) rfl rfl hl.1 rfl (lv_room (Nat.le_of_ble_eq_true rfl)) dX11_make_88 ⟨(Nat.le_of_ble_eq_true rfl), (Nat.le_of_ble_eq_true rfl)⟩) hP hD hS hA (fun zI_1318 H locs hw_1316 hP hD hS => ?_)
                  obtain ⟨k_zI_1318, ps_1319, ps_1320, ps_1321⟩ : (WM [10000] AL zT zR zI_983 zI_1318) ∧ (FA (zI_983 (zR zy 0)) (zI_1318 (zR zy 0))) ∧ (FQ (zI_983 (zR zy 0)) (zI_1318 (zR zy 0))) ∧ (ZI (zI_1318 (zR zy 0))) := hw_1316
                  have h_zI_1318 : WM [10000] AL zT zR zI zI_1318 := h_zI_983.tr k_zI_1318 (by decide) (fun _ _ => trivial)
                  have fq_zI_1318 : FQ (zI (zR zy 0)) (zI_1318 (zR zy 0)) := FQ.tr e_lp_1174_0 ps_1320
                  refine lv_iconst (v := 0) hx hb dX11_make_91 (by decide) ?_
                  refine lv_istore (lv' := [(5, .int 0), (4, .int zi_1183), (0, .ref zy), (1, .int zia), (2, .int zi_981), (3, .int zi_982)]) hx hb dX11_make_92 hl (by decide) rfl (fun ls hl => ?_)
                  have lp_1347 : ∀ (n : Nat) (zi_1322 : Int32) (zI_1323 : Nat → Nat → Int32) (H : Heap) (locs : List Loc) (ls : Array Slot), (zi_1183.toInt - zi_1322.toInt).toNat = n → (0 ≤ zi_1322.toInt) → (WM [10000] AL zT zR zI zI_1323) → (WP (zI_1323 (zR zy 0)) zi_982.toInt zi_1183.toInt) → (FQ (zI (zR zy 0)) (zI_1323 (zR zy 0))) → (ZI (zI_1323 (zR zy 0))) → va_P (dC, dI) vwCl (WL cy zL zT zR zI_1323 zJ) H → va_D A (WL cy zL zT zR zI_1323 zJ) → va_S A s.heap H locs → lv_has ls 6 [(0, .ref zy), (1, .int zia), (2, .int zi_981), (3, .int zi_982), (4, .int zi_1183), (5, .int zi_1322)] → W p l e ({ frames := 3, cells := 0, slots := 0, locals := 74 } : Room) s m ([.ref zy, .int zia] : List Value).toArray below meth c H locs 0 0 Q (F0 m 94 ls []) := by
                    intro n
                    induction n using Nat.strongRecOn with
                    | _ n ih_1347 =>
                      intro zi_1322 zI_1323 H locs ls hn b_zi_1322 h_zI_1323 e_lp_1347_0 e_lp_1347_1 e_lp_1347_2 hP hD hS hl
                      refine lv_iload hx hb dX11_make_94 (lv_at hl 5 rfl) ?_
                      refine lv_iload hx hb dX11_make_96 (lv_at hl 4 rfl) ?_
                      refine lv_icmp_ge (tgt := 139) hx hb dX11_make_98 (by decide) (fun c_1348 => ?_) (fun c_1348 => ?_)
                      · have f_1349 : zi_1322.toInt ≥ zi_1183.toInt := ic_ge (rfl) (rfl) c_1348
                        refine lv_iload hx hb dX11_make_139 (lv_at hl 4 rfl) ?_
                        refine lv_if_le (tgt := 148) hx hb dX11_make_141 (by decide) (fun c_1350 => ?_) (fun c_1350 => ?_)
                        · have f_1351 : zi_1183.toInt ≤ 0 := ic_le (rfl) (by decide) c_1350
                          exfalso; omega
                        · have f_1351 : ¬ (zi_1183.toInt ≤ 0) := ic_nle (rfl) (by decide) c_1350
                          refine lv_iload_n hx hb dX11_make_144 rfl (lv_at hl 3 rfl) ?_
                          refine lv_goto (tgt := 149) hx hb dX11_make_145 (by decide) ?_
                          refine lv_istore_n (lv' := [(2, .int zi_982), (0, .ref zy), (1, .int zia), (3, .int zi_982), (4, .int zi_1183), (5, .int zi_1322)]) hx hb dX11_make_149 rfl hl (by decide) rfl (fun ls hl => ?_)
                          obtain ⟨zi_1352, ezi_1352⟩ : ∃ y : Int32, y = zi_982 + 1 := ⟨_, rfl⟩
                          have tzi_1352 : zi_1352.toInt = zi_982.toInt + 1 := by rw [ezi_1352]; exact tadd rfl (show (1 : Int32).toInt = 1 by decide) (by omega) (by omega)
                          refine lv_iinc (v := zi_1352) (lv' := [(3, .int zi_1352), (2, .int zi_982), (0, .ref zy), (1, .int zia), (4, .int zi_1183), (5, .int zi_1322)]) hx hb dX11_make_150 hl (k := 3) rfl (by rw [ezi_1352]; rfl) (by decide) rfl (fun ls hl => ?_)
                          refine lv_goto (tgt := 47) hx hb dX11_make_153 (by decide) ?_
                          exact ih_1174 (24 - zi_1352.toInt).toNat (by omega) zi_982 zi_1352 zI_1323 _ _ _ rfl (by omega) (by omega) h_zI_1323 e_lp_1347_1 e_lp_1347_2 hP hD hS (lv_sub hl [2, 3, 1, 0] rfl)
                      · have f_1349 : ¬ (zi_1322.toInt ≥ zi_1183.toInt) := ic_nge (rfl) (rfl) c_1348
                        refine lv_aload_n hx hb dX11_make_101 rfl (lv_at hl 0 rfl) ?_
                        refine lv_iload_n hx hb dX11_make_102 rfl (lv_at hl 1 rfl) ?_
                        refine lv_iconst (v := 0) hx hb dX11_make_103 (by decide) ?_
                        refine lv_aload_n hx hb dX11_make_104 rfl (lv_at hl 0 rfl) ?_
                        refine lv_iload_n hx hb dX11_make_105 rfl (lv_at hl 3 rfl) ?_
                        refine lv_aload_n hx hb dX11_make_106 rfl (lv_at hl 0 rfl) ?_
                        refine ht_getr (C := RX11) (T := TX11) (N := 28) hx hb hts (by decide +kernel) hown hK hP hs t_zy (by decide) rfl rfl 0 (by decide) (hts (.fieldLink RX11 7 "DripStoneModel" "z" "[I") (by decide +kernel)) (fun _ h9 => h9) rfl dX11_make_107 ?_
                        refine lv_iconst (v := 0) hx hb dX11_make_110 (by decide) ?_
                        refine ht_iald (n := 392) (q := 0) hx hb hK hP hs t_6 (by decide) rfl rfl ⟨by decide, by decide⟩ dX11_make_111 ?_
                        refine lv_topi (fun zi_1353 ezi_1353 => ?_)
                        have la_1354 : zi_1353.toInt = zA (zI_1323 (zR zy 0)) (0) := (congrArg Int32.toInt (show zI_1323 (zR zy 0) (0 : Int32).toNatClampNeg = zi_1353 from ezi_1353.symm).symm).trans (congrArg (zA (zI_1323 (zR zy 0))) (show (0 : Int32).toInt = 0 from by decide))
                        have tz_1355 : 1 ≤ zi_1353.toInt ∧ zi_1353.toInt ≤ 5 := by rw [← (show zI_1323 (zR zy 0) (0 : Int32).toNatClampNeg = zi_1353 from ezi_1353.symm)]; exact ZI.g0 e_lp_1347_2 (by decide) (by decide)
                        refine hj_i (ws := (WL cy zL zT zR zI_1323 zJ)) (w1 := fun (u : Unit) => (WL cy zL zT zR zI_1323 zJ)) (va_runV (As := [.int zi_982, .int zi_1353]) (rest := [.int 0, .int zia, .ref zy]) ⟨hx, hb, hml, hown, hts⟩ (t_X11_waterBy l dC dI cy H.size zL zT zR zI_1323 zJ zy zi_982 zi_1353 hs h_zI_1323.1 t_zy (by omega) (by omega) (WP.at e_lp_1347_0 (by omega) (by omega))) (cwV 2 hts gX11_make_X11_waterBy rfl rfl rfl (by decide +kernel) ⟨(Nat.le_of_ble_eq_true rfl), (Nat.le_of_ble_eq_true rfl)⟩) (PRE.v hP hK hD hN (ht_recv hK hP hs t_zy (by decide) rfl rfl)) rfl rfl hl.1 rfl (lv_room (Nat.le_of_ble_eq_true rfl)) dX11_make_112 ⟨(Nat.le_of_ble_eq_true rfl), (Nat.le_of_ble_eq_true rfl)⟩) hP hD hS hA (fun zi_1356 u_1358 H locs hw_1357 hP hD hS => ?_)
                        have ps_1359 : zi_1356 = WSP (zI_1323 (zR zy 0)) (zi_1353.toInt).toNat zi_982.toInt 0 / WS (zI_1323 (zR zy 0)) (zi_1353.toInt).toNat zi_982.toInt 0 := hw_1357
                        have rzi_1356 := rng zi_1356
                        refine lv_aload_n hx hb dX11_make_115 rfl (lv_at hl 0 rfl) ?_
                        refine ht_getr (C := RX11) (T := TX11) (N := 28) hx hb hts (by decide +kernel) hown hK hP hs t_zy (by decide) rfl rfl 0 (by decide) (hts (.fieldLink RX11 7 "DripStoneModel" "z" "[I") (by decide +kernel)) (fun _ h9 => h9) rfl dX11_make_116 ?_
                        refine lv_bipush (v := 20) hx hb dX11_make_119 (by decide) ?_
                        refine lv_iconst (v := 3) hx hb dX11_make_121 (by decide) ?_
                        refine lv_iload_n hx hb dX11_make_122 rfl (lv_at hl 3 rfl) ?_
                        refine lv_imul hx hb dX11_make_123 ?_
                        refine lv_topi (fun zi_1360 ezi_1360 => ?_)
                        have tzi_1360 : zi_1360.toInt = (3 : Int) * zi_982.toInt := by rw [ezi_1360]; exact timul (show (3 : Int32).toInt = 3 by decide) (rfl) (by omega) (by omega)
                        refine lv_iadd hx hb dX11_make_124 ?_
                        refine lv_topi (fun zi_1361 ezi_1361 => ?_)
                        have tzi_1361 : zi_1361.toInt = (20 : Int) + zi_1360.toInt := by rw [ezi_1361]; exact tiadd (show (20 : Int32).toInt = 20 by decide) (rfl) (by omega) (by omega)
                        refine lv_iconst (v := 2) hx hb dX11_make_125 (by decide) ?_
                        refine lv_iadd hx hb dX11_make_126 ?_
                        refine lv_topi (fun zi_1362 ezi_1362 => ?_)
                        have tzi_1362 : zi_1362.toInt = zi_1361.toInt + (2 : Int) := by rw [ezi_1362]; exact tiadd (rfl) (show (2 : Int32).toInt = 2 by decide) (by omega) (by omega)
                        refine ht_iald (n := 392) (q := 0) hx hb hK hP hs t_6 (by decide) rfl rfl ⟨by omega, by omega⟩ dX11_make_127 ?_
                        refine lv_topi (fun zi_1363 ezi_1363 => ?_)
                        have la_1364 : zi_1363.toInt = zA (zI_1323 (zR zy 0)) (22 + 3 * zi_982.toInt) := (congrArg Int32.toInt (show zI_1323 (zR zy 0) zi_1362.toNatClampNeg = zi_1363 from ezi_1363.symm).symm).trans (congrArg (zA (zI_1323 (zR zy 0))) (show zi_1362.toInt = 22 + 3 * zi_982.toInt from by omega))
                        refine lv_isub hx hb dX11_make_128 ?_
                        refine lv_topi (fun zi_1365 ezi_1365 => ?_)
                        refine lv_iload_n hx hb dX11_make_129 rfl (lv_at hl 3 rfl) ?_
                        refine hj_v (ws := (WL cy zL zT zR zI_1323 zJ)) (w1 := fun (u : (Nat → Nat → Int32)) => (WL cy zL zT zR u zJ)) (va_runV (As := [.int zia, .int 0, .int zi_1365, .int zi_982]) (rest := []) ⟨hx, hb, hml, hown, hts⟩ (t_X11_addThing l dC dI cy H.size zL zT zR zI_1323 zJ zy zia (0 : Int32) zi_1365 zi_982 hs h_zI_1323.1 t_zy (by omega) e_lp_1347_2) (cwV 4 hts gX11_make_X11_addThing rfl rfl rfl (by decide +kernel) ⟨(Nat.le_of_ble_eq_true rfl), (Nat.le_of_ble_eq_true rfl)⟩) (PRE.v hP hK hD hN (ht_recv hK hP hs t_zy (by decide) rfl rfl)) rfl rfl hl.1 rfl (lv_room (Nat.le_of_ble_eq_true rfl)) dX11_make_130 ⟨(Nat.le_of_ble_eq_true rfl), (Nat.le_of_ble_eq_true rfl)⟩) hP hD hS hA (fun zI_1369 H locs hw_1367 hP hD hS => ?_)
                        obtain ⟨k_zI_1369, ps_1370, ps_1371, ps_1372⟩ : (WM [10000] AL zT zR zI_1323 zI_1369) ∧ (FA (zI_1323 (zR zy 0)) (zI_1369 (zR zy 0))) ∧ (FQ (zI_1323 (zR zy 0)) (zI_1369 (zR zy 0))) ∧ (ZI (zI_1369 (zR zy 0))) := hw_1367
                        have h_zI_1369 : WM [10000] AL zT zR zI zI_1369 := h_zI_1323.tr k_zI_1369 (by decide) (fun _ _ => trivial)
                        have fq_zI_1369 : FQ (zI (zR zy 0)) (zI_1369 (zR zy 0)) := FQ.tr e_lp_1347_1 ps_1371
                        obtain ⟨zi_1373, ezi_1373⟩ : ∃ y : Int32, y = zi_1322 + 1 := ⟨_, rfl⟩
                        have tzi_1373 : zi_1373.toInt = zi_1322.toInt + 1 := by rw [ezi_1373]; exact tadd rfl (show (1 : Int32).toInt = 1 by decide) (by omega) (by omega)
                        refine lv_iinc (v := zi_1373) (lv' := [(5, .int zi_1373), (0, .ref zy), (1, .int zia), (2, .int zi_981), (3, .int zi_982), (4, .int zi_1183)]) hx hb dX11_make_133 hl (k := 5) rfl (by rw [ezi_1373]; rfl) (by decide) rfl (fun ls hl => ?_)
                        refine lv_goto (tgt := 94) hx hb dX11_make_136 (by decide) ?_
                        exact ih_1347 (zi_1183.toInt - zi_1373.toInt).toNat (by omega) zi_1373 zI_1369 _ _ _ rfl (by omega) h_zI_1369 (WP.fa e_lp_1347_0 ps_1370 (by omega)) fq_zI_1369 ps_1372 hP hD hS (lv_sub hl [1, 2, 3, 4, 5, 0] rfl)
                  exact lp_1347 _ (0 : Int32) zI_1318 _ _ _ rfl (by decide) h_zI_1318 (WP.fa ps_1186 ps_1319 (by omega)) fq_zI_1318 ps_1321 hP hD hS (lv_sub hl [2, 3, 4, 5, 1, 0] rfl)
      have qc_m4 : ((-4) : Int32).toInt = -4 := by decide
      exact lp_1174 _ (-4 : Int32) (0 : Int32) zI_26 _ _ _ rfl (by decide) (by decide) h_zI_26 fq_zI_26 z_zI_26 hP hD hS (lv_sub hl [2, 3, 1, 0] rfl)
    · have f_11 : ¬ (zi_7.toInt ≠ 0) := ic_nne (rfl) (by decide) c_10
      refine lv_bipush (v := (-2)) hx hb dX11_make_18 (by decide) ?_
      subst hQ
      have qc_m2 : (-2 : Int32).toInt = -2 := by decide
      exact W.iret (v := (-2 : Int32)) hx hb hr (fun t ht hW => ⟨⟨(-2 : Int32), zI, rfl, ⟨h_zI, (show (-2) ≤ (-2 : Int32).toInt ∧ (-2 : Int32).toInt ≤ 12 from by omega), (show ZI (zI (zR zy 0)) from hz), (show FQ (zI (zR zy 0)) (zI (zR zy 0)) from FQ.rf)⟩, ⟨by rw [ht]; exact hP, va_K.moved hW.alike hK, hD⟩⟩, hS.F ht⟩) hS.2.2 dX11_make_20
  · have f_5 : ¬ (0 ≤ zia.toInt ∧ zia.toInt ≤ 1) := bz_0 hw_2 c_4
    refine lv_iconst (v := (-1)) hx hb dX11_make_7 (by decide) ?_
    subst hQ
    have qc_m1 : (-1 : Int32).toInt = -1 := by decide
    exact W.iret (v := (-1 : Int32)) hx hb hr (fun t ht hW => ⟨⟨(-1 : Int32), zI, rfl, ⟨h_zI, (show (-2) ≤ (-1 : Int32).toInt ∧ (-1 : Int32).toInt ≤ 12 from by omega), (show ZI (zI (zR zy 0)) from hz), (show FQ (zI (zR zy 0)) (zI (zR zy 0)) from FQ.rf)⟩, ⟨by rw [ht]; exact hP, va_K.moved hW.alike hK, hD⟩⟩, hS.F ht⟩) hS.2.2 dX11_make_8
