set_option maxHeartbeats 8000000 in
set_option maxRecDepth 100000 in
theorem t_X11_dropDates (l : Launch) (dC : Nat → ClassId) (dI : Nat → Nat → Nat) (cy : Nat → ClassId) (sz : Nat) (zL : List Nat) (zT : Nat → Nat) (zR : Nat → Nat → Nat) (zI : Nat → Nat → Int32) (zJ : Nat → Nat → Int64) (zy : Nat) (zia : Int32) (zib : Int32) (hs : SKP zL zT zR) (hw : WT zT zR zI) (t_zy : zT zy = 18) (b_zia : 0 ≤ zia.toInt ∧ zia.toInt ≤ 1) (hz : ZI (zI (zR zy 0))) : Met l yX11_dropDates wsX11_dropDates ({ frames := 1, cells := 0, slots := 0, locals := 21 } : Room) (va_Pc [.ref zy, .int zia, .int zib] (PRE dC dI cy (WL cy zL zT zR zI zJ) sz)) (va_Qv (fun (u : (Nat → Nat → Int32)) => (WM [10000] AL zT zR zI u) ∧ (ZI (u (zR zy 0))) ∧ (DR (u (zR zy 0)) zia.toInt zib.toInt) ∧ (FQ (zI (zR zy 0)) (u (zR zy 0)))) (fun u t => POST dC dI cy (va_A (WL cy zL zT zR zI zJ) sz) (WL cy zL zT zR u zJ) t) (va_A (WL cy zL zT zR zI zJ) sz)) 0 0 (va_A (WL cy zL zT zR zI zJ) sz) := by
  refine Met.ofW (cc := cX11_dropDates) (maxL := 6) (ret := none) (by decide) rfl ?_
  intro p e s m args below meth c s₁ B hml hv
  obtain ⟨rfl, hsz, hP, hK, hD0, hN⟩ := hv
  have hx := B.exec
  have hb := B.bytes
  have hr := B.returns
  have hts := atoms_spec (ws := wsX11_dropDates) B.pre
  have hown : s.vm.findClass RX11 = some m.cls := findClass_of_methodNamed B.named
  have hlocks := B.notSynchronized
  subst hsz
  have hD := hD0.self (sz := s.heap.size)
  generalize hAe : va_A (WL cy zL zT zR zI zJ) s.heap.size = A at hD ⊢
  have hA : ∀ q : Nat, s.heap.size ≤ q → A q := fun q h => by rw [← hAe]; exact Or.inr h
  have hS : va_S A s.heap s.heap [] := va_S.rf
  have hP : va_P (dC, dI) vwCl (WL cy zL zT zR zI zJ) s.heap := hP
  have hl := lv_entry ([.ref zy, .int zia, .int zib] : List Value) (n := 6) (Nat.le_of_ble_eq_true rfl)
  rw [lg_entry_eq]
  generalize (lg_sl ([.ref zy, .int zia, .int zib] : List Value) ++ List.replicate (6 - (lg_sl ([.ref zy, .int zia, .int zib] : List Value)).length) Slot.unset).toArray = ls at hl ⊢
  have hl : lv_has ls 6 [(0, .ref zy), (1, .int zia), (2, .int zib)] := hl
  refine w_q (fun Q hQ => ?_)
  have h_zI : WM [10000] AL zT zR zI zI := WM.rf hw
  have z11 : 0 ≤ zA (zI (zR zy 0)) (11) ∧ zA (zI (zR zy 0)) (11) ≤ 8 := by have r9 := hz.1; unfold ZR at r9; omega
  refine lv_iconst (v := 0) hx hb dX11_dropDates_0 (by decide) ?_
  refine lv_istore_n (lv' := [(3, .int 0), (0, .ref zy), (1, .int zia), (2, .int zib)]) hx hb dX11_dropDates_1 rfl hl (by decide) rfl (fun ls hl => ?_)
  refine lv_iconst (v := 0) hx hb dX11_dropDates_2 (by decide) ?_
  refine lv_istore (lv' := [(4, .int 0), (3, .int 0), (0, .ref zy), (1, .int zia), (2, .int zib)]) hx hb dX11_dropDates_3 hl (by decide) rfl (fun ls hl => ?_)
  have lp_950 : ∀ (n : Nat) (zi_849 : Int32) (zi_850 : Int32) (zI_851 : Nat → Nat → Int32) (H : Heap) (locs : List Loc) (ls : Array Slot), (8 - zi_850.toInt).toNat = n → (0 ≤ zi_849.toInt ∧ zi_849.toInt ≤ 8) → (0 ≤ zi_850.toInt ∧ zi_850.toInt ≤ 8) → (WM [10000] AL zT zR zI zI_851) → (DD (zI (zR zy 0)) (zI_851 (zR zy 0)) zia.toInt zib.toInt zi_849.toInt zi_850.toInt 0) → (zi_849.toInt ≤ zi_850.toInt ∧ zi_850.toInt ≤ zA (zI (zR zy 0)) (11)) → (FQ (zI (zR zy 0)) (zI_851 (zR zy 0))) → va_P (dC, dI) vwCl (WL cy zL zT zR zI_851 zJ) H → va_D A (WL cy zL zT zR zI_851 zJ) → va_S A s.heap H locs → lv_has ls 6 [(0, .ref zy), (1, .int zia), (2, .int zib), (3, .int zi_849), (4, .int zi_850)] → W p l e ({ frames := 1, cells := 0, slots := 0, locals := 21 } : Room) s m ([.ref zy, .int zia, .int zib] : List Value).toArray below meth c H locs 0 0 Q (F0 m 5 ls []) := by
    intro n
    induction n using Nat.strongRecOn with
    | _ n ih_950 =>
      intro zi_849 zi_850 zI_851 H locs ls hn b_zi_849 b_zi_850 h_zI_851 e_lp_950_0 e_lp_950_1 e_lp_950_2 hP hD hS hl
      refine lv_iload hx hb dX11_dropDates_5 (lv_at hl 4 rfl) ?_
      have dq_951 : zA (zI_851 (zR zy 0)) (11) = zA (zI (zR zy 0)) (11) := e_lp_950_0.1 (11) (by omega) (by omega)
      refine lv_aload_n hx hb dX11_dropDates_7 rfl (lv_at hl 0 rfl) ?_
      refine ht_getr (C := RX11) (T := TX11) (N := 28) hx hb hts (by decide +kernel) hown hK hP hs t_zy (by decide) rfl rfl 0 (by decide) (hts (.fieldLink RX11 7 "DripStoneModel" "z" "[I") (by decide +kernel)) (fun _ h9 => h9) rfl dX11_dropDates_8 ?_
      have t_952 : zT (zR zy 0) = 100 := sk_f hs t_zy (by decide) rfl (by decide)
      refine lv_bipush (v := 11) hx hb dX11_dropDates_11 (by decide) ?_
      refine ht_iald (n := 392) (q := 0) hx hb hK hP hs t_952 (by decide) rfl rfl ⟨by decide, by decide⟩ dX11_dropDates_13 ?_
      refine lv_topi (fun zi_953 ezi_953 => ?_)
      have la_954 : zi_953.toInt = zA (zI_851 (zR zy 0)) (11) := (congrArg Int32.toInt (show zI_851 (zR zy 0) (11 : Int32).toNatClampNeg = zi_953 from ezi_953.symm).symm).trans (congrArg (zA (zI_851 (zR zy 0))) (show (11 : Int32).toInt = 11 from by decide))
      refine lv_icmp_ge (tgt := 101) hx hb dX11_dropDates_14 (by decide) (fun c_955 => ?_) (fun c_955 => ?_)
      · have f_956 : zi_850.toInt ≥ zi_953.toInt := ic_ge (rfl) (rfl) c_955
        refine lv_aload_n hx hb dX11_dropDates_101 rfl (lv_at hl 0 rfl) ?_
        refine ht_getr (C := RX11) (T := TX11) (N := 28) hx hb hts (by decide +kernel) hown hK hP hs t_zy (by decide) rfl rfl 0 (by decide) (hts (.fieldLink RX11 7 "DripStoneModel" "z" "[I") (by decide +kernel)) (fun _ h9 => h9) rfl dX11_dropDates_102 ?_
        refine lv_bipush (v := 11) hx hb dX11_dropDates_105 (by decide) ?_
        refine lv_iload_n hx hb dX11_dropDates_107 rfl (lv_at hl 3 rfl) ?_
        refine ht_iast (v := zi_849) (n := 392) (q := 0) hx hb hK hP hD hS hs t_952 (by decide) rfl rfl ⟨by decide, by decide⟩ dX11_dropDates_108 (fun H locs hP hD hS => ?_)
        have h_zI_957 : WM [10000] AL zT zR zI (u2 zI_851 (zR zy 0) (11 : Int32).toNatClampNeg zi_849) := h_zI_851.putA hs t_952 rfl (rgF _) (by decide) (fun h => absurd h (by decide)) (by decide) trivial
        generalize uzI_957 : u2 zI_851 (zR zy 0) (11 : Int32).toNatClampNeg zi_849 = zI_957 at hP hD h_zI_957
        have qc_11 : (11 : Int32).toInt = 11 := by decide
        have fq_zI_957 : FQ (zI (zR zy 0)) (zI_957 (zR zy 0)) := by rw [← uzI_957, u2_r]; exact FQ.up e_lp_950_2 (by omega) (by omega)
        have zd_958 : ZI (zI_957 (zR zy 0)) ∧ DR (zI_957 (zR zy 0)) zia.toInt zib.toInt := by rw [← uzI_957, u2_r]; exact DD.e hz e_lp_950_0 (by decide) rfl (by omega)
        subst hQ
        exact W.vret hx hb hr (fun t ht hW => ⟨⟨zI_957, rfl, ⟨h_zI_957, (show ZI (zI_957 (zR zy 0)) from zd_958.1), (show DR (zI_957 (zR zy 0)) zia.toInt zib.toInt from zd_958.2), (show FQ (zI (zR zy 0)) (zI_957 (zR zy 0)) from fq_zI_957)⟩, ⟨by rw [ht]; exact hP, va_K.moved hW.alike hK, hD⟩⟩, hS.F ht⟩) hS.2.2 dX11_dropDates_109
      · have f_956 : ¬ (zi_850.toInt ≥ zi_953.toInt) := ic_nge (rfl) (rfl) c_955
        have dq_959 : zA (zI_851 (zR zy 0)) (278 + 6 * zi_850.toInt) = zA (zI (zR zy 0)) (278 + 6 * zi_850.toInt) := e_lp_950_0.2.1 (278 + 6 * zi_850.toInt) (by omega) (by omega)
        have dq_960 : zA (zI_851 (zR zy 0)) (279 + 6 * zi_850.toInt) = zA (zI (zR zy 0)) (279 + 6 * zi_850.toInt) := e_lp_950_0.2.1 (279 + 6 * zi_850.toInt) (by omega) (by omega)
        refine lv_aload_n hx hb dX11_dropDates_17 rfl (lv_at hl 0 rfl) ?_
        refine ht_getr (C := RX11) (T := TX11) (N := 28) hx hb hts (by decide +kernel) hown hK hP hs t_zy (by decide) rfl rfl 0 (by decide) (hts (.fieldLink RX11 7 "DripStoneModel" "z" "[I") (by decide +kernel)) (fun _ h9 => h9) rfl dX11_dropDates_18 ?_
        refine lv_aload_n hx hb dX11_dropDates_21 rfl (lv_at hl 0 rfl) ?_
        refine lv_iload hx hb dX11_dropDates_22 (lv_at hl 4 rfl) ?_
        refine hj_i (ws := (WL cy zL zT zR zI_851 zJ)) (w1 := fun (u : Unit) => (WL cy zL zT zR zI_851 zJ)) (va_runV (As := [.int zi_850]) (rest := [.ref (zR zy 0)]) ⟨hx, hb, hml, hown, hts⟩ (t_X11_dateAt l dC dI cy H.size zL zT zR zI_851 zJ zy zi_850 hs h_zI_851.1 t_zy (by omega)) (cwV 1 hts gX11_dropDates_X11_dateAt rfl rfl rfl (by decide +kernel) ⟨(Nat.le_of_ble_eq_true rfl), (Nat.le_of_ble_eq_true rfl)⟩) (PRE.v hP hK hD hN (ht_recv hK hP hs t_zy (by decide) rfl rfl)) rfl rfl hl.1 rfl (lv_room (Nat.le_of_ble_eq_true rfl)) dX11_dropDates_24 ⟨(Nat.le_of_ble_eq_true rfl), (Nat.le_of_ble_eq_true rfl)⟩) hP hD hS hA (fun zi_961 u_963 H locs hw_962 hP hD hS => ?_)
        obtain ⟨b_zi_961, ps_964⟩ : (278 ≤ zi_961.toInt ∧ zi_961.toInt ≤ 326) ∧ (zi_961.toInt = 278 + 6 * zi_850.toInt) := hw_962
        refine ht_iald (n := 392) (q := 0) hx hb hK hP hs t_952 (by decide) rfl rfl ⟨by omega, by omega⟩ dX11_dropDates_27 ?_
        refine lv_topi (fun zi_965 ezi_965 => ?_)
        have la_966 : zi_965.toInt = zA (zI_851 (zR zy 0)) (278 + 6 * zi_850.toInt) := (congrArg Int32.toInt (show zI_851 (zR zy 0) zi_961.toNatClampNeg = zi_965 from ezi_965.symm).symm).trans (congrArg (zA (zI_851 (zR zy 0))) (show zi_961.toInt = 278 + 6 * zi_850.toInt from by omega))
        refine lv_iload_n hx hb dX11_dropDates_28 rfl (lv_at hl 1 rfl) ?_
        refine lv_icmp_ne (tgt := 49) hx hb dX11_dropDates_29 (by decide) (fun c_967 => ?_) (fun c_967 => ?_)
        · have f_968 : zi_965.toInt ≠ zia.toInt := ic_ne (rfl) (rfl) c_967
          refine lv_iconst (v := 0) hx hb dX11_dropDates_49 (by decide) ?_
          refine lv_istore (lv' := [(5, .int 0), (0, .ref zy), (1, .int zia), (2, .int zib), (3, .int zi_849), (4, .int zi_850)]) hx hb dX11_dropDates_50 hl (by decide) rfl (fun ls hl => ?_)
          have lp_987 : ∀ (n : Nat) (zi_969 : Int32) (zI_970 : Nat → Nat → Int32) (H : Heap) (locs : List Loc) (ls : Array Slot), (6 - zi_969.toInt).toNat = n → (0 ≤ zi_969.toInt ∧ zi_969.toInt ≤ 6) → (WM [10000] AL zT zR zI zI_970) → (DD (zI (zR zy 0)) (zI_970 (zR zy 0)) zia.toInt zib.toInt zi_849.toInt zi_850.toInt zi_969.toInt) → (FQ (zI (zR zy 0)) (zI_970 (zR zy 0))) → va_P (dC, dI) vwCl (WL cy zL zT zR zI_970 zJ) H → va_D A (WL cy zL zT zR zI_970 zJ) → va_S A s.heap H locs → lv_has ls 6 [(0, .ref zy), (1, .int zia), (2, .int zib), (3, .int zi_849), (4, .int zi_850), (5, .int zi_969)] → W p l e ({ frames := 1, cells := 0, slots := 0, locals := 21 } : Room) s m ([.ref zy, .int zia, .int zib] : List Value).toArray below meth c H locs 0 0 Q (F0 m 52 ls []) := by
            intro n
            induction n using Nat.strongRecOn with
            | _ n ih_987 =>
              intro zi_969 zI_970 H locs ls hn b_zi_969 h_zI_970 e_lp_987_0 e_lp_987_1 hP hD hS hl
              refine lv_iload hx hb dX11_dropDates_52 (lv_at hl 5 rfl) ?_
              refine lv_bipush (v := 6) hx hb dX11_dropDates_54 (by decide) ?_
              refine lv_icmp_ge (tgt := 92) hx hb dX11_dropDates_56 (by decide) (fun c_988 => ?_) (fun c_988 => ?_)
              · have f_989 : zi_969.toInt ≥ (6 : Int) := ic_ge (rfl) (show (6 : Int32).toInt = 6 by decide) c_988
                obtain ⟨zi_990, ezi_990⟩ : ∃ y : Int32, y = zi_849 + 1 := ⟨_, rfl⟩
                have tzi_990 : zi_990.toInt = zi_849.toInt + 1 := by rw [ezi_990]; exact tadd rfl (show (1 : Int32).toInt = 1 by decide) (by omega) (by omega)
                refine lv_iinc (v := zi_990) (lv' := [(3, .int zi_990), (0, .ref zy), (1, .int zia), (2, .int zib), (4, .int zi_850), (5, .int zi_969)]) hx hb dX11_dropDates_92 hl (k := 3) rfl (by rw [ezi_990]; rfl) (by decide) rfl (fun ls hl => ?_)
                obtain ⟨zi_991, ezi_991⟩ : ∃ y : Int32, y = zi_850 + 1 := ⟨_, rfl⟩
                have tzi_991 : zi_991.toInt = zi_850.toInt + 1 := by rw [ezi_991]; exact tadd rfl (show (1 : Int32).toInt = 1 by decide) (by omega) (by omega)
                refine lv_iinc (v := zi_991) (lv' := [(4, .int zi_991), (3, .int zi_990), (0, .ref zy), (1, .int zia), (2, .int zib), (5, .int zi_969)]) hx hb dX11_dropDates_95 hl (k := 4) rfl (by rw [ezi_991]; rfl) (by decide) rfl (fun ls hl => ?_)
                refine lv_goto (tgt := 5) hx hb dX11_dropDates_98 (by decide) ?_
                exact ih_950 (8 - zi_991.toInt).toNat (by omega) zi_990 zi_991 zI_970 _ _ _ rfl (by omega) (by omega) h_zI_970 (DD.k e_lp_987_0 (by omega) (by omega) (by omega) (fun h9 => by omega) (by omega) (by omega)) (by omega) e_lp_987_1 hP hD hS (lv_sub hl [2, 3, 4, 1, 0] rfl)
              · have f_989 : ¬ (zi_969.toInt ≥ (6 : Int)) := ic_nge (rfl) (show (6 : Int32).toInt = 6 by decide) c_988
                refine lv_aload_n hx hb dX11_dropDates_59 rfl (lv_at hl 0 rfl) ?_
                refine ht_getr (C := RX11) (T := TX11) (N := 28) hx hb hts (by decide +kernel) hown hK hP hs t_zy (by decide) rfl rfl 0 (by decide) (hts (.fieldLink RX11 7 "DripStoneModel" "z" "[I") (by decide +kernel)) (fun _ h9 => h9) rfl dX11_dropDates_60 ?_
                refine lv_aload_n hx hb dX11_dropDates_63 rfl (lv_at hl 0 rfl) ?_
                refine lv_iload_n hx hb dX11_dropDates_64 rfl (lv_at hl 3 rfl) ?_
                refine hj_i (ws := (WL cy zL zT zR zI_970 zJ)) (w1 := fun (u : Unit) => (WL cy zL zT zR zI_970 zJ)) (va_runV (As := [.int zi_849]) (rest := [.ref (zR zy 0)]) ⟨hx, hb, hml, hown, hts⟩ (t_X11_dateAt l dC dI cy H.size zL zT zR zI_970 zJ zy zi_849 hs h_zI_970.1 t_zy (by omega)) (cwV 1 hts gX11_dropDates_X11_dateAt rfl rfl rfl (by decide +kernel) ⟨(Nat.le_of_ble_eq_true rfl), (Nat.le_of_ble_eq_true rfl)⟩) (PRE.v hP hK hD hN (ht_recv hK hP hs t_zy (by decide) rfl rfl)) rfl rfl hl.1 rfl (lv_room (Nat.le_of_ble_eq_true rfl)) dX11_dropDates_65 ⟨(Nat.le_of_ble_eq_true rfl), (Nat.le_of_ble_eq_true rfl)⟩) hP hD hS hA (fun zi_992 u_994 H locs hw_993 hP hD hS => ?_)
                obtain ⟨b_zi_992, ps_995⟩ : (278 ≤ zi_992.toInt ∧ zi_992.toInt ≤ 326) ∧ (zi_992.toInt = 278 + 6 * zi_849.toInt) := hw_993
                refine lv_iload hx hb dX11_dropDates_68 (lv_at hl 5 rfl) ?_
                refine lv_iadd hx hb dX11_dropDates_70 ?_
                refine lv_topi (fun zi_996 ezi_996 => ?_)
                have tzi_996 : zi_996.toInt = zi_992.toInt + zi_969.toInt := by rw [ezi_996]; exact tiadd (rfl) (rfl) (by omega) (by omega)
                refine lv_aload_n hx hb dX11_dropDates_71 rfl (lv_at hl 0 rfl) ?_
                refine ht_getr (C := RX11) (T := TX11) (N := 28) hx hb hts (by decide +kernel) hown hK hP hs t_zy (by decide) rfl rfl 0 (by decide) (hts (.fieldLink RX11 7 "DripStoneModel" "z" "[I") (by decide +kernel)) (fun _ h9 => h9) rfl dX11_dropDates_72 ?_
                refine lv_aload_n hx hb dX11_dropDates_75 rfl (lv_at hl 0 rfl) ?_
                refine lv_iload hx hb dX11_dropDates_76 (lv_at hl 4 rfl) ?_
                refine hj_i (ws := (WL cy zL zT zR zI_970 zJ)) (w1 := fun (u : Unit) => (WL cy zL zT zR zI_970 zJ)) (va_runV (As := [.int zi_850]) (rest := [.ref (zR zy 0), .int zi_996, .ref (zR zy 0)]) ⟨hx, hb, hml, hown, hts⟩ (t_X11_dateAt l dC dI cy H.size zL zT zR zI_970 zJ zy zi_850 hs h_zI_970.1 t_zy (by omega)) (cwV 1 hts gX11_dropDates_X11_dateAt rfl rfl rfl (by decide +kernel) ⟨(Nat.le_of_ble_eq_true rfl), (Nat.le_of_ble_eq_true rfl)⟩) (PRE.v hP hK hD hN (ht_recv hK hP hs t_zy (by decide) rfl rfl)) rfl rfl hl.1 rfl (lv_room (Nat.le_of_ble_eq_true rfl)) dX11_dropDates_78 ⟨(Nat.le_of_ble_eq_true rfl), (Nat.le_of_ble_eq_true rfl)⟩) hP hD hS hA (fun zi_997 u_999 H locs hw_998 hP hD hS => ?_)
                obtain ⟨b_zi_997, ps_1000⟩ : (278 ≤ zi_997.toInt ∧ zi_997.toInt ≤ 326) ∧ (zi_997.toInt = 278 + 6 * zi_850.toInt) := hw_998
                refine lv_iload hx hb dX11_dropDates_81 (lv_at hl 5 rfl) ?_
                refine lv_iadd hx hb dX11_dropDates_83 ?_
                refine lv_topi (fun zi_1001 ezi_1001 => ?_)
                have tzi_1001 : zi_1001.toInt = zi_997.toInt + zi_969.toInt := by rw [ezi_1001]; exact tiadd (rfl) (rfl) (by omega) (by omega)
                refine ht_iald (n := 392) (q := 0) hx hb hK hP hs t_952 (by decide) rfl rfl ⟨by omega, by omega⟩ dX11_dropDates_84 ?_
                refine lv_topi (fun zi_1002 ezi_1002 => ?_)
                have la_1003 : zi_1002.toInt = zA (zI_970 (zR zy 0)) (278 + 6 * zi_850.toInt + zi_969.toInt) := (congrArg Int32.toInt (show zI_970 (zR zy 0) zi_1001.toNatClampNeg = zi_1002 from ezi_1002.symm).symm).trans (congrArg (zA (zI_970 (zR zy 0))) (show zi_1001.toInt = 278 + 6 * zi_850.toInt + zi_969.toInt from by omega))
                refine ht_iast (v := zi_1002) (n := 392) (q := 0) hx hb hK hP hD hS hs t_952 (by decide) rfl rfl ⟨by omega, by omega⟩ dX11_dropDates_85 (fun H locs hP hD hS => ?_)
                have h_zI_1004 : WM [10000] AL zT zR zI (u2 zI_970 (zR zy 0) zi_996.toNatClampNeg zi_1002) := h_zI_970.putA hs t_952 rfl (rgF _) (by decide) (fun h => absurd h (by decide)) (by decide) trivial
                generalize uzI_1004 : u2 zI_970 (zR zy 0) zi_996.toNatClampNeg zi_1002 = zI_1004 at hP hD h_zI_1004
                have fq_zI_1004 : FQ (zI (zR zy 0)) (zI_1004 (zR zy 0)) := by rw [← uzI_1004, u2_r]; exact FQ.up e_lp_987_1 (by omega) (by omega)
                obtain ⟨zi_1005, ezi_1005⟩ : ∃ y : Int32, y = zi_969 + 1 := ⟨_, rfl⟩
                have tzi_1005 : zi_1005.toInt = zi_969.toInt + 1 := by rw [ezi_1005]; exact tadd rfl (show (1 : Int32).toInt = 1 by decide) (by omega) (by omega)
                refine lv_iinc (v := zi_1005) (lv' := [(5, .int zi_1005), (0, .ref zy), (1, .int zia), (2, .int zib), (3, .int zi_849), (4, .int zi_850)]) hx hb dX11_dropDates_86 hl (k := 5) rfl (by rw [ezi_1005]; rfl) (by decide) rfl (fun ls hl => ?_)
                refine lv_goto (tgt := 52) hx hb dX11_dropDates_89 (by decide) ?_
                exact ih_987 (6 - zi_1005.toInt).toNat (by omega) zi_1005 zI_1004 _ _ _ rfl (by omega) h_zI_1004 (by rw [← uzI_1004, u2_r]; exact DD.s (d := zi_850.toInt) (k := zi_969.toInt) e_lp_987_0 (by omega) (by omega) (by omega) (by omega) (la_1003.trans (congrArg (zA (zI_970 (zR zy 0))) (by omega))) (by omega)) fq_zI_1004 hP hD hS (lv_sub hl [1, 2, 3, 4, 5, 0] rfl)
          have qc_0 : (0 : Int32).toInt = 0 := by decide
          exact lp_987 _ (0 : Int32) zI_851 _ _ _ rfl (by decide) h_zI_851 (show DD (zI (zR zy 0)) (zI_851 (zR zy 0)) zia.toInt zib.toInt zi_849.toInt zi_850.toInt (0 : Int32).toInt from e_lp_950_0) e_lp_950_2 hP hD hS (lv_sub hl [1, 2, 3, 4, 5, 0] rfl)
        · have f_968 : ¬ (zi_965.toInt ≠ zia.toInt) := ic_nne (rfl) (rfl) c_967
          refine lv_aload_n hx hb dX11_dropDates_32 rfl (lv_at hl 0 rfl) ?_
          refine ht_getr (C := RX11) (T := TX11) (N := 28) hx hb hts (by decide +kernel) hown hK hP hs t_zy (by decide) rfl rfl 0 (by decide) (hts (.fieldLink RX11 7 "DripStoneModel" "z" "[I") (by decide +kernel)) (fun _ h9 => h9) rfl dX11_dropDates_33 ?_
          refine lv_aload_n hx hb dX11_dropDates_36 rfl (lv_at hl 0 rfl) ?_
          refine lv_iload hx hb dX11_dropDates_37 (lv_at hl 4 rfl) ?_
          refine hj_i (ws := (WL cy zL zT zR zI_851 zJ)) (w1 := fun (u : Unit) => (WL cy zL zT zR zI_851 zJ)) (va_runV (As := [.int zi_850]) (rest := [.ref (zR zy 0)]) ⟨hx, hb, hml, hown, hts⟩ (t_X11_dateAt l dC dI cy H.size zL zT zR zI_851 zJ zy zi_850 hs h_zI_851.1 t_zy (by omega)) (cwV 1 hts gX11_dropDates_X11_dateAt rfl rfl rfl (by decide +kernel) ⟨(Nat.le_of_ble_eq_true rfl), (Nat.le_of_ble_eq_true rfl)⟩) (PRE.v hP hK hD hN (ht_recv hK hP hs t_zy (by decide) rfl rfl)) rfl rfl hl.1 rfl (lv_room (Nat.le_of_ble_eq_true rfl)) dX11_dropDates_39 ⟨(Nat.le_of_ble_eq_true rfl), (Nat.le_of_ble_eq_true rfl)⟩) hP hD hS hA (fun zi_1006 u_1008 H locs hw_1007 hP hD hS => ?_)
          obtain ⟨b_zi_1006, ps_1009⟩ : (278 ≤ zi_1006.toInt ∧ zi_1006.toInt ≤ 326) ∧ (zi_1006.toInt = 278 + 6 * zi_850.toInt) := hw_1007
          refine lv_iconst (v := 1) hx hb dX11_dropDates_42 (by decide) ?_
          refine lv_iadd hx hb dX11_dropDates_43 ?_
          refine lv_topi (fun zi_1010 ezi_1010 => ?_)
          have tzi_1010 : zi_1010.toInt = zi_1006.toInt + (1 : Int) := by rw [ezi_1010]; exact tiadd (rfl) (show (1 : Int32).toInt = 1 by decide) (by omega) (by omega)
          refine ht_iald (n := 392) (q := 0) hx hb hK hP hs t_952 (by decide) rfl rfl ⟨by omega, by omega⟩ dX11_dropDates_44 ?_
          refine lv_topi (fun zi_1011 ezi_1011 => ?_)
          have la_1012 : zi_1011.toInt = zA (zI_851 (zR zy 0)) (279 + 6 * zi_850.toInt) := (congrArg Int32.toInt (show zI_851 (zR zy 0) zi_1010.toNatClampNeg = zi_1011 from ezi_1011.symm).symm).trans (congrArg (zA (zI_851 (zR zy 0))) (show zi_1010.toInt = 279 + 6 * zi_850.toInt from by omega))
          refine lv_iload_n hx hb dX11_dropDates_45 rfl (lv_at hl 2 rfl) ?_
          refine lv_icmp_ge (tgt := 95) hx hb dX11_dropDates_46 (by decide) (fun c_1013 => ?_) (fun c_1013 => ?_)
          · have f_1014 : zi_1011.toInt ≥ zib.toInt := ic_ge (rfl) (rfl) c_1013
            obtain ⟨zi_1015, ezi_1015⟩ : ∃ y : Int32, y = zi_850 + 1 := ⟨_, rfl⟩
            have tzi_1015 : zi_1015.toInt = zi_850.toInt + 1 := by rw [ezi_1015]; exact tadd rfl (show (1 : Int32).toInt = 1 by decide) (by omega) (by omega)
            refine lv_iinc (v := zi_1015) (lv' := [(4, .int zi_1015), (0, .ref zy), (1, .int zia), (2, .int zib), (3, .int zi_849)]) hx hb dX11_dropDates_95 hl (k := 4) rfl (by rw [ezi_1015]; rfl) (by decide) rfl (fun ls hl => ?_)
            refine lv_goto (tgt := 5) hx hb dX11_dropDates_98 (by decide) ?_
            exact ih_950 (8 - zi_1015.toInt).toNat (by omega) zi_849 zi_1015 zI_851 _ _ _ rfl (by omega) (by omega) h_zI_851 (DD.g e_lp_950_0 (by omega)) (by omega) e_lp_950_2 hP hD hS (lv_sub hl [1, 2, 3, 4, 0] rfl)
          · have f_1014 : ¬ (zi_1011.toInt ≥ zib.toInt) := ic_nge (rfl) (rfl) c_1013
            refine lv_iconst (v := 0) hx hb dX11_dropDates_49 (by decide) ?_
            refine lv_istore (lv' := [(5, .int 0), (0, .ref zy), (1, .int zia), (2, .int zib), (3, .int zi_849), (4, .int zi_850)]) hx hb dX11_dropDates_50 hl (by decide) rfl (fun ls hl => ?_)
            have lp_1034 : ∀ (n : Nat) (zi_1016 : Int32) (zI_1017 : Nat → Nat → Int32) (H : Heap) (locs : List Loc) (ls : Array Slot), (6 - zi_1016.toInt).toNat = n → (0 ≤ zi_1016.toInt ∧ zi_1016.toInt ≤ 6) → (WM [10000] AL zT zR zI zI_1017) → (DD (zI (zR zy 0)) (zI_1017 (zR zy 0)) zia.toInt zib.toInt zi_849.toInt zi_850.toInt zi_1016.toInt) → (FQ (zI (zR zy 0)) (zI_1017 (zR zy 0))) → va_P (dC, dI) vwCl (WL cy zL zT zR zI_1017 zJ) H → va_D A (WL cy zL zT zR zI_1017 zJ) → va_S A s.heap H locs → lv_has ls 6 [(0, .ref zy), (1, .int zia), (2, .int zib), (3, .int zi_849), (4, .int zi_850), (5, .int zi_1016)] → W p l e ({ frames := 1, cells := 0, slots := 0, locals := 21 } : Room) s m ([.ref zy, .int zia, .int zib] : List Value).toArray below meth c H locs 0 0 Q (F0 m 52 ls []) := by
              intro n
              induction n using Nat.strongRecOn with
              | _ n ih_1034 =>
                intro zi_1016 zI_1017 H locs ls hn b_zi_1016 h_zI_1017 e_lp_1034_0 e_lp_1034_1 hP hD hS hl
                refine lv_iload hx hb dX11_dropDates_52 (lv_at hl 5 rfl) ?_
                refine lv_bipush (v := 6) hx hb dX11_dropDates_54 (by decide) ?_
                refine lv_icmp_ge (tgt := 92) hx hb dX11_dropDates_56 (by decide) (fun c_1035 => ?_) (fun c_1035 => ?_)
                · have f_1036 : zi_1016.toInt ≥ (6 : Int) := ic_ge (rfl) (show (6 : Int32).toInt = 6 by decide) c_1035
                  obtain ⟨zi_1037, ezi_1037⟩ : ∃ y : Int32, y = zi_849 + 1 := ⟨_, rfl⟩
                  have tzi_1037 : zi_1037.toInt = zi_849.toInt + 1 := by rw [ezi_1037]; exact tadd rfl (show (1 : Int32).toInt = 1 by decide) (by omega) (by omega)
                  refine lv_iinc (v := zi_1037) (lv' := [(3, .int zi_1037), (0, .ref zy), (1, .int zia), (2, .int zib), (4, .int zi_850), (5, .int zi_1016)]) hx hb dX11_dropDates_92 hl (k := 3) rfl (by rw [ezi_1037]; rfl) (by decide) rfl (fun ls hl => ?_)
                  obtain ⟨zi_1038, ezi_1038⟩ : ∃ y : Int32, y = zi_850 + 1 := ⟨_, rfl⟩
                  have tzi_1038 : zi_1038.toInt = zi_850.toInt + 1 := by rw [ezi_1038]; exact tadd rfl (show (1 : Int32).toInt = 1 by decide) (by omega) (by omega)
                  refine lv_iinc (v := zi_1038) (lv' := [(4, .int zi_1038), (3, .int zi_1037), (0, .ref zy), (1, .int zia), (2, .int zib), (5, .int zi_1016)]) hx hb dX11_dropDates_95 hl (k := 4) rfl (by rw [ezi_1038]; rfl) (by decide) rfl (fun ls hl => ?_)
                  refine lv_goto (tgt := 5) hx hb dX11_dropDates_98 (by decide) ?_
                  exact ih_950 (8 - zi_1038.toInt).toNat (by omega) zi_1037 zi_1038 zI_1017 _ _ _ rfl (by omega) (by omega) h_zI_1017 (DD.k e_lp_1034_0 (by omega) (by omega) (by omega) (fun h9 => by omega) (by omega) (by omega)) (by omega) e_lp_1034_1 hP hD hS (lv_sub hl [2, 3, 4, 1, 0] rfl)
                · have f_1036 : ¬ (zi_1016.toInt ≥ (6 : Int)) := ic_nge (rfl) (show (6 : Int32).toInt = 6 by decide) c_1035
                  refine lv_aload_n hx hb dX11_dropDates_59 rfl (lv_at hl 0 rfl) ?_
                  refine ht_getr (C := RX11) (T := TX11) (N := 28) hx hb hts (by decide +kernel) hown hK hP hs t_zy (by decide) rfl rfl 0 (by decide) (hts (.fieldLink RX11 7 "DripStoneModel" "z" "[I") (by decide +kernel)) (fun _ h9 => h9) rfl dX11_dropDates_60 ?_
                  refine lv_aload_n hx hb dX11_dropDates_63 rfl (lv_at hl 0 rfl) ?_
                  refine lv_iload_n hx hb dX11_dropDates_64 rfl (lv_at hl 3 rfl) ?_
                  refine hj_i (ws := (WL cy zL zT zR zI_1017 zJ)) (w1 := fun (u : Unit) => (WL cy zL zT zR zI_1017 zJ)) (va_runV (As := [.int zi_849]) (rest := [.ref (zR zy 0)]) ⟨hx, hb, hml, hown, hts⟩ (t_X11_dateAt l dC dI cy H.size zL zT zR zI_1017 zJ zy zi_849 hs h_zI_1017.1 t_zy (by omega)) (cwV 1 hts gX11_dropDates_X11_dateAt rfl rfl rfl (by decide +kernel) ⟨(Nat.le_of_ble_eq_true rfl), (Nat.le_of_ble_eq_true rfl)⟩) (PRE.v hP hK hD hN (ht_recv hK hP hs t_zy (by decide) rfl rfl)) rfl rfl hl.1 rfl (lv_room (Nat.le_of_ble_eq_true rfl)) dX11_dropDates_65 ⟨(Nat.le_of_ble_eq_true rfl), (Nat.le_of_ble_eq_true rfl)⟩) hP hD hS hA (fun zi_1039 u_1041 H locs hw_1040 hP hD hS => ?_)
                  obtain ⟨b_zi_1039, ps_1042⟩ : (278 ≤ zi_1039.toInt ∧ zi_1039.toInt ≤ 326) ∧ (zi_1039.toInt = 278 + 6 * zi_849.toInt) := hw_1040
                  refine lv_iload hx hb dX11_dropDates_68 (lv_at hl 5 rfl) ?_
                  refine lv_iadd hx hb dX11_dropDates_70 ?_
                  refine lv_topi (fun zi_1043 ezi_1043 => ?_)
                  have tzi_1043 : zi_1043.toInt = zi_1039.toInt + zi_1016.toInt := by rw [ezi_1043]; exact tiadd (rfl) (rfl) (by omega) (by omega)
                  refine lv_aload_n hx hb dX11_dropDates_71 rfl (lv_at hl 0 rfl) ?_
                  refine ht_getr (C := RX11) (T := TX11) (N := 28) hx hb hts (by decide +kernel) hown hK hP hs t_zy (by decide) rfl rfl 0 (by decide) (hts (.fieldLink RX11 7 "DripStoneModel" "z" "[I") (by decide +kernel)) (fun _ h9 => h9) rfl dX11_dropDates_72 ?_
                  refine lv_aload_n hx hb dX11_dropDates_75 rfl (lv_at hl 0 rfl) ?_
                  refine lv_iload hx hb dX11_dropDates_76 (lv_at hl 4 rfl) ?_
                  refine hj_i (ws := (WL cy zL zT zR zI_1017 zJ)) (w1 := fun (u : Unit) => (WL cy zL zT zR zI_1017 zJ)) (va_runV (As := [.int zi_850]) (rest := [.ref (zR zy 0), .int zi_1043, .ref (zR zy 0)]) ⟨hx, hb, hml, hown, hts⟩ (t_X11_dateAt l dC dI cy H.size zL zT zR zI_1017 zJ zy zi_850 hs h_zI_1017.1 t_zy (by omega)) (cwV 1 hts gX11_dropDates_X11_dateAt rfl rfl rfl (by decide +kernel) ⟨(Nat.le_of_ble_eq_true rfl), (Nat.le_of_ble_eq_true rfl)⟩) (PRE.v hP hK hD hN (ht_recv hK hP hs t_zy (by decide) rfl rfl)) rfl rfl hl.1 rfl (lv_room (Nat.le_of_ble_eq_true rfl)) dX11_dropDates_78 ⟨(Nat.le_of_ble_eq_true rfl), (Nat.le_of_ble_eq_true rfl)⟩) hP hD hS hA (fun zi_1044 u_1046 H locs hw_1045 hP hD hS => ?_)
                  obtain ⟨b_zi_1044, ps_1047⟩ : (278 ≤ zi_1044.toInt ∧ zi_1044.toInt ≤ 326) ∧ (zi_1044.toInt = 278 + 6 * zi_850.toInt) := hw_1045
                  refine lv_iload hx hb dX11_dropDates_81 (lv_at hl 5 rfl) ?_
                  refine lv_iadd hx hb dX11_dropDates_83 ?_
                  refine lv_topi (fun zi_1048 ezi_1048 => ?_)
                  have tzi_1048 : zi_1048.toInt = zi_1044.toInt + zi_1016.toInt := by rw [ezi_1048]; exact tiadd (rfl) (rfl) (by omega) (by omega)
                  refine ht_iald (n := 392) (q := 0) hx hb hK hP hs t_952 (by decide) rfl rfl ⟨by omega, by omega⟩ dX11_dropDates_84 ?_
                  refine lv_topi (fun zi_1049 ezi_1049 => ?_)
                  have la_1050 : zi_1049.toInt = zA (zI_1017 (zR zy 0)) (278 + zi_1016.toInt + 6 * zi_850.toInt) := (congrArg Int32.toInt (show zI_1017 (zR zy 0) zi_1048.toNatClampNeg = zi_1049 from ezi_1049.symm).symm).trans (congrArg (zA (zI_1017 (zR zy 0))) (show zi_1048.toInt = 278 + zi_1016.toInt + 6 * zi_850.toInt from by omega))
                  refine ht_iast (v := zi_1049) (n := 392) (q := 0) hx hb hK hP hD hS hs t_952 (by decide) rfl rfl ⟨by omega, by omega⟩ dX11_dropDates_85 (fun H locs hP hD hS => ?_)
                  have h_zI_1051 : WM [10000] AL zT zR zI (u2 zI_1017 (zR zy 0) zi_1043.toNatClampNeg zi_1049) := h_zI_1017.putA hs t_952 rfl (rgF _) (by decide) (fun h => absurd h (by decide)) (by decide) trivial
                  generalize uzI_1051 : u2 zI_1017 (zR zy 0) zi_1043.toNatClampNeg zi_1049 = zI_1051 at hP hD h_zI_1051
                  have fq_zI_1051 : FQ (zI (zR zy 0)) (zI_1051 (zR zy 0)) := by rw [← uzI_1051, u2_r]; exact FQ.up e_lp_1034_1 (by omega) (by omega)
                  obtain ⟨zi_1052, ezi_1052⟩ : ∃ y : Int32, y = zi_1016 + 1 := ⟨_, rfl⟩
                  have tzi_1052 : zi_1052.toInt = zi_1016.toInt + 1 := by rw [ezi_1052]; exact tadd rfl (show (1 : Int32).toInt = 1 by decide) (by omega) (by omega)
                  refine lv_iinc (v := zi_1052) (lv' := [(5, .int zi_1052), (0, .ref zy), (1, .int zia), (2, .int zib), (3, .int zi_849), (4, .int zi_850)]) hx hb dX11_dropDates_86 hl (k := 5) rfl (by rw [ezi_1052]; rfl) (by decide) rfl (fun ls hl => ?_)
                  refine lv_goto (tgt := 52) hx hb dX11_dropDates_89 (by decide) ?_
                  exact ih_1034 (6 - zi_1052.toInt).toNat (by omega) zi_1052 zI_1051 _ _ _ rfl (by omega) h_zI_1051 (by rw [← uzI_1051, u2_r]; exact DD.s (d := zi_850.toInt) (k := zi_1016.toInt) e_lp_1034_0 (by omega) (by omega) (by omega) (by omega) (la_1050.trans (congrArg (zA (zI_1017 (zR zy 0))) (by omega))) (by omega)) fq_zI_1051 hP hD hS (lv_sub hl [1, 2, 3, 4, 5, 0] rfl)
            have qc_0 : (0 : Int32).toInt = 0 := by decide
            exact lp_1034 _ (0 : Int32) zI_851 _ _ _ rfl (by decide) h_zI_851 (show DD (zI (zR zy 0)) (zI_851 (zR zy 0)) zia.toInt zib.toInt zi_849.toInt zi_850.toInt (0 : Int32).toInt from e_lp_950_0) e_lp_950_2 hP hD hS (lv_sub hl [1, 2, 3, 4, 5, 0] rfl)
  have qc_0 : (0 : Int32).toInt = 0 := by decide
  exact lp_950 _ (0 : Int32) (0 : Int32) zI _ _ _ rfl (by decide) (by decide) h_zI DD.z (by omega) FQ.rf hP hD hS (lv_sub hl [2, 3, 4, 1, 0] rfl)
set_option maxHeartbeats 8000000 in
set_option maxRecDepth 100000 in
theorem t_X11_cut (l : Launch) (dC : Nat → ClassId) (dI : Nat → Nat → Nat) (cy : Nat → ClassId) (sz : Nat) (zL : List Nat) (zT : Nat → Nat) (zR : Nat → Nat → Nat) (zI : Nat → Nat → Int32) (zJ : Nat → Nat → Int64) (zy : Nat) (zia : Int32) (zib : Int32) (hs : SKP zL zT zR) (hw : WT zT zR zI) (t_zy : zT zy = 18) (hz : ZI (zI (zR zy 0))) : Met l yX11_cut wsX11_cut ({ frames := 2, cells := 0, slots := 0, locals := 47 } : Room) (va_Pc [.ref zy, .int zia, .int zib] (PRE dC dI cy (WL cy zL zT zR zI zJ) sz)) (va_Qi (fun (r : Int32) (u : (Nat → Nat → Int32)) => (WM [10000] AL zT zR zI u) ∧ ((-1) ≤ r.toInt ∧ r.toInt ≤ 11) ∧ (FQ (zI (zR zy 0)) (u (zR zy 0))) ∧ (ZI (u (zR zy 0)))) (fun u t => POST dC dI cy (va_A (WL cy zL zT zR zI zJ) sz) (WL cy zL zT zR u zJ) t) (va_A (WL cy zL zT zR zI zJ) sz)) 0 0 (va_A (WL cy zL zT zR zI zJ) sz) := by
  refine Met.ofW (cc := cX11_cut) (maxL := 3) (ret := (some .int)) (by decide) rfl ?_
  intro p e s m args below meth c s₁ B hml hv
  obtain ⟨rfl, hsz, hP, hK, hD0, hN⟩ := hv
  have hx := B.exec
  have hb := B.bytes
  have hr := B.returns
  have hts := atoms_spec (ws := wsX11_cut) B.pre
  have hown : s.vm.findClass RX11 = some m.cls := findClass_of_methodNamed B.named
  have hlocks := B.notSynchronized
  subst hsz
  have hD := hD0.self (sz := s.heap.size)
  generalize hAe : va_A (WL cy zL zT zR zI zJ) s.heap.size = A at hD ⊢
  have hA : ∀ q : Nat, s.heap.size ≤ q → A q := fun q h => by rw [← hAe]; exact Or.inr h
  have hS : va_S A s.heap s.heap [] := va_S.rf
  have hP : va_P (dC, dI) vwCl (WL cy zL zT zR zI zJ) s.heap := hP
  have hl := lv_entry ([.ref zy, .int zia, .int zib] : List Value) (n := 3) (Nat.le_of_ble_eq_true rfl)
  rw [lg_entry_eq]
  generalize (lg_sl ([.ref zy, .int zia, .int zib] : List Value) ++ List.replicate (3 - (lg_sl ([.ref zy, .int zia, .int zib] : List Value)).length) Slot.unset).toArray = ls at hl ⊢
  have hl : lv_has ls 3 [(0, .ref zy), (1, .int zia), (2, .int zib)] := hl
  refine w_q (fun Q hQ => ?_)
  have h_zI : WM [10000] AL zT zR zI zI := WM.rf hw
  refine lv_iload_n hx hb dX11_cut_0 rfl (lv_at hl 1 rfl) ?_
  refine hj0_i (ws := (WL cy zL zT zR zI zJ)) (va_runS (As := [.int zia]) (rest := []) ⟨hx, hb, hml, hown, hts⟩ (c_X11_isCandle l dC dI cy s.heap.size zia) (va_cwS 1 hts gX11_cut_X11_isCandle rfl rfl rfl (by decide +kernel) ⟨(Nat.le_of_ble_eq_true rfl), (Nat.le_of_ble_eq_true rfl)⟩) (PRE.s (hP.sub [] rfl) hK (hD.sub [] (by decide) rfl) hN) rfl rfl hl.1 rfl (lv_room (Nat.le_of_ble_eq_true rfl)) dX11_cut_1 ⟨(Nat.le_of_ble_eq_true rfl), (Nat.le_of_ble_eq_true rfl)⟩) hP hD hS hA (fun zi_1 u_3 H locs hw_2 hP hD hS => ?_)
  have hw_2 : zi_1 = if 0 ≤ zia.toInt ∧ zia.toInt ≤ 1 then 1 else 0 := hw_2
  have b_zi_1 : 0 ≤ zi_1.toInt ∧ zi_1.toInt ≤ 1 := bz_b hw_2
  refine lv_if_eq (tgt := 16) hx hb dX11_cut_4 (by decide) (fun c_4 => ?_) (fun c_4 => ?_)
  · have f_5 : ¬ (0 ≤ zia.toInt ∧ zia.toInt ≤ 1) := bz_0 hw_2 c_4
    refine lv_iconst (v := (-1)) hx hb dX11_cut_16 (by decide) ?_
    subst hQ
    have qc_m1 : (-1 : Int32).toInt = -1 := by decide
    exact W.iret (v := (-1 : Int32)) hx hb hr (fun t ht hW => ⟨⟨(-1 : Int32), zI, rfl, ⟨h_zI, (show (-1) ≤ (-1 : Int32).toInt ∧ (-1 : Int32).toInt ≤ 11 from by omega), (show FQ (zI (zR zy 0)) (zI (zR zy 0)) from FQ.rf), (show ZI (zI (zR zy 0)) from hz)⟩, ⟨by rw [ht]; exact hP, va_K.moved hW.alike hK, hD⟩⟩, hS.F ht⟩) hS.2.2 dX11_cut_17
  · have f_5 : 0 ≤ zia.toInt ∧ zia.toInt ≤ 1 := bz_1 hw_2 c_4
    refine lv_aload_n hx hb dX11_cut_7 rfl (lv_at hl 0 rfl) ?_
    refine lv_iload_n hx hb dX11_cut_8 rfl (lv_at hl 1 rfl) ?_
    refine lv_iload_n hx hb dX11_cut_9 rfl (lv_at hl 2 rfl) ?_
    refine hj_i (ws := (WL cy zL zT zR zI zJ)) (w1 := fun (u : Unit) => (WL cy zL zT zR zI zJ)) (va_runV (As := [.int zia, .int zib]) (rest := []) ⟨hx, hb, hml, hown, hts⟩ (t_X11_isThing l dC dI cy H.size zL zT zR zI zJ zy zia zib hs h_zI.1 t_zy (by omega) hz) (cwV 2 hts gX11_cut_X11_isThing rfl rfl rfl (by decide +kernel) ⟨(Nat.le_of_ble_eq_true rfl), (Nat.le_of_ble_eq_true rfl)⟩) (PRE.v hP hK hD hN (ht_recv hK hP hs t_zy (by decide) rfl rfl)) rfl rfl hl.1 rfl (lv_room (Nat.le_of_ble_eq_true rfl)) dX11_cut_10 ⟨(Nat.le_of_ble_eq_true rfl), (Nat.le_of_ble_eq_true rfl)⟩) hP hD hS hA (fun zi_6 u_8 H locs hw_7 hP hD hS => ?_)
    obtain ⟨b_zi_6, ps_9, ps_10⟩ : (0 ≤ zi_6.toInt ∧ zi_6.toInt ≤ 1) ∧ (zi_6.toInt = 0 ∨ (0 ≤ zib.toInt ∧ zib.toInt ≤ 11)) ∧ (zi_6.toInt = 0 ∨ zib.toInt < zA (zI (zR zy 0)) (5 + zia.toInt)) := hw_7
    refine lv_if_ne (tgt := 18) hx hb dX11_cut_13 (by decide) (fun c_11 => ?_) (fun c_11 => ?_)
    · have f_12 : zi_6.toInt ≠ 0 := ic_ne (rfl) (by decide) c_11
      have b9_zib : 0 ≤ zib.toInt ∧ zib.toInt ≤ 11 := by omega
      refine lv_aload_n hx hb dX11_cut_18 rfl (lv_at hl 0 rfl) ?_
      refine lv_iload_n hx hb dX11_cut_19 rfl (lv_at hl 1 rfl) ?_
      refine lv_iload_n hx hb dX11_cut_20 rfl (lv_at hl 2 rfl) ?_
      refine hj_v (ws := (WL cy zL zT zR zI zJ)) (w1 := fun (u : (Nat → Nat → Int32)) => (WL cy zL zT zR u zJ)) (va_runV (As := [.int zia, .int zib]) (rest := []) ⟨hx, hb, hml, hown, hts⟩ (t_X11_dropStretches l dC dI cy H.size zL zT zR zI zJ zy zia zib hs h_zI.1 t_zy (by omega) hz) (cwV 2 hts gX11_cut_X11_dropStretches rfl rfl rfl (by decide +kernel) ⟨(Nat.le_of_ble_eq_true rfl), (Nat.le_of_ble_eq_true rfl)⟩) (PRE.v hP hK hD hN (ht_recv hK hP hs t_zy (by decide) rfl rfl)) rfl rfl hl.1 rfl (lv_room (Nat.le_of_ble_eq_true rfl)) dX11_cut_21 ⟨(Nat.le_of_ble_eq_true rfl), (Nat.le_of_ble_eq_true rfl)⟩) hP hD hS hA (fun zI_16 H locs hw_14 hP hD hS => ?_)
      obtain ⟨k_zI_16, ps_17, ps_18⟩ : (WM [10000] AL zT zR zI zI_16) ∧ (FQ (zI (zR zy 0)) (zI_16 (zR zy 0))) ∧ (ZI (zI_16 (zR zy 0))) := hw_14
      have h_zI_16 : WM [10000] AL zT zR zI zI_16 := h_zI.tr k_zI_16 (by decide) (fun _ _ => trivial)
      have fq_zI_16 : FQ (zI (zR zy 0)) (zI_16 (zR zy 0)) := FQ.tr FQ.rf ps_17
      refine lv_aload_n hx hb dX11_cut_24 rfl (lv_at hl 0 rfl) ?_
      refine lv_iload_n hx hb dX11_cut_25 rfl (lv_at hl 1 rfl) ?_
      refine lv_iload_n hx hb dX11_cut_26 rfl (lv_at hl 2 rfl) ?_
      refine hj_v (ws := (WL cy zL zT zR zI_16 zJ)) (w1 := fun (u : (Nat → Nat → Int32)) => (WL cy zL zT zR u zJ)) (va_runV (As := [.int zia, .int zib]) (rest := []) ⟨hx, hb, hml, hown, hts⟩ (t_X11_dropDates l dC dI cy H.size zL zT zR zI_16 zJ zy zia zib hs h_zI_16.1 t_zy (by omega) ps_18) (cwV 2 hts gX11_cut_X11_dropDates rfl rfl rfl (by decide +kernel) ⟨(Nat.le_of_ble_eq_true rfl), (Nat.le_of_ble_eq_true rfl)⟩) (PRE.v hP hK hD hN (ht_recv hK hP hs t_zy (by decide) rfl rfl)) rfl rfl hl.1 rfl (lv_room (Nat.le_of_ble_eq_true rfl)) dX11_cut_27 ⟨(Nat.le_of_ble_eq_true rfl), (Nat.le_of_ble_eq_true rfl)⟩) hP hD hS hA (fun zI_22 H locs hw_20 hP hD hS => ?_)
      obtain ⟨k_zI_22, ps_23, ps_24, ps_25⟩ : (WM [10000] AL zT zR zI_16 zI_22) ∧ (ZI (zI_22 (zR zy 0))) ∧ (DR (zI_22 (zR zy 0)) zia.toInt zib.toInt) ∧ (FQ (zI_16 (zR zy 0)) (zI_22 (zR zy 0))) := hw_20
      have h_zI_22 : WM [10000] AL zT zR zI zI_22 := h_zI_16.tr k_zI_22 (by decide) (fun _ _ => trivial)
      have fq_zI_22 : FQ (zI (zR zy 0)) (zI_22 (zR zy 0)) := FQ.tr fq_zI_16 ps_25
      refine lv_aload_n hx hb dX11_cut_30 rfl (lv_at hl 0 rfl) ?_
      refine ht_getr (C := RX11) (T := TX11) (N := 28) hx hb hts (by decide +kernel) hown hK hP hs t_zy (by decide) rfl rfl 0 (by decide) (hts (.fieldLink RX11 7 "DripStoneModel" "z" "[I") (by decide +kernel)) (fun _ h9 => h9) rfl dX11_cut_31 ?_
      have t_26 : zT (zR zy 0) = 100 := sk_f hs t_zy (by decide) rfl (by decide)
      refine lv_iconst (v := 5) hx hb dX11_cut_34 (by decide) ?_
      refine lv_iload_n hx hb dX11_cut_35 rfl (lv_at hl 1 rfl) ?_
      refine lv_iadd hx hb dX11_cut_36 ?_
      refine lv_topi (fun zi_27 ezi_27 => ?_)
      have tzi_27 : zi_27.toInt = (5 : Int) + zia.toInt := by rw [ezi_27]; exact tiadd (show (5 : Int32).toInt = 5 by decide) (rfl) (by omega) (by omega)
      refine lv_iload_n hx hb dX11_cut_37 rfl (lv_at hl 2 rfl) ?_
      refine ht_iast (v := zib) (n := 392) (q := 0) hx hb hK hP hD hS hs t_26 (by decide) rfl rfl ⟨by omega, by omega⟩ dX11_cut_38 (fun H locs hP hD hS => ?_)
      have h_zI_28 : WM [10000] AL zT zR zI (u2 zI_22 (zR zy 0) zi_27.toNatClampNeg zib) := h_zI_22.putA hs t_26 rfl (rgF _) (by decide) (fun h => absurd h (by decide)) (by decide) trivial
      generalize uzI_28 : u2 zI_22 (zR zy 0) zi_27.toNatClampNeg zib = zI_28 at hP hD h_zI_28
      have z_zI_28 : ZI (zI_28 (zR zy 0)) := by rw [← uzI_28, u2_r]; exact ZI.sz ps_23 (c := zia.toInt) (by omega) (by omega) (by omega) (fun d d0 d1 hd => ps_24 d d0 d1 hd)
      have fq_zI_28 : FQ (zI (zR zy 0)) (zI_28 (zR zy 0)) := by rw [← uzI_28, u2_r]; exact FQ.up fq_zI_22 (by omega) (by omega)
      refine lv_aload_n hx hb dX11_cut_39 rfl (lv_at hl 0 rfl) ?_
      refine ht_getr (C := RX11) (T := TX11) (N := 28) hx hb hts (by decide +kernel) hown hK hP hs t_zy (by decide) rfl rfl 0 (by decide) (hts (.fieldLink RX11 7 "DripStoneModel" "z" "[I") (by decide +kernel)) (fun _ h9 => h9) rfl dX11_cut_40 ?_
      refine lv_bipush (v := 7) hx hb dX11_cut_43 (by decide) ?_
      refine lv_iload_n hx hb dX11_cut_45 rfl (lv_at hl 1 rfl) ?_
      refine lv_iadd hx hb dX11_cut_46 ?_
      refine lv_topi (fun zi_29 ezi_29 => ?_)
      have tzi_29 : zi_29.toInt = (7 : Int) + zia.toInt := by rw [ezi_29]; exact tiadd (show (7 : Int32).toInt = 7 by decide) (rfl) (by omega) (by omega)
      refine lv_iconst (v := 0) hx hb dX11_cut_47 (by decide) ?_
      refine ht_iast (v := (0 : Int32)) (n := 392) (q := 0) hx hb hK hP hD hS hs t_26 (by decide) rfl rfl ⟨by omega, by omega⟩ dX11_cut_48 (fun H locs hP hD hS => ?_)
      have h_zI_30 : WM [10000] AL zT zR zI (u2 zI_28 (zR zy 0) zi_29.toNatClampNeg (0 : Int32)) := h_zI_28.putA hs t_26 rfl (rgF _) (by decide) (fun h => absurd h (by decide)) (by decide) trivial
      generalize uzI_30 : u2 zI_28 (zR zy 0) zi_29.toNatClampNeg (0 : Int32) = zI_30 at hP hD h_zI_30
      have z_zI_30 : ZI (zI_30 (zR zy 0)) := by rw [← uzI_30, u2_r]; exact ZI.fr z_zI_28 (by omega)
      have fq_zI_30 : FQ (zI (zR zy 0)) (zI_30 (zR zy 0)) := by rw [← uzI_30, u2_r]; exact FQ.up fq_zI_28 (by omega) (by omega)
      refine lv_iload_n hx hb dX11_cut_49 rfl (lv_at hl 2 rfl) ?_
      subst hQ
      exact W.iret (v := zib) hx hb hr (fun t ht hW => ⟨⟨zib, zI_30, rfl, ⟨h_zI_30, (show (-1) ≤ zib.toInt ∧ zib.toInt ≤ 11 from by omega), (show FQ (zI (zR zy 0)) (zI_30 (zR zy 0)) from fq_zI_30), (show ZI (zI_30 (zR zy 0)) from z_zI_30)⟩, ⟨by rw [ht]; exact hP, va_K.moved hW.alike hK, hD⟩⟩, hS.F ht⟩) hS.2.2 dX11_cut_50
    · have f_12 : ¬ (zi_6.toInt ≠ 0) := ic_nne (rfl) (by decide) c_11
      refine lv_iconst (v := (-1)) hx hb dX11_cut_16 (by decide) ?_
      subst hQ
      have qc_m1 : (-1 : Int32).toInt = -1 := by decide
      exact W.iret (v := (-1 : Int32)) hx hb hr (fun t ht hW => ⟨⟨(-1 : Int32), zI, rfl, ⟨h_zI, (show (-1) ≤ (-1 : Int32).toInt ∧ (-1 : Int32).toInt ≤ 11 from by omega), (show FQ (zI (zR zy 0)) (zI (zR zy 0)) from FQ.rf), (show ZI (zI (zR zy 0)) from hz)⟩, ⟨by rw [ht]; exact hP, va_K.moved hW.alike hK, hD⟩⟩, hS.F ht⟩) hS.2.2 dX11_cut_17
set_option maxHeartbeats 8000000 in
set_option maxRecDepth 100000 in
theorem t_X11_make (l : Launch) (dC : Nat → ClassId) (dI : Nat → Nat → Nat) (cy : Nat → ClassId) (sz : Nat) (zL : List Nat) (zT : Nat → Nat) (zR : Nat → Nat → Nat) (zI : Nat → Nat → Int32) (zJ : Nat → Nat → Int64) (zy : Nat) (zia : Int32) (hs : SKP zL zT zR) (hw : WT zT zR zI) (t_zy : zT zy = 18) (hz : ZI (zI (zR zy 0))) : Met l yX11_make wsX11_make ({ frames := 3, cells := 0, slots := 0, locals := 74 } : Room) (va_Pc [.ref zy, .int zia] (PRE dC dI cy (WL cy zL zT zR zI zJ) sz)) (va_Qi (fun (r : Int32) (u : (Nat → Nat → Int32)) => (WM [10000] AL zT zR zI u) ∧ ((-2) ≤ r.toInt ∧ r.toInt ≤ 12) ∧ (ZI (u (zR zy 0))) ∧ (FQ (zI (zR zy 0)) (u (zR zy 0)))) (fun u t => POST dC dI cy (va_A (WL cy zL zT zR zI zJ) sz) (WL cy zL zT zR u zJ) t) (va_A (WL cy zL zT zR zI zJ) sz)) 0 0 (va_A (WL cy zL zT zR zI zJ) sz) := by
  refine Met.ofW (cc := cX11_make) (maxL := 6) (ret := (some .int)) (by decide) rfl ?_
  intro p e s m args below meth c s₁ B hml hv
  obtain ⟨rfl, hsz, hP, hK, hD0, hN⟩ := hv
  have hx := B.exec
  have hb := B.bytes
  have hr := B.returns
  have hts := atoms_spec (ws := wsX11_make) B.pre
  have hown : s.vm.findClass RX11 = some m.cls := findClass_of_methodNamed B.named
  have hlocks := B.notSynchronized
  subst hsz
  have hD := hD0.self (sz := s.heap.size)
  generalize hAe : va_A (WL cy zL zT zR zI zJ) s.heap.size = A at hD ⊢
  have hA : ∀ q : Nat, s.heap.size ≤ q → A q := fun q h => by rw [← hAe]; exact Or.inr h
  have hS : va_S A s.heap s.heap [] := va_S.rf
  have hP : va_P (dC, dI) vwCl (WL cy zL zT zR zI zJ) s.heap := hP
  have hl := lv_entry ([.ref zy, .int zia] : List Value) (n := 6) (Nat.le_of_ble_eq_true rfl)
  rw [lg_entry_eq]
  generalize (lg_sl ([.ref zy, .int zia] : List Value) ++ List.replicate (6 - (lg_sl ([.ref zy, .int zia] : List Value)).length) Slot.unset).toArray = ls at hl ⊢
  have hl : lv_has ls 6 [(0, .ref zy), (1, .int zia)] := hl
  refine w_q (fun Q hQ => ?_)
  have h_zI : WM [10000] AL zT zR zI zI := WM.rf hw
  refine lv_iload_n hx hb dX11_make_0 rfl (lv_at hl 1 rfl) ?_
  refine hj0_i (ws := (WL cy zL zT zR zI zJ)) (va_runS (As := [.int zia]) (rest := []) ⟨hx, hb, hml, hown, hts⟩ (c_X11_isCandle l dC dI cy s.heap.size zia) (va_cwS 1 hts gX11_make_X11_isCandle rfl rfl rfl (by decide +kernel) ⟨(Nat.le_of_ble_eq_true rfl), (Nat.le_of_ble_eq_true rfl)⟩) (PRE.s (hP.sub [] rfl) hK (hD.sub [] (by decide) rfl) hN) rfl rfl hl.1 rfl (lv_room (Nat.le_of_ble_eq_true rfl)) dX11_make_1 ⟨(Nat.le_of_ble_eq_true rfl), (Nat.le_of_ble_eq_true rfl)⟩) hP hD hS hA (fun zi_1 u_3 H locs hw_2 hP hD hS => ?_)
  have hw_2 : zi_1 = if 0 ≤ zia.toInt ∧ zia.toInt ≤ 1 then 1 else 0 := hw_2
  have b_zi_1 : 0 ≤ zi_1.toInt ∧ zi_1.toInt ≤ 1 := bz_b hw_2
  refine lv_if_ne (tgt := 9) hx hb dX11_make_4 (by decide) (fun c_4 => ?_) (fun c_4 => ?_)
  · have f_5 : 0 ≤ zia.toInt ∧ zia.toInt ≤ 1 := bz_1 hw_2 c_4
    refine lv_aload_n hx hb dX11_make_9 rfl (lv_at hl 0 rfl) ?_
    refine ht_getr (C := RX11) (T := TX11) (N := 28) hx hb hts (by decide +kernel) hown hK hP hs t_zy (by decide) rfl rfl 0 (by decide) (hts (.fieldLink RX11 7 "DripStoneModel" "z" "[I") (by decide +kernel)) (fun _ h9 => h9) rfl dX11_make_10 ?_
    have t_6 : zT (zR zy 0) = 100 := sk_f hs t_zy (by decide) rfl (by decide)
    refine lv_iconst (v := 2) hx hb dX11_make_13 (by decide) ?_
    refine ht_iald (n := 392) (q := 0) hx hb hK hP hs t_6 (by decide) rfl rfl ⟨by decide, by decide⟩ dX11_make_14 ?_
    refine lv_topi (fun zi_7 ezi_7 => ?_)
    have la_8 : zi_7.toInt = zA (zI (zR zy 0)) (2) := (congrArg Int32.toInt (show zI (zR zy 0) (2 : Int32).toNatClampNeg = zi_7 from ezi_7.symm).symm).trans (congrArg (zA (zI (zR zy 0))) (show (2 : Int32).toInt = 2 from by decide))
    have tz_9 : 0 ≤ zi_7.toInt ∧ zi_7.toInt ≤ 6 := by rw [← (show zI (zR zy 0) (2 : Int32).toNatClampNeg = zi_7 from ezi_7.symm)]; exact ZI.g2 hz (by decide) (by decide)
    refine lv_if_ne (tgt := 21) hx hb dX11_make_15 (by decide) (fun c_10 => ?_) (fun c_10 => ?_)
    · have f_11 : zi_7.toInt ≠ 0 := ic_ne (rfl) (by decide) c_10
      refine lv_aload_n hx hb dX11_make_21 rfl (lv_at hl 0 rfl) ?_
      refine lv_iload_n hx hb dX11_make_22 rfl (lv_at hl 1 rfl) ?_
      refine lv_iconst (v := 0) hx hb dX11_make_23 (by decide) ?_
      have qc_0 : (0 : Int32).toInt = 0 := by decide
      refine hj_v (ws := (WL cy zL zT zR zI zJ)) (w1 := fun (u : (Nat → Nat → Int32)) => (WL cy zL zT zR u zJ)) (va_runV (As := [.int zia, .int 0]) (rest := []) ⟨hx, hb, hml, hown, hts⟩ (t_X11_dropStretches l dC dI cy H.size zL zT zR zI zJ zy zia (0 : Int32) hs h_zI.1 t_zy (by omega) hz) (cwV 2 hts gX11_make_X11_dropStretches rfl rfl rfl (by decide +kernel) ⟨(Nat.le_of_ble_eq_true rfl), (Nat.le_of_ble_eq_true rfl)⟩) (PRE.v hP hK hD hN (ht_recv hK hP hs t_zy (by decide) rfl rfl)) rfl rfl hl.1 rfl (lv_room (Nat.le_of_ble_eq_true rfl)) dX11_make_24 ⟨(Nat.le_of_ble_eq_true rfl), (Nat.le_of_ble_eq_true rfl)⟩) hP hD hS hA (fun zI_15 H locs hw_13 hP hD hS => ?_)
      obtain ⟨k_zI_15, ps_16, ps_17⟩ : (WM [10000] AL zT zR zI zI_15) ∧ (FQ (zI (zR zy 0)) (zI_15 (zR zy 0))) ∧ (ZI (zI_15 (zR zy 0))) := hw_13
      have h_zI_15 : WM [10000] AL zT zR zI zI_15 := h_zI.tr k_zI_15 (by decide) (fun _ _ => trivial)
      have fq_zI_15 : FQ (zI (zR zy 0)) (zI_15 (zR zy 0)) := FQ.tr FQ.rf ps_16
      refine lv_aload_n hx hb dX11_make_27 rfl (lv_at hl 0 rfl) ?_
      refine lv_iload_n hx hb dX11_make_28 rfl (lv_at hl 1 rfl) ?_
      refine lv_iconst (v := 0) hx hb dX11_make_29 (by decide) ?_
      refine hj_v (ws := (WL cy zL zT zR zI_15 zJ)) (w1 := fun (u : (Nat → Nat → Int32)) => (WL cy zL zT zR u zJ)) (va_runV (As := [.int zia, .int 0]) (rest := []) ⟨hx, hb, hml, hown, hts⟩ (t_X11_dropDates l dC dI cy H.size zL zT zR zI_15 zJ zy zia (0 : Int32) hs h_zI_15.1 t_zy (by omega) ps_17) (cwV 2 hts gX11_make_X11_dropDates rfl rfl rfl (by decide +kernel) ⟨(Nat.le_of_ble_eq_true rfl), (Nat.le_of_ble_eq_true rfl)⟩) (PRE.v hP hK hD hN (ht_recv hK hP hs t_zy (by decide) rfl rfl)) rfl rfl hl.1 rfl (lv_room (Nat.le_of_ble_eq_true rfl)) dX11_make_30 ⟨(Nat.le_of_ble_eq_true rfl), (Nat.le_of_ble_eq_true rfl)⟩) hP hD hS hA (fun zI_21 H locs hw_19 hP hD hS => ?_)
      obtain ⟨k_zI_21, ps_22, ps_23, ps_24⟩ : (WM [10000] AL zT zR zI_15 zI_21) ∧ (ZI (zI_21 (zR zy 0))) ∧ (DR (zI_21 (zR zy 0)) zia.toInt (0 : Int32).toInt) ∧ (FQ (zI_15 (zR zy 0)) (zI_21 (zR zy 0))) := hw_19
      have h_zI_21 : WM [10000] AL zT zR zI zI_21 := h_zI_15.tr k_zI_21 (by decide) (fun _ _ => trivial)
      have fq_zI_21 : FQ (zI (zR zy 0)) (zI_21 (zR zy 0)) := FQ.tr fq_zI_15 ps_24
      refine lv_aload_n hx hb dX11_make_33 rfl (lv_at hl 0 rfl) ?_
      refine ht_getr (C := RX11) (T := TX11) (N := 28) hx hb hts (by decide +kernel) hown hK hP hs t_zy (by decide) rfl rfl 0 (by decide) (hts (.fieldLink RX11 7 "DripStoneModel" "z" "[I") (by decide +kernel)) (fun _ h9 => h9) rfl dX11_make_34 ?_
      refine lv_iconst (v := 5) hx hb dX11_make_37 (by decide) ?_
      refine lv_iload_n hx hb dX11_make_38 rfl (lv_at hl 1 rfl) ?_
      refine lv_iadd hx hb dX11_make_39 ?_
      refine lv_topi (fun zi_25 ezi_25 => ?_)
      have tzi_25 : zi_25.toInt = (5 : Int) + zia.toInt := by rw [ezi_25]; exact tiadd (show (5 : Int32).toInt = 5 by decide) (rfl) (by omega) (by omega)
      refine lv_iconst (v := 0) hx hb dX11_make_40 (by decide) ?_
      refine ht_iast (v := (0 : Int32)) (n := 392) (q := 0) hx hb hK hP hD hS hs t_6 (by decide) rfl rfl ⟨by omega, by omega⟩ dX11_make_41 (fun H locs hP hD hS => ?_)
      have qz_0 : (0 : Int32).toInt = 0 := by decide
      have h_zI_26 : WM [10000] AL zT zR zI (u2 zI_21 (zR zy 0) zi_25.toNatClampNeg (0 : Int32)) := h_zI_21.putA hs t_6 rfl (rgF _) (by decide) (fun h => absurd h (by decide)) (by decide) trivial
      generalize uzI_26 : u2 zI_21 (zR zy 0) zi_25.toNatClampNeg (0 : Int32) = zI_26 at hP hD h_zI_26
      have z_zI_26 : ZI (zI_26 (zR zy 0)) := by rw [← uzI_26, u2_r]; exact ZI.sz ps_22 (c := zia.toInt) (by omega) (by omega) (by omega) (fun d d0 d1 hd => ps_23 d d0 d1 hd)
      have fq_zI_26 : FQ (zI (zR zy 0)) (zI_26 (zR zy 0)) := by rw [← uzI_26, u2_r]; exact FQ.up fq_zI_21 (by omega) (by omega)
      refine lv_bipush (v := (-4)) hx hb dX11_make_42 (by decide) ?_
      refine lv_istore_n (lv' := [(2, .int (-4)), (0, .ref zy), (1, .int zia)]) hx hb dX11_make_44 rfl hl (by decide) rfl (fun ls hl => ?_)
      refine lv_iconst (v := 0) hx hb dX11_make_45 (by decide) ?_
      refine lv_istore_n (lv' := [(3, .int 0), (2, .int (-4)), (0, .ref zy), (1, .int zia)]) hx hb dX11_make_46 rfl hl (by decide) rfl (fun ls hl => ?_)
      have lp_1135 : ∀ (n : Nat) (zi_948 : Int32) (zi_949 : Int32) (zI_950 : Nat → Nat → Int32) (H : Heap) (locs : List Loc) (ls : Array Slot), (24 - zi_949.toInt).toNat = n → ((-4) ≤ zi_948.toInt ∧ zi_948.toInt ≤ 23) → (0 ≤ zi_949.toInt ∧ zi_949.toInt ≤ 24) → (WM [10000] AL zT zR zI zI_950) → (FQ (zI (zR zy 0)) (zI_950 (zR zy 0))) → (ZI (zI_950 (zR zy 0))) → va_P (dC, dI) vwCl (WL cy zL zT zR zI_950 zJ) H → va_D A (WL cy zL zT zR zI_950 zJ) → va_S A s.heap H locs → lv_has ls 6 [(0, .ref zy), (1, .int zia), (2, .int zi_948), (3, .int zi_949)] → W p l e ({ frames := 3, cells := 0, slots := 0, locals := 74 } : Room) s m ([.ref zy, .int zia] : List Value).toArray below meth c H locs 0 0 Q (F0 m 47 ls []) := by
        intro n
        induction n using Nat.strongRecOn with
        | _ n ih_1135 =>
          intro zi_948 zi_949 zI_950 H locs ls hn b_zi_948 b_zi_949 h_zI_950 e_lp_1135_0 e_lp_1135_1 hP hD hS hl
          refine lv_iload_n hx hb dX11_make_47 rfl (lv_at hl 3 rfl) ?_
          refine lv_bipush (v := 24) hx hb dX11_make_48 (by decide) ?_
          refine lv_icmp_ge (tgt := 156) hx hb dX11_make_50 (by decide) (fun c_1136 => ?_) (fun c_1136 => ?_)
          · have f_1137 : zi_949.toInt ≥ (24 : Int) := ic_ge (rfl) (show (24 : Int32).toInt = 24 by decide) c_1136
            refine lv_aload_n hx hb dX11_make_156 rfl (lv_at hl 0 rfl) ?_
            refine ht_getr (C := RX11) (T := TX11) (N := 28) hx hb hts (by decide +kernel) hown hK hP hs t_zy (by decide) rfl rfl 0 (by decide) (hts (.fieldLink RX11 7 "DripStoneModel" "z" "[I") (by decide +kernel)) (fun _ h9 => h9) rfl dX11_make_157 ?_
            refine lv_bipush (v := 7) hx hb dX11_make_160 (by decide) ?_
            refine lv_iload_n hx hb dX11_make_162 rfl (lv_at hl 1 rfl) ?_
            refine lv_iadd hx hb dX11_make_163 ?_
            refine lv_topi (fun zi_1138 ezi_1138 => ?_)
            have tzi_1138 : zi_1138.toInt = (7 : Int) + zia.toInt := by rw [ezi_1138]; exact tiadd (show (7 : Int32).toInt = 7 by decide) (rfl) (by omega) (by omega)
            refine lv_iconst (v := 1) hx hb dX11_make_164 (by decide) ?_
            refine ht_iast (v := (1 : Int32)) (n := 392) (q := 0) hx hb hK hP hD hS hs t_6 (by decide) rfl rfl ⟨by omega, by omega⟩ dX11_make_165 (fun H locs hP hD hS => ?_)
            have h_zI_1139 : WM [10000] AL zT zR zI (u2 zI_950 (zR zy 0) zi_1138.toNatClampNeg (1 : Int32)) := h_zI_950.putA hs t_6 rfl (rgF _) (by decide) (fun h => absurd h (by decide)) (by decide) trivial
            generalize uzI_1139 : u2 zI_950 (zR zy 0) zi_1138.toNatClampNeg (1 : Int32) = zI_1139 at hP hD h_zI_1139
            have z_zI_1139 : ZI (zI_1139 (zR zy 0)) := by rw [← uzI_1139, u2_r]; exact ZI.fr e_lp_1135_1 (by omega)
            have fq_zI_1139 : FQ (zI (zR zy 0)) (zI_1139 (zR zy 0)) := by rw [← uzI_1139, u2_r]; exact FQ.up e_lp_1135_0 (by omega) (by omega)
            refine lv_aload_n hx hb dX11_make_166 rfl (lv_at hl 0 rfl) ?_
            refine ht_getr (C := RX11) (T := TX11) (N := 28) hx hb hts (by decide +kernel) hown hK hP hs t_zy (by decide) rfl rfl 0 (by decide) (hts (.fieldLink RX11 7 "DripStoneModel" "z" "[I") (by decide +kernel)) (fun _ h9 => h9) rfl dX11_make_167 ?_
            refine lv_iconst (v := 5) hx hb dX11_make_170 (by decide) ?_
            refine lv_iload_n hx hb dX11_make_171 rfl (lv_at hl 1 rfl) ?_
            refine lv_iadd hx hb dX11_make_172 ?_
            refine lv_topi (fun zi_1140 ezi_1140 => ?_)
            have tzi_1140 : zi_1140.toInt = (5 : Int) + zia.toInt := by rw [ezi_1140]; exact tiadd (show (5 : Int32).toInt = 5 by decide) (rfl) (by omega) (by omega)
            refine ht_iald (n := 392) (q := 0) hx hb hK hP hs t_6 (by decide) rfl rfl ⟨by omega, by omega⟩ dX11_make_173 ?_
            refine lv_topi (fun zi_1141 ezi_1141 => ?_)
            have la_1142 : zi_1141.toInt = zA (zI_1139 (zR zy 0)) (5 + zia.toInt) := (congrArg Int32.toInt (show zI_1139 (zR zy 0) zi_1140.toNatClampNeg = zi_1141 from ezi_1141.symm).symm).trans (congrArg (zA (zI_1139 (zR zy 0))) (show zi_1140.toInt = 5 + zia.toInt from by omega))
            have tz_1143 : 0 ≤ zi_1141.toInt ∧ zi_1141.toInt ≤ 12 := by rw [← (show zI_1139 (zR zy 0) zi_1140.toNatClampNeg = zi_1141 from ezi_1141.symm)]; exact ZI.g5 z_zI_1139 (by omega) (by omega)
            subst hQ
            exact W.iret (v := zi_1141) hx hb hr (fun t ht hW => ⟨⟨zi_1141, zI_1139, rfl, ⟨h_zI_1139, (show (-2) ≤ zi_1141.toInt ∧ zi_1141.toInt ≤ 12 from by omega), (show ZI (zI_1139 (zR zy 0)) from z_zI_1139), (show FQ (zI (zR zy 0)) (zI_1139 (zR zy 0)) from fq_zI_1139)⟩, ⟨by rw [ht]; exact hP, va_K.moved hW.alike hK, hD⟩⟩, hS.F ht⟩) hS.2.2 dX11_make_174
          · have f_1137 : ¬ (zi_949.toInt ≥ (24 : Int)) := ic_nge (rfl) (show (24 : Int32).toInt = 24 by decide) c_1136
            refine lv_aload_n hx hb dX11_make_53 rfl (lv_at hl 0 rfl) ?_
            refine lv_iload_n hx hb dX11_make_54 rfl (lv_at hl 3 rfl) ?_
            refine hj_i (ws := (WL cy zL zT zR zI_950 zJ)) (w1 := fun (u : Unit) => (WL cy zL zT zR zI_950 zJ)) (va_runV (As := [.int zi_949]) (rest := []) ⟨hx, hb, hml, hown, hts⟩ (t_X11_growthOf l dC dI cy H.size zL zT zR zI_950 zJ zy zi_949 hs h_zI_950.1 t_zy (by omega) e_lp_1135_1) (cwV 1 hts gX11_make_X11_growthOf rfl rfl rfl (by decide +kernel) ⟨(Nat.le_of_ble_eq_true rfl), (Nat.le_of_ble_eq_true rfl)⟩) (PRE.v hP hK hD hN (ht_recv hK hP hs t_zy (by decide) rfl rfl)) rfl rfl hl.1 rfl (lv_room (Nat.le_of_ble_eq_true rfl)) dX11_make_55 ⟨(Nat.le_of_ble_eq_true rfl), (Nat.le_of_ble_eq_true rfl)⟩) hP hD hS hA (fun zi_1144 u_1146 H locs hw_1145 hP hD hS => ?_)
            have ps_1147 : zi_1144.toInt ≤ 0 ∨ ¬ WS (zI_950 (zR zy 0)) (zA (zI_950 (zR zy 0)) (0)).toNat zi_949.toInt 0 = 0 := hw_1145
            have rzi_1144 := rng zi_1144
            refine lv_istore (lv' := [(4, .int zi_1144), (0, .ref zy), (1, .int zia), (2, .int zi_948), (3, .int zi_949)]) hx hb dX11_make_58 hl (by decide) rfl (fun ls hl => ?_)
            refine lv_iload hx hb dX11_make_60 (lv_at hl 0 rfl) ?_
            refine lv_if_le (tgt := 91) hx hb dX11_make_62 (by decide) (fun c_1148 => ?_) (fun c_1148 => ?_)
            · have f_1149 : zi_1144.toInt ≤ 0 := ic_le (rfl) (by decide) c_1148
              refine lv_iconst (v := 0) hx hb dX11_make_91 (by decide) ?_
              refine lv_istore (lv' := [(5, .int 0), (4, .int zi_1144), (0, .ref zy), (1, .int zia), (2, .int zi_948), (3, .int zi_949)]) hx hb dX11_make_92 hl (by decide) rfl (fun ls hl => ?_)
              refine lv_iload hx hb dX11_make_94 (lv_at hl 0 rfl) ?_
              refine lv_iload hx hb dX11_make_96 (lv_at hl 1 rfl) ?_
              refine lv_icmp_ge (tgt := 139) hx hb dX11_make_98 (by decide) (fun c_1158 => ?_) (fun c_1158 => ?_)
              · have f_1159 : (0 : Int) ≥ zi_1144.toInt := ic_ge (show (0 : Int32).toInt = 0 by decide) (rfl) c_1158
                refine lv_iload hx hb dX11_make_139 (lv_at hl 1 rfl) ?_
                refine lv_if_le (tgt := 148) hx hb dX11_make_141 (by decide) (fun c_1160 => ?_) (fun c_1160 => ?_)
                · have f_1161 : zi_1144.toInt ≤ 0 := ic_le (rfl) (by decide) c_1160
                  refine lv_iload_n hx hb dX11_make_148 rfl (lv_at hl 4 rfl) ?_
                  refine lv_istore_n (lv' := [(2, .int zi_948), (5, .int 0), (4, .int zi_1144), (0, .ref zy), (1, .int zia), (3, .int zi_949)]) hx hb dX11_make_149 rfl hl (by decide) rfl (fun ls hl => ?_)
                  obtain ⟨zi_1162, ezi_1162⟩ : ∃ y : Int32, y = zi_949 + 1 := ⟨_, rfl⟩
                  have tzi_1162 : zi_1162.toInt = zi_949.toInt + 1 := by rw [ezi_1162]; exact tadd rfl (show (1 : Int32).toInt = 1 by decide) (by omega) (by omega)
                  refine lv_iinc (v := zi_1162) (lv' := [(3, .int zi_1162), (2, .int zi_948), (5, .int 0), (4, .int zi_1144), (0, .ref zy), (1, .int zia)]) hx hb dX11_make_150 hl (k := 5) rfl (by rw [ezi_1162]; rfl) (by decide) rfl (fun ls hl => ?_)
                  refine lv_goto (tgt := 47) hx hb dX11_make_153 (by decide) ?_
                  exact ih_1135 (24 - zi_1162.toInt).toNat (by omega) zi_948 zi_1162 zI_950 _ _ _ rfl (by omega) (by omega) h_zI_950 e_lp_1135_0 e_lp_1135_1 hP hD hS (lv_sub hl [4, 5, 1, 0] rfl)
                · have f_1161 : ¬ (zi_1144.toInt ≤ 0) := ic_nle (rfl) (by decide) c_1160
                  exfalso; omega
              · have f_1159 : ¬ ((0 : Int) ≥ zi_1144.toInt) := ic_nge (show (0 : Int32).toInt = 0 by decide) (rfl) c_1158
                exfalso; omega
            · have f_1149 : ¬ (zi_1144.toInt ≤ 0) := ic_nle (rfl) (by decide) c_1148
              refine lv_iload_n hx hb dX11_make_65 rfl (lv_at hl 3 rfl) ?_
              refine lv_if_lt (tgt := 91) hx hb dX11_make_66 (by decide) (fun c_1163 => ?_) (fun c_1163 => ?_)
              · have f_1164 : zi_948.toInt < 0 := ic_lt (rfl) (by decide) c_1163
                refine lv_iconst (v := 0) hx hb dX11_make_91 (by decide) ?_
                refine lv_istore (lv' := [(5, .int 0), (4, .int zi_1144), (0, .ref zy), (1, .int zia), (2, .int zi_948), (3, .int zi_949)]) hx hb dX11_make_92 hl (by decide) rfl (fun ls hl => ?_)
                have lp_1189 : ∀ (n : Nat) (zi_1165 : Int32) (zI_1166 : Nat → Nat → Int32) (H : Heap) (locs : List Loc) (ls : Array Slot), (zi_1144.toInt - zi_1165.toInt).toNat = n → (0 ≤ zi_1165.toInt) → (WM [10000] AL zT zR zI zI_1166) → (WP (zI_1166 (zR zy 0)) zi_949.toInt zi_1144.toInt) → (FQ (zI (zR zy 0)) (zI_1166 (zR zy 0))) → (ZI (zI_1166 (zR zy 0))) → va_P (dC, dI) vwCl (WL cy zL zT zR zI_1166 zJ) H → va_D A (WL cy zL zT zR zI_1166 zJ) → va_S A s.heap H locs → lv_has ls 6 [(0, .ref zy), (1, .int zia), (2, .int zi_948), (3, .int zi_949), (4, .int zi_1144), (5, .int zi_1165)] → W p l e ({ frames := 3, cells := 0, slots := 0, locals := 74 } : Room) s m ([.ref zy, .int zia] : List Value).toArray below meth c H locs 0 0 Q (F0 m 94 ls []) := by
                  intro n
                  induction n using Nat.strongRecOn with
                  | _ n ih_1189 =>
                    intro zi_1165 zI_1166 H locs ls hn b_zi_1165 h_zI_1166 e_lp_1189_0 e_lp_1189_1 e_lp_1189_2 hP hD hS hl
                    refine lv_iload hx hb dX11_make_94 (lv_at hl 5 rfl) ?_
                    refine lv_iload hx hb dX11_make_96 (lv_at hl 4 rfl) ?_
                    refine lv_icmp_ge (tgt := 139) hx hb dX11_make_98 (by decide) (fun c_1190 => ?_) (fun c_1190 => ?_)
                    · have f_1191 : zi_1165.toInt ≥ zi_1144.toInt := ic_ge (rfl) (rfl) c_1190
                      refine lv_iload hx hb dX11_make_139 (lv_at hl 4 rfl) ?_
                      refine lv_if_le (tgt := 148) hx hb dX11_make_141 (by decide) (fun c_1192 => ?_) (fun c_1192 => ?_)
                      · have f_1193 : zi_1144.toInt ≤ 0 := ic_le (rfl) (by decide) c_1192
                        exfalso; omega
                      · have f_1193 : ¬ (zi_1144.toInt ≤ 0) := ic_nle (rfl) (by decide) c_1192
                        refine lv_iload_n hx hb dX11_make_144 rfl (lv_at hl 3 rfl) ?_
                        refine lv_goto (tgt := 149) hx hb dX11_make_145 (by decide) ?_
                        refine lv_istore_n (lv' := [(2, .int zi_949), (0, .ref zy), (1, .int zia), (3, .int zi_949), (4, .int zi_1144), (5, .int zi_1165)]) hx hb dX11_make_149 rfl hl (by decide) rfl (fun ls hl => ?_)
                        obtain ⟨zi_1194, ezi_1194⟩ : ∃ y : Int32, y = zi_949 + 1 := ⟨_, rfl⟩
                        have tzi_1194 : zi_1194.toInt = zi_949.toInt + 1 := by rw [ezi_1194]; exact tadd rfl (show (1 : Int32).toInt = 1 by decide) (by omega) (by omega)
                        refine lv_iinc (v := zi_1194) (lv' := [(3, .int zi_1194), (2, .int zi_949), (0, .ref zy), (1, .int zia), (4, .int zi_1144), (5, .int zi_1165)]) hx hb dX11_make_150 hl (k := 3) rfl (by rw [ezi_1194]; rfl) (by decide) rfl (fun ls hl => ?_)
                        refine lv_goto (tgt := 47) hx hb dX11_make_153 (by decide) ?_
                        exact ih_1135 (24 - zi_1194.toInt).toNat (by omega) zi_949 zi_1194 zI_1166 _ _ _ rfl (by omega) (by omega) h_zI_1166 e_lp_1189_1 e_lp_1189_2 hP hD hS (lv_sub hl [2, 3, 1, 0] rfl)
                    · have f_1191 : ¬ (zi_1165.toInt ≥ zi_1144.toInt) := ic_nge (rfl) (rfl) c_1190
                      refine lv_aload_n hx hb dX11_make_101 rfl (lv_at hl 0 rfl) ?_
                      refine lv_iload_n hx hb dX11_make_102 rfl (lv_at hl 1 rfl) ?_
                      refine lv_iconst (v := 0) hx hb dX11_make_103 (by decide) ?_
                      refine lv_aload_n hx hb dX11_make_104 rfl (lv_at hl 0 rfl) ?_
                      refine lv_iload_n hx hb dX11_make_105 rfl (lv_at hl 3 rfl) ?_
                      refine lv_aload_n hx hb dX11_make_106 rfl (lv_at hl 0 rfl) ?_
                      refine ht_getr (C := RX11) (T := TX11) (N := 28) hx hb hts (by decide +kernel) hown hK hP hs t_zy (by decide) rfl rfl 0 (by decide) (hts (.fieldLink RX11 7 "DripStoneModel" "z" "[I") (by decide +kernel)) (fun _ h9 => h9) rfl dX11_make_107 ?_
                      refine lv_iconst (v := 0) hx hb dX11_make_110 (by decide) ?_
                      refine ht_iald (n := 392) (q := 0) hx hb hK hP hs t_6 (by decide) rfl rfl ⟨by decide, by decide⟩ dX11_make_111 ?_
                      refine lv_topi (fun zi_1195 ezi_1195 => ?_)
                      have la_1196 : zi_1195.toInt = zA (zI_1166 (zR zy 0)) (0) := (congrArg Int32.toInt (show zI_1166 (zR zy 0) (0 : Int32).toNatClampNeg = zi_1195 from ezi_1195.symm).symm).trans (congrArg (zA (zI_1166 (zR zy 0))) (show (0 : Int32).toInt = 0 from by decide))
                      have tz_1197 : 1 ≤ zi_1195.toInt ∧ zi_1195.toInt ≤ 5 := by rw [← (show zI_1166 (zR zy 0) (0 : Int32).toNatClampNeg = zi_1195 from ezi_1195.symm)]; exact ZI.g0 e_lp_1189_2 (by decide) (by decide)
                      refine hj_i (ws := (WL cy zL zT zR zI_1166 zJ)) (w1 := fun (u : Unit) => (WL cy zL zT zR zI_1166 zJ)) (va_runV (As := [.int zi_949, .int zi_1195]) (rest := [.int 0, .int zia, .ref zy]) ⟨hx, hb, hml, hown, hts⟩ (t_X11_waterBy l dC dI cy H.size zL zT zR zI_1166 zJ zy zi_949 zi_1195 hs h_zI_1166.1 t_zy (by omega) (by omega) (WP.at e_lp_1189_0 (by omega) (by omega))) (cwV 2 hts gX11_make_X11_waterBy rfl rfl rfl (by decide +kernel) ⟨(Nat.le_of_ble_eq_true rfl), (Nat.le_of_ble_eq_true rfl)⟩) (PRE.v hP hK hD hN (ht_recv hK hP hs t_zy (by decide) rfl rfl)) rfl rfl hl.1 rfl (lv_room (Nat.le_of_ble_eq_true rfl)) dX11_make_112 ⟨(Nat.le_of_ble_eq_true rfl), (Nat.le_of_ble_eq_true rfl)⟩) hP hD hS hA (fun zi_1198 u_1200 H locs hw_1199 hP hD hS => ?_)
                      have rzi_1198 := rng zi_1198
                      refine lv_aload_n hx hb dX11_make_115 rfl (lv_at hl 0 rfl) ?_
                      refine ht_getr (C := RX11) (T := TX11) (N := 28) hx hb hts (by decide +kernel) hown hK hP hs t_zy (by decide) rfl rfl 0 (by decide) (hts (.fieldLink RX11 7 "DripStoneModel" "z" "[I") (by decide +kernel)) (fun _ h9 => h9) rfl dX11_make_116 ?_
                      refine lv_bipush (v := 20) hx hb dX11_make_119 (by decide) ?_
                      refine lv_iconst (v := 3) hx hb dX11_make_121 (by decide) ?_
                      refine lv_iload_n hx hb dX11_make_122 rfl (lv_at hl 3 rfl) ?_
                      refine lv_imul hx hb dX11_make_123 ?_
                      refine lv_topi (fun zi_1201 ezi_1201 => ?_)
                      have tzi_1201 : zi_1201.toInt = (3 : Int) * zi_949.toInt := by rw [ezi_1201]; exact timul (show (3 : Int32).toInt = 3 by decide) (rfl) (by omega) (by omega)
                      refine lv_iadd hx hb dX11_make_124 ?_
                      refine lv_topi (fun zi_1202 ezi_1202 => ?_)
                      have tzi_1202 : zi_1202.toInt = (20 : Int) + zi_1201.toInt := by rw [ezi_1202]; exact tiadd (show (20 : Int32).toInt = 20 by decide) (rfl) (by omega) (by omega)
                      refine lv_iconst (v := 2) hx hb dX11_make_125 (by decide) ?_
                      refine lv_iadd hx hb dX11_make_126 ?_
                      refine lv_topi (fun zi_1203 ezi_1203 => ?_)
                      have tzi_1203 : zi_1203.toInt = zi_1202.toInt + (2 : Int) := by rw [ezi_1203]; exact tiadd (rfl) (show (2 : Int32).toInt = 2 by decide) (by omega) (by omega)
                      refine ht_iald (n := 392) (q := 0) hx hb hK hP hs t_6 (by decide) rfl rfl ⟨by omega, by omega⟩ dX11_make_127 ?_
                      refine lv_topi (fun zi_1204 ezi_1204 => ?_)
                      have la_1205 : zi_1204.toInt = zA (zI_1166 (zR zy 0)) (22 + 3 * zi_949.toInt) := (congrArg Int32.toInt (show zI_1166 (zR zy 0) zi_1203.toNatClampNeg = zi_1204 from ezi_1204.symm).symm).trans (congrArg (zA (zI_1166 (zR zy 0))) (show zi_1203.toInt = 22 + 3 * zi_949.toInt from by omega))
                      refine lv_isub hx hb dX11_make_128 ?_
                      refine lv_topi (fun zi_1206 ezi_1206 => ?_)
                      refine lv_iload_n hx hb dX11_make_129 rfl (lv_at hl 3 rfl) ?_
                      refine hj_v (ws := (WL cy zL zT zR zI_1166 zJ)) (w1 := fun (u : (Nat → Nat → Int32)) => (WL cy zL zT zR u zJ)) (va_runV (As := [.int zia, .int 0, .int zi_1206, .int zi_949]) (rest := []) ⟨hx, hb, hml, hown, hts⟩ (t_X11_addThing l dC dI cy H.size zL zT zR zI_1166 zJ zy zia (0 : Int32) zi_1206 zi_949 hs h_zI_1166.1 t_zy (by omega) e_lp_1189_2) (cwV 4 hts gX11_make_X11_addThing rfl rfl rfl (by decide +kernel) ⟨(Nat.le_of_ble_eq_true rfl), (Nat.le_of_ble_eq_true rfl)⟩) (PRE.v hP hK hD hN (ht_recv hK hP hs t_zy (by decide) rfl rfl)) rfl rfl hl.1 rfl (lv_room (Nat.le_of_ble_eq_true rfl)) dX11_make_130 ⟨(Nat.le_of_ble_eq_true rfl), (Nat.le_of_ble_eq_true rfl)⟩) hP hD hS hA (fun zI_1210 H locs hw_1208 hP hD hS => ?_)
                      obtain ⟨k_zI_1210, ps_1211, ps_1212, ps_1213⟩ : (WM [10000] AL zT zR zI_1166 zI_1210) ∧ (FA (zI_1166 (zR zy 0)) (zI_1210 (zR zy 0))) ∧ (FQ (zI_1166 (zR zy 0)) (zI_1210 (zR zy 0))) ∧ (ZI (zI_1210 (zR zy 0))) := hw_1208
                      have h_zI_1210 : WM [10000] AL zT zR zI zI_1210 := h_zI_1166.tr k_zI_1210 (by decide) (fun _ _ => trivial)
                      have fq_zI_1210 : FQ (zI (zR zy 0)) (zI_1210 (zR zy 0)) := FQ.tr e_lp_1189_1 ps_1212
                      obtain ⟨zi_1214, ezi_1214⟩ : ∃ y : Int32, y = zi_1165 + 1 := ⟨_, rfl⟩
                      have tzi_1214 : zi_1214.toInt = zi_1165.toInt + 1 := by rw [ezi_1214]; exact tadd rfl (show (1 : Int32).toInt = 1 by decide) (by omega) (by omega)
                      refine lv_iinc (v := zi_1214) (lv' := [(5, .int zi_1214), (0, .ref zy), (1, .int zia), (2, .int zi_948), (3, .int zi_949), (4, .int zi_1144)]) hx hb dX11_make_133 hl (k := 5) rfl (by rw [ezi_1214]; rfl) (by decide) rfl (fun ls hl => ?_)
                      refine lv_goto (tgt := 94) hx hb dX11_make_136 (by decide) ?_
                      exact ih_1189 (zi_1144.toInt - zi_1214.toInt).toNat (by omega) zi_1214 zI_1210 _ _ _ rfl (by omega) h_zI_1210 (WP.fa e_lp_1189_0 ps_1211 (by omega)) fq_zI_1210 ps_1213 hP hD hS (lv_sub hl [1, 2, 3, 4, 5, 0] rfl)
                exact lp_1189 _ (0 : Int32) zI_950 _ _ _ rfl (by decide) h_zI_950 ps_1147 e_lp_1135_0 e_lp_1135_1 hP hD hS (lv_sub hl [2, 3, 4, 5, 1, 0] rfl)
              · have f_1164 : ¬ (zi_948.toInt < 0) := ic_nlt (rfl) (by decide) c_1163
                refine lv_iload_n hx hb dX11_make_69 rfl (lv_at hl 4 rfl) ?_
                refine lv_iload_n hx hb dX11_make_70 rfl (lv_at hl 3 rfl) ?_
                refine lv_isub hx hb dX11_make_71 ?_
                refine lv_topi (fun zi_1215 ezi_1215 => ?_)
                have tzi_1215 : zi_1215.toInt = zi_949.toInt - zi_948.toInt := by rw [ezi_1215]; exact tisub (rfl) (rfl) (by omega) (by omega)
                refine lv_iconst (v := 1) hx hb dX11_make_72 (by decide) ?_
                refine lv_isub hx hb dX11_make_73 ?_
                refine lv_topi (fun zi_1216 ezi_1216 => ?_)
                have tzi_1216 : zi_1216.toInt = zi_1215.toInt - (1 : Int) := by rw [ezi_1216]; exact tisub (rfl) (show (1 : Int32).toInt = 1 by decide) (by omega) (by omega)
                refine lv_aload_n hx hb dX11_make_74 rfl (lv_at hl 1 rfl) ?_
                refine ht_getr (C := RX11) (T := TX11) (N := 28) hx hb hts (by decide +kernel) hown hK hP hs t_zy (by decide) rfl rfl 0 (by decide) (hts (.fieldLink RX11 7 "DripStoneModel" "z" "[I") (by decide +kernel)) (fun _ h9 => h9) rfl dX11_make_75 ?_
                refine lv_iconst (v := 1) hx hb dX11_make_78 (by decide) ?_
                refine ht_iald (n := 392) (q := 0) hx hb hK hP hs t_6 (by decide) rfl rfl ⟨by decide, by decide⟩ dX11_make_79 ?_
                refine lv_topi (fun zi_1217 ezi_1217 => ?_)
                have la_1218 : zi_1217.toInt = zA (zI_950 (zR zy 0)) (1) := (congrArg Int32.toInt (show zI_950 (zR zy 0) (1 : Int32).toNatClampNeg = zi_1217 from ezi_1217.symm).symm).trans (congrArg (zA (zI_950 (zR zy 0))) (show (1 : Int32).toInt = 1 from by decide))
                have tz_1219 : 1 ≤ zi_1217.toInt ∧ zi_1217.toInt ≤ 9 := by rw [← (show zI_950 (zR zy 0) (1 : Int32).toNatClampNeg = zi_1217 from ezi_1217.symm)]; exact ZI.g1 e_lp_1135_1 (by decide) (by decide)
                refine lv_icmp_lt (tgt := 91) hx hb dX11_make_80 (by decide) (fun c_1220 => ?_) (fun c_1220 => ?_)
                · have f_1221 : zi_1216.toInt < zi_1217.toInt := ic_lt (rfl) (rfl) c_1220
                  refine lv_iconst (v := 0) hx hb dX11_make_91 (by decide) ?_
                  refine lv_istore (lv' := [(5, .int 0), (4, .int zi_1144), (0, .ref zy), (1, .int zia), (2, .int zi_948), (3, .int zi_949)]) hx hb dX11_make_92 hl (by decide) rfl (fun ls hl => ?_)
                  have lp_1246 : ∀ (n : Nat) (zi_1222 : Int32) (zI_1223 : Nat → Nat → Int32) (H : Heap) (locs : List Loc) (ls : Array Slot), (zi_1144.toInt - zi_1222.toInt).toNat = n → (0 ≤ zi_1222.toInt) → (WM [10000] AL zT zR zI zI_1223) → (WP (zI_1223 (zR zy 0)) zi_949.toInt zi_1144.toInt) → (FQ (zI (zR zy 0)) (zI_1223 (zR zy 0))) → (ZI (zI_1223 (zR zy 0))) → va_P (dC, dI) vwCl (WL cy zL zT zR zI_1223 zJ) H → va_D A (WL cy zL zT zR zI_1223 zJ) → va_S A s.heap H locs → lv_has ls 6 [(0, .ref zy), (1, .int zia), (2, .int zi_948), (3, .int zi_949), (4, .int zi_1144), (5, .int zi_1222)] → W p l e ({ frames := 3, cells := 0, slots := 0, locals := 74 } : Room) s m ([.ref zy, .int zia] : List Value).toArray below meth c H locs 0 0 Q (F0 m 94 ls []) := by
                    intro n
                    induction n using Nat.strongRecOn with
                    | _ n ih_1246 =>
                      intro zi_1222 zI_1223 H locs ls hn b_zi_1222 h_zI_1223 e_lp_1246_0 e_lp_1246_1 e_lp_1246_2 hP hD hS hl
                      refine lv_iload hx hb dX11_make_94 (lv_at hl 5 rfl) ?_
                      refine lv_iload hx hb dX11_make_96 (lv_at hl 4 rfl) ?_
                      refine lv_icmp_ge (tgt := 139) hx hb dX11_make_98 (by decide) (fun c_1247 => ?_) (fun c_1247 => ?_)
                      · have f_1248 : zi_1222.toInt ≥ zi_1144.toInt := ic_ge (rfl) (rfl) c_1247
                        refine lv_iload hx hb dX11_make_139 (lv_at hl 4 rfl) ?_
                        refine lv_if_le (tgt := 148) hx hb dX11_make_141 (by decide) (fun c_1249 => ?_) (fun c_1249 => ?_)
                        · have f_1250 : zi_1144.toInt ≤ 0 := ic_le (rfl) (by decide) c_1249
                          exfalso; omega
                        · have f_1250 : ¬ (zi_1144.toInt ≤ 0) := ic_nle (rfl) (by decide) c_1249
                          refine lv_iload_n hx hb dX11_make_144 rfl (lv_at hl 3 rfl) ?_
                          refine lv_goto (tgt := 149) hx hb dX11_make_145 (by decide) ?_
                          refine lv_istore_n (lv' := [(2, .int zi_949), (0, .ref zy), (1, .int zia), (3, .int zi_949), (4, .int zi_1144), (5, .int zi_1222)]) hx hb dX11_make_149 rfl hl (by decide) rfl (fun ls hl => ?_)
                          obtain ⟨zi_1251, ezi_1251⟩ : ∃ y : Int32, y = zi_949 + 1 := ⟨_, rfl⟩
                          have tzi_1251 : zi_1251.toInt = zi_949.toInt + 1 := by rw [ezi_1251]; exact tadd rfl (show (1 : Int32).toInt = 1 by decide) (by omega) (by omega)
                          refine lv_iinc (v := zi_1251) (lv' := [(3, .int zi_1251), (2, .int zi_949), (0, .ref zy), (1, .int zia), (4, .int zi_1144), (5, .int zi_1222)]) hx hb dX11_make_150 hl (k := 3) rfl (by rw [ezi_1251]; rfl) (by decide) rfl (fun ls hl => ?_)
                          refine lv_goto (tgt := 47) hx hb dX11_make_153 (by decide) ?_
                          exact ih_1135 (24 - zi_1251.toInt).toNat (by omega) zi_949 zi_1251 zI_1223 _ _ _ rfl (by omega) (by omega) h_zI_1223 e_lp_1246_1 e_lp_1246_2 hP hD hS (lv_sub hl [2, 3, 1, 0] rfl)
                      · have f_1248 : ¬ (zi_1222.toInt ≥ zi_1144.toInt) := ic_nge (rfl) (rfl) c_1247
                        refine lv_aload_n hx hb dX11_make_101 rfl (lv_at hl 0 rfl) ?_
                        refine lv_iload_n hx hb dX11_make_102 rfl (lv_at hl 1 rfl) ?_
                        refine lv_iconst (v := 0) hx hb dX11_make_103 (by decide) ?_
                        refine lv_aload_n hx hb dX11_make_104 rfl (lv_at hl 0 rfl) ?_
                        refine lv_iload_n hx hb dX11_make_105 rfl (lv_at hl 3 rfl) ?_
                        refine lv_aload_n hx hb dX11_make_106 rfl (lv_at hl 0 rfl) ?_
                        refine ht_getr (C := RX11) (T := TX11) (N := 28) hx hb hts (by decide +kernel) hown hK hP hs t_zy (by decide) rfl rfl 0 (by decide) (hts (.fieldLink RX11 7 "DripStoneModel" "z" "[I") (by decide +kernel)) (fun _ h9 => h9) rfl dX11_make_107 ?_
                        refine lv_iconst (v := 0) hx hb dX11_make_110 (by decide) ?_
                        refine ht_iald (n := 392) (q := 0) hx hb hK hP hs t_6 (by decide) rfl rfl ⟨by decide, by decide⟩ dX11_make_111 ?_
                        refine lv_topi (fun zi_1252 ezi_1252 => ?_)
                        have la_1253 : zi_1252.toInt = zA (zI_1223 (zR zy 0)) (0) := (congrArg Int32.toInt (show zI_1223 (zR zy 0) (0 : Int32).toNatClampNeg = zi_1252 from ezi_1252.symm).symm).trans (congrArg (zA (zI_1223 (zR zy 0))) (show (0 : Int32).toInt = 0 from by decide))
                        have tz_1254 : 1 ≤ zi_1252.toInt ∧ zi_1252.toInt ≤ 5 := by rw [← (show zI_1223 (zR zy 0) (0 : Int32).toNatClampNeg = zi_1252 from ezi_1252.symm)]; exact ZI.g0 e_lp_1246_2 (by decide) (by decide)
                        refine hj_i (ws := (WL cy zL zT zR zI_1223 zJ)) (w1 := fun (u : Unit) => (WL cy zL zT zR zI_1223 zJ)) (va_runV (As := [.int zi_949, .int zi_1252]) (rest := [.int 0, .int zia, .ref zy]) ⟨hx, hb, hml, hown, hts⟩ (t_X11_waterBy l dC dI cy H.size zL zT zR zI_1223 zJ zy zi_949 zi_1252 hs h_zI_1223.1 t_zy (by omega) (by omega) (WP.at e_lp_1246_0 (by omega) (by omega))) (cwV 2 hts gX11_make_X11_waterBy rfl rfl rfl (by decide +kernel) ⟨(Nat.le_of_ble_eq_true rfl), (Nat.le_of_ble_eq_true rfl)⟩) (PRE.v hP hK hD hN (ht_recv hK hP hs t_zy (by decide) rfl rfl)) rfl rfl hl.1 rfl (lv_room (Nat.le_of_ble_eq_true rfl)) dX11_make_112 ⟨(Nat.le_of_ble_eq_true rfl), (Nat.le_of_ble_eq_true rfl)⟩) hP hD hS hA (fun zi_1255 u_1257 H locs hw_1256 hP hD hS => ?_)
                        have rzi_1255 := rng zi_1255
                        refine lv_aload_n hx hb dX11_make_115 rfl (lv_at hl 0 rfl) ?_
                        refine ht_getr (C := RX11) (T := TX11) (N := 28) hx hb hts (by decide +kernel) hown hK hP hs t_zy (by decide) rfl rfl 0 (by decide) (hts (.fieldLink RX11 7 "DripStoneModel" "z" "[I") (by decide +kernel)) (fun _ h9 => h9) rfl dX11_make_116 ?_
                        refine lv_bipush (v := 20) hx hb dX11_make_119 (by decide) ?_
                        refine lv_iconst (v := 3) hx hb dX11_make_121 (by decide) ?_
                        refine lv_iload_n hx hb dX11_make_122 rfl (lv_at hl 3 rfl) ?_
                        refine lv_imul hx hb dX11_make_123 ?_
                        refine lv_topi (fun zi_1258 ezi_1258 => ?_)
                        have tzi_1258 : zi_1258.toInt = (3 : Int) * zi_949.toInt := by rw [ezi_1258]; exact timul (show (3 : Int32).toInt = 3 by decide) (rfl) (by omega) (by omega)
                        refine lv_iadd hx hb dX11_make_124 ?_
                        refine lv_topi (fun zi_1259 ezi_1259 => ?_)
                        have tzi_1259 : zi_1259.toInt = (20 : Int) + zi_1258.toInt := by rw [ezi_1259]; exact tiadd (show (20 : Int32).toInt = 20 by decide) (rfl) (by omega) (by omega)
                        refine lv_iconst (v := 2) hx hb dX11_make_125 (by decide) ?_
                        refine lv_iadd hx hb dX11_make_126 ?_
                        refine lv_topi (fun zi_1260 ezi_1260 => ?_)
                        have tzi_1260 : zi_1260.toInt = zi_1259.toInt + (2 : Int) := by rw [ezi_1260]; exact tiadd (rfl) (show (2 : Int32).toInt = 2 by decide) (by omega) (by omega)
                        refine ht_iald (n := 392) (q := 0) hx hb hK hP hs t_6 (by decide) rfl rfl ⟨by omega, by omega⟩ dX11_make_127 ?_
                        refine lv_topi (fun zi_1261 ezi_1261 => ?_)
                        have la_1262 : zi_1261.toInt = zA (zI_1223 (zR zy 0)) (22 + 3 * zi_949.toInt) := (congrArg Int32.toInt (show zI_1223 (zR zy 0) zi_1260.toNatClampNeg = zi_1261 from ezi_1261.symm).symm).trans (congrArg (zA (zI_1223 (zR zy 0))) (show zi_1260.toInt = 22 + 3 * zi_949.toInt from by omega))
                        refine lv_isub hx hb dX11_make_128 ?_
                        refine lv_topi (fun zi_1263 ezi_1263 => ?_)
                        refine lv_iload_n hx hb dX11_make_129 rfl (lv_at hl 3 rfl) ?_
                        refine hj_v (ws := (WL cy zL zT zR zI_1223 zJ)) (w1 := fun (u : (Nat → Nat → Int32)) => (WL cy zL zT zR u zJ)) (va_runV (As := [.int zia, .int 0, .int zi_1263, .int zi_949]) (rest := []) ⟨hx, hb, hml, hown, hts⟩ (t_X11_addThing l dC dI cy H.size zL zT zR zI_1223 zJ zy zia (0 : Int32) zi_1263 zi_949 hs h_zI_1223.1 t_zy (by omega) e_lp_1246_2) (cwV 4 hts gX11_make_X11_addThing rfl rfl rfl (by decide +kernel) ⟨(Nat.le_of_ble_eq_true rfl), (Nat.le_of_ble_eq_true rfl)⟩) (PRE.v hP hK hD hN (ht_recv hK hP hs t_zy (by decide) rfl rfl)) rfl rfl hl.1 rfl (lv_room (Nat.le_of_ble_eq_true rfl)) dX11_make_130 ⟨(Nat.le_of_ble_eq_true rfl), (Nat.le_of_ble_eq_true rfl)⟩) hP hD hS hA (fun zI_1267 H locs hw_1265 hP hD hS => ?_)
                        obtain ⟨k_zI_1267, ps_1268, ps_1269, ps_1270⟩ : (WM [10000] AL zT zR zI_1223 zI_1267) ∧ (FA (zI_1223 (zR zy 0)) (zI_1267 (zR zy 0))) ∧ (FQ (zI_1223 (zR zy 0)) (zI_1267 (zR zy 0))) ∧ (ZI (zI_1267 (zR zy 0))) := hw_1265
                        have h_zI_1267 : WM [10000] AL zT zR zI zI_1267 := h_zI_1223.tr k_zI_1267 (by decide) (fun _ _ => trivial)
                        have fq_zI_1267 : FQ (zI (zR zy 0)) (zI_1267 (zR zy 0)) := FQ.tr e_lp_1246_1 ps_1269
                        obtain ⟨zi_1271, ezi_1271⟩ : ∃ y : Int32, y = zi_1222 + 1 := ⟨_, rfl⟩
                        have tzi_1271 : zi_1271.toInt = zi_1222.toInt + 1 := by rw [ezi_1271]; exact tadd rfl (show (1 : Int32).toInt = 1 by decide) (by omega) (by omega)
                        refine lv_iinc (v := zi_1271) (lv' := [(5, .int zi_1271), (0, .ref zy), (1, .int zia), (2, .int zi_948), (3, .int zi_949), (4, .int zi_1144)]) hx hb dX11_make_133 hl (k := 5) rfl (by rw [ezi_1271]; rfl) (by decide) rfl (fun ls hl => ?_)
                        refine lv_goto (tgt := 94) hx hb dX11_make_136 (by decide) ?_
                        exact ih_1246 (zi_1144.toInt - zi_1271.toInt).toNat (by omega) zi_1271 zI_1267 _ _ _ rfl (by omega) h_zI_1267 (WP.fa e_lp_1246_0 ps_1268 (by omega)) fq_zI_1267 ps_1270 hP hD hS (lv_sub hl [1, 2, 3, 4, 5, 0] rfl)
                  exact lp_1246 _ (0 : Int32) zI_950 _ _ _ rfl (by decide) h_zI_950 ps_1147 e_lp_1135_0 e_lp_1135_1 hP hD hS (lv_sub hl [2, 3, 4, 5, 1, 0] rfl)
                · have f_1221 : ¬ (zi_1216.toInt < zi_1217.toInt) := ic_nlt (rfl) (rfl) c_1220
                  refine lv_aload_n hx hb dX11_make_83 rfl (lv_at hl 1 rfl) ?_
                  refine lv_iload_n hx hb dX11_make_84 rfl (lv_at hl 2 rfl) ?_
                  refine lv_iconst (v := 2) hx hb dX11_make_85 (by decide) ?_
                  refine lv_iconst (v := 0) hx hb dX11_make_86 (by decide) ?_
                  refine lv_iconst (v := 0) hx hb dX11_make_87 (by decide) ?_
                  have qc_2 : (2 : Int32).toInt = 2 := by decide
                  refine hj_v (ws := (WL cy zL zT zR zI_950 zJ)) (w1 := fun (u : (Nat → Nat → Int32)) => (WL cy zL zT zR u zJ)) (va_runV (As := [.int zia, .int 2, .int 0, .int 0]) (rest := []) ⟨hx, hb, hml, hown, hts⟩ (t_X11_addThing l dC dI cy H.size zL zT zR zI_950 zJ zy zia (2 : Int32) (0 : Int32) (0 : Int32) hs h_zI_950.1 t_zy (by omega) e_lp_1135_1) (cwV 4 hts gX11_make_X11_addThing rfl rfl rfl (by decide +kernel) ⟨(Nat.le_of_ble_eq_true rfl), (Nat.le_of_ble_eq_true rfl)⟩) (PRE.v hP hK hD hN (ht_recv hK hP hs t_zy (by decide) rfl rfl)) rfl rfl hl.1 rfl (lv_room (Nat.le_of_ble_eq_true rfl)) dX11_make_88 ⟨(Nat.le_of_ble_eq_true rfl), (Nat.le_of_ble_eq_true rfl)⟩) hP hD hS hA (fun zI_1275 H locs hw_1273 hP hD hS => ?_)
                  obtain ⟨k_zI_1275, ps_1276, ps_1277, ps_1278⟩ : (WM [10000] AL zT zR zI_950 zI_1275) ∧ (FA (zI_950 (zR zy 0)) (zI_1275 (zR zy 0))) ∧ (FQ (zI_950 (zR zy 0)) (zI_1275 (zR zy 0))) ∧ (ZI (zI_1275 (zR zy 0))) := hw_1273
                  have h_zI_1275 : WM [10000] AL zT zR zI zI_1275 := h_zI_950.tr k_zI_1275 (by decide) (fun _ _ => trivial)
                  have fq_zI_1275 : FQ (zI (zR zy 0)) (zI_1275 (zR zy 0)) := FQ.tr e_lp_1135_0 ps_1277
                  refine lv_iconst (v := 0) hx hb dX11_make_91 (by decide) ?_
                  refine lv_istore (lv' := [(5, .int 0), (4, .int zi_1144), (0, .ref zy), (1, .int zia), (2, .int zi_948), (3, .int zi_949)]) hx hb dX11_make_92 hl (by decide) rfl (fun ls hl => ?_)
                  have lp_1303 : ∀ (n : Nat) (zi_1279 : Int32) (zI_1280 : Nat → Nat → Int32) (H : Heap) (locs : List Loc) (ls : Array Slot), (zi_1144.toInt - zi_1279.toInt).toNat = n → (0 ≤ zi_1279.toInt) → (WM [10000] AL zT zR zI zI_1280) → (WP (zI_1280 (zR zy 0)) zi_949.toInt zi_1144.toInt) → (FQ (zI (zR zy 0)) (zI_1280 (zR zy 0))) → (ZI (zI_1280 (zR zy 0))) → va_P (dC, dI) vwCl (WL cy zL zT zR zI_1280 zJ) H → va_D A (WL cy zL zT zR zI_1280 zJ) → va_S A s.heap H locs → lv_has ls 6 [(0, .ref zy), (1, .int zia), (2, .int zi_948), (3, .int zi_949), (4, .int zi_1144), (5, .int zi_1279)] → W p l e ({ frames := 3, cells := 0, slots := 0, locals := 74 } : Room) s m ([.ref zy, .int zia] : List Value).toArray below meth c H locs 0 0 Q (F0 m 94 ls []) := by
                    intro n
                    induction n using Nat.strongRecOn with
                    | _ n ih_1303 =>
                      intro zi_1279 zI_1280 H locs ls hn b_zi_1279 h_zI_1280 e_lp_1303_0 e_lp_1303_1 e_lp_1303_2 hP hD hS hl
                      refine lv_iload hx hb dX11_make_94 (lv_at hl 5 rfl) ?_
                      refine lv_iload hx hb dX11_make_96 (lv_at hl 4 rfl) ?_
                      refine lv_icmp_ge (tgt := 139) hx hb dX11_make_98 (by decide) (fun c_1304 => ?_) (fun c_1304 => ?_)
                      · have f_1305 : zi_1279.toInt ≥ zi_1144.toInt := ic_ge (rfl) (rfl) c_1304
                        refine lv_iload hx hb dX11_make_139 (lv_at hl 4 rfl) ?_
                        refine lv_if_le (tgt := 148) hx hb dX11_make_141 (by decide) (fun c_1306 => ?_) (fun c_1306 => ?_)
                        · have f_1307 : zi_1144.toInt ≤ 0 := ic_le (rfl) (by decide) c_1306
                          exfalso; omega
                        · have f_1307 : ¬ (zi_1144.toInt ≤ 0) := ic_nle (rfl) (by decide) c_1306
                          refine lv_iload_n hx hb dX11_make_144 rfl (lv_at hl 3 rfl) ?_
                          refine lv_goto (tgt := 149) hx hb dX11_make_145 (by decide) ?_
                          refine lv_istore_n (lv' := [(2, .int zi_949), (0, .ref zy), (1, .int zia), (3, .int zi_949), (4, .int zi_1144), (5, .int zi_1279)]) hx hb dX11_make_149 rfl hl (by decide) rfl (fun ls hl => ?_)
                          obtain ⟨zi_1308, ezi_1308⟩ : ∃ y : Int32, y = zi_949 + 1 := ⟨_, rfl⟩
                          have tzi_1308 : zi_1308.toInt = zi_949.toInt + 1 := by rw [ezi_1308]; exact tadd rfl (show (1 : Int32).toInt = 1 by decide) (by omega) (by omega)
                          refine lv_iinc (v := zi_1308) (lv' := [(3, .int zi_1308), (2, .int zi_949), (0, .ref zy), (1, .int zia), (4, .int zi_1144), (5, .int zi_1279)]) hx hb dX11_make_150 hl (k := 3) rfl (by rw [ezi_1308]; rfl) (by decide) rfl (fun ls hl => ?_)
                          refine lv_goto (tgt := 47) hx hb dX11_make_153 (by decide) ?_
                          exact ih_1135 (24 - zi_1308.toInt).toNat (by omega) zi_949 zi_1308 zI_1280 _ _ _ rfl (by omega) (by omega) h_zI_1280 e_lp_1303_1 e_lp_1303_2 hP hD hS (lv_sub hl [2, 3, 1, 0] rfl)
                      · have f_1305 : ¬ (zi_1279.toInt ≥ zi_1144.toInt) := ic_nge (rfl) (rfl) c_1304
                        refine lv_aload_n hx hb dX11_make_101 rfl (lv_at hl 0 rfl) ?_
                        refine lv_iload_n hx hb dX11_make_102 rfl (lv_at hl 1 rfl) ?_
                        refine lv_iconst (v := 0) hx hb dX11_make_103 (by decide) ?_
                        refine lv_aload_n hx hb dX11_make_104 rfl (lv_at hl 0 rfl) ?_
                        refine lv_iload_n hx hb dX11_make_105 rfl (lv_at hl 3 rfl) ?_
                        refine lv_aload_n hx hb dX11_make_106 rfl (lv_at hl 0 rfl) ?_
                        refine ht_getr (C := RX11) (T := TX11) (N := 28) hx hb hts (by decide +kernel) hown hK hP hs t_zy (by decide) rfl rfl 0 (by decide) (hts (.fieldLink RX11 7 "DripStoneModel" "z" "[I") (by decide +kernel)) (fun _ h9 => h9) rfl dX11_make_107 ?_
                        refine lv_iconst (v := 0) hx hb dX11_make_110 (by decide) ?_
                        refine ht_iald (n := 392) (q := 0) hx hb hK hP hs t_6 (by decide) rfl rfl ⟨by decide, by decide⟩ dX11_make_111 ?_
                        refine lv_topi (fun zi_1309 ezi_1309 => ?_)
                        have la_1310 : zi_1309.toInt = zA (zI_1280 (zR zy 0)) (0) := (congrArg Int32.toInt (show zI_1280 (zR zy 0) (0 : Int32).toNatClampNeg = zi_1309 from ezi_1309.symm).symm).trans (congrArg (zA (zI_1280 (zR zy 0))) (show (0 : Int32).toInt = 0 from by decide))
                        have tz_1311 : 1 ≤ zi_1309.toInt ∧ zi_1309.toInt ≤ 5 := by rw [← (show zI_1280 (zR zy 0) (0 : Int32).toNatClampNeg = zi_1309 from ezi_1309.symm)]; exact ZI.g0 e_lp_1303_2 (by decide) (by decide)
                        refine hj_i (ws := (WL cy zL zT zR zI_1280 zJ)) (w1 := fun (u : Unit) => (WL cy zL zT zR zI_1280 zJ)) (va_runV (As := [.int zi_949, .int zi_1309]) (rest := [.int 0, .int zia, .ref zy]) ⟨hx, hb, hml, hown, hts⟩ (t_X11_waterBy l dC dI cy H.size zL zT zR zI_1280 zJ zy zi_949 zi_1309 hs h_zI_1280.1 t_zy (by omega) (by omega) (WP.at e_lp_1303_0 (by omega) (by omega))) (cwV 2 hts gX11_make_X11_waterBy rfl rfl rfl (by decide +kernel) ⟨(Nat.le_of_ble_eq_true rfl), (Nat.le_of_ble_eq_true rfl)⟩) (PRE.v hP hK hD hN (ht_recv hK hP hs t_zy (by decide) rfl rfl)) rfl rfl hl.1 rfl (lv_room (Nat.le_of_ble_eq_true rfl)) dX11_make_112 ⟨(Nat.le_of_ble_eq_true rfl), (Nat.le_of_ble_eq_true rfl)⟩) hP hD hS hA (fun zi_1312 u_1314 H locs hw_1313 hP hD hS => ?_)
                        have rzi_1312 := rng zi_1312
                        refine lv_aload_n hx hb dX11_make_115 rfl (lv_at hl 0 rfl) ?_
                        refine ht_getr (C := RX11) (T := TX11) (N := 28) hx hb hts (by decide +kernel) hown hK hP hs t_zy (by decide) rfl rfl 0 (by decide) (hts (.fieldLink RX11 7 "DripStoneModel" "z" "[I") (by decide +kernel)) (fun _ h9 => h9) rfl dX11_make_116 ?_
                        refine lv_bipush (v := 20) hx hb dX11_make_119 (by decide) ?_
                        refine lv_iconst (v := 3) hx hb dX11_make_121 (by decide) ?_
                        refine lv_iload_n hx hb dX11_make_122 rfl (lv_at hl 3 rfl) ?_
                        refine lv_imul hx hb dX11_make_123 ?_
                        refine lv_topi (fun zi_1315 ezi_1315 => ?_)
                        have tzi_1315 : zi_1315.toInt = (3 : Int) * zi_949.toInt := by rw [ezi_1315]; exact timul (show (3 : Int32).toInt = 3 by decide) (rfl) (by omega) (by omega)
                        refine lv_iadd hx hb dX11_make_124 ?_
                        refine lv_topi (fun zi_1316 ezi_1316 => ?_)
                        have tzi_1316 : zi_1316.toInt = (20 : Int) + zi_1315.toInt := by rw [ezi_1316]; exact tiadd (show (20 : Int32).toInt = 20 by decide) (rfl) (by omega) (by omega)
                        refine lv_iconst (v := 2) hx hb dX11_make_125 (by decide) ?_
                        refine lv_iadd hx hb dX11_make_126 ?_
                        refine lv_topi (fun zi_1317 ezi_1317 => ?_)
                        have tzi_1317 : zi_1317.toInt = zi_1316.toInt + (2 : Int) := by rw [ezi_1317]; exact tiadd (rfl) (show (2 : Int32).toInt = 2 by decide) (by omega) (by omega)
                        refine ht_iald (n := 392) (q := 0) hx hb hK hP hs t_6 (by decide) rfl rfl ⟨by omega, by omega⟩ dX11_make_127 ?_
                        refine lv_topi (fun zi_1318 ezi_1318 => ?_)
                        have la_1319 : zi_1318.toInt = zA (zI_1280 (zR zy 0)) (22 + 3 * zi_949.toInt) := (congrArg Int32.toInt (show zI_1280 (zR zy 0) zi_1317.toNatClampNeg = zi_1318 from ezi_1318.symm).symm).trans (congrArg (zA (zI_1280 (zR zy 0))) (show zi_1317.toInt = 22 + 3 * zi_949.toInt from by omega))
                        refine lv_isub hx hb dX11_make_128 ?_
                        refine lv_topi (fun zi_1320 ezi_1320 => ?_)
                        refine lv_iload_n hx hb dX11_make_129 rfl (lv_at hl 3 rfl) ?_
                        refine hj_v (ws := (WL cy zL zT zR zI_1280 zJ)) (w1 := fun (u : (Nat → Nat → Int32)) => (WL cy zL zT zR u zJ)) (va_runV (As := [.int zia, .int 0, .int zi_1320, .int zi_949]) (rest := []) ⟨hx, hb, hml, hown, hts⟩ (t_X11_addThing l dC dI cy H.size zL zT zR zI_1280 zJ zy zia (0 : Int32) zi_1320 zi_949 hs h_zI_1280.1 t_zy (by omega) e_lp_1303_2) (cwV 4 hts gX11_make_X11_addThing rfl rfl rfl (by decide +kernel) ⟨(Nat.le_of_ble_eq_true rfl), (Nat.le_of_ble_eq_true rfl)⟩) (PRE.v hP hK hD hN (ht_recv hK hP hs t_zy (by decide) rfl rfl)) rfl rfl hl.1 rfl (lv_room (Nat.le_of_ble_eq_true rfl)) dX11_make_130 ⟨(Nat.le_of_ble_eq_true rfl), (Nat.le_of_ble_eq_true rfl)⟩) hP hD hS hA (fun zI_1324 H locs hw_1322 hP hD hS => ?_)
                        obtain ⟨k_zI_1324, ps_1325, ps_1326, ps_1327⟩ : (WM [10000] AL zT zR zI_1280 zI_1324) ∧ (FA (zI_1280 (zR zy 0)) (zI_1324 (zR zy 0))) ∧ (FQ (zI_1280 (zR zy 0)) (zI_1324 (zR zy 0))) ∧ (ZI (zI_1324 (zR zy 0))) := hw_1322
                        have h_zI_1324 : WM [10000] AL zT zR zI zI_1324 := h_zI_1280.tr k_zI_1324 (by decide) (fun _ _ => trivial)
                        have fq_zI_1324 : FQ (zI (zR zy 0)) (zI_1324 (zR zy 0)) := FQ.tr e_lp_1303_1 ps_1326
                        obtain ⟨zi_1328, ezi_1328⟩ : ∃ y : Int32, y = zi_1279 + 1 := ⟨_, rfl⟩
                        have tzi_1328 : zi_1328.toInt = zi_1279.toInt + 1 := by rw [ezi_1328]; exact tadd rfl (show (1 : Int32).toInt = 1 by decide) (by omega) (by omega)
                        refine lv_iinc (v := zi_1328) (lv' := [(5, .int zi_1328), (0, .ref zy), (1, .int zia), (2, .int zi_948), (3, .int zi_949), (4, .int zi_1144)]) hx hb dX11_make_133 hl (k := 5) rfl (by rw [ezi_1328]; rfl) (by decide) rfl (fun ls hl => ?_)
                        refine lv_goto (tgt := 94) hx hb dX11_make_136 (by decide) ?_
                        exact ih_1303 (zi_1144.toInt - zi_1328.toInt).toNat (by omega) zi_1328 zI_1324 _ _ _ rfl (by omega) h_zI_1324 (WP.fa e_lp_1303_0 ps_1325 (by omega)) fq_zI_1324 ps_1327 hP hD hS (lv_sub hl [1, 2, 3, 4, 5, 0] rfl)
                  exact lp_1303 _ (0 : Int32) zI_1275 _ _ _ rfl (by decide) h_zI_1275 (WP.fa ps_1147 ps_1276 (by omega)) fq_zI_1275 ps_1278 hP hD hS (lv_sub hl [2, 3, 4, 5, 1, 0] rfl)
      have qc_m4 : ((-4) : Int32).toInt = -4 := by decide
      exact lp_1135 _ (-4 : Int32) (0 : Int32) zI_26 _ _ _ rfl (by decide) (by decide) h_zI_26 fq_zI_26 z_zI_26 hP hD hS (lv_sub hl [2, 3, 1, 0] rfl)
    · have f_11 : ¬ (zi_7.toInt ≠ 0) := ic_nne (rfl) (by decide) c_10
      refine lv_bipush (v := (-2)) hx hb dX11_make_18 (by decide) ?_
      subst hQ
      have qc_m2 : (-2 : Int32).toInt = -2 := by decide
      exact W.iret (v := (-2 : Int32)) hx hb hr (fun t ht hW => ⟨⟨(-2 : Int32), zI, rfl, ⟨h_zI, (show (-2) ≤ (-2 : Int32).toInt ∧ (-2 : Int32).toInt ≤ 12 from by omega), (show ZI (zI (zR zy 0)) from hz), (show FQ (zI (zR zy 0)) (zI (zR zy 0)) from FQ.rf)⟩, ⟨by rw [ht]; exact hP, va_K.moved hW.alike hK, hD⟩⟩, hS.F ht⟩) hS.2.2 dX11_make_20
  · have f_5 : ¬ (0 ≤ zia.toInt ∧ zia.toInt ≤ 1) := bz_0 hw_2 c_4
    refine lv_iconst (v := (-1)) hx hb dX11_make_7 (by decide) ?_
    subst hQ
    have qc_m1 : (-1 : Int32).toInt = -1 := by decide
    exact W.iret (v := (-1 : Int32)) hx hb hr (fun t ht hW => ⟨⟨(-1 : Int32), zI, rfl, ⟨h_zI, (show (-2) ≤ (-1 : Int32).toInt ∧ (-1 : Int32).toInt ≤ 12 from by omega), (show ZI (zI (zR zy 0)) from hz), (show FQ (zI (zR zy 0)) (zI (zR zy 0)) from FQ.rf)⟩, ⟨by rw [ht]; exact hP, va_K.moved hW.alike hK, hD⟩⟩, hS.F ht⟩) hS.2.2 dX11_make_8
