theorem kn_all {args : Array Value} {s : State} (hts : ∀ w ∈ wsL_law, w.before args s = true) : ∃ (dC : Nat → ClassId) (dI : Nat → Nat → Nat), ∀ (k : Nat) (q : vw_C), vwCl[k]? = some q → u_Kn s q.1 q.2.1 q.2.2 (dC k) (dI k) := by
  obtain ⟨c0, i0, h0⟩ := u_known (C := RX0) (T := TX0) (N := 11) (n := 11) hts inlX0 (hts (.instantiable RX0 11) (by decide +kernel))
  obtain ⟨c1, i1, h1⟩ := u_known (C := RX1) (T := TX1) (N := 8) (n := 8) hts inlX1 (hts (.instantiable RX1 8) (by decide +kernel))
  obtain ⟨c2, i2, h2⟩ := u_known (C := RX2) (T := TX2) (N := 7) (n := 7) hts inlX2 (hts (.instantiable RX2 7) (by decide +kernel))
  obtain ⟨c3, i3, h3⟩ := u_known (C := RX3) (T := TX3) (N := 3) (n := 3) hts inlX3 (hts (.instantiable RX3 3) (by decide +kernel))
  obtain ⟨c4, i4, h4⟩ := u_known (C := RX4) (T := TX4) (N := 6) (n := 6) hts inlX4 (hts (.instantiable RX4 6) (by decide +kernel))
  obtain ⟨c5, i5, h5⟩ := u_known (C := RX5) (T := TX5) (N := 9) (n := 9) hts inlX5 (hts (.instantiable RX5 9) (by decide +kernel))
  obtain ⟨c6, i6, h6⟩ := u_known (C := RX6) (T := TX6) (N := 4) (n := 4) hts inlX6 (hts (.instantiable RX6 4) (by decide +kernel))
  obtain ⟨c7, i7, h7⟩ := u_known (C := RX7) (T := TX7) (N := 4) (n := 4) hts inlX7 (hts (.instantiable RX7 4) (by decide +kernel))
  obtain ⟨c8, i8, h8⟩ := u_known (C := RX8) (T := TX8) (N := 9) (n := 9) hts inlX8 (hts (.instantiable RX8 9) (by decide +kernel))
  obtain ⟨c9, i9, h9⟩ := u_known (C := RX9) (T := TX9) (N := 16) (n := 16) hts inlX9 (hts (.instantiable RX9 16) (by decide +kernel))
  obtain ⟨c10, i10, h10⟩ := u_known (C := RX10) (T := TX10) (N := 10) (n := 10) hts inlX10 (hts (.instantiable RX10 10) (by decide +kernel))
  obtain ⟨c11, i11, h11⟩ := u_known (C := RX11) (T := TX11) (N := 28) (n := 28) hts inlX11 (hts (.instantiable RX11 28) (by decide +kernel))
  refine ⟨fun k => if k = 0 then c0 else if k = 1 then c1 else if k = 2 then c2 else if k = 3 then c3 else if k = 4 then c4 else if k = 5 then c5 else if k = 6 then c6 else if k = 7 then c7 else if k = 8 then c8 else if k = 9 then c9 else if k = 10 then c10 else c11, fun k => if k = 0 then i0 else if k = 1 then i1 else if k = 2 then i2 else if k = 3 then i3 else if k = 4 then i4 else if k = 5 then i5 else if k = 6 then i6 else if k = 7 then i7 else if k = 8 then i8 else if k = 9 then i9 else if k = 10 then i10 else i11, ?_⟩
  intro k q hq
  match k, hq with
  | 0, hq => cases hq; exact h0
  | 1, hq => cases hq; exact h1
  | 2, hq => cases hq; exact h2
  | 3, hq => cases hq; exact h3
  | 4, hq => cases hq; exact h4
  | 5, hq => cases hq; exact h5
  | 6, hq => cases hq; exact h6
  | 7, hq => cases hq; exact h7
  | 8, hq => cases hq; exact h8
  | 9, hq => cases hq; exact h9
  | 10, hq => cases hq; exact h10
  | 11, hq => cases hq; exact h11
  | k + 12, hq => simp [vwCl] at hq
theorem ky_p {args : Array Value} {s : State} {ty : FieldType} (h : (Cond.arrayClass ty).before args s = true) (hq : ∀ C, ty ≠ .object C) : ∃ cA, ArrOfT s cA ty ∧ va_RA s cA ty := by
  obtain ⟨c, k, comp, f1, f2, f3⟩ := Cond.arrayClass_spec h
  refine ⟨c, fun n z => ⟨(fun k h => by cases h), k, f2, comp, f3⟩, ?_⟩
  cases ty with
  | object C => exact absurd rfl (hq C)
  | _ => exact f1
theorem ky_o {C : String} {s : State} (h : va_AO C s) : ∃ cA, ArrOfT s cA (.object C) ∧ va_RA s cA (.object C) := by
  obtain ⟨comp, c, k, h1, h2, h3, h4, h5⟩ := Cond.arrayOver_spec h
  exact ⟨c, fun N z => ⟨(fun k h => by cases h), k, h3, comp, h4⟩, k, comp, h3, h4, h1, h5⟩
theorem ky_a {ty : FieldType} {s : State} (h : va_AOA ty s) : ∃ cA, ArrOfT s cA (.array ty) ∧ va_RA s cA (.array ty) := by
  obtain ⟨comp, c, k, h1, h2, h3, h4, h5⟩ := Jvm.Stand.arrayOver_specB h
  exact ⟨c, fun N z => ⟨(fun k h => by cases h), k, h3, comp, h4⟩, h5⟩
theorem ky_all {args : Array Value} {s : State} {dC : Nat → ClassId} {dI : Nat → Nat → Nat} (hts : ∀ w ∈ lw_tbl, w.before args s = true) (hN : N0 s) (hKc : ∀ (k : Nat) (q : vw_C), vwCl[k]? = some q → u_Kn s q.1 q.2.1 q.2.2 (dC k) (dI k)) : ∃ cy : Nat → ClassId, va_K (dC, dI) vwCl (TY cy) s := by
  obtain ⟨y0, h0⟩ := ky_p (hts (.arrayClass .int) (by decide +kernel)) (fun C h => by cases h)
  obtain ⟨y1, h1⟩ := ky_p (hts (.arrayClass .long) (by decide +kernel)) (fun C h => by cases h)
  obtain ⟨y2, h2⟩ := ky_p (hts (.arrayClass .boolean) (by decide +kernel)) (fun C h => by cases h)
  obtain ⟨y3, h3⟩ := ky_o (n0_ao3 hN)
  obtain ⟨y4, h4⟩ := ky_o (n0_ao4 hN)
  obtain ⟨y5, h5⟩ := ky_o (n0_ao5 hN)
  obtain ⟨y6, h6⟩ := ky_o (n0_ao6 hN)
  obtain ⟨y7, h7⟩ := ky_a (n0_ao7 hN)
  obtain ⟨y8, h8⟩ := ky_a (n0_ao8 hN)
  refine ⟨fun k => if k = 0 then y0 else if k = 1 then y1 else if k = 2 then y2 else if k = 3 then y3 else if k = 4 then y4 else if k = 5 then y5 else if k = 6 then y6 else if k = 7 then y7 else y8, hKc, ?_⟩
  intro k q hq
  match k, hq with
  | 0, hq => cases hq; exact h0
  | 1, hq => cases hq; exact h1
  | 2, hq => cases hq; exact h2
  | 3, hq => cases hq; exact h3
  | 4, hq => cases hq; exact h4
  | 5, hq => cases hq; exact h5
  | 6, hq => cases hq; exact h6
  | 7, hq => cases hq; exact h7
  | 8, hq => cases hq; exact h8
  | k + 9, hq => simp [TY] at hq
theorem n0_of {args : Array Value} {s : State} (hts : ∀ w ∈ lw_tbl, w.before args s = true) : N0 s := ⟨va_Nw.of rfl (hts (.methodLinkNest RX10 11 yX8_init "DripStone") (by decide +kernel)), va_Nw.of rfl (hts (.methodLinkNest RX10 21 yX6_init "DripStone") (by decide +kernel)), va_Nw.of rfl (hts (.methodLinkNest RX10 28 yX4_init "DripStone") (by decide +kernel)), va_Nw.of rfl (hts (.methodLinkNest RX10 35 yX1_init "DripStone") (by decide +kernel)), va_Nw.of rfl (hts (.methodLinkNest RX10 42 yX7_init "DripStone") (by decide +kernel)), va_Nw.of rfl (hts (.methodLinkNest RX10 49 yX9_init "DripStone") (by decide +kernel)), va_Nw.of rfl (hts (.methodLinkNest RX10 60 yX5_init "DripStone") (by decide +kernel)), va_Nw.of rfl (hts (.methodLinkNest RX8 11 yX3_init "DripStone") (by decide +kernel)), va_Nw.of rfl (hts (.methodLinkNest RX8 20 yX4_init "DripStone") (by decide +kernel)), va_Nw.of rfl (hts (.methodLinkNest RX8 27 yX0_init "DripStone") (by decide +kernel)), va_Nw.of rfl (hts (.methodLinkNest RX8 34 yX2_init "DripStone") (by decide +kernel)), va_Nw.of rfl (hts (.methodLinkNest RX8 41 yX1_init "DripStone") (by decide +kernel)), va_Nw.of rfl (hts (.methodLinkNest RX8 69 yX10_copyRow "DripStone") (by decide +kernel)), va_Nw.of rfl (hts (.methodLinkNest RX8 80 yX10_isWithin "DripStone") (by decide +kernel)), va_Nw.of rfl (hts (.methodLinkNest RX3 23 yX10_isWithin "DripStone") (by decide +kernel)), va_Nw.of rfl (hts (.methodLinkNest RX3 36 yX10_copyRow "DripStone") (by decide +kernel)), va_Nw.of rfl (hts (.methodLinkNest RX6 51 yX10_isWithin "DripStone") (by decide +kernel)), va_Nw.of rfl (hts (.methodLinkNest RX4 53 yX10_copyRow "DripStone") (by decide +kernel)), va_Nw.of rfl (hts (.methodLinkNest RX1 52 yX10_isWithin "DripStone") (by decide +kernel)), va_Nw.of rfl (hts (.methodLinkNest RX1 69 yX10_copyRow "DripStone") (by decide +kernel)), va_Nw.of rfl (hts (.methodLinkNest RX2 38 yX10_copyRow "DripStone") (by decide +kernel)), va_Nw.of rfl (hts (.methodLinkNest RX0 81 yX10_copyRow "DripStone") (by decide +kernel)), va_Nw.of rfl (hts (.methodLinkNest RX5 92 yX10_isWithin "DripStone") (by decide +kernel)), va_Nw.of rfl (hts (.methodLinkNest RX9 154 yX10_isWithin "DripStone") (by decide +kernel)), va_AO.of (hts (.arrayOver (.object "DripStone$Candle")) (by decide +kernel)), va_AO.of (hts (.arrayOver (.object "DripStone$Claim")) (by decide +kernel)), va_AO.of (hts (.arrayOver (.object "DripStone$Sheet")) (by decide +kernel)), va_AO.of (hts (.arrayOver (.object "DripStone$Ways")) (by decide +kernel)), va_AOA.of (hts (.arrayOver (.array .int)) (by decide +kernel)), va_AOA.of (hts (.arrayOver (.array .long)) (by decide +kernel))⟩
