def FTr (z : Nat → Int32) (k : Nat) (it : Int → Int) (b e i : Int) : Prop := 0 < (WS z k (it (b + 2 * i)) 0).toInt ∧ -e ≤ (WSP z k (it (b + 2 * i)) 0 / WS z k (it (b + 2 * i)) 0).toInt - it (b + 2 * i + 1) ∧ (WSP z k (it (b + 2 * i)) 0 / WS z k (it (b + 2 * i)) 0).toInt - it (b + 2 * i + 1) ≤ e
theorem FTr.mk {z : Nat → Int32} {k : Nat} {it : Int → Int} {b e i : Int} {y v w x : Int32} (hy : it (b + 2 * i) = y.toInt) (hv : it (b + 2 * i + 1) = v.toInt) (hw : w = WS z k y.toInt 0) (hp : x = WSP z k y.toInt 0 / WS z k y.toInt 0) (h0 : 0 < w.toInt) (h1 : -e ≤ x.toInt - v.toInt) (h2 : x.toInt - v.toInt ≤ e) : FTr z k it b e i := by
  unfold FTr
  rw [hy, hv, ← hp, ← hw]; exact ⟨h0, h1, h2⟩
theorem FTr.no1 {z : Nat → Int32} {k : Nat} {it : Int → Int} {b e i n : Int} {y w : Int32} (hy : it (b + 2 * i) = y.toInt) (hw : w = WS z k y.toInt 0) (h : w.toInt ≤ 0) (i0 : 0 ≤ i) (i1 : i < n) : ¬ ALLB (FTr z k it b e) n := fun a => by
  have q := (a i i0 i1).1
  rw [hy, ← hw] at q
  omega
theorem FTr.no2 {z : Nat → Int32} {k : Nat} {it : Int → Int} {b e i n : Int} {y v x : Int32} (hy : it (b + 2 * i) = y.toInt) (hv : it (b + 2 * i + 1) = v.toInt) (hp : x = WSP z k y.toInt 0 / WS z k y.toInt 0) (h : ¬ (-e ≤ x.toInt - v.toInt ∧ x.toInt - v.toInt ≤ e)) (i0 : 0 ≤ i) (i1 : i < n) : ¬ ALLB (FTr z k it b e) n := fun a => by
  have q := (a i i0 i1).2
  rw [hy, hv, ← hp] at q
  exact h q
/-! the rain's ranges -/
def ZRG (z : Nat → Int32) : Prop := ∀ j : Int, 0 ≤ j → j < 24 → (0 ≤ zA z (20 + 3 * j) ∧ zA z (20 + 3 * j) ≤ 9) ∧ (-20 ≤ zA z (20 + 3 * j + 1) ∧ zA z (20 + 3 * j + 1) ≤ 20)
def RGn (zR : Nat → Nat → Nat) (I : Nat → Nat → Int32) (y : Nat) : Prop := ZRG (I (zR y 0)) ∧ ((I y 23).toInt = 0 ∨ ZRG (I (zR y 24)))
theorem ZRG.cg {z u : Nat → Int32} (h : ZRG z) (e : FQR z u) : ZRG u := fun j j0 j1 => by
  rw [e _ (by omega) (by omega), e (20 + 3 * j + 1) (by omega) (by omega)]
  exact h j j0 j1
theorem RGn.sm {ks : List Nat} {zO : Nat → Prop} {zL : List Nat} {zT : Nat → Nat} {zR : Nat → Nat → Nat} {I I' : Nat → Nat → Int32} {y : Nat} (h : RGn zR I y) (hs : SKP zL zT zR) (ty : zT y = 18) (hm : SM ks zO zT I I') (hk : 1823 ∉ ks ∧ 10900 ∉ ks) (hq : FQR (I (zR y 0)) (I' (zR y 0))) : RGn zR I' y := by
  have e2 : I' y 23 = I y 23 := hm _ 23 (Or.inl (by rw [ty]; exact hk.1))
  have e3 : I' (zR y 24) = I (zR y 24) := hm.row (sk_f hs ty (by decide) rfl (by decide) : zT (zR y 24) = 109) (by decide) hk.2
  refine ⟨h.1.cg hq, ?_⟩
  rw [e2, e3]
  exact h.2
theorem RGn.rl {ks : List Nat} {zO : Nat → Prop} {zL : List Nat} {zT : Nat → Nat} {zR : Nat → Nat → Nat} {I I' : Nat → Nat → Int32} {y : Nat} (h : RGn zR I y) (hs : SKP zL zT zR) (ty : zT y = 18) (hm : SM ks zO zT I I') (hk : 1823 ∉ ks ∧ 10900 ∉ ks) (hq : ZRG (I' (zR y 0))) : RGn zR I' y := by
  have e2 : I' y 23 = I y 23 := hm _ 23 (Or.inl (by rw [ty]; exact hk.1))
  have e3 : I' (zR y 24) = I (zR y 24) := hm.row (sk_f hs ty (by decide) rfl (by decide) : zT (zR y 24) = 109) (by decide) hk.2
  refine ⟨hq, ?_⟩
  rw [e2, e3]
  exact h.2
theorem ZRG.rain {z u : Nat → Int32} {a b c : Int} {A B : Prop} (h : ZRG z) (h1 : RNok a b c → (A ∧ zA u (20 + 3 * a + b) = c ∧ FE z u (20 + 3 * a + b))) (h2 : ¬ RNok a b c → u = z) : ZRG u := by
  by_cases k : RNok a b c
  · obtain ⟨-, e, f⟩ := h1 k
    unfold RNok at k
    intro j j0 j1
    have q := h j j0 j1
    refine ⟨?_, ?_⟩
    · by_cases c1 : 20 + 3 * j = 20 + 3 * a + b
      · rw [c1, e]; omega
      · rw [f _ (by omega) c1]; exact q.1
    · by_cases c1 : 20 + 3 * j + 1 = 20 + 3 * a + b
      · rw [c1, e]; omega
      · rw [f _ (by omega) c1]; exact q.2
  · rw [h2 k]; exact h
theorem ZRG.rains {z u it : Nat → Int32} {w b n : Int} (h : ZRG z) (hw : 0 ≤ w ∧ w ≤ 2) (hn : n ≤ 24) (m : MAYZ it w b n) (q : RNZ z u it w b n) : ZRG u := fun j j0 j1 => by
  have p := h j j0 j1
  refine ⟨?_, ?_⟩
  · by_cases c1 : w = 0 ∧ j < n
    · have r := q.1 j j0 c1.2
      have y := m j j0 c1.2
      unfold MAYp at y
      rw [show 20 + 3 * j = 20 + 3 * j + w by omega, r]; omega
    · rw [q.2 _ (by omega) (fun y y0 y1 => by omega)]; exact p.1
  · by_cases c1 : w = 1 ∧ j < n
    · have r := q.1 j j0 c1.2
      have y := m j j0 c1.2
      unfold MAYp at y
      rw [show 20 + 3 * j + 1 = 20 + 3 * j + w by omega, r]; omega
    · rw [q.2 _ (by omega) (fun y y0 y1 => by omega)]; exact p.2
theorem RGn.image {k2 : List Nat} {O2 : Nat → Prop} {zL : List Nat} {zT : Nat → Nat} {zR : Nat → Nat → Nat} {I1 I2 : Nat → Nat → Int32} {y : Nat} (h : RGn zR I1 y) (hs : SKP zL zT zR) (ty : zT y = 18) (m2 : SM k2 O2 zT I1 I2) (h2 : 10000 ∉ k2) (c2 : ∀ j : Int, 0 ≤ j → j < 392 → zA (I2 (zR y 24)) j = zA (I1 (zR y 0)) j) : RGn zR I2 y := by
  have z2 : I2 (zR y 0) = I1 (zR y 0) := m2.row (sk_f hs ty (by decide) rfl (by decide) : zT (zR y 0) = 100) (by decide) h2
  exact ⟨by rw [z2]; exact h.1, Or.inr (h.1.cg (fun j j0 j1 => c2 j (by omega) (by omega)))⟩
theorem RGn.restore {k2 : List Nat} {O2 : Nat → Prop} {zL : List Nat} {zT : Nat → Nat} {zR : Nat → Nat → Nat} {I1 I2 : Nat → Nat → Int32} {y : Nat} (h : RGn zR I1 y) (hs : SKP zL zT zR) (ty : zT y = 18) (m2 : SM k2 O2 zT I1 I2) (hk : 1823 ∉ k2 ∧ 10900 ∉ k2) (c2 : ¬ (I1 y 23).toInt = 0 → (∀ j : Int, 0 ≤ j → j < 392 → zA (I2 (zR y 0)) j = zA (I1 (zR y 24)) j)) (n2 : (I1 y 23).toInt = 0 → I2 = I1) : RGn zR I2 y := by
  by_cases c : (I1 y 23).toInt = 0
  · rw [n2 c]; exact h
  · exact h.rl hs ty m2 hk ((h.2.resolve_left c).cg (fun j j0 j1 => c2 c j (by omega) (by omega)))
/-! no sum overflows -/
theorem SA.b {f p : Nat → Int32} (h : ∀ j : Nat, j < 24 → (0 ≤ (f j).toInt ∧ (f j).toInt ≤ 9) ∧ (-20 * (f j).toInt ≤ (p j).toInt ∧ (p j).toInt ≤ 20 * (f j).toInt)) {lo : Int} (hl : 0 ≤ lo) : ∀ n : Nat, lo + (n : Int) ≤ 24 → (0 ≤ (SA f lo n).toInt ∧ (SA f lo n).toInt ≤ 9 * (n : Int)) ∧ (-20 * (SA f lo n).toInt ≤ (SA p lo n).toInt ∧ (SA p lo n).toInt ≤ 20 * (SA f lo n).toInt)
  | 0, _ => by
    have e : (0 : Int32).toInt = 0 := by decide
    have e1 : (SA f lo 0).toInt = 0 := e
    have e2 : (SA p lo 0).toInt = 0 := e
    omega
  | n + 1, hn => by
    obtain ⟨⟨a, b⟩, c, d⟩ := SA.b h hl n (by omega)
    obtain ⟨⟨a', b'⟩, c', d'⟩ := h (lo + (n : Int)).toNat (by omega)
    have e1 : (SA f lo (n + 1)).toInt = (SA f lo n).toInt + (f (lo + (n : Int)).toNat).toInt := by
      show (SA f lo n + f (lo + (n : Int)).toNat).toInt = _
      rw [Int32.toInt_add]; exact Int.bmod_eq_of_le (by omega) (by omega)
    have e2 : (SA p lo (n + 1)).toInt = (SA p lo n).toInt + (p (lo + (n : Int)).toNat).toInt := by
      show (SA p lo n + p (lo + (n : Int)).toNat).toInt = _
      rw [Int32.toInt_add]; exact Int.bmod_eq_of_le (by omega) (by omega)
    omega
theorem PRO.b {a g : Int32} (h : 0 ≤ a.toInt ∧ a.toInt ≤ 9) (hg : -20 ≤ g.toInt ∧ g.toInt ≤ 20) : -20 * a.toInt ≤ (a * g).toInt ∧ (a * g).toInt ≤ 20 * a.toInt := by
  have u : a.toInt * g.toInt ≤ a.toInt * 20 := Int.mul_le_mul_of_nonneg_left hg.2 h.1
  have l : a.toInt * (-20) ≤ a.toInt * g.toInt := Int.mul_le_mul_of_nonneg_left hg.1 h.1
  have e : (a * g).toInt = a.toInt * g.toInt := by
    rw [Int32.toInt_mul]; exact Int.bmod_eq_of_le (by omega) (by omega)
  omega
/-- a mean of weights is no refusal -/
theorem DIV.b {s w : Int32} (h0 : 0 < w.toInt) (h1 : -20 * w.toInt ≤ s.toInt) (h2 : s.toInt ≤ 20 * w.toInt) : ¬ (s / w).toInt = -1004 := by
  have t : -20 ≤ s.toInt.tdiv w.toInt ∧ s.toInt.tdiv w.toInt ≤ 20 := by
    have m := Int.mul_tdiv_add_tmod s.toInt w.toInt
    have r := Int.tmod_lt_of_pos s.toInt h0
    have r2 : -w.toInt < s.toInt.tmod w.toInt := by
      have q := Int.lt_tmod_of_pos s.toInt h0
      omega
    refine ⟨?_, ?_⟩
    · refine Classical.byContradiction (fun c => ?_)
      have z : w.toInt * s.toInt.tdiv w.toInt ≤ w.toInt * (-21) := Int.mul_le_mul_of_nonneg_left (by omega) (by omega)
      omega
    · refine Classical.byContradiction (fun c => ?_)
      have z : w.toInt * 21 ≤ w.toInt * s.toInt.tdiv w.toInt := Int.mul_le_mul_of_nonneg_left (by omega) (by omega)
      omega
  have e : (s / w).toInt = s.toInt.tdiv w.toInt := by
    rw [Int32.toInt_div]; exact Int.bmod_eq_of_le (by omega) (by omega)
  omega
theorem WTC.b {f p : Nat → Int32} {y k : Int} (h : ∀ j : Nat, j < 24 → (0 ≤ (f j).toInt ∧ (f j).toInt ≤ 9) ∧ (-20 * (f j).toInt ≤ (p j).toInt ∧ (p j).toInt ≤ 20 * (f j).toInt)) (hy : 0 ≤ y ∧ y ≤ 23) (hk : 1 ≤ k) : 0 ≤ (WTC f y k).toInt ∧ (-20 * (WTC f y k).toInt ≤ (WTC p y k).toInt ∧ (WTC p y k).toInt ≤ 20 * (WTC f y k).toInt) := by
  have l := LOY.in hy.1 hk
  have b := SA.b h l.1 (y + 1 - LOY y k).toNat (by omega)
  exact ⟨b.1.1, b.2⟩
theorem FT.iff {zR : Nat → Nat → Nat} {I : Nat → Nat → Int32} {x y : Nat} {it it' : Int → Int} {b b' e i k : Int} (h : RRn zR I x y) (hg : ZRG (I (zR y 0))) (hk : 1 ≤ k ∧ k ≤ 5) (e1 : it (b + 2 * i) = it' (b' + 2 * i)) (e2 : it (b + 2 * i + 1) = it' (b' + 2 * i + 1)) (ha : 0 ≤ it' (b' + 2 * i) ∧ it' (b' + 2 * i) ≤ 23) : FTc (fun y9 => WRC (I (zR (zR (zR (zR x 0) 0) 0) 0)) (I (zR (zR (zR (zR x 0) 0) 0) 1)) y9 k) it b e i ↔ FTr (I (zR y 0)) k.toNat it' b' e i := by
  unfold FTc FTr
  rw [e1, e2]
  generalize it' (b' + 2 * i) = a at ha ⊢
  generalize it' (b' + 2 * i + 1) = v
  have w := WET.w (k := k) (n := k.toNat) h ha (by omega)
  have p := WET.p (k := k) (n := k.toNat) h ha (by omega)
  have bb := WTC.b (f := I (zR (zR (zR (zR x 0) 0) 0) 0)) (p := PRO (I (zR (zR (zR (zR x 0) 0) 0) 0)) (I (zR (zR (zR (zR x 0) 0) 0) 1))) (y := a) (k := k) (fun j hj => by
    have q := hg (j : Int) (by omega) (by omega)
    have f0 := h.1 0 j (by decide) hj
    have f1 := h.1 1 j (by decide) hj
    rw [show (20 + 3 * (j : Int) + ((0 : Nat) : Int)) = 20 + 3 * (j : Int) by omega] at f0
    rw [show (20 + 3 * (j : Int) + ((1 : Nat) : Int)) = 20 + 3 * (j : Int) + 1 by omega] at f1
    rw [← f0, ← f1] at q
    exact ⟨q.1, PRO.b q.1 q.2⟩) ha hk.1
  rw [← w, ← p]
  show (¬ (WRC (I (zR (zR (zR (zR x 0) 0) 0) 0)) (I (zR (zR (zR (zR x 0) 0) 0) 1)) a k).toInt = -1004 ∧ -e ≤ (WRC (I (zR (zR (zR (zR x 0) 0) 0) 0)) (I (zR (zR (zR (zR x 0) 0) 0) 1)) a k).toInt - v ∧ (WRC (I (zR (zR (zR (zR x 0) 0) 0) 0)) (I (zR (zR (zR (zR x 0) 0) 0) 1)) a k).toInt - v ≤ e) ↔ _
  unfold WRC
  by_cases c : WTC (I (zR (zR (zR (zR x 0) 0) 0) 0)) a k = 0
  · have z : ((-1004 : Int32)).toInt = -1004 := by decide
    have z0 : ((0 : Int32)).toInt = 0 := by decide
    rw [if_pos c, c]
    exact ⟨fun q => absurd z q.1, fun q => absurd q.1 (by omega)⟩
  · have ne : ¬ (WTC (I (zR (zR (zR (zR x 0) 0) 0) 0)) a k).toInt = 0 := fun q => c (Int32.toInt_inj.mp (q.trans (by decide)))
    rw [if_neg c]
    exact ⟨fun q => ⟨by omega, q.2⟩, fun q => ⟨DIV.b (by omega) bb.2.1 bb.2.2, q.2⟩⟩
theorem RF.eqi {zR : Nat → Nat → Nat} {I : Nat → Nat → Int32} {x y : Nat} {a b c : Int32} {n : Int} (h : RSH zR I x y) (ha : 0 ≤ a.toInt ∧ a.toInt ≤ 3) (hb : 0 ≤ b.toInt) : RFS (I (zR (zR x 5) a.toNatClampNeg) 3).toInt (I (zR (zR x 5) a.toNatClampNeg) 1).toInt (I (zR (zR x 5) a.toNatClampNeg) 2).toInt b.toInt c.toInt n = LKS (I (zR y 25) a.toNatClampNeg).toInt (I (zR y 26) a.toNatClampNeg).toInt b.toInt c.toInt n := by
  have ea : a.toNatClampNeg = a.toInt.toNat := rfl
  obtain ⟨q1, q2⟩ := h a.toNatClampNeg (by omega)
  unfold RFS LKS
  rw [q2]
  rcases q1 with q | q
  · rw [if_pos q.2, if_pos (by omega), if_pos q.1]
  · rw [if_neg q.2.1, q.2.2]
    by_cases w : (I (zR (zR x 5) a.toNatClampNeg) 1).toInt = b.toInt
    · rw [if_neg (show ¬ ¬ (I (zR (zR x 5) a.toNatClampNeg) 1).toInt = b.toInt from fun z => z w), if_neg (show ¬ ¬ (I (zR (zR x 5) a.toNatClampNeg) 1).toInt = b.toInt from fun z => z w)]
      by_cases u : c.toInt < 0 ∨ (I (zR (zR x 5) a.toNatClampNeg) 2).toInt - n < c.toInt
      · rw [if_pos u, if_neg (by omega)]
      · rw [if_neg u, if_pos (by omega)]
    · rw [if_pos (show ¬ (I (zR (zR x 5) a.toNatClampNeg) 1).toInt = b.toInt from w), if_pos (show ¬ (I (zR (zR x 5) a.toNatClampNeg) 1).toInt = b.toInt from w), if_neg (by omega)]
theorem LN.both {zL : List Nat} {zT : Nat → Nat} {zR : Nat → Nat → Nat} {I : Nat → Nat → Int32} {x y : Nat} {a b c d e r r' : Int32} (h : RRn zR I x y) (hg : RGn zR I y) (hr : RSH zR I x y) (hi : RIT zR I x y) (hw : WT zT zR I) (hs : SKP zL zT zR) (tx : zT x = 11) (p1 : ¬ (LNok a.toInt b.toInt d.toInt e.toInt) → r.toInt = -1) (p2 : LNok a.toInt b.toInt d.toInt e.toInt → ¬ (RFS (I (zR (zR x 5) a.toNatClampNeg) 3).toInt (I (zR (zR x 5) a.toNatClampNeg) 1).toInt (I (zR (zR x 5) a.toNatClampNeg) 2).toInt b.toInt c.toInt (2 * d.toInt)) = 0 → r.toInt = (RFS (I (zR (zR x 5) a.toNatClampNeg) 3).toInt (I (zR (zR x 5) a.toNatClampNeg) 1).toInt (I (zR (zR x 5) a.toNatClampNeg) 2).toInt b.toInt c.toInt (2 * d.toInt))) (p3 : LNok a.toInt b.toInt d.toInt e.toInt → (RFS (I (zR (zR x 5) a.toNatClampNeg) 3).toInt (I (zR (zR x 5) a.toNatClampNeg) 1).toInt (I (zR (zR x 5) a.toNatClampNeg) 2).toInt b.toInt c.toInt (2 * d.toInt)) = 0 → ¬ YQ (I (zR (zR (zR x 5) a.toNatClampNeg) 0)) c.toInt d.toInt → r.toInt = -2) (p4 : LNok a.toInt b.toInt d.toInt e.toInt → (RFS (I (zR (zR x 5) a.toNatClampNeg) 3).toInt (I (zR (zR x 5) a.toNatClampNeg) 1).toInt (I (zR (zR x 5) a.toNatClampNeg) 2).toInt b.toInt c.toInt (2 * d.toInt)) = 0 → YQ (I (zR (zR (zR x 5) a.toNatClampNeg) 0)) c.toInt d.toInt → LNa (fun k9 => ALLB (FTc (fun y9 => WRC (I (zR (zR (zR (zR x 0) 0) 0) 0)) (I (zR (zR (zR (zR x 0) 0) 0) 1)) y9 k9) (zB (I (zR (zR (zR x 5) a.toNatClampNeg) 0))) c.toInt e.toInt) d.toInt) r) (q1 : ¬ (LNok a.toInt b.toInt d.toInt e.toInt) → r'.toInt = -1) (q2 : LNok a.toInt b.toInt d.toInt e.toInt → ¬ (LKS (I (zR y 25) a.toNatClampNeg).toInt (I (zR y 26) a.toNatClampNeg).toInt b.toInt c.toInt (2 * d.toInt)) = 0 → r'.toInt = (LKS (I (zR y 25) a.toNatClampNeg).toInt (I (zR y 26) a.toNatClampNeg).toInt b.toInt c.toInt (2 * d.toInt))) (q3 : LNok a.toInt b.toInt d.toInt e.toInt → (LKS (I (zR y 25) a.toNatClampNeg).toInt (I (zR y 26) a.toNatClampNeg).toInt b.toInt c.toInt (2 * d.toInt)) = 0 → ¬ YQ (I (zR y 27)) (24 * a.toInt + c.toInt) d.toInt → r'.toInt = -2) (q4 : LNok a.toInt b.toInt d.toInt e.toInt → (LKS (I (zR y 25) a.toNatClampNeg).toInt (I (zR y 26) a.toNatClampNeg).toInt b.toInt c.toInt (2 * d.toInt)) = 0 → YQ (I (zR y 27)) (24 * a.toInt + c.toInt) d.toInt → LNa (fun k9 => ALLB (FTr (I (zR y 0)) k9.toNat (zA (I (zR y 27))) (24 * a.toInt + c.toInt) e.toInt) d.toInt) r') : r.toInt = r'.toInt := by
  by_cases k : LNok a.toInt b.toInt d.toInt e.toInt
  · have k' := k
    unfold LNok at k'
    have eq := RF.eqi (n := 2 * d.toInt) (c := c) hr k'.1 k'.2.1.1
    rw [← eq] at q2 q3 q4
    by_cases w : (RFS (I (zR (zR x 5) a.toNatClampNeg) 3).toInt (I (zR (zR x 5) a.toNatClampNeg) 1).toInt (I (zR (zR x 5) a.toNatClampNeg) 2).toInt b.toInt c.toInt (2 * d.toInt)) = 0
    · obtain ⟨-, d0, d1⟩ := RF.in w
      have ea : a.toNatClampNeg = a.toInt.toNat := rfl
      have ha4 : a.toNatClampNeg < 4 := by omega
      have sz := (wt_at hw (tS8 hs tx ha4) 2 (lo := 0) (hi := 24) rfl).2
      have it : ∀ i : Int, 0 ≤ i → i < 2 * d.toInt → zB (I (zR (zR (zR x 5) a.toNatClampNeg) 0)) (c.toInt + i) = zA (I (zR y 27)) (24 * a.toInt + c.toInt + i) := fun i i0 i1 => by
        have q := hi a.toNatClampNeg (c.toInt + i).toNat ha4 (by omega)
        rw [show (24 * ((a.toNatClampNeg : Nat) : Int) + (((c.toInt + i).toNat : Nat) : Int)) = 24 * a.toInt + c.toInt + i by omega] at q
        exact q
      have yy : YQ (I (zR (zR (zR x 5) a.toNatClampNeg) 0)) c.toInt d.toInt ↔ YQ (I (zR y 27)) (24 * a.toInt + c.toInt) d.toInt := ⟨fun z q q0 q1 => by
        have t := it (2 * q) (by omega) (by omega)
        have u := z q q0 q1
        show 0 ≤ zA (I (zR y 27)) (24 * a.toInt + c.toInt + 2 * q) ∧ zA (I (zR y 27)) (24 * a.toInt + c.toInt + 2 * q) ≤ 23
        rw [← t]; exact u, fun z q q0 q1 => by
        have t := it (2 * q) (by omega) (by omega)
        have u := z q q0 q1
        show 0 ≤ zB (I (zR (zR (zR x 5) a.toNatClampNeg) 0)) (c.toInt + 2 * q) ∧ zB (I (zR (zR (zR x 5) a.toNatClampNeg) 0)) (c.toInt + 2 * q) ≤ 23
        rw [t]; exact u⟩
      by_cases g : YQ (I (zR (zR (zR x 5) a.toNatClampNeg) 0)) c.toInt d.toInt
      · exact LNa.eq (fun kk k0 k1 => ALLB.cg (fun i i0 i1 => FT.iff h hg.1 ⟨k0, k1⟩ (it (2 * i) (by omega) (by omega)) (by
          have t := it (2 * i + 1) (by omega) (by omega)
          rw [show c.toInt + (2 * i + 1) = c.toInt + 2 * i + 1 by omega, show 24 * a.toInt + c.toInt + (2 * i + 1) = 24 * a.toInt + c.toInt + 2 * i + 1 by omega] at t
          exact t) (yy.mp g i i0 i1))) (p4 k w g) (q4 k w (yy.mp g))
      · rw [p3 k w g, q3 k w (fun z => g (yy.mpr z))]
    · rw [p2 k w, q2 k w]
  · rw [p1 k, q1 k]
theorem RGn.rains {ks : List Nat} {zO : Nat → Prop} {zL : List Nat} {zT : Nat → Nat} {zR : Nat → Nat → Nat} {I1 I2 : Nat → Nat → Int32} {y : Nat} {a b c d e r : Int32} {Q : Int} (h : RGn zR I1 y) (hs : SKP zL zT zR) (ty : zT y = 18) (m : SM ks zO zT I1 I2) (hk : 1823 ∉ ks ∧ 10900 ∉ ks)
    (q1 : ¬ (RSok a.toInt b.toInt c.toInt e.toInt) → (r.toInt = -1 ∧ I2 = I1)) (q2 : RSok a.toInt b.toInt c.toInt e.toInt → ¬ Q = 0 → (r.toInt = Q ∧ I2 = I1))
    (q3 : RSok a.toInt b.toInt c.toInt e.toInt → Q = 0 → ¬ MAYZ (I1 (zR y 27)) a.toInt (24 * b.toInt + d.toInt) e.toInt → (r.toInt = -2 ∧ I2 = I1))
    (q4 : RSok a.toInt b.toInt c.toInt e.toInt → Q = 0 → MAYZ (I1 (zR y 27)) a.toInt (24 * b.toInt + d.toInt) e.toInt → (r.toInt = e.toInt ∧ RNZ (I1 (zR y 0)) (I2 (zR y 0)) (I1 (zR y 27)) a.toInt (24 * b.toInt + d.toInt) e.toInt)) : RGn zR I2 y := by
  by_cases k : RSok a.toInt b.toInt c.toInt e.toInt
  · by_cases w : Q = 0
    · by_cases g : MAYZ (I1 (zR y 27)) a.toInt (24 * b.toInt + d.toInt) e.toInt
      · have k' := k
        unfold RSok at k'
        exact h.rl hs ty m hk (h.1.rains k'.1 k'.2.2.2 g (q4 k w g).2)
      · rw [(q3 k w g).2]; exact h
    · rw [(q2 k w).2]; exact h
  · rw [(q1 k).2]; exact h
