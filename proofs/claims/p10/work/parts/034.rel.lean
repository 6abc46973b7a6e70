/-! answers that the sheets alone give; the flag of an image -/
def SHv (a b c : Int) : Int := if (0 ≤ a ∧ a ≤ 3) ∧ (0 ≤ b ∧ b ≤ 2) ∧ c ≤ 24 then (if c < 0 then -14 else c) else -1
def DRv (a t z : Int) : Int := if 0 ≤ a ∧ a ≤ 3 then (if t = 0 then -11 else z) else -1
def DRw (a l z : Int) : Int := if 0 ≤ a ∧ a ≤ 3 then (if l < 0 then -11 else z) else -1
def RFS (t l z a f n : Int) : Int := if t = 0 then -11 else if ¬ l = a then -12 else if f < 0 ∨ z - n < f then -13 else 0
def LKS (l z a f n : Int) : Int := if ¬ l = a then (if l < 0 then -11 else -12) else if 0 ≤ f ∧ f ≤ z - n then 0 else -13
def ITv (a b q : Int) : Int := if (0 ≤ a ∧ a ≤ 3) ∧ (0 ≤ b ∧ b ≤ 2) then (if q = 0 then 1 else q) else -1
def RSv (f : Int) : Int := if f = 0 then -4 else 1
/-- other sheets stay -/
def OTH (zT : Nat → Nat) (zI zI' : Nat → Nat → Int32) (w : Nat) : Prop := ∀ a : Nat, zT a = 8 → ¬ a = w → zI' a 1 = zI a 1 ∧ zI' a 2 = zI a 2 ∧ zI' a 3 = zI a 3
/-- sheets: class and reference hold the same -/
def RSH (zR : Nat → Nat → Nat) (zI : Nat → Nat → Int32) (x y : Nat) : Prop := ∀ s : Nat, s < 4 → (((zI (zR y 25) s).toInt < 0 ∧ (zI (zR (zR x 5) s) 3).toInt = 0) ∨ (0 ≤ (zI (zR y 25) s).toInt ∧ ¬ (zI (zR (zR x 5) s) 3).toInt = 0 ∧ (zI (zR y 25) s).toInt = (zI (zR (zR x 5) s) 1).toInt)) ∧ (zI (zR y 26) s).toInt = (zI (zR (zR x 5) s) 2).toInt
theorem tS8 {zL : List Nat} {zT : Nat → Nat} {zR : Nat → Nat → Nat} {x s : Nat} (hs : SKP zL zT zR) (tx : zT x = 11) (h : s < 4) : zT (zR (zR x 5) s) = 8 := sk_a (n := 4) hs (sk_f hs tx (by decide) rfl (by decide) : zT (zR x 5) = 63) rfl rfl (by decide) h
theorem RSH.cg {zR : Nat → Nat → Nat} {zI zI' : Nat → Nat → Int32} {x y : Nat} (h : RSH zR zI x y) (e : ∀ s : Nat, s < 4 → zI' (zR y 25) s = zI (zR y 25) s ∧ zI' (zR y 26) s = zI (zR y 26) s ∧ zI' (zR (zR x 5) s) 1 = zI (zR (zR x 5) s) 1 ∧ zI' (zR (zR x 5) s) 2 = zI (zR (zR x 5) s) 2 ∧ zI' (zR (zR x 5) s) 3 = zI (zR (zR x 5) s) 3) : RSH zR zI' x y := fun s hs4 => by
  obtain ⟨a, b, c, d, f⟩ := e s hs4
  rw [a, b, c, d, f]
  exact h s hs4
theorem RSH.sm {ks : List Nat} {zO : Nat → Prop} {zL : List Nat} {zT : Nat → Nat} {zR : Nat → Nat → Nat} {zI zI' : Nat → Nat → Int32} {x y : Nat} (h : RSH zR zI x y) (hs : SKP zL zT zR) (tx : zT x = 11) (ty : zT y = 18) (hm : SM ks zO zT zI zI') (hk : 801 ∉ ks ∧ 802 ∉ ks ∧ 803 ∉ ks ∧ 11000 ∉ ks ∧ 11100 ∉ ks) : RSH zR zI' x y := h.cg (fun s hs4 => ⟨congrFun (hm.row (sk_f hs ty (by decide) rfl (by decide) : zT (zR y 25) = 110) (by decide) hk.2.2.2.1) s, congrFun (hm.row (sk_f hs ty (by decide) rfl (by decide) : zT (zR y 26) = 111) (by decide) hk.2.2.2.2) s, hm _ 1 (Or.inl (by rw [tS8 hs tx hs4]; exact hk.1)), hm _ 2 (Or.inl (by rw [tS8 hs tx hs4]; exact hk.2.1)), hm _ 3 (Or.inl (by rw [tS8 hs tx hs4]; exact hk.2.2.1))⟩)
theorem S_ne {zL : List Nat} {zT : Nat → Nat} {zR : Nat → Nat → Nat} {x s a : Nat} (hs : SKP zL zT zR) (tx : zT x = 11) (h : s < 4) (ha : a < 4) (hne : ¬ s = a) : ¬ zR (zR x 5) s = zR (zR x 5) a := fun e => by
  have t5 : zT (zR x 5) = 63 := sk_f hs tx (by decide) rfl (by decide)
  exact hne (hs.2.2.2.2 _ _ _ _ (vr_a t5 (n := 4) rfl (by decide : (8 : Nat) ≠ 0) h) (vr_a t5 (n := 4) rfl (by decide : (8 : Nat) ≠ 0) ha) e).2
theorem clN {a : Int32} (h0 : 0 ≤ a.toInt) {s : Nat} (h : s = a.toNatClampNeg) : (s : Int) = a.toInt := by
  have e : a.toNatClampNeg = a.toInt.toNat := rfl
  omega
theorem RSH.sheet {zL : List Nat} {zT : Nat → Nat} {zR : Nat → Nat → Nat} {I0 I1 I2 : Nat → Nat → Int32} {x y : Nat} {a b c r r' : Int32} {k1 k2 : List Nat} {O1 O2 : Nat → Prop} (h : RSH zR I0 x y) (hs : SKP zL zT zR) (tx : zT x = 11) (ty : zT y = 18) (m1 : SM k1 O1 zT I0 I1) (h1 : 11000 ∉ k1 ∧ 11100 ∉ k1) (m2 : SM k2 O2 zT I1 I2) (h2 : 801 ∉ k2 ∧ 802 ∉ k2 ∧ 803 ∉ k2)
    (v1 : r.toInt = SHv a.toInt b.toInt c.toInt) (p1 : r.toInt < 0 ∨ ((I1 (zR (zR x 5) a.toNatClampNeg) 1).toInt = b.toInt ∧ (I1 (zR (zR x 5) a.toNatClampNeg) 2).toInt = c.toInt ∧ (I1 (zR (zR x 5) a.toNatClampNeg) 3).toInt = 1)) (o1 : OTH zT I0 I1 (zR (zR x 5) a.toNatClampNeg)) (n1 : 0 ≤ r.toInt ∨ I1 = I0)
    (v2 : r'.toInt = SHv a.toInt b.toInt c.toInt) (p2 : r'.toInt < 0 ∨ ((I2 (zR y 25) a.toNatClampNeg).toInt = b.toInt ∧ (I2 (zR y 26) a.toNatClampNeg).toInt = c.toInt)) (o2 : ∀ j : Nat, ¬ j = a.toNatClampNeg → I2 (zR y 25) j = I1 (zR y 25) j ∧ I2 (zR y 26) j = I1 (zR y 26) j) (n2 : 0 ≤ r'.toInt ∨ I2 = I1) : RSH zR I2 x y := by
  have er : r'.toInt = r.toInt := v2.trans v1.symm
  by_cases c0 : r.toInt < 0
  · rw [n2.resolve_left (by omega), n1.resolve_left (by omega)]; exact h
  · have hv : (0 ≤ a.toInt ∧ a.toInt ≤ 3) ∧ (0 ≤ b.toInt ∧ b.toInt ≤ 2) := by
      unfold SHv at v1
      by_cases q : (0 ≤ a.toInt ∧ a.toInt ≤ 3) ∧ (0 ≤ b.toInt ∧ b.toInt ≤ 2) ∧ c.toInt ≤ 24
      · exact ⟨q.1, q.2.1⟩
      · rw [if_neg q] at v1; omega
    obtain ⟨q1, q2, q3⟩ := p1.resolve_left c0
    obtain ⟨w1, w2⟩ := p2.resolve_left (by omega)
    have ea : a.toNatClampNeg = a.toInt.toNat := rfl
    have ha4 : a.toNatClampNeg < 4 := by omega
    have l25 : I1 (zR y 25) = I0 (zR y 25) := m1.row (sk_f hs ty (by decide) rfl (by decide) : zT (zR y 25) = 110) (by decide) h1.1
    have l26 : I1 (zR y 26) = I0 (zR y 26) := m1.row (sk_f hs ty (by decide) rfl (by decide) : zT (zR y 26) = 111) (by decide) h1.2
    intro s hs4
    have g1 : I2 (zR (zR x 5) s) 1 = I1 (zR (zR x 5) s) 1 := m2 _ 1 (Or.inl (by rw [tS8 hs tx hs4]; exact h2.1))
    have g2 : I2 (zR (zR x 5) s) 2 = I1 (zR (zR x 5) s) 2 := m2 _ 2 (Or.inl (by rw [tS8 hs tx hs4]; exact h2.2.1))
    have g3 : I2 (zR (zR x 5) s) 3 = I1 (zR (zR x 5) s) 3 := m2 _ 3 (Or.inl (by rw [tS8 hs tx hs4]; exact h2.2.2))
    rw [g1, g2, g3]
    by_cases e : s = a.toNatClampNeg
    · rw [e, q1, q2, q3, w1, w2]
      exact ⟨Or.inr ⟨by omega, by omega, rfl⟩, rfl⟩
    · obtain ⟨u1, u2, u3⟩ := o1 _ (tS8 hs tx hs4) (S_ne hs tx hs4 ha4 e)
      obtain ⟨x1, x2⟩ := o2 s e
      rw [u1, u2, u3, x1, x2, l25, l26]
      exact h s hs4
theorem RSH.drop {zL : List Nat} {zT : Nat → Nat} {zR : Nat → Nat → Nat} {I0 I1 I2 : Nat → Nat → Int32} {x y : Nat} {a r r' : Int32} {k1 k2 : List Nat} {O1 O2 : Nat → Prop} (h : RSH zR I0 x y) (hs : SKP zL zT zR) (tx : zT x = 11) (ty : zT y = 18) (m1 : SM k1 O1 zT I0 I1) (h1 : 11000 ∉ k1 ∧ 11100 ∉ k1) (m2 : SM k2 O2 zT I1 I2) (h2 : 801 ∉ k2 ∧ 802 ∉ k2 ∧ 803 ∉ k2 ∧ 11100 ∉ k2) (hr : r.toInt = r'.toInt) (v1 : r.toInt = -1 ∨ (0 ≤ a.toInt ∧ a.toInt ≤ 3))
    (p1 : r.toInt = -1 ∨ (I1 (zR (zR x 5) a.toNatClampNeg) 3).toInt = 0) (w1 : I1 (zR (zR x 5) a.toNatClampNeg) 1 = I0 (zR (zR x 5) a.toNatClampNeg) 1 ∧ I1 (zR (zR x 5) a.toNatClampNeg) 2 = I0 (zR (zR x 5) a.toNatClampNeg) 2) (o1 : OTH zT I0 I1 (zR (zR x 5) a.toNatClampNeg)) (n1 : ¬ (r.toInt = -1) ∨ I1 = I0)
    (p2 : r'.toInt = -1 ∨ (I2 (zR y 25) a.toNatClampNeg).toInt < 0) (o2 : ∀ j : Nat, ¬ j = a.toNatClampNeg → I2 (zR y 25) j = I1 (zR y 25) j) (n2 : ¬ (r'.toInt = -1) ∨ I2 = I1) : RSH zR I2 x y := by
  by_cases c0 : r.toInt = -1
  · rw [n2.resolve_left (by omega), n1.resolve_left (by omega)]; exact h
  · have hv := v1.resolve_left c0
    have ea : a.toNatClampNeg = a.toInt.toNat := rfl
    have ha4 : a.toNatClampNeg < 4 := by omega
    have l25 : I1 (zR y 25) = I0 (zR y 25) := m1.row (sk_f hs ty (by decide) rfl (by decide) : zT (zR y 25) = 110) (by decide) h1.1
    have l26 : I2 (zR y 26) = I0 (zR y 26) := (m2.row (sk_f hs ty (by decide) rfl (by decide) : zT (zR y 26) = 111) (by decide) h2.2.2.2).trans (m1.row (sk_f hs ty (by decide) rfl (by decide) : zT (zR y 26) = 111) (by decide) h1.2)
    intro s hs4
    have g1 : I2 (zR (zR x 5) s) 1 = I1 (zR (zR x 5) s) 1 := m2 _ 1 (Or.inl (by rw [tS8 hs tx hs4]; exact h2.1))
    have g2 : I2 (zR (zR x 5) s) 2 = I1 (zR (zR x 5) s) 2 := m2 _ 2 (Or.inl (by rw [tS8 hs tx hs4]; exact h2.2.1))
    have g3 : I2 (zR (zR x 5) s) 3 = I1 (zR (zR x 5) s) 3 := m2 _ 3 (Or.inl (by rw [tS8 hs tx hs4]; exact h2.2.2.1))
    rw [g1, g2, g3, l26]
    have b := h s hs4
    by_cases e : s = a.toNatClampNeg
    · rw [e] at b ⊢
      rw [w1.2, p1.resolve_left c0]
      exact ⟨Or.inl ⟨p2.resolve_left (by omega), rfl⟩, b.2⟩
    · obtain ⟨u1, u2, u3⟩ := o1 _ (tS8 hs tx hs4) (S_ne hs tx hs4 ha4 e)
      rw [u1, u2, u3, o2 s e, l25]
      exact b
theorem DR.eq {zR : Nat → Nat → Nat} {I : Nat → Nat → Int32} {x y : Nat} {a : Int32} (h : RSH zR I x y) : DRv a.toInt (I (zR (zR x 5) a.toNatClampNeg) 3).toInt (I (zR (zR x 5) a.toNatClampNeg) 2).toInt = DRw a.toInt (I (zR y 25) a.toNatClampNeg).toInt (I (zR y 26) a.toNatClampNeg).toInt := by
  unfold DRv DRw
  by_cases c : 0 ≤ a.toInt ∧ a.toInt ≤ 3
  · have ea : a.toNatClampNeg = a.toInt.toNat := rfl
    obtain ⟨q1, q2⟩ := h a.toNatClampNeg (by omega)
    rw [if_pos c, if_pos c, q2]
    rcases q1 with q | q
    · rw [if_pos q.2, if_pos q.1]
    · rw [if_neg q.2.1, if_neg (by omega)]
  · rw [if_neg c, if_neg c]
theorem DR.in {a : Int32} {r t z : Int} (h : r = DRv a.toInt t z) : r = -1 ∨ (0 ≤ a.toInt ∧ a.toInt ≤ 3) := by
  unfold DRv at h
  by_cases c : 0 ≤ a.toInt ∧ a.toInt ≤ 3
  · exact Or.inr c
  · rw [if_neg c] at h; exact Or.inl h
theorem IT.eq {zR : Nat → Nat → Nat} {I : Nat → Nat → Int32} {x y : Nat} {a b c n : Int32} (h : RSH zR I x y) : ITv a.toInt b.toInt (RFS (I (zR (zR x 5) a.toNatClampNeg) 3).toInt (I (zR (zR x 5) a.toNatClampNeg) 1).toInt (I (zR (zR x 5) a.toNatClampNeg) 2).toInt b.toInt c.toInt n.toInt) = ITv a.toInt b.toInt (LKS (I (zR y 25) a.toNatClampNeg).toInt (I (zR y 26) a.toNatClampNeg).toInt b.toInt c.toInt n.toInt) := by
  unfold ITv
  by_cases k : (0 ≤ a.toInt ∧ a.toInt ≤ 3) ∧ (0 ≤ b.toInt ∧ b.toInt ≤ 2)
  · rw [if_pos k, if_pos k]
    have ea : a.toNatClampNeg = a.toInt.toNat := rfl
    obtain ⟨q1, q2⟩ := h a.toNatClampNeg (by omega)
    have e : RFS (I (zR (zR x 5) a.toNatClampNeg) 3).toInt (I (zR (zR x 5) a.toNatClampNeg) 1).toInt (I (zR (zR x 5) a.toNatClampNeg) 2).toInt b.toInt c.toInt n.toInt = LKS (I (zR y 25) a.toNatClampNeg).toInt (I (zR y 26) a.toNatClampNeg).toInt b.toInt c.toInt n.toInt := by
      unfold RFS LKS
      rw [q2]
      rcases q1 with q | q
      · rw [if_pos q.2, if_pos (by omega), if_pos q.1]
      · rw [if_neg q.2.1, q.2.2]
        by_cases w : (I (zR (zR x 5) a.toNatClampNeg) 1).toInt = b.toInt
        · rw [if_neg (show ¬ ¬ (I (zR (zR x 5) a.toNatClampNeg) 1).toInt = b.toInt from fun z => z w), if_neg (show ¬ ¬ (I (zR (zR x 5) a.toNatClampNeg) 1).toInt = b.toInt from fun z => z w)]
          by_cases u : c.toInt < 0 ∨ (I (zR (zR x 5) a.toNatClampNeg) 2).toInt - n.toInt < c.toInt
          · rw [if_pos u, if_neg (by omega)]
          · rw [if_neg u, if_pos (by omega)]
        · rw [if_pos (show ¬ (I (zR (zR x 5) a.toNatClampNeg) 1).toInt = b.toInt from w), if_pos (show ¬ (I (zR (zR x 5) a.toNatClampNeg) 1).toInt = b.toInt from w), if_neg (by omega)]
    rw [e]
  · rw [if_neg k, if_neg k]
