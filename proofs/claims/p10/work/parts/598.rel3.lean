/-- 24 items are 0, all others as they were -/
def FZI (f g : Nat → Int32) (b n : Int) : Prop := (∀ k : Int, 0 ≤ k → k < n → zA g (b + k) = 0) ∧ (∀ j : Int, 0 ≤ j → (j < b ∨ b + 24 ≤ j) → zA g j = zA f j)
theorem FZI.z {f : Nat → Int32} {b : Int} : FZI f f b ((0 : Int32).toInt) := ⟨fun k k0 k1 => by
  have e : (0 : Int32).toInt = 0 := by decide
  omega, fun _ _ _ => rfl⟩
theorem FZI.s {f g : Nat → Int32} {b n m : Int} {i v : Int32} (h : FZI f g b n) (hb : 0 ≤ b) (h0 : 0 ≤ n ∧ n ≤ 23) (hi : i.toInt = b + n) (hv : v.toInt = 0) (hm : m = n + 1) : FZI f (upd g i.toNatClampNeg v) b m := ⟨fun k k0 k1 => by
  by_cases c : k = n
  · rw [zu_s (by omega), hv]
  · rw [zu_n (by omega) (by omega) (by omega)]; exact h.1 k k0 (by omega), fun j j0 hj => by
  rw [zu_n (by omega) j0 (by omega)]; exact h.2 j j0 hj⟩
theorem FZI.e {f g : Nat → Int32} {b n m : Int} (h : FZI f g b n) (e : m ≤ n) : FZI f g b m := ⟨fun k k0 k1 => h.1 k k0 (by omega), h.2⟩
def WRI (f g : Nat → Int32) (k : Int) (v : Int32) : Prop := zA g k = v.toInt ∧ ∀ j : Int, 0 ≤ j → ¬ j = k → zA g j = zA f j
theorem WRI.mk9 {f : Nat → Int32} {i v w : Int32} {k : Int} (h0 : 0 ≤ i.toInt) (hk : i.toInt = k) (e : v = w) : WRI f (upd f i.toNatClampNeg v) k w := ⟨by rw [zu_s hk.symm, e], fun j j0 hj => zu_n h0 j0 (by omega)⟩
def NARz (l : Int) (v : Int32) : Int32 := if l = 0 then (v <<< ((24 : Int32) &&& 31)) >>> ((24 : Int32) &&& 31) else if l = 1 then (v <<< ((16 : Int32) &&& 31)) >>> ((16 : Int32) &&& 31) else v
theorem nar8 (v : Int32) : (v <<< ((24 : Int32) &&& 31)) >>> ((24 : Int32) &&& 31) = v.toInt8.toInt32 := by
  apply Int32.toBitVec_inj.mp
  have e : (((24 : Int32) &&& 31).toBitVec.smod 32).toNat = 24 := by decide
  have e1 : ((v <<< ((24 : Int32) &&& 31)) >>> ((24 : Int32) &&& 31)).toBitVec = (v.toBitVec <<< ((((24 : Int32) &&& 31).toBitVec.smod 32).toNat)).sshiftRight ((((24 : Int32) &&& 31).toBitVec.smod 32).toNat) := rfl
  have e2 : (v.toInt8.toInt32).toBitVec = (v.toBitVec.signExtend 8).signExtend 32 := rfl
  rw [e1, e2, e]
  apply BitVec.eq_of_getElem_eq
  intro i hi
  by_cases c : i < 8
  · have c1 : 24 + i < 32 := by omega
    simp [BitVec.getElem_sshiftRight, BitVec.getElem_signExtend, c, c1, hi, show ¬ 24 + i < 24 by omega]
  · have c1 : ¬ 24 + i < 32 := by omega
    simp [BitVec.getElem_sshiftRight, BitVec.getElem_signExtend, BitVec.msb_eq_getLsbD_last, c, c1]
theorem nar16 (v : Int32) : (v <<< ((16 : Int32) &&& 31)) >>> ((16 : Int32) &&& 31) = v.toInt16.toInt32 := by
  apply Int32.toBitVec_inj.mp
  have e : (((16 : Int32) &&& 31).toBitVec.smod 32).toNat = 16 := by decide
  have e1 : ((v <<< ((16 : Int32) &&& 31)) >>> ((16 : Int32) &&& 31)).toBitVec = (v.toBitVec <<< ((((16 : Int32) &&& 31).toBitVec.smod 32).toNat)).sshiftRight ((((16 : Int32) &&& 31).toBitVec.smod 32).toNat) := rfl
  have e2 : (v.toInt16.toInt32).toBitVec = (v.toBitVec.signExtend 16).signExtend 32 := rfl
  rw [e1, e2, e]
  apply BitVec.eq_of_getElem_eq
  intro i hi
  by_cases c : i < 16
  · have c1 : 16 + i < 32 := by omega
    simp [BitVec.getElem_sshiftRight, BitVec.getElem_signExtend, c, c1, hi, show ¬ 16 + i < 16 by omega]
  · have c1 : ¬ 16 + i < 32 := by omega
    simp [BitVec.getElem_sshiftRight, BitVec.getElem_signExtend, BitVec.msb_eq_getLsbD_last, c, c1]
theorem NARz.eq {l : Int} {v : Int32} : NARz l v = NAR l v := by
  unfold NARz NAR
  rw [nar8, nar16]
/-- rain by rains -/
def RNZ (f g it : Nat → Int32) (w b n : Int) : Prop := (∀ y : Int, 0 ≤ y → y < n → zA g (20 + 3 * y + w) = zA it (b + y)) ∧ (∀ j : Int, 0 ≤ j → (∀ y : Int, 0 ≤ y → y < n → ¬ j = 20 + 3 * y + w) → zA g j = zA f j)
theorem RNZ.z {f it : Nat → Int32} {w b : Int} : RNZ f f it w b ((0 : Int32).toInt) := ⟨fun k k0 k1 => by
  have e : (0 : Int32).toInt = 0 := by decide
  omega, fun _ _ _ => rfl⟩
theorem RNZ.s {f g it : Nat → Int32} {w b n m : Int} {i v : Int32} (h : RNZ f g it w b n) (hw : 0 ≤ w ∧ w ≤ 2) (h0 : 0 ≤ n) (hi : i.toInt = 20 + 3 * n + w) (hv : v.toInt = zA it (b + n)) (hm : m = n + 1) : RNZ f (upd g i.toNatClampNeg v) it w b m := ⟨fun y y0 y1 => by
  by_cases c : y = n
  · rw [zu_s (by omega), hv, c]
  · rw [zu_n (by omega) (by omega) (by omega)]; exact h.1 y y0 (by omega), fun j j0 hj => by
  rw [zu_n (by omega) j0 (by rw [hi]; exact hj n h0 (by omega))]; exact h.2 j j0 (fun y y0 y1 => hj y y0 (by omega))⟩
theorem RNZ.e {f g it : Nat → Int32} {w b n m : Int} (h : RNZ f g it w b n) (e : m = n) : RNZ f g it w b m := by rw [e]; exact h
def MAYZ (f : Nat → Int32) (w b n : Int) : Prop := ∀ i : Int, 0 ≤ i → i < n → MAYp w (zA f (b + i))
theorem MAYZ.z {f : Nat → Int32} {w b : Int} : MAYZ f w b ((0 : Int32).toInt) := fun i i0 i1 => by
  have e : (0 : Int32).toInt = 0 := by decide
  omega
theorem MAYZ.s {f : Nat → Int32} {w b n m v : Int} (h : MAYZ f w b n) (hv : MAYp w v) (e : v = zA f (b + n)) (hm : m = n + 1) : MAYZ f w b m := fun i i0 i1 => by
  by_cases c : i = n
  · rw [c, ← e]; exact hv
  · exact h i i0 (by omega)
theorem MAYZ.e {f : Nat → Int32} {w b n m : Int} (h : MAYZ f w b n) (e : m ≤ n) : MAYZ f w b m := fun i i0 i1 => h i i0 (by omega)
theorem MAYZ.no {f : Nat → Int32} {w b n k v : Int} (h : MAYZ f w b n) (k0 : 0 ≤ k) (k1 : k < n) (e : v = zA f (b + k)) (hn : ¬ MAYp w v) : False := hn (by rw [e]; exact h k k0 k1)
/-! rain: class and reference hold the same, now and in the image -/
def SRn (zR : Nat → Nat → Nat) (zI : Nat → Nat → Int32) (n : Nat) (z : Nat → Int32) : Prop := ∀ w y : Nat, w < 3 → y < 24 → (zI (zR (zR (zR n 0) 0) w) y).toInt = zA z (20 + 3 * (y : Int) + (w : Int))
def RRn (zR : Nat → Nat → Nat) (zI : Nat → Nat → Int32) (x y : Nat) : Prop := SRn zR zI (zR x 0) (zI (zR y 0)) ∧ ((zI y 23).toInt = 0 ∨ SRn zR zI (zR x 1) (zI (zR y 24)))
/-- items of sheets: class and reference hold the same -/
def RIT (zR : Nat → Nat → Nat) (zI : Nat → Nat → Int32) (x y : Nat) : Prop := ∀ s i : Nat, s < 4 → i < 24 → (zI (zR (zR (zR x 5) s) 0) i).toInt = zA (zI (zR y 27)) (24 * (s : Int) + (i : Int))
def FQR (z u : Nat → Int32) : Prop := ∀ j : Int, 20 ≤ j → j ≤ 91 → zA u j = zA z j
theorem FQR.rf {z : Nat → Int32} : FQR z z := fun _ _ _ => rfl
theorem FQR.of {z u : Nat → Int32} (h : u = z) : FQR z u := by rw [h]; exact FQR.rf
theorem FQ.wR {z u : Nat → Int32} (h : FQ z u) : FQR z u := fun j j0 j1 => h j (by omega) (by omega)
theorem FE.wR {z u : Nat → Int32} {k : Int} (h : FE z u k) (hk : k < 20 ∨ 91 < k) : FQR z u := fun j j0 j1 => h j (by omega) (by omega)
theorem SRn.cg {zR : Nat → Nat → Nat} {I I' : Nat → Nat → Int32} {n : Nat} {z z' : Nat → Int32} (h : SRn zR I n z) (e : ∀ w : Nat, w < 3 → I' (zR (zR (zR n 0) 0) w) = I (zR (zR (zR n 0) 0) w)) (ez : FQR z z') : SRn zR I' n z' := fun w y hw hy => by
  rw [e w hw, ez _ (by omega) (by omega)]
  exact h w y hw hy
theorem nw_h {zL : List Nat} {zT : Nat → Nat} {zR : Nat → Nat → Nat} {x : Nat} (hs : SKP zL zT zR) (tx : zT x = 11) : zT (zR (zR x 0) 0) = 4 ∧ zT (zR (zR x 1) 0) = 13 := ⟨sk_f hs (nw_t hs tx).1 (by decide) rfl (by decide), sk_f hs (nw_t hs tx).2 (by decide) rfl (by decide)⟩
theorem nw_r {zL : List Nat} {zT : Nat → Nat} {zR : Nat → Nat → Nat} {x w : Nat} (hs : SKP zL zT zR) (tx : zT x = 11) (hw : w < 3) : zT (zR (zR (zR (zR x 0) 0) 0) w) = 34 ∧ zT (zR (zR (zR (zR x 1) 0) 0) w) = 84 := ⟨sk_a (n := 3) hs (sk_f hs (nw_h hs tx).1 (by decide) rfl (by decide) : zT (zR (zR (zR x 0) 0) 0) = 60) rfl rfl (by decide) hw, sk_a (n := 3) hs (sk_f hs (nw_h hs tx).2 (by decide) rfl (by decide) : zT (zR (zR (zR x 1) 0) 0) = 90) rfl rfl (by decide) hw⟩
theorem SRn.tk {zR : Nat → Nat → Nat} {I I' : Nat → Nat → Int32} {t o : Nat} {z z' : Nat → Int32} (h : SRn zR I o z) (ht : TKS zR I I' t o) (ez : ∀ j : Int, 0 ≤ j → j < 392 → zA z' j = zA z j) : SRn zR I' t z' := fun w y hw hy => by
  rw [ht.2.1.1 w y (by omega) hw hy, ez _ (by omega) (by omega)]
  exact h w y hw hy
theorem RRn.sm {ks : List Nat} {zO : Nat → Prop} {zL : List Nat} {zT : Nat → Nat} {zR : Nat → Nat → Nat} {I I' : Nat → Nat → Int32} {x y : Nat} (h : RRn zR I x y) (hs : SKP zL zT zR) (tx : zT x = 11) (ty : zT y = 18) (hm : SM ks zO zT I I') (hk : 3400 ∉ ks ∧ 8400 ∉ ks ∧ 1823 ∉ ks ∧ 10900 ∉ ks) (hq : FQR (I (zR y 0)) (I' (zR y 0))) : RRn zR I' x y := by
  have e2 : I' y 23 = I y 23 := hm _ 23 (Or.inl (by rw [ty]; exact hk.2.2.1))
  have e3 : I' (zR y 24) = I (zR y 24) := hm.row (sk_f hs ty (by decide) rfl (by decide) : zT (zR y 24) = 109) (by decide) hk.2.2.2
  refine ⟨h.1.cg (fun w hw => hm.row (nw_r hs tx hw).1 (by decide) hk.1) hq, ?_⟩
  rw [e2, e3]
  exact h.2.imp id (fun q => q.cg (fun w hw => hm.row (nw_r hs tx hw).2 (by decide) hk.2.1) FQR.rf)
theorem RRn.image {k1 k2 : List Nat} {O1 O2 : Nat → Prop} {zL : List Nat} {zT : Nat → Nat} {zR : Nat → Nat → Nat} {I0 I1 I2 : Nat → Nat → Int32} {x y : Nat} (h : RRn zR I0 x y) (hs : SKP zL zT zR) (tx : zT x = 11) (ty : zT y = 18) (m1 : SM k1 O1 zT I0 I1) (h1 : 3400 ∉ k1 ∧ 10000 ∉ k1) (t1 : TKS zR I0 I1 (zR x 1) (zR x 0)) (m2 : SM k2 O2 zT I1 I2) (h2 : 3400 ∉ k2 ∧ 8400 ∉ k2 ∧ 10000 ∉ k2) (c2 : ∀ j : Int, 0 ≤ j → j < 392 → zA (I2 (zR y 24)) j = zA (I1 (zR y 0)) j) : RRn zR I2 x y := by
  have ty0 : zT (zR y 0) = 100 := sk_f hs ty (by decide) rfl (by decide)
  have z1 : I1 (zR y 0) = I0 (zR y 0) := m1.row ty0 (by decide) h1.2
  have z2 : I2 (zR y 0) = I1 (zR y 0) := m2.row ty0 (by decide) h2.2.2
  have a : SRn zR I2 (zR x 0) (I2 (zR y 0)) := (h.1.cg (fun w hw => m1.row (nw_r hs tx hw).1 (by decide) h1.1) (FQR.of z1)).cg (fun w hw => m2.row (nw_r hs tx hw).1 (by decide) h2.1) (FQR.of z2)
  have b : SRn zR I1 (zR x 1) (I1 (zR y 0)) := h.1.tk t1 (fun j _ _ => by rw [z1])
  exact ⟨a, Or.inr (b.cg (fun w hw => m2.row (nw_r hs tx hw).2 (by decide) h2.2.1) (fun j j0 j1 => c2 j (by omega) (by omega)))⟩
theorem RRn.restore {k1 k2 : List Nat} {O1 O2 : Nat → Prop} {zL : List Nat} {zT : Nat → Nat} {zR : Nat → Nat → Nat} {I0 I1 I2 : Nat → Nat → Int32} {x y : Nat} (h : RRn zR I0 x y) (hf : (I0 x 9).toInt = (I0 y 23).toInt) (hs : SKP zL zT zR) (tx : zT x = 11) (ty : zT y = 18) (m1 : SM k1 O1 zT I0 I1) (h1 : 8400 ∉ k1 ∧ 1823 ∉ k1 ∧ 10900 ∉ k1) (t1 : ¬ (I0 x 9).toInt = 0 → TKS zR I0 I1 (zR x 0) (zR x 1)) (n1 : (I0 x 9).toInt = 0 → I1 = I0) (m2 : SM k2 O2 zT I1 I2) (h2 : 3400 ∉ k2 ∧ 8400 ∉ k2 ∧ 1823 ∉ k2 ∧ 10900 ∉ k2) (c2 : ¬ (I1 y 23).toInt = 0 → (∀ j : Int, 0 ≤ j → j < 392 → zA (I2 (zR y 0)) j = zA (I1 (zR y 24)) j)) (n2 : (I1 y 23).toInt = 0 → I2 = I1) : RRn zR I2 x y := by
  have f1 : I1 y 23 = I0 y 23 := m1 _ 23 (Or.inl (by rw [ty]; exact h1.2.1))
  by_cases c : (I0 y 23).toInt = 0
  · rw [n2 (by rw [f1]; exact c), n1 (by rw [hf]; exact c)]; exact h
  · have tk24 : zT (zR y 24) = 109 := sk_f hs ty (by decide) rfl (by decide)
    have q := h.2.resolve_left c
    have k1e : I1 (zR y 24) = I0 (zR y 24) := m1.row tk24 (by decide) h1.2.2
    have k2e : I2 (zR y 24) = I1 (zR y 24) := m2.row tk24 (by decide) h2.2.2.2
    have a : SRn zR I1 (zR x 0) (I1 (zR y 24)) := q.tk (t1 (by rw [hf]; exact c)) (fun j _ _ => by rw [k1e])
    have a2 : SRn zR I2 (zR x 0) (I2 (zR y 0)) := a.cg (fun w hw => m2.row (nw_r hs tx hw).1 (by decide) h2.1) (fun j j0 j1 => c2 (by rw [f1]; exact c) j (by omega) (by omega))
    exact ⟨a2, Or.inr ((q.cg (fun w hw => m1.row (nw_r hs tx hw).2 (by decide) h1.1) (FQR.of k1e)).cg (fun w hw => m2.row (nw_r hs tx hw).2 (by decide) h2.2.1) (FQR.of k2e))⟩
theorem tI36 {zL : List Nat} {zT : Nat → Nat} {zR : Nat → Nat → Nat} {x s : Nat} (hs : SKP zL zT zR) (tx : zT x = 11) (h : s < 4) : zT (zR (zR (zR x 5) s) 0) = 36 := sk_f hs (tS8 hs tx h) (by decide) rfl (by decide)
theorem RIT.sm {ks : List Nat} {zO : Nat → Prop} {zL : List Nat} {zT : Nat → Nat} {zR : Nat → Nat → Nat} {I I' : Nat → Nat → Int32} {x y : Nat} (h : RIT zR I x y) (hs : SKP zL zT zR) (tx : zT x = 11) (ty : zT y = 18) (hm : SM ks zO zT I I') (hk : 3600 ∉ ks ∧ 11200 ∉ ks) : RIT zR I' x y := fun s i hs4 hi => by
  rw [hm.row (tI36 hs tx hs4) (by decide) hk.1, hm.row (sk_f hs ty (by decide) rfl (by decide) : zT (zR y 27) = 112) (by decide) hk.2]
  exact h s i hs4 hi
theorem I_ne {zL : List Nat} {zT : Nat → Nat} {zR : Nat → Nat → Nat} {x s a : Nat} (hs : SKP zL zT zR) (tx : zT x = 11) (h : s < 4) (ha : a < 4) (hne : ¬ s = a) : ¬ zR (zR (zR x 5) s) 0 = zR (zR (zR x 5) a) 0 := fun e =>
  S_ne hs tx h ha hne (hs.2.2.2.2 _ _ _ _ (vr_o (tS8 hs tx h) (by decide) (by decide : RF 8 0 ≠ 0)) (vr_o (tS8 hs tx ha) (by decide) (by decide : RF 8 0 ≠ 0)) e).1
theorem SH.in {r a b c : Int} (h : r = SHv a b c) (h0 : ¬ r < 0) : (0 ≤ a ∧ a ≤ 3) ∧ (0 ≤ b ∧ b ≤ 2) := by
  unfold SHv at h
  by_cases q : (0 ≤ a ∧ a ≤ 3) ∧ (0 ≤ b ∧ b ≤ 2) ∧ c ≤ 24
  · exact ⟨q.1, q.2.1⟩
  · rw [if_neg q] at h; omega
theorem RIT.sheet {zL : List Nat} {zT : Nat → Nat} {zR : Nat → Nat → Nat} {I0 I1 I2 : Nat → Nat → Int32} {x y : Nat} {a b c r r' : Int32} {k1 k2 : List Nat} {O1 O2 : Nat → Prop} (h : RIT zR I0 x y) (hs : SKP zL zT zR) (tx : zT x = 11) (ty : zT y = 18) (m1 : SM k1 O1 zT I0 I1) (h1 : 11200 ∉ k1) (m2 : SM k2 O2 zT I1 I2) (h2 : 3600 ∉ k2) (v1 : r.toInt = SHv a.toInt b.toInt c.toInt) (v2 : r'.toInt = SHv a.toInt b.toInt c.toInt) (p1 : r.toInt < 0 ∨ FZW zT I0 I1 (zR (zR (zR x 5) a.toNatClampNeg) 0)) (n1 : 0 ≤ r.toInt ∨ I1 = I0) (p2 : r'.toInt < 0 ∨ FZI (I1 (zR y 27)) (I2 (zR y 27)) (24 * a.toInt) 24) (n2 : 0 ≤ r'.toInt ∨ I2 = I1) : RIT zR I2 x y := by
  have er : r'.toInt = r.toInt := v2.trans v1.symm
  by_cases c0 : r.toInt < 0
  · rw [n2.resolve_left (by omega), n1.resolve_left (by omega)]; exact h
  · have hv := SH.in v1 c0
    obtain ⟨q1, q2⟩ := p1.resolve_left c0
    obtain ⟨w1, w2⟩ := p2.resolve_left (by omega)
    have ea : a.toNatClampNeg = a.toInt.toNat := rfl
    have ha4 : a.toNatClampNeg < 4 := by omega
    have l27 : I1 (zR y 27) = I0 (zR y 27) := m1.row (sk_f hs ty (by decide) rfl (by decide) : zT (zR y 27) = 112) (by decide) h1
    intro s i hs4 hi
    rw [m2.row (tI36 hs tx hs4) (by decide) h2]
    by_cases e : s = a.toNatClampNeg
    · have z := w1 (i : Int) (by omega) (by omega)
      rw [e, q1 i hi, show (24 * ((a.toNatClampNeg : Nat) : Int) + (i : Int)) = 24 * a.toInt + (i : Int) by omega, z]; decide
    · rw [q2 _ (tI36 hs tx hs4) (I_ne hs tx hs4 ha4 e), w2 _ (by omega) (by omega), l27]
      exact h s i hs4 hi
theorem IT.in {r a b t l z c n : Int} (h : r = ITv a b (RFS t l z b c n)) (h1 : r = 1) : (0 ≤ a ∧ a ≤ 3) ∧ (0 ≤ b ∧ b ≤ 2) ∧ l = b ∧ 0 ≤ c ∧ c ≤ z - n := by
  unfold ITv at h
  by_cases k : (0 ≤ a ∧ a ≤ 3) ∧ (0 ≤ b ∧ b ≤ 2)
  · rw [if_pos k] at h
    by_cases q : RFS t l z b c n = 0
    · unfold RFS at q
      by_cases q1 : t = 0
      · rw [if_pos q1] at q; omega
      · rw [if_neg q1] at q
        by_cases q2 : ¬ l = b
        · rw [if_pos q2] at q; omega
        · rw [if_neg q2] at q
          by_cases q3 : c < 0 ∨ z - n < c
          · rw [if_pos q3] at q; omega
          · omega
    · rw [if_neg q] at h
      exfalso
      have w : RFS t l z b c n ≤ 0 := by
        unfold RFS
        repeat' split
        all_goals omega
      omega
  · rw [if_neg k] at h; omega
theorem RIT.item {zL : List Nat} {zT : Nat → Nat} {zR : Nat → Nat → Nat} {I0 I1 I2 : Nat → Nat → Int32} {x y : Nat} {a b c v r r' : Int32} {k1 k2 : List Nat} {O1 O2 : Nat → Prop} (h : RIT zR I0 x y) (hw : WT zT zR I0) (hs : SKP zL zT zR) (tx : zT x = 11) (ty : zT y = 18) (m1 : SM k1 O1 zT I0 I1) (h1 : 11200 ∉ k1) (m2 : SM k2 O2 zT I1 I2) (h2 : 3600 ∉ k2) (er : r.toInt = r'.toInt)
    (v1 : r.toInt = ITv a.toInt b.toInt (RFS (I0 (zR (zR x 5) a.toNatClampNeg) 3).toInt (I0 (zR (zR x 5) a.toNatClampNeg) 1).toInt (I0 (zR (zR x 5) a.toNatClampNeg) 2).toInt b.toInt c.toInt (1 : Int32).toInt)) (p1 : r.toInt = 1 → WRT zT I0 I1 (zR (zR (zR x 5) a.toNatClampNeg) 0) c.toNatClampNeg (NAR (I0 (zR (zR x 5) a.toNatClampNeg) 1).toInt v)) (n1 : ¬ r.toInt = 1 → I1 = I0) (p2 : r'.toInt = 1 → WRI (I1 (zR y 27)) (I2 (zR y 27)) (24 * a.toInt + c.toInt) (NARz b.toInt v)) (n2 : ¬ r'.toInt = 1 → I2 = I1) : RIT zR I2 x y := by
  by_cases c0 : r.toInt = 1
  · obtain ⟨ha, hb, hl, hc0, hc1⟩ := IT.in v1 c0
    have e1 : (1 : Int32).toInt = 1 := by decide
    have ea : a.toNatClampNeg = a.toInt.toNat := rfl
    have ec : c.toNatClampNeg = c.toInt.toNat := rfl
    have ha4 : a.toNatClampNeg < 4 := by omega
    have sz := (wt_at hw (tS8 hs tx ha4) 2 (lo := 0) (hi := 24) rfl).2
    obtain ⟨q1, q2⟩ := p1 c0
    obtain ⟨w1, w2⟩ := p2 (by omega)
    rw [hl] at q1
    have l27 : I1 (zR y 27) = I0 (zR y 27) := m1.row (sk_f hs ty (by decide) rfl (by decide) : zT (zR y 27) = 112) (by decide) h1
    intro s i hs4 hi
    rw [m2.row (tI36 hs tx hs4) (by decide) h2]
    by_cases e : s = a.toNatClampNeg ∧ i = c.toNatClampNeg
    · obtain ⟨rfl, rfl⟩ := e
      rw [q1, show (24 * ((a.toNatClampNeg : Nat) : Int) + ((c.toNatClampNeg : Nat) : Int)) = 24 * a.toInt + c.toInt by omega, w1, NARz.eq]
    · have ne : ¬ (zR (zR (zR x 5) s) 0 = zR (zR (zR x 5) a.toNatClampNeg) 0 ∧ i = c.toNatClampNeg) := fun z => e ⟨Classical.byContradiction (fun k => I_ne hs tx hs4 ha4 k z.1), z.2⟩
      rw [q2 _ i (tI36 hs tx hs4) ne, w2 _ (by omega) (by omega), l27]
      exact h s i hs4 hi
  · rw [n2 (by omega), n1 c0]; exact h
theorem RN.both {k1 k2 : List Nat} {O1 O2 : Nat → Prop} {zL : List Nat} {zT : Nat → Nat} {zR : Nat → Nat → Nat} {I0 I1 I2 : Nat → Nat → Int32} {x y : Nat} {a b c r r' : Int32} (h : RRn zR I0 x y) (hs : SKP zL zT zR) (tx : zT x = 11) (ty : zT y = 18) (m1 : SM k1 O1 zT I0 I1) (h1 : 8400 ∉ k1 ∧ 1823 ∉ k1 ∧ 10900 ∉ k1 ∧ 10000 ∉ k1)
    (p1 : RNok a.toInt b.toInt c.toInt → (r.toInt = (I0 (zR (zR (zR (zR x 0) 0) 0) b.toNatClampNeg) a.toNatClampNeg).toInt ∧ (I1 (zR (zR (zR (zR x 0) 0) 0) b.toNatClampNeg) a.toNatClampNeg).toInt = c.toInt ∧ (∀ q : Nat, zT q = 34 → ∀ j : Nat, ¬ (q = (zR (zR (zR (zR x 0) 0) 0) b.toNatClampNeg) ∧ j = a.toNatClampNeg) → I1 q j = I0 q j))) (p2 : ¬ (RNok a.toInt b.toInt c.toInt) → (r.toInt = -1001 ∧ I1 = I0))
    (m2 : SM k2 O2 zT I1 I2) (h2 : 3400 ∉ k2 ∧ 8400 ∉ k2 ∧ 1823 ∉ k2 ∧ 10900 ∉ k2)
    (q1 : RNok a.toInt b.toInt c.toInt → (r'.toInt = zA (I1 (zR y 0)) (20 + 3 * a.toInt + b.toInt) ∧ zA (I2 (zR y 0)) (20 + 3 * a.toInt + b.toInt) = c.toInt ∧ FE (I1 (zR y 0)) (I2 (zR y 0)) (20 + 3 * a.toInt + b.toInt))) (q2 : ¬ (RNok a.toInt b.toInt c.toInt) → (r'.toInt = -1001 ∧ I2 = I1)) : r.toInt = r'.toInt ∧ RRn zR I2 x y := by
  by_cases k : RNok a.toInt b.toInt c.toInt
  · obtain ⟨a1, a2, a3⟩ := p1 k
    obtain ⟨b1, b2, b3⟩ := q1 k
    have k' := k
    unfold RNok at k'
    have ty0 : zT (zR y 0) = 100 := sk_f hs ty (by decide) rfl (by decide)
    have tk24 : zT (zR y 24) = 109 := sk_f hs ty (by decide) rfl (by decide)
    have z1 : I1 (zR y 0) = I0 (zR y 0) := m1.row ty0 (by decide) h1.2.2.2
    rw [z1] at b1 b3
    have ea : a.toNatClampNeg = a.toInt.toNat := rfl
    have eb : b.toNatClampNeg = b.toInt.toNat := rfl
    have old := h.1 b.toNatClampNeg a.toNatClampNeg (by omega) (by omega)
    rw [show (20 + 3 * ((a.toNatClampNeg : Nat) : Int) + ((b.toNatClampNeg : Nat) : Int)) = 20 + 3 * a.toInt + b.toInt by omega] at old
    have e23 : I2 y 23 = I0 y 23 := (m2 _ 23 (Or.inl (by rw [ty]; exact h2.2.2.1))).trans (m1 _ 23 (Or.inl (by rw [ty]; exact h1.2.1)))
    have k1e : I1 (zR y 24) = I0 (zR y 24) := m1.row tk24 (by decide) h1.2.2.1
    have k2e : I2 (zR y 24) = I1 (zR y 24) := m2.row tk24 (by decide) h2.2.2.2
    refine ⟨by rw [a1, b1]; exact old, fun w j hw hj => ?_, ?_⟩
    · rw [m2.row (nw_r hs tx hw).1 (by decide) h2.1]
      by_cases e : w = b.toNatClampNeg ∧ j = a.toNatClampNeg
      · obtain ⟨rfl, rfl⟩ := e
        rw [a2, show (20 + 3 * ((a.toNatClampNeg : Nat) : Int) + ((b.toNatClampNeg : Nat) : Int)) = 20 + 3 * a.toInt + b.toInt by omega, b2]
      · have ne : ¬ (zR (zR (zR (zR x 0) 0) 0) w = zR (zR (zR (zR x 0) 0) 0) b.toNatClampNeg ∧ j = a.toNatClampNeg) := fun z => e ⟨by
          have t60 : zT (zR (zR (zR x 0) 0) 0) = 60 := sk_f hs (nw_h hs tx).1 (by decide) rfl (by decide)
          exact (hs.2.2.2.2 _ _ _ _ (vr_a t60 (n := 3) rfl (by decide : (34 : Nat) ≠ 0) hw) (vr_a t60 (n := 3) rfl (by decide : (34 : Nat) ≠ 0) (by omega)) z.1).2, z.2⟩
        rw [a3 _ (nw_r hs tx hw).1 j ne, b3 _ (by omega) (by omega)]
        exact h.1 w j hw hj
    · rw [e23]
      exact h.2.imp id (fun q => (q.cg (fun w hw => m1.row (nw_r hs tx hw).2 (by decide) h1.1) (FQR.of k1e)).cg (fun w hw => m2.row (nw_r hs tx hw).2 (by decide) h2.2.1) (FQR.of k2e))
  · obtain ⟨a1, a2⟩ := p2 k
    obtain ⟨b1, b2⟩ := q2 k
    rw [b2, a2]
    exact ⟨by omega, h⟩
theorem RF.eq {zR : Nat → Nat → Nat} {I : Nat → Nat → Int32} {x y : Nat} {a b c n : Int32} (h : RSH zR I x y) (ha : 0 ≤ a.toInt ∧ a.toInt ≤ 3) (hb : 0 ≤ b.toInt) : RFS (I (zR (zR x 5) a.toNatClampNeg) 3).toInt (I (zR (zR x 5) a.toNatClampNeg) 1).toInt (I (zR (zR x 5) a.toNatClampNeg) 2).toInt b.toInt c.toInt n.toInt = LKS (I (zR y 25) a.toNatClampNeg).toInt (I (zR y 26) a.toNatClampNeg).toInt b.toInt c.toInt n.toInt := by
  have ea : a.toNatClampNeg = a.toInt.toNat := rfl
  obtain ⟨q1, q2⟩ := h a.toNatClampNeg (by omega)
  unfold RFS LKS
  rw [q2]
  rcases q1 with q | q
  · rw [if_pos q.2, if_pos (by omega), if_pos q.1]
  · rw [if_neg q.2.1, q.2.2]
    by_cases w : (I (zR (zR x 5) a.toNatClampNeg) 1).toInt = b.toInt
    · rw [if_neg (show ¬ ¬ (I (zR (zR x 5) a.toNatClampNeg) 1).toInt = b.toInt from fun z => z w), if_neg (show ¬ ¬ (I (zR (zR x 5) a.toNatClampNeg) 1).toInt = b.toInt from fun z => z w)]
      by_cases u : c.toInt < 0 ∨ (I (zR (zR x 5) a.toNatClampNeg) 2).toInt - n.toInt < c.toInt
      · rw [if_pos u, if_neg (by omega)]
      · rw [if_neg u, if_pos (by omega)]
    · rw [if_pos (show ¬ (I (zR (zR x 5) a.toNatClampNeg) 1).toInt = b.toInt from w), if_pos (show ¬ (I (zR (zR x 5) a.toNatClampNeg) 1).toInt = b.toInt from w), if_neg (by omega)]
theorem RF.in {t l z b c n : Int} (q : RFS t l z b c n = 0) : l = b ∧ 0 ≤ c ∧ c ≤ z - n := by
  unfold RFS at q
  by_cases q1 : t = 0
  · rw [if_pos q1] at q; omega
  · rw [if_neg q1] at q
    by_cases q2 : ¬ l = b
    · rw [if_pos q2] at q; omega
    · rw [if_neg q2] at q
      by_cases q3 : c < 0 ∨ z - n < c
      · rw [if_pos q3] at q; omega
      · omega
theorem RS.both {k1 k2 : List Nat} {O1 O2 : Nat → Prop} {zL : List Nat} {zT : Nat → Nat} {zR : Nat → Nat → Nat} {I0 I1 I2 : Nat → Nat → Int32} {x y : Nat} {a b c d e r r' : Int32} (h : RRn zR I0 x y) (hr : RSH zR I0 x y) (hi : RIT zR I0 x y) (hw : WT zT zR I0) (hs : SKP zL zT zR) (tx : zT x = 11) (ty : zT y = 18) (m1 : SM k1 O1 zT I0 I1) (h1 : 8400 ∉ k1 ∧ 1823 ∉ k1 ∧ 10900 ∉ k1 ∧ 10000 ∉ k1 ∧ 11000 ∉ k1 ∧ 11100 ∉ k1 ∧ 11200 ∉ k1)
    (p1 : ¬ (RSok a.toInt b.toInt c.toInt e.toInt) → (r.toInt = -1 ∧ I1 = I0))
    (p2 : RSok a.toInt b.toInt c.toInt e.toInt → ¬ (RFS (I0 (zR (zR x 5) b.toNatClampNeg) 3).toInt (I0 (zR (zR x 5) b.toNatClampNeg) 1).toInt (I0 (zR (zR x 5) b.toNatClampNeg) 2).toInt c.toInt d.toInt e.toInt) = 0 → (r.toInt = (RFS (I0 (zR (zR x 5) b.toNatClampNeg) 3).toInt (I0 (zR (zR x 5) b.toNatClampNeg) 1).toInt (I0 (zR (zR x 5) b.toNatClampNeg) 2).toInt c.toInt d.toInt e.toInt) ∧ I1 = I0))
    (p3 : RSok a.toInt b.toInt c.toInt e.toInt → (RFS (I0 (zR (zR x 5) b.toNatClampNeg) 3).toInt (I0 (zR (zR x 5) b.toNatClampNeg) 1).toInt (I0 (zR (zR x 5) b.toNatClampNeg) 2).toInt c.toInt d.toInt e.toInt) = 0 → ¬ MAYS (I0 (zR (zR (zR x 5) b.toNatClampNeg) 0)) a.toInt d.toInt e.toInt → (r.toInt = -2 ∧ I1 = I0))
    (p4 : RSok a.toInt b.toInt c.toInt e.toInt → (RFS (I0 (zR (zR x 5) b.toNatClampNeg) 3).toInt (I0 (zR (zR x 5) b.toNatClampNeg) 1).toInt (I0 (zR (zR x 5) b.toNatClampNeg) 2).toInt c.toInt d.toInt e.toInt) = 0 → MAYS (I0 (zR (zR (zR x 5) b.toNatClampNeg) 0)) a.toInt d.toInt e.toInt → (r.toInt = e.toInt ∧ RNS zT I0 I1 (zR (zR (zR (zR x 0) 0) 0) a.toNatClampNeg) (I0 (zR (zR (zR x 5) b.toNatClampNeg) 0)) d.toInt e.toInt))
    (m2 : SM k2 O2 zT I1 I2) (h2 : 3400 ∉ k2 ∧ 8400 ∉ k2 ∧ 1823 ∉ k2 ∧ 10900 ∉ k2)
    (q1 : ¬ (RSok a.toInt b.toInt c.toInt e.toInt) → (r'.toInt = -1 ∧ I2 = I1))
    (q2 : RSok a.toInt b.toInt c.toInt e.toInt → ¬ (LKS (I1 (zR y 25) b.toNatClampNeg).toInt (I1 (zR y 26) b.toNatClampNeg).toInt c.toInt d.toInt e.toInt) = 0 → (r'.toInt = (LKS (I1 (zR y 25) b.toNatClampNeg).toInt (I1 (zR y 26) b.toNatClampNeg).toInt c.toInt d.toInt e.toInt) ∧ I2 = I1))
    (q3 : RSok a.toInt b.toInt c.toInt e.toInt → (LKS (I1 (zR y 25) b.toNatClampNeg).toInt (I1 (zR y 26) b.toNatClampNeg).toInt c.toInt d.toInt e.toInt) = 0 → ¬ MAYZ (I1 (zR y 27)) a.toInt (24 * b.toInt + d.toInt) e.toInt → (r'.toInt = -2 ∧ I2 = I1))
    (q4 : RSok a.toInt b.toInt c.toInt e.toInt → (LKS (I1 (zR y 25) b.toNatClampNeg).toInt (I1 (zR y 26) b.toNatClampNeg).toInt c.toInt d.toInt e.toInt) = 0 → MAYZ (I1 (zR y 27)) a.toInt (24 * b.toInt + d.toInt) e.toInt → (r'.toInt = e.toInt ∧ RNZ (I1 (zR y 0)) (I2 (zR y 0)) (I1 (zR y 27)) a.toInt (24 * b.toInt + d.toInt) e.toInt)) : r.toInt = r'.toInt ∧ RRn zR I2 x y := by
  have l25 : I1 (zR y 25) = I0 (zR y 25) := m1.row (sk_f hs ty (by decide) rfl (by decide) : zT (zR y 25) = 110) (by decide) h1.2.2.2.2.1
  have l26 : I1 (zR y 26) = I0 (zR y 26) := m1.row (sk_f hs ty (by decide) rfl (by decide) : zT (zR y 26) = 111) (by decide) h1.2.2.2.2.2.1
  have l27 : I1 (zR y 27) = I0 (zR y 27) := m1.row (sk_f hs ty (by decide) rfl (by decide) : zT (zR y 27) = 112) (by decide) h1.2.2.2.2.2.2
  have z1 : I1 (zR y 0) = I0 (zR y 0) := m1.row (sk_f hs ty (by decide) rfl (by decide) : zT (zR y 0) = 100) (by decide) h1.2.2.2.1
  rw [l25, l26] at q2 q3 q4
  rw [l27] at q3 q4
  rw [z1] at q4
  by_cases k : RSok a.toInt b.toInt c.toInt e.toInt
  · have k' := k
    unfold RSok at k'
    have eq := RF.eq (n := e) (c := d) hr k'.2.1.1 k'.2.1.2.1
    rw [← eq] at q2 q3 q4
    by_cases w : RFS (I0 (zR (zR x 5) b.toNatClampNeg) 3).toInt (I0 (zR (zR x 5) b.toNatClampNeg) 1).toInt (I0 (zR (zR x 5) b.toNatClampNeg) 2).toInt c.toInt d.toInt e.toInt = 0
    · obtain ⟨-, d0, d1⟩ := RF.in w
      have ea : a.toNatClampNeg = a.toInt.toNat := rfl
      have eb : b.toNatClampNeg = b.toInt.toNat := rfl
      have hb4 : b.toNatClampNeg < 4 := by omega
      have sz := (wt_at hw (tS8 hs tx hb4) 2 (lo := 0) (hi := 24) rfl).2
      have it : ∀ i : Int, 0 ≤ i → i < e.toInt → zB (I0 (zR (zR (zR x 5) b.toNatClampNeg) 0)) (d.toInt + i) = zA (I0 (zR y 27)) (24 * b.toInt + d.toInt + i) := fun i i0 i1 => by
        have q := hi b.toNatClampNeg (d.toInt + i).toNat hb4 (by omega)
        rw [show (24 * ((b.toNatClampNeg : Nat) : Int) + (((d.toInt + i).toNat : Nat) : Int)) = 24 * b.toInt + d.toInt + i by omega] at q
        exact q
      have mm : MAYS (I0 (zR (zR (zR x 5) b.toNatClampNeg) 0)) a.toInt d.toInt e.toInt ↔ MAYZ (I0 (zR y 27)) a.toInt (24 * b.toInt + d.toInt) e.toInt := ⟨fun z i i0 i1 => by rw [← it i i0 i1]; exact z i i0 i1, fun z i i0 i1 => by rw [it i i0 i1]; exact z i i0 i1⟩
      by_cases g : MAYS (I0 (zR (zR (zR x 5) b.toNatClampNeg) 0)) a.toInt d.toInt e.toInt
      · obtain ⟨a1, a2, a3, a4⟩ := p4 k w g
        obtain ⟨b1, b2, b3⟩ := q4 k w (mm.mp g)
        have tk24 : zT (zR y 24) = 109 := sk_f hs ty (by decide) rfl (by decide)
        have e23 : I2 y 23 = I0 y 23 := (m2 _ 23 (Or.inl (by rw [ty]; exact h2.2.2.1))).trans (m1 _ 23 (Or.inl (by rw [ty]; exact h1.2.1)))
        have k1e : I1 (zR y 24) = I0 (zR y 24) := m1.row tk24 (by decide) h1.2.2.1
        have k2e : I2 (zR y 24) = I1 (zR y 24) := m2.row tk24 (by decide) h2.2.2.2
        refine ⟨by omega, fun v j hv hj => ?_, ?_⟩
        · rw [m2.row (nw_r hs tx hv).1 (by decide) h2.1]
          by_cases q : v = a.toNatClampNeg
          · rw [q]
            by_cases jj : (j : Int) < e.toInt
            · rw [a2 j jj, show (20 + 3 * (j : Int) + ((a.toNatClampNeg : Nat) : Int)) = 20 + 3 * (j : Int) + a.toInt by omega, b2 (j : Int) (by omega) jj, it (j : Int) (by omega) jj]
            · rw [a3 j (by omega), b3 _ (by omega) (fun y' y0 y1 => by omega)]
              exact h.1 _ j (by omega) hj
          · have ne : ¬ zR (zR (zR (zR x 0) 0) 0) v = zR (zR (zR (zR x 0) 0) 0) a.toNatClampNeg := fun z => q (by
              have t60 : zT (zR (zR (zR x 0) 0) 0) = 60 := sk_f hs (nw_h hs tx).1 (by decide) rfl (by decide)
              exact (hs.2.2.2.2 _ _ _ _ (vr_a t60 (n := 3) rfl (by decide : (34 : Nat) ≠ 0) hv) (vr_a t60 (n := 3) rfl (by decide : (34 : Nat) ≠ 0) (by omega)) z).2)
            rw [a4 _ (nw_r hs tx hv).1 ne, b3 _ (by omega) (fun y' y0 y1 => by omega)]
            exact h.1 v j hv hj
        · rw [e23]
          exact h.2.imp id (fun q => (q.cg (fun w hw => m1.row (nw_r hs tx hw).2 (by decide) h1.1) (FQR.of k1e)).cg (fun w hw => m2.row (nw_r hs tx hw).2 (by decide) h2.2.1) (FQR.of k2e))
      · obtain ⟨a1, a2⟩ := p3 k w g
        obtain ⟨b1, b2⟩ := q3 k w (fun z => g (mm.mpr z))
        rw [b2, a2]
        exact ⟨by omega, h⟩
    · obtain ⟨a1, a2⟩ := p2 k w
      obtain ⟨b1, b2⟩ := q2 k w
      rw [b2, a2]
      exact ⟨by omega, h⟩
  · obtain ⟨a1, a2⟩ := p1 k
    obtain ⟨b1, b2⟩ := q1 k
    rw [b2, a2]
    exact ⟨by omega, h⟩
theorem fqr_of {P : Prop} {z u : Nat → Int32} {k : Int} (h1 : P → FE z u k ∧ k < 20) (h2 : ¬ P → u = z) : FQR z u := by
  by_cases c : P
  · exact FE.wR (h1 c).1 (Or.inl (h1 c).2)
  · exact FQR.of (h2 c)
theorem fqr_cs {P : Prop} {z u : Nat → Int32} (h1 : ¬ P → u = z) (h2 : P → zA z 13 = 5 → u = z) (h3 : P → ¬ zA z 13 = 5 → (∀ j : Int, 0 ≤ j → (j ≤ 1 ∨ (3 ≤ j ∧ j ≤ 4) ∨ j = 13 ∨ (20 ≤ j ∧ j ≤ 91)) → ¬ j = 13 → zA u j = zA z j)) : FQR z u := by
  by_cases c : P
  · by_cases d : zA z 13 = 5
    · exact FQR.of (h2 c d)
    · exact fun j j0 j1 => h3 c d j (by omega) (by omega) (by omega)
  · exact FQR.of (h1 c)
