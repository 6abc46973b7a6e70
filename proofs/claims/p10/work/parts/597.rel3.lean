/-! the rain, the hill, MOST, the causes: what other calls leave as it is -/
def FQ (z u : Nat → Int32) : Prop := ∀ j : Int, 0 ≤ j → (j ≤ 1 ∨ (3 ≤ j ∧ j ≤ 4) ∨ j = 13 ∨ (20 ≤ j ∧ j ≤ 91)) → zA u j = zA z j
theorem FQ.rf {z : Nat → Int32} : FQ z z := fun _ _ _ => rfl
theorem FQ.up {z u : Nat → Int32} {i v : Int32} (h : FQ z u) (h0 : 0 ≤ i.toInt) (hi : ¬ (i.toInt ≤ 1 ∨ (3 ≤ i.toInt ∧ i.toInt ≤ 4) ∨ i.toInt = 13 ∨ (20 ≤ i.toInt ∧ i.toInt ≤ 91))) : FQ z (upd u i.toNatClampNeg v) := fun j j0 hj => by
  have e : ¬ j = i.toInt := fun e => hi (by rw [← e]; exact hj)
  rw [zu_n h0 j0 e]
  exact h j j0 hj
theorem FQ.tr {z u w : Nat → Int32} (h : FQ z u) (h2 : FQ u w) : FQ z w := fun j j0 hj => (h2 j j0 hj).trans (h j j0 hj)
/-- one cell alone has changed -/
def FE (z u : Nat → Int32) (i : Int) : Prop := ∀ j : Int, 0 ≤ j → ¬ j = i → zA u j = zA z j
theorem FE.up {z : Nat → Int32} {i v : Int32} {k : Int} (h0 : 0 ≤ i.toInt) (hk : i.toInt = k) : FE z (upd z i.toNatClampNeg v) k ∧ zA (upd z i.toNatClampNeg v) k = v.toInt := ⟨fun j j0 hj => zu_n h0 j0 (by omega), zu_s hk.symm⟩
theorem FQ.x13 {z u : Nat → Int32} {i v : Int32} (h : FQ z u) (hi : i.toInt = 13) : ∀ j : Int, 0 ≤ j → (j ≤ 1 ∨ (3 ≤ j ∧ j ≤ 4) ∨ j = 13 ∨ (20 ≤ j ∧ j ≤ 91)) → ¬ j = 13 → zA (upd u i.toNatClampNeg v) j = zA z j := fun j j0 hj hn => (zu_n (by omega) j0 (by omega)).trans (h j j0 hj)
/-! class and reference hold the same causes, hill's numbers, MOST: now, and in the image -/
/-- what stays though the rain changes -/
def FQ3 (z u : Nat → Int32) : Prop := ∀ j : Int, 0 ≤ j → (j ≤ 1 ∨ (3 ≤ j ∧ j ≤ 4) ∨ j = 13) → zA u j = zA z j
theorem FQ3.rf {z : Nat → Int32} : FQ3 z z := fun _ _ _ => rfl
theorem FQ3.up {z u : Nat → Int32} {i v : Int32} (h : FQ3 z u) (h0 : 0 ≤ i.toInt) (hi : ¬ (i.toInt ≤ 1 ∨ (3 ≤ i.toInt ∧ i.toInt ≤ 4) ∨ i.toInt = 13)) : FQ3 z (upd u i.toNatClampNeg v) := fun j j0 hj => by
  have e : ¬ j = i.toInt := fun e => hi (by rw [← e]; exact hj)
  rw [zu_n h0 j0 e]
  exact h j j0 hj
theorem FQ3.tr {z u w : Nat → Int32} (h : FQ3 z u) (h2 : FQ3 u w) : FQ3 z w := fun j j0 hj => (h2 j j0 hj).trans (h j j0 hj)
theorem FQ.w3 {z u : Nat → Int32} (h : FQ z u) : FQ3 z u := fun j j0 hj => h j j0 (by omega)
def S3 (zR : Nat → Nat → Nat) (zI : Nat → Nat → Int32) (n : Nat) (z : Nat → Int32) : Prop := (zI n 8).toInt = zA z 13 ∧ ((zI (zR n 0) 1).toInt = zA z 0 ∧ (zI (zR n 0) 2).toInt = zA z 1) ∧ (∀ c : Nat, c < 2 → (zI (zR (zR n 2) c) 9).toInt = zA z (3 + (c : Int)))
def R3 (zR : Nat → Nat → Nat) (zI : Nat → Nat → Int32) (x y : Nat) : Prop := S3 zR zI (zR x 0) (zI (zR y 0)) ∧ (zI x 9).toInt = (zI y 23).toInt ∧ ((zI y 23).toInt = 0 ∨ S3 zR zI (zR x 1) (zI (zR y 24)))
theorem S3.cg {zR : Nat → Nat → Nat} {I I' : Nat → Nat → Int32} {n : Nat} {z z' : Nat → Int32} (h : S3 zR I n z) (e8 : I' n 8 = I n 8) (e1 : I' (zR n 0) 1 = I (zR n 0) 1) (e2 : I' (zR n 0) 2 = I (zR n 0) 2) (em : ∀ c : Nat, c < 2 → I' (zR (zR n 2) c) 9 = I (zR (zR n 2) c) 9) (ez : FQ3 z z') : S3 zR I' n z' := by
  refine ⟨?_, ⟨?_, ?_⟩, fun c hc => ?_⟩
  · rw [e8, ez 13 (by omega) (by omega)]; exact h.1
  · rw [e1, ez 0 (by omega) (by omega)]; exact h.2.1.1
  · rw [e2, ez 1 (by omega) (by omega)]; exact h.2.1.2
  · rw [em c hc, ez (3 + (c : Int)) (by omega) (by omega)]; exact h.2.2 c hc
theorem FQ3.of {z u : Nat → Int32} (h : u = z) : FQ3 z u := by rw [h]; exact FQ3.rf
theorem nw_t {zL : List Nat} {zT : Nat → Nat} {zR : Nat → Nat → Nat} {x : Nat} (hs : SKP zL zT zR) (tx : zT x = 11) : zT (zR x 0) = 9 ∧ zT (zR x 1) = 12 := ⟨sk_f hs tx (by decide) rfl (by decide), sk_f hs tx (by decide) rfl (by decide)⟩
/-- now: nothing of it changed -/
theorem S3.sn {ks : List Nat} {zO : Nat → Prop} {zL : List Nat} {zT : Nat → Nat} {zR : Nat → Nat → Nat} {I I' : Nat → Nat → Int32} {x : Nat} {z z' : Nat → Int32} (h : S3 zR I (zR x 0) z) (hs : SKP zL zT zR) (tx : zT x = 11) (hm : SM ks zO zT I I') (hk : 908 ∉ ks ∧ 401 ∉ ks ∧ 402 ∉ ks ∧ 109 ∉ ks) (ez : FQ3 z z') : S3 zR I' (zR x 0) z' := by
  have tn := (nw_t hs tx).1
  have th : zT (zR (zR x 0) 0) = 4 := sk_f hs tn (by decide) rfl (by decide)
  refine h.cg (hm _ 8 (Or.inl (by rw [tn]; exact hk.1))) (hm _ 1 (Or.inl (by rw [th]; exact hk.2.1))) (hm _ 2 (Or.inl (by rw [th]; exact hk.2.2.1))) (fun c hc => ?_) ez
  have tc : zT (zR (zR (zR x 0) 2) c) = 1 := sk_a (n := 2) hs (sk_f hs tn (by decide) rfl (by decide) : zT (zR (zR x 0) 2) = 61) rfl rfl (by decide) hc
  exact hm _ 9 (Or.inl (by rw [tc]; exact hk.2.2.2))
theorem S3.sk {ks : List Nat} {zO : Nat → Prop} {zL : List Nat} {zT : Nat → Nat} {zR : Nat → Nat → Nat} {I I' : Nat → Nat → Int32} {x : Nat} {z z' : Nat → Int32} (h : S3 zR I (zR x 1) z) (hs : SKP zL zT zR) (tx : zT x = 11) (hm : SM ks zO zT I I') (hk : 1208 ∉ ks ∧ 1301 ∉ ks ∧ 1302 ∉ ks ∧ 1509 ∉ ks) (ez : FQ3 z z') : S3 zR I' (zR x 1) z' := by
  have tn := (nw_t hs tx).2
  have th : zT (zR (zR x 1) 0) = 13 := sk_f hs tn (by decide) rfl (by decide)
  refine h.cg (hm _ 8 (Or.inl (by rw [tn]; exact hk.1))) (hm _ 1 (Or.inl (by rw [th]; exact hk.2.1))) (hm _ 2 (Or.inl (by rw [th]; exact hk.2.2.1))) (fun c hc => ?_) ez
  have tc : zT (zR (zR (zR x 1) 2) c) = 15 := sk_a (n := 2) hs (sk_f hs tn (by decide) rfl (by decide) : zT (zR (zR x 1) 2) = 91) rfl rfl (by decide) hc
  exact hm _ 9 (Or.inl (by rw [tc]; exact hk.2.2.2))
/-- a state taken over is the other's copy -/
theorem S3.tk {zR : Nat → Nat → Nat} {I I' : Nat → Nat → Int32} {t o : Nat} {z z' : Nat → Int32} (h : S3 zR I o z) (ht : TKS zR I I' t o) (ez : ∀ j : Int, 0 ≤ j → j < 392 → zA z' j = zA z j) : S3 zR I' t z' := by
  obtain ⟨t8, ⟨-, t1, t2⟩, tm⟩ := ht
  refine ⟨?_, ⟨?_, ?_⟩, fun c hc => ?_⟩
  · rw [t8, ez 13 (by omega) (by omega)]; exact h.1
  · rw [t1, ez 0 (by omega) (by omega)]; exact h.2.1.1
  · rw [t2, ez 1 (by omega) (by omega)]; exact h.2.1.2
  · rw [tm c (by omega) hc, ez (3 + (c : Int)) (by omega) (by omega)]; exact h.2.2 c hc
theorem R3.sm {ks : List Nat} {zO : Nat → Prop} {zL : List Nat} {zT : Nat → Nat} {zR : Nat → Nat → Nat} {I I' : Nat → Nat → Int32} {x y : Nat} (h : R3 zR I x y) (hs : SKP zL zT zR) (tx : zT x = 11) (ty : zT y = 18) (hm : SM ks zO zT I I') (hk : (908 ∉ ks ∧ 401 ∉ ks ∧ 402 ∉ ks ∧ 109 ∉ ks) ∧ (1208 ∉ ks ∧ 1301 ∉ ks ∧ 1302 ∉ ks ∧ 1509 ∉ ks) ∧ 1109 ∉ ks ∧ 1823 ∉ ks ∧ 10900 ∉ ks) (hq : FQ3 (I (zR y 0)) (I' (zR y 0))) : R3 zR I' x y := by
  have e1 : I' x 9 = I x 9 := hm _ 9 (Or.inl (by rw [tx]; exact hk.2.2.1))
  have e2 : I' y 23 = I y 23 := hm _ 23 (Or.inl (by rw [ty]; exact hk.2.2.2.1))
  have e3 : I' (zR y 24) = I (zR y 24) := hm.row (sk_f hs ty (by decide) rfl (by decide)) (by decide) hk.2.2.2.2
  refine ⟨h.1.sn hs tx hm hk.1 hq, by rw [e1, e2]; exact h.2.1, ?_⟩
  rw [e2, e3]
  exact h.2.2.imp id (fun q => q.sk hs tx hm hk.2.1 FQ3.rf)
theorem R3.image {k1 k2 : List Nat} {O1 O2 : Nat → Prop} {zL : List Nat} {zT : Nat → Nat} {zR : Nat → Nat → Nat} {I0 I1 I2 : Nat → Nat → Int32} {x y : Nat} (h : R3 zR I0 x y) (hs : SKP zL zT zR) (tx : zT x = 11) (ty : zT y = 18) (m1 : SM k1 O1 zT I0 I1) (h1 : (908 ∉ k1 ∧ 401 ∉ k1 ∧ 402 ∉ k1 ∧ 109 ∉ k1) ∧ 10000 ∉ k1) (t1 : TKS zR I0 I1 (zR x 1) (zR x 0)) (f1 : (I1 x 9).toInt = 1) (m2 : SM k2 O2 zT I1 I2) (h2 : (908 ∉ k2 ∧ 401 ∉ k2 ∧ 402 ∉ k2 ∧ 109 ∉ k2) ∧ (1208 ∉ k2 ∧ 1301 ∉ k2 ∧ 1302 ∉ k2 ∧ 1509 ∉ k2) ∧ 1109 ∉ k2 ∧ 10000 ∉ k2) (c2 : ∀ j : Int, 0 ≤ j → j < 392 → zA (I2 (zR y 24)) j = zA (I1 (zR y 0)) j) (f2 : (I2 y 23).toInt = 1) : R3 zR I2 x y := by
  have ty0 : zT (zR y 0) = 100 := sk_f hs ty (by decide) rfl (by decide)
  have z1 : I1 (zR y 0) = I0 (zR y 0) := m1.row ty0 (by decide) h1.2
  have z2 : I2 (zR y 0) = I1 (zR y 0) := m2.row ty0 (by decide) h2.2.2.2
  have e9 : I2 x 9 = I1 x 9 := m2 _ 9 (Or.inl (by rw [tx]; exact h2.2.2.1))
  have a := (h.1.sn hs tx m1 h1.1 (FQ3.of z1)).sn hs tx m2 h2.1 (FQ3.of z2)
  have b : S3 zR I1 (zR x 1) (I1 (zR y 0)) := h.1.tk t1 (fun j _ _ => by rw [z1])
  have b2 : S3 zR I2 (zR x 1) (I2 (zR y 24)) := b.sk hs tx m2 h2.2.1 (fun j j0 hj => c2 j j0 (by omega))
  exact ⟨a, by rw [e9, f1, f2], Or.inr b2⟩
theorem R3.restore {k1 k2 : List Nat} {O1 O2 : Nat → Prop} {zL : List Nat} {zT : Nat → Nat} {zR : Nat → Nat → Nat} {I0 I1 I2 : Nat → Nat → Int32} {x y : Nat} (h : R3 zR I0 x y) (hs : SKP zL zT zR) (tx : zT x = 11) (ty : zT y = 18) (m1 : SM k1 O1 zT I0 I1) (h1 : (1208 ∉ k1 ∧ 1301 ∉ k1 ∧ 1302 ∉ k1 ∧ 1509 ∉ k1) ∧ 1109 ∉ k1 ∧ 1823 ∉ k1 ∧ 10900 ∉ k1 ∧ 10000 ∉ k1) (t1 : ¬ (I0 x 9).toInt = 0 → TKS zR I0 I1 (zR x 0) (zR x 1)) (n1 : (I0 x 9).toInt = 0 → I1 = I0) (m2 : SM k2 O2 zT I1 I2) (h2 : (908 ∉ k2 ∧ 401 ∉ k2 ∧ 402 ∉ k2 ∧ 109 ∉ k2) ∧ (1208 ∉ k2 ∧ 1301 ∉ k2 ∧ 1302 ∉ k2 ∧ 1509 ∉ k2) ∧ 1109 ∉ k2 ∧ 1823 ∉ k2 ∧ 10900 ∉ k2) (c2 : ¬ (I1 y 23).toInt = 0 → (∀ j : Int, 0 ≤ j → j < 392 → zA (I2 (zR y 0)) j = zA (I1 (zR y 24)) j)) (n2 : (I1 y 23).toInt = 0 → I2 = I1) : R3 zR I2 x y := by
  have f1 : I1 y 23 = I0 y 23 := m1 _ 23 (Or.inl (by rw [ty]; exact h1.2.2.1))
  by_cases c : (I0 y 23).toInt = 0
  · rw [n2 (by rw [f1]; exact c), n1 (by rw [h.2.1]; exact c)]; exact h
  · have tk24 : zT (zR y 24) = 109 := sk_f hs ty (by decide) rfl (by decide)
    have q := h.2.2.resolve_left c
    have k1e : I1 (zR y 24) = I0 (zR y 24) := m1.row tk24 (by decide) h1.2.2.2.1
    have k2e : I2 (zR y 24) = I1 (zR y 24) := m2.row tk24 (by decide) h2.2.2.2.2
    have e9 : I2 x 9 = I0 x 9 := (m2 _ 9 (Or.inl (by rw [tx]; exact h2.2.2.1))).trans (m1 _ 9 (Or.inl (by rw [tx]; exact h1.2.1)))
    have e23 : I2 y 23 = I0 y 23 := (m2 _ 23 (Or.inl (by rw [ty]; exact h2.2.2.2.1))).trans f1
    have a : S3 zR I1 (zR x 0) (I1 (zR y 24)) := q.tk (t1 (by rw [h.2.1]; exact c)) (fun j _ _ => by rw [k1e])
    have a2 : S3 zR I2 (zR x 0) (I2 (zR y 0)) := a.sn hs tx m2 h2.1 (fun j j0 hj => c2 (by rw [f1]; exact c) j j0 (by omega))
    have b := (q.sk hs tx m1 h1.1 (FQ3.of k1e)).sk hs tx m2 h2.2.1 (FQ3.of k2e)
    exact ⟨a2, by rw [e9, e23]; exact h.2.1, Or.inr b⟩
/-- the image's words, where neither the image nor the flag changes -/
theorem R3.kp {k1 k2 : List Nat} {O1 O2 : Nat → Prop} {zL : List Nat} {zT : Nat → Nat} {zR : Nat → Nat → Nat} {I0 I1 I2 : Nat → Nat → Int32} {x y : Nat} (h : R3 zR I0 x y) (hs : SKP zL zT zR) (tx : zT x = 11) (ty : zT y = 18) (m1 : SM k1 O1 zT I0 I1) (h1 : (1208 ∉ k1 ∧ 1301 ∉ k1 ∧ 1302 ∉ k1 ∧ 1509 ∉ k1) ∧ 1109 ∉ k1 ∧ 1823 ∉ k1 ∧ 10900 ∉ k1) (m2 : SM k2 O2 zT I1 I2) (h2 : (1208 ∉ k2 ∧ 1301 ∉ k2 ∧ 1302 ∉ k2 ∧ 1509 ∉ k2) ∧ 1109 ∉ k2 ∧ 1823 ∉ k2 ∧ 10900 ∉ k2) (a : S3 zR I2 (zR x 0) (I2 (zR y 0))) : R3 zR I2 x y := by
  have tk24 : zT (zR y 24) = 109 := sk_f hs ty (by decide) rfl (by decide)
  have k1e : I1 (zR y 24) = I0 (zR y 24) := m1.row tk24 (by decide) h1.2.2.2
  have k2e : I2 (zR y 24) = I1 (zR y 24) := m2.row tk24 (by decide) h2.2.2.2
  have e9 : I2 x 9 = I0 x 9 := (m2 _ 9 (Or.inl (by rw [tx]; exact h2.2.1))).trans (m1 _ 9 (Or.inl (by rw [tx]; exact h1.2.1)))
  have e23 : I2 y 23 = I0 y 23 := (m2 _ 23 (Or.inl (by rw [ty]; exact h2.2.2.1))).trans (m1 _ 23 (Or.inl (by rw [ty]; exact h1.2.2.1)))
  refine ⟨a, by rw [e9, e23]; exact h.2.1, ?_⟩
  rw [e23]
  exact h.2.2.imp id (fun q => (q.sk hs tx m1 h1.1 (FQ3.of k1e)).sk hs tx m2 h2.1 (FQ3.of k2e))
theorem CS.both {k1 k2 : List Nat} {O1 O2 : Nat → Prop} {zL : List Nat} {zT : Nat → Nat} {zR : Nat → Nat → Nat} {I0 I1 I2 : Nat → Nat → Int32} {x y : Nat} {a b r r' : Int32} (h : R3 zR I0 x y) (hs : SKP zL zT zR) (tx : zT x = 11) (ty : zT y = 18) (m1 : SM k1 O1 zT I0 I1) (h1 : (1208 ∉ k1 ∧ 1301 ∉ k1 ∧ 1302 ∉ k1 ∧ 1509 ∉ k1) ∧ (1109 ∉ k1 ∧ 1823 ∉ k1 ∧ 10900 ∉ k1) ∧ 401 ∉ k1 ∧ 402 ∉ k1 ∧ 109 ∉ k1 ∧ 10000 ∉ k1)
    (p1 : ¬ CSok a.toInt b.toInt → (r.toInt = -1 ∧ I1 = I0)) (p2 : CSok a.toInt b.toInt → (I0 (zR x 0) 8).toInt = 5 → (r.toInt = -3 ∧ I1 = I0)) (p3 : CSok a.toInt b.toInt → ¬ (I0 (zR x 0) 8).toInt = 5 → (r.toInt = (I0 (zR x 0) 8).toInt ∧ (I1 (zR x 0) 8).toInt = (I0 (zR x 0) 8).toInt + 1))
    (m2 : SM k2 O2 zT I1 I2) (h2 : (1208 ∉ k2 ∧ 1301 ∉ k2 ∧ 1302 ∉ k2 ∧ 1509 ∉ k2) ∧ (1109 ∉ k2 ∧ 1823 ∉ k2 ∧ 10900 ∉ k2) ∧ 908 ∉ k2 ∧ 401 ∉ k2 ∧ 402 ∉ k2 ∧ 109 ∉ k2)
    (q1 : ¬ CSok a.toInt b.toInt → (r'.toInt = -1 ∧ I2 = I1)) (q2 : CSok a.toInt b.toInt → zA (I1 (zR y 0)) (13) = 5 → (r'.toInt = -3 ∧ I2 = I1)) (q3 : CSok a.toInt b.toInt → ¬ zA (I1 (zR y 0)) (13) = 5 → (r'.toInt = zA (I1 (zR y 0)) (13) ∧ zA (I2 (zR y 0)) (13) = zA (I1 (zR y 0)) (13) + 1 ∧ (∀ j : Int, 0 ≤ j → (j ≤ 1 ∨ (3 ≤ j ∧ j ≤ 4) ∨ j = 13 ∨ (20 ≤ j ∧ j ≤ 91)) → ¬ j = 13 → zA (I2 (zR y 0)) j = zA (I1 (zR y 0)) j))) : r.toInt = r'.toInt ∧ R3 zR I2 x y := by
  have ty0 : zT (zR y 0) = 100 := sk_f hs ty (by decide) rfl (by decide)
  have z1 : I1 (zR y 0) = I0 (zR y 0) := m1.row ty0 (by decide) h1.2.2.2.2.2
  have e8 := h.1.1
  by_cases c : CSok a.toInt b.toInt
  · by_cases n : (I0 (zR x 0) 8).toInt = 5
    · obtain ⟨a1, a2⟩ := p2 c n
      obtain ⟨b1, b2⟩ := q2 c (by rw [z1, ← e8]; exact n)
      rw [b2, a2]
      exact ⟨by omega, h⟩
    · obtain ⟨a1, a2⟩ := p3 c n
      obtain ⟨b1, b2, b3⟩ := q3 c (by rw [z1, ← e8]; exact n)
      rw [z1] at b1 b2 b3
      refine ⟨by omega, h.kp hs tx ty m1 ⟨h1.1, h1.2.1⟩ m2 ⟨h2.1, h2.2.1⟩ ?_⟩
      have tn := (nw_t hs tx).1
      have th : zT (zR (zR x 0) 0) = 4 := sk_f hs tn (by decide) rfl (by decide)
      have g8 : I2 (zR x 0) 8 = I1 (zR x 0) 8 := m2 _ 8 (Or.inl (by rw [tn]; exact h2.2.2.1))
      have g1 : I2 (zR (zR x 0) 0) 1 = I0 (zR (zR x 0) 0) 1 := (m2 _ 1 (Or.inl (by rw [th]; exact h2.2.2.2.1))).trans (m1 _ 1 (Or.inl (by rw [th]; exact h1.2.2.1)))
      have g2 : I2 (zR (zR x 0) 0) 2 = I0 (zR (zR x 0) 0) 2 := (m2 _ 2 (Or.inl (by rw [th]; exact h2.2.2.2.2.1))).trans (m1 _ 2 (Or.inl (by rw [th]; exact h1.2.2.2.1)))
      refine ⟨by rw [g8]; omega, ⟨by rw [g1, b3 0 (by omega) (by omega) (by omega)]; exact h.1.2.1.1, by rw [g2, b3 1 (by omega) (by omega) (by omega)]; exact h.1.2.1.2⟩, fun d hd => ?_⟩
      have tc : zT (zR (zR (zR x 0) 2) d) = 1 := sk_a (n := 2) hs (sk_f hs tn (by decide) rfl (by decide) : zT (zR (zR x 0) 2) = 61) rfl rfl (by decide) hd
      have g3 : I2 (zR (zR (zR x 0) 2) d) 9 = I0 (zR (zR (zR x 0) 2) d) 9 := (m2 _ 9 (Or.inl (by rw [tc]; exact h2.2.2.2.2.2))).trans (m1 _ 9 (Or.inl (by rw [tc]; exact h1.2.2.2.2.1)))
      rw [g3, b3 (3 + (d : Int)) (by omega) (by omega) (by omega)]
      exact h.1.2.2 d hd
  · obtain ⟨a1, a2⟩ := p1 c
    obtain ⟨b1, b2⟩ := q1 c
    rw [b2, a2]
    exact ⟨by omega, h⟩
theorem ST.both {k1 k2 : List Nat} {O1 O2 : Nat → Prop} {zL : List Nat} {zT : Nat → Nat} {zR : Nat → Nat → Nat} {I0 I1 I2 : Nat → Nat → Int32} {x y : Nat} {a b r r' : Int32} (h : R3 zR I0 x y) (hs : SKP zL zT zR) (tx : zT x = 11) (ty : zT y = 18) (m1 : SM k1 O1 zT I0 I1) (h1 : (1208 ∉ k1 ∧ 1301 ∉ k1 ∧ 1302 ∉ k1 ∧ 1509 ∉ k1) ∧ (1109 ∉ k1 ∧ 1823 ∉ k1 ∧ 10900 ∉ k1) ∧ 908 ∉ k1 ∧ 109 ∉ k1 ∧ 10000 ∉ k1)
    (p1 : STok a.toInt b.toInt → ((a.toInt = 0 ∧ r.toInt = (I0 (zR (zR x 0) 0) 1).toInt ∧ (I1 (zR (zR x 0) 0) 1).toInt = b.toInt ∧ I1 (zR (zR x 0) 0) 2 = I0 (zR (zR x 0) 0) 2) ∨ (a.toInt = 1 ∧ r.toInt = (I0 (zR (zR x 0) 0) 2).toInt ∧ (I1 (zR (zR x 0) 0) 2).toInt = b.toInt ∧ I1 (zR (zR x 0) 0) 1 = I0 (zR (zR x 0) 0) 1))) (p2 : ¬ (STok a.toInt b.toInt) → (r.toInt = -1 ∧ I1 = I0))
    (m2 : SM k2 O2 zT I1 I2) (h2 : (1208 ∉ k2 ∧ 1301 ∉ k2 ∧ 1302 ∉ k2 ∧ 1509 ∉ k2) ∧ (1109 ∉ k2 ∧ 1823 ∉ k2 ∧ 10900 ∉ k2) ∧ 908 ∉ k2 ∧ 401 ∉ k2 ∧ 402 ∉ k2 ∧ 109 ∉ k2)
    (q1 : STok a.toInt b.toInt → (r'.toInt = zA (I1 (zR y 0)) (a.toInt) ∧ zA (I2 (zR y 0)) (a.toInt) = b.toInt ∧ FE (I1 (zR y 0)) (I2 (zR y 0)) (a.toInt))) (q2 : ¬ (STok a.toInt b.toInt) → (r'.toInt = -1 ∧ I2 = I1)) : r.toInt = r'.toInt ∧ R3 zR I2 x y := by
  have ty0 : zT (zR y 0) = 100 := sk_f hs ty (by decide) rfl (by decide)
  have z1 : I1 (zR y 0) = I0 (zR y 0) := m1.row ty0 (by decide) h1.2.2.2.2
  by_cases c : STok a.toInt b.toInt
  · obtain ⟨b1, b2, b3⟩ := q1 c
    rw [z1] at b1 b3
    have tn := (nw_t hs tx).1
    have th : zT (zR (zR x 0) 0) = 4 := sk_f hs tn (by decide) rfl (by decide)
    have g8 : I2 (zR x 0) 8 = I0 (zR x 0) 8 := (m2 _ 8 (Or.inl (by rw [tn]; exact h2.2.2.1))).trans (m1 _ 8 (Or.inl (by rw [tn]; exact h1.2.2.1)))
    have g1 : I2 (zR (zR x 0) 0) 1 = I1 (zR (zR x 0) 0) 1 := m2 _ 1 (Or.inl (by rw [th]; exact h2.2.2.2.1))
    have g2 : I2 (zR (zR x 0) 0) 2 = I1 (zR (zR x 0) 0) 2 := m2 _ 2 (Or.inl (by rw [th]; exact h2.2.2.2.2.1))
    have gm : ∀ d : Nat, d < 2 → (I2 (zR (zR (zR x 0) 2) d) 9).toInt = zA (I0 (zR y 0)) (3 + (d : Int)) := fun d hd => by
      have tc : zT (zR (zR (zR x 0) 2) d) = 1 := sk_a (n := 2) hs (sk_f hs tn (by decide) rfl (by decide) : zT (zR (zR x 0) 2) = 61) rfl rfl (by decide) hd
      rw [m2 _ 9 (Or.inl (by rw [tc]; exact h2.2.2.2.2.2)), m1 _ 9 (Or.inl (by rw [tc]; exact h1.2.2.2.1))]
      exact h.1.2.2 d hd
    rcases p1 c with ⟨a0, a1, a2, a3⟩ | ⟨a0, a1, a2, a3⟩
    · rw [a0] at b1 b2 b3
      refine ⟨by rw [a1, b1]; exact h.1.2.1.1, h.kp hs tx ty m1 ⟨h1.1, h1.2.1⟩ m2 ⟨h2.1, h2.2.1⟩ ⟨?_, ⟨?_, ?_⟩, fun d hd => ?_⟩⟩
      · rw [g8, b3 13 (by omega) (by omega)]; exact h.1.1
      · rw [g1, a2, b2]
      · rw [g2, a3, b3 1 (by omega) (by omega)]; exact h.1.2.1.2
      · rw [gm d hd, b3 (3 + (d : Int)) (by omega) (by omega)]
    · rw [a0] at b1 b2 b3
      refine ⟨by rw [a1, b1]; exact h.1.2.1.2, h.kp hs tx ty m1 ⟨h1.1, h1.2.1⟩ m2 ⟨h2.1, h2.2.1⟩ ⟨?_, ⟨?_, ?_⟩, fun d hd => ?_⟩⟩
      · rw [g8, b3 13 (by omega) (by omega)]; exact h.1.1
      · rw [g1, a3, b3 0 (by omega) (by omega)]; exact h.1.2.1.1
      · rw [g2, a2, b2]
      · rw [gm d hd, b3 (3 + (d : Int)) (by omega) (by omega)]
  · obtain ⟨a1, a2⟩ := p2 c
    obtain ⟨b1, b2⟩ := q2 c
    rw [b2, a2]
    exact ⟨by omega, h⟩
theorem MS.both {k1 k2 : List Nat} {O1 O2 : Nat → Prop} {zL : List Nat} {zT : Nat → Nat} {zR : Nat → Nat → Nat} {I0 I1 I2 : Nat → Nat → Int32} {x y : Nat} {a b r r' : Int32} (h : R3 zR I0 x y) (hs : SKP zL zT zR) (tx : zT x = 11) (ty : zT y = 18) (m1 : SM k1 O1 zT I0 I1) (h1 : (1208 ∉ k1 ∧ 1301 ∉ k1 ∧ 1302 ∉ k1 ∧ 1509 ∉ k1) ∧ (1109 ∉ k1 ∧ 1823 ∉ k1 ∧ 10900 ∉ k1) ∧ 908 ∉ k1 ∧ 401 ∉ k1 ∧ 402 ∉ k1 ∧ 10000 ∉ k1)
    (p1 : MSok a.toInt b.toInt → (r.toInt = (I0 (zR (zR (zR x 0) 2) a.toNatClampNeg) 9).toInt ∧ (I1 (zR (zR (zR x 0) 2) a.toNatClampNeg) 9).toInt = b.toInt ∧ (∀ q : Nat, zT q = 1 → ¬ q = zR (zR (zR x 0) 2) a.toNatClampNeg → I1 q 9 = I0 q 9))) (p2 : ¬ (MSok a.toInt b.toInt) → (r.toInt = -1 ∧ I1 = I0))
    (m2 : SM k2 O2 zT I1 I2) (h2 : (1208 ∉ k2 ∧ 1301 ∉ k2 ∧ 1302 ∉ k2 ∧ 1509 ∉ k2) ∧ (1109 ∉ k2 ∧ 1823 ∉ k2 ∧ 10900 ∉ k2) ∧ 908 ∉ k2 ∧ 401 ∉ k2 ∧ 402 ∉ k2 ∧ 109 ∉ k2)
    (q1 : MSok a.toInt b.toInt → (r'.toInt = zA (I1 (zR y 0)) (3 + a.toInt) ∧ zA (I2 (zR y 0)) (3 + a.toInt) = b.toInt ∧ FE (I1 (zR y 0)) (I2 (zR y 0)) (3 + a.toInt))) (q2 : ¬ (MSok a.toInt b.toInt) → (r'.toInt = -1 ∧ I2 = I1)) : r.toInt = r'.toInt ∧ R3 zR I2 x y := by
  have ty0 : zT (zR y 0) = 100 := sk_f hs ty (by decide) rfl (by decide)
  have z1 : I1 (zR y 0) = I0 (zR y 0) := m1.row ty0 (by decide) h1.2.2.2.2.2
  by_cases c : MSok a.toInt b.toInt
  · obtain ⟨b1, b2, b3⟩ := q1 c
    obtain ⟨a1, a2, a3⟩ := p1 c
    rw [z1] at b1 b3
    unfold MSok at c
    have tn := (nw_t hs tx).1
    have th : zT (zR (zR x 0) 0) = 4 := sk_f hs tn (by decide) rfl (by decide)
    have ea : a.toNatClampNeg = a.toInt.toNat := rfl
    have ec : ((a.toNatClampNeg : Nat) : Int) = a.toInt := by omega
    have g8 : I2 (zR x 0) 8 = I0 (zR x 0) 8 := (m2 _ 8 (Or.inl (by rw [tn]; exact h2.2.2.1))).trans (m1 _ 8 (Or.inl (by rw [tn]; exact h1.2.2.1)))
    have g1 : I2 (zR (zR x 0) 0) 1 = I0 (zR (zR x 0) 0) 1 := (m2 _ 1 (Or.inl (by rw [th]; exact h2.2.2.2.1))).trans (m1 _ 1 (Or.inl (by rw [th]; exact h1.2.2.2.1)))
    have g2 : I2 (zR (zR x 0) 0) 2 = I0 (zR (zR x 0) 0) 2 := (m2 _ 2 (Or.inl (by rw [th]; exact h2.2.2.2.2.1))).trans (m1 _ 2 (Or.inl (by rw [th]; exact h1.2.2.2.2.1)))
    have old := h.1.2.2 a.toNatClampNeg (by omega)
    rw [ec] at old
    refine ⟨by rw [a1, b1]; exact old, h.kp hs tx ty m1 ⟨h1.1, h1.2.1⟩ m2 ⟨h2.1, h2.2.1⟩ ⟨?_, ⟨?_, ?_⟩, fun d hd => ?_⟩⟩
    · rw [g8, b3 13 (by omega) (by omega)]; exact h.1.1
    · rw [g1, b3 0 (by omega) (by omega)]; exact h.1.2.1.1
    · rw [g2, b3 1 (by omega) (by omega)]; exact h.1.2.1.2
    · have tc : ∀ d : Nat, d < 2 → zT (zR (zR (zR x 0) 2) d) = 1 := fun d hd => sk_a (n := 2) hs (sk_f hs tn (by decide) rfl (by decide) : zT (zR (zR x 0) 2) = 61) rfl rfl (by decide) hd
      rw [m2 _ 9 (Or.inl (by rw [tc d hd]; exact h2.2.2.2.2.2))]
      by_cases e : d = a.toNatClampNeg
      · rw [e, a2, ec, b2]
      · rw [a3 _ (tc d hd) (tc_ne hs (Or.inl tn) hd (by omega) e), b3 (3 + (d : Int)) (by omega) (by omega)]
        exact h.1.2.2 d hd
  · obtain ⟨a1, a2⟩ := p2 c
    obtain ⟨b1, b2⟩ := q2 c
    rw [b2, a2]
    exact ⟨by omega, h⟩

