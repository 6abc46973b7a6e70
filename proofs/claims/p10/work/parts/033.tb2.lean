theorem rgF (x : Int32) : -2147483648 ≤ x.toInt ∧ x.toInt ≤ 2147483647 := by
  have h := rng x
  exact ⟨h.1, by omega⟩
theorem bz_or {r : Int32} {P : Prop} [Decidable P] (hw : r = if P then 1 else 0) : (r.toInt = 1 ∧ P) ∨ (r.toInt = 0 ∧ ¬ P) := by
  by_cases h : P
  · rw [if_pos h] at hw; rw [hw]; exact Or.inl ⟨by decide, h⟩
  · rw [if_neg h] at hw; rw [hw]; exact Or.inr ⟨by decide, h⟩
theorem nq0 {q : Nat} : ¬ (q : Int) < (0 : Int32).toInt := by
  have e : (0 : Int32).toInt = 0 := by decide
  omega
theorem tne {zT : Nat → Nat} {a b t t' : Nat} (ha : zT a = t) (hb : zT b = t') (h : t ≠ t') : a ≠ b := fun e => h (by rw [← ha, ← hb, e])
theorem WM.putA {ks : List Nat} {zO : Nat → Prop} {zT : Nat → Nat} {zR : Nat → Nat → Nat} {zI zI' : Nat → Nat → Int32} {a t k : Nat} {v : Int32} {zL : List Nat} (h : WM ks zO zT zR zI zI') (hs : SKP zL zT zR) (ta : zT a = t) {lo hi : Int} (hr : RT t k = (lo, hi)) (hv : lo ≤ v.toInt ∧ v.toInt ≤ hi) (ht : ¬ t < 19) (h2 : t = 42 → 1 ≤ v.toInt) (hk : t * 100 ∈ ks) (ho : zO a) : WM ks zO zT zR zI (u2 zI' a k v) :=
  h.put hs ta hr hv (fun e => absurd (by rw [e]; decide) ht) h2 (by unfold KEY; rw [if_neg ht]; exact hk) ho
theorem WM.at {ks : List Nat} {zO : Nat → Prop} {zT : Nat → Nat} {zR : Nat → Nat → Nat} {zI zI' : Nat → Nat → Int32} {a t : Nat} (h : WM ks zO zT zR zI zI') (ta : zT a = t) (k : Nat) {lo hi : Int} (hr : RT t k = (lo, hi)) : lo ≤ (zI' a k).toInt ∧ (zI' a k).toInt ≤ hi := wt_at h.1 ta k hr
theorem WM.nd {ks : List Nat} {zO : Nat → Prop} {zT : Nat → Nat} {zR : Nat → Nat → Nat} {zI zI' : Nat → Nat → Int32} {w : Nat} (h : WM ks zO zT zR zI zI') (tw : zT w = 10) {i : Int32} (h0 : 0 ≤ i.toInt) (hi : i.toInt < (zI' w 14).toInt) : 1 ≤ (zI' (zR w 6) i.toNatClampNeg).toInt := h.1.2 w tw _ (by
  have e : i.toNatClampNeg = i.toInt.toNat := rfl
  omega)
/-- places of a line: none -/
theorem WM.pl0 {ks : List Nat} {zO : Nat → Prop} {zT : Nat → Nat} {zR : Nat → Nat → Nat} {zI zI' : Nat → Nat → Int32} {a : Nat} {v : Int32} {zL : List Nat} (h : WM ks zO zT zR zI zI') (hs : SKP zL zT zR) (ta : zT a = 10) (hv : 0 ≤ v.toInt ∧ v.toInt ≤ 12) (hn : ∀ q : Nat, (q : Int) < v.toInt → 1 ≤ (zI' (zR a 6) q).toInt) (hk : 1014 ∈ ks) (ho : zO a) : WM ks zO zT zR zI (u2 zI' a 14 v) := by
  refine ⟨⟨fun b j => ?_, fun w hw q hq => ?_⟩, fun b j q => ?_⟩
  · by_cases e : b = a ∧ j = 14
    · obtain ⟨rfl, rfl⟩ := e
      rw [u2_s, ta]; exact hv
    · show (RT (zT b) j).1 ≤ (u2 zI' a 14 v b j).toInt ∧ (u2 zI' a 14 v b j).toInt ≤ (RT (zT b) j).2
      rw [show u2 zI' a 14 v b j = zI' b j from if_neg e]; exact h.1.1 b j
  · have t6 := hs.2.2.1 w 6 (by rw [hw]; decide) (by rw [hw]; decide)
    have e6 : zR w 6 ≠ a := fun e => by rw [e, ta, hw] at t6; exact absurd t6 (by decide)
    rw [u2_n e6]
    by_cases e : w = a
    · subst e
      rw [u2_s] at hq
      exact hn q hq
    · rw [u2_n e] at hq
      exact h.1.2 w hw q hq
  · rw [show u2 zI' a 14 v b j = zI' b j from if_neg (fun x => q.elim (fun n => n (by rw [x.1, x.2, ta]; exact hk)) (fun n => n (by rw [x.1]; exact ho)))]; exact h.2 b j q
theorem pl1 {ks : List Nat} {zO : Nat → Prop} {zT : Nat → Nat} {zR : Nat → Nat → Nat} {zI zI' : Nat → Nat → Int32} {w : Nat} {x v : Int32} (h : WM ks zO zT zR zI zI') (tw : zT w = 10) (hx : zI' w 14 = x) (hv : v.toInt = x.toInt + 1) (h0 : 0 ≤ x.toInt) (hn : zI' (zR w 6) x.toNatClampNeg = 1) : ∀ q : Nat, (q : Int) < v.toInt → 1 ≤ (zI' (zR w 6) q).toInt := fun q hq => by
  have e : x.toNatClampNeg = x.toInt.toNat := rfl
  by_cases c : (q : Int) < x.toInt
  · exact h.1.2 w tw q (by rw [hx]; exact c)
  · have e2 : q = x.toNatClampNeg := by omega
    rw [e2, hn]; decide
theorem SM.row {ks : List Nat} {zO : Nat → Prop} {zT : Nat → Nat} {zI zI' : Nat → Nat → Int32} {a t : Nat} (h : SM ks zO zT zI zI') (ta : zT a = t) (ht : ¬ t < 19) (hk : t * 100 ∉ ks) : zI' a = zI a := funext fun k => h a k (Or.inl (by rw [ta]; unfold KEY; rw [if_neg ht]; exact hk))
/-- a line tells its candle's places -/
def LW (zR : Nat → Nat → Nat) (zI : Nat → Nat → Int32) (w k : Nat) : Prop := (zI w 14).toInt = PL (zI (zR k 0)) ((zI k 7).toInt).toNat ∧ ∀ q : Nat, (q : Int) < (zI k 7).toInt → ¬ (zI (zR k 0) q).toInt = 2 → (zI (zR w 1) q).toInt < (zI w 14).toInt
theorem LW.cg {zR : Nat → Nat → Nat} {zI zI' : Nat → Nat → Int32} {w k : Nat} (h : LW zR zI w k) (h1 : zI' w 14 = zI w 14) (h2 : zI' k 7 = zI k 7) (h3 : zI' (zR k 0) = zI (zR k 0)) (h4 : zI' (zR w 1) = zI (zR w 1)) : LW zR zI' w k := by
  unfold LW
  rw [h1, h2, h3, h4]
  exact h
theorem LW.sm {ks : List Nat} {zO : Nat → Prop} {zL : List Nat} {zT : Nat → Nat} {zR : Nat → Nat → Nat} {zI zI' : Nat → Nat → Int32} {w k : Nat} (h : LW zR zI w k) (hs : SKP zL zT zR) (tw : zT w = 10) (tk : zT k = 1) (hm : SM ks zO zT zI zI') (hk : 1014 ∉ ks ∧ 107 ∉ ks ∧ 2000 ∉ ks ∧ 3800 ∉ ks) : LW zR zI' w k :=
  h.cg (hm w 14 (Or.inl (by rw [tw]; exact hk.1))) (hm k 7 (Or.inl (by rw [tk]; exact hk.2.1))) (hm.row (sk_f hs tk (by decide) rfl (by decide)) (by decide) hk.2.2.1) (hm.row (sk_f hs tw (by decide) rfl (by decide)) (by decide) hk.2.2.2)
theorem lpc_s {K f f' : Nat → Int32} {t t' w w' : Int32} (h : ∀ q : Nat, (q : Int) < t.toInt → ¬ (K q).toInt = 2 → (f q).toInt < w.toInt) (ht : t'.toInt = t.toInt + 1) (h0 : 0 ≤ t.toInt) (hf : ∀ q : Nat, q ≠ t.toNatClampNeg → f' q = f q) (hw : w.toInt ≤ w'.toInt) (hx : (K t.toNatClampNeg).toInt = 2 ∨ (f' t.toNatClampNeg).toInt < w'.toInt) : ∀ q : Nat, (q : Int) < t'.toInt → ¬ (K q).toInt = 2 → (f' q).toInt < w'.toInt := fun q hq hk => by
  have e : t.toNatClampNeg = t.toInt.toNat := rfl
  by_cases c : q = t.toNatClampNeg
  · rw [c] at hk ⊢
    exact hx.elim (fun x => absurd x hk) id
  · have z := h q (by omega) hk
    rw [hf q c]
    omega
theorem LW.mk9 {zR : Nat → Nat → Nat} {zI : Nat → Nat → Int32} {w k : Nat} {K : Nat → Int32} {x t u : Int32} (h1 : x.toInt = PL K (t.toInt).toNat) (h2 : ∀ q : Nat, (q : Int) < t.toInt → ¬ (K q).toInt = 2 → (zI (zR w 1) q).toInt < x.toInt) (e : t.toInt = u.toInt) (g1 : zI w 14 = x) (g2 : zI k 7 = u) (g3 : zI (zR k 0) = K) : LW zR zI w k := by
  unfold LW
  rw [g1, g2, g3, ← e]
  exact ⟨h1, h2⟩
theorem SM.one {zT : Nat → Nat} {zI : Nat → Nat → Int32} {a t k : Nat} {v : Int32} (ta : zT a = t) : SM [KEY t k] AL zT zI (u2 zI a k v) := fun b j h => if_neg (fun x => h.elim (fun n => n (by rw [x.1, x.2, ta]; exact List.mem_singleton.mpr rfl)) (fun n => n trivial))
theorem SM.oneA {zT : Nat → Nat} {zI : Nat → Nat → Int32} {a t k : Nat} {v : Int32} (ta : zT a = t) (ht : ¬ t < 19) : SM [t * 100] AL zT zI (u2 zI a k v) := fun b j h => if_neg (fun x => h.elim (fun n => n (by rw [x.1, ta]; unfold KEY; rw [if_neg ht]; exact List.mem_singleton.mpr rfl)) (fun n => n trivial))
/-- what is counted is so -/
def JX (zR : Nat → Nat → Nat) (zI : Nat → Nat → Int32) (x : Nat) : Prop := ∀ c : Nat, c < 2 → (zI (zR x 7) c).toInt = 0 ∨ LW zR zI (zR (zR x 6) c) (zR (zR (zR x 0) 2) c)
def JE (zR : Nat → Nat → Nat) (zI : Nat → Nat → Int32) (x c0 : Nat) : Prop := ∀ c : Nat, c < 2 → c ≠ c0 → (zI (zR x 7) c).toInt = 0 ∨ LW zR zI (zR (zR x 6) c) (zR (zR (zR x 0) 2) c)
theorem tJ {zL : List Nat} {zT : Nat → Nat} {zR : Nat → Nat → Nat} {x c : Nat} (hs : SKP zL zT zR) (tx : zT x = 11) (hc : c < 2) : zT (zR x 7) = 47 ∧ zT (zR (zR x 6) c) = 10 ∧ zT (zR (zR (zR x 0) 2) c) = 1 := by
  have h6 : zT (zR x 6) = 64 := sk_f hs tx (by decide) rfl (by decide)
  have h0 : zT (zR x 0) = 9 := sk_f hs tx (by decide) rfl (by decide)
  have h2 : zT (zR (zR x 0) 2) = 61 := sk_f hs h0 (by decide) rfl (by decide)
  exact ⟨sk_f hs tx (by decide) rfl (by decide), sk_a (n := 2) hs h6 rfl rfl (by decide) hc, sk_a (n := 2) hs h2 rfl rfl (by decide) hc⟩
theorem JX.e {zR : Nat → Nat → Nat} {zI : Nat → Nat → Int32} {x c0 : Nat} (h : JX zR zI x) : JE zR zI x c0 := fun c hc _ => h c hc
theorem JE.sm {ks : List Nat} {zO : Nat → Prop} {zL : List Nat} {zT : Nat → Nat} {zR : Nat → Nat → Nat} {zI zI' : Nat → Nat → Int32} {x c0 : Nat} (h : JE zR zI x c0) (hs : SKP zL zT zR) (tx : zT x = 11) (hm : SM ks zO zT zI zI') (hk : 1014 ∉ ks ∧ 107 ∉ ks ∧ 2000 ∉ ks ∧ 3800 ∉ ks) (hk4 : 4700 ∉ ks) : JE zR zI' x c0 := fun c hc hn => by
  obtain ⟨t1, t2, t3⟩ := tJ hs tx hc
  rw [hm.row t1 (by decide) hk4]
  exact (h c hc hn).imp id (fun z => z.sm hs t2 t3 hm hk)
theorem JX.sm {ks : List Nat} {zO : Nat → Prop} {zL : List Nat} {zT : Nat → Nat} {zR : Nat → Nat → Nat} {zI zI' : Nat → Nat → Int32} {x : Nat} (h : JX zR zI x) (hs : SKP zL zT zR) (tx : zT x = 11) (hm : SM ks zO zT zI zI') (hk : 1014 ∉ ks ∧ 107 ∉ ks ∧ 2000 ∉ ks ∧ 3800 ∉ ks) (hk4 : 4700 ∉ ks) : JX zR zI' x := fun c hc => (h.e (c0 := c + 1)).sm hs tx hm hk hk4 c hc (by omega)
theorem LW.ct {zL : List Nat} {zT : Nat → Nat} {zR : Nat → Nat → Nat} {zI : Nat → Nat → Int32} {x c k : Nat} {v : Int32} (hs : SKP zL zT zR) (tx : zT x = 11) (hc : c < 2) (h : LW zR zI (zR (zR x 6) c) (zR (zR (zR x 0) 2) c)) : LW zR (u2 zI (zR x 7) k v) (zR (zR x 6) c) (zR (zR (zR x 0) 2) c) := by
  obtain ⟨t1, t2, t3⟩ := tJ hs tx hc
  exact h.sm hs t2 t3 (SM.oneA t1 (by decide)) (by decide)
theorem JE.c0 {zL : List Nat} {zT : Nat → Nat} {zR : Nat → Nat → Nat} {zI : Nat → Nat → Int32} {x k : Nat} {v : Int32} (h : JE zR zI x k) (hs : SKP zL zT zR) (tx : zT x = 11) (hv : v.toInt = 0) : JX zR (u2 zI (zR x 7) k v) x := fun c hc => by
  by_cases e : c = k
  · rw [e, u2_s]; exact Or.inl hv
  · rw [u2_k e]; exact (h c hc e).imp id (fun z => z.ct hs tx hc)
theorem JX.c0 {zL : List Nat} {zT : Nat → Nat} {zR : Nat → Nat → Nat} {zI : Nat → Nat → Int32} {x k : Nat} {v : Int32} (h : JX zR zI x) (hs : SKP zL zT zR) (tx : zT x = 11) (hv : v.toInt = 0) : JX zR (u2 zI (zR x 7) k v) x := h.e.c0 hs tx hv
theorem JX.c1 {zL : List Nat} {zT : Nat → Nat} {zR : Nat → Nat → Nat} {zI : Nat → Nat → Int32} {x k : Nat} {v : Int32} (h : JX zR zI x) (hs : SKP zL zT zR) (tx : zT x = 11) (hl : LW zR zI (zR (zR x 6) k) (zR (zR (zR x 0) 2) k)) : JX zR (u2 zI (zR x 7) k v) x := fun c hc => by
  by_cases e : c = k
  · rw [e] at hc ⊢; exact Or.inr (hl.ct hs tx hc)
  · rw [u2_k e]; exact (h c hc).imp id (fun z => z.ct hs tx hc)
theorem vr_o {zT : Nat → Nat} {a t i : Nat} (ta : zT a = t) (ht : t < 19) (h : RF t i ≠ 0) : VR zT a i := ⟨by rw [ta]; exact h, Or.inl (by rw [ta]; exact ht)⟩
theorem vr_a {zT : Nat → Nat} {a t i q n e : Nat} (ta : zT a = t) (hd : DT t = .inr (q, n, e)) (h : RF t i ≠ 0) (hi : i < n) : VR zT a i := ⟨by rw [ta]; exact h, Or.inr ⟨q, n, e, by rw [ta]; exact hd, hi⟩⟩
/-- another element of the row is no cell of this one -/
theorem ow_n {zL : List Nat} {zT : Nat → Nat} {zR : Nat → Nat → Nat} {A t te c c0 q n e : Nat} (hs : SKP zL zT zR) (tA : zT A = t) (hd : DT t = .inr (q, n, e)) (hr : ∀ i, RF t i = te) (h0 : te ≠ 0) (hte : te < 19) (hc : c < n) (hc0 : c0 < n) (hne : c ≠ c0) (htt : t ≠ te) : ¬ OW zT zR (zR A c0) (zR A c) ∧ ∀ i, RF te i ≠ 0 → ¬ OW zT zR (zR A c0) (zR (zR A c) i) := by
  have inj := hs.2.2.2.2
  have v : ∀ i, i < n → VR zT A i := fun i hi => vr_a tA hd (by rw [hr]; exact h0) hi
  have tc : ∀ i, i < n → zT (zR A i) = te := fun i hi => sk_a hs tA hd (hr 0) h0 hi
  refine ⟨fun h => ?_, fun i hi h => ?_⟩
  · rcases h with h | ⟨j, hj, h⟩
    · exact hne (inj _ _ _ _ (v c hc) (v c0 hc0) h).2
    · rw [tc c0 hc0] at hj
      have z := (inj _ _ _ _ (v c hc) (vr_o (tc c0 hc0) hte hj) h).1
      exact htt (by rw [← tA, z]; exact tc c0 hc0)
  · have vi := vr_o (tc c hc) hte hi
    rcases h with h | ⟨j, hj, h⟩
    · have z := (inj _ _ _ _ vi (v c0 hc0) h).1
      exact htt (by rw [← tA, ← z]; exact tc c hc)
    · rw [tc c0 hc0] at hj
      have z := (inj _ _ _ _ vi (vr_o (tc c0 hc0) hte hj) h).1
      exact hne (inj _ _ _ _ (v c hc) (v c0 hc0) z).2
theorem JE.o1 {ks : List Nat} {zL : List Nat} {zT : Nat → Nat} {zR : Nat → Nat → Nat} {zI zI' : Nat → Nat → Int32} {x c0 : Nat} (h : JE zR zI x c0) (hs : SKP zL zT zR) (tx : zT x = 11) (h2 : c0 < 2) (hm : SM ks (OW zT zR (zR (zR (zR x 0) 2) c0)) zT zI zI') (hk : 1014 ∉ ks ∧ 3800 ∉ ks ∧ 4700 ∉ ks) : JE zR zI' x c0 := fun c hc hn => by
  obtain ⟨t1, t2, t3⟩ := tJ hs tx hc
  have a0 : zT (zR x 0) = 9 := sk_f hs tx (by decide) rfl (by decide)
  have a2 : zT (zR (zR x 0) 2) = 61 := sk_f hs a0 (by decide) rfl (by decide)
  obtain ⟨n1, n2⟩ := ow_n (te := 1) hs a2 rfl (fun _ => rfl) (by decide) (by decide) hc h2 hn (by decide)
  rw [hm.row t1 (by decide) hk.2.2]
  exact (h c hc hn).imp id (fun z => z.cg (hm _ 14 (Or.inl (by rw [t2]; exact hk.1))) (hm _ 7 (Or.inr n1)) (funext fun k => hm _ k (Or.inr (n2 0 (by decide)))) (hm.row (sk_f hs t2 (by decide) rfl (by decide)) (by decide) hk.2.1))
theorem JE.o2 {ks : List Nat} {zL : List Nat} {zT : Nat → Nat} {zR : Nat → Nat → Nat} {zI zI' : Nat → Nat → Int32} {x c0 : Nat} (h : JE zR zI x c0) (hs : SKP zL zT zR) (tx : zT x = 11) (h2 : c0 < 2) (hm : SM ks (OW zT zR (zR (zR x 6) c0)) zT zI zI') (hk : 107 ∉ ks ∧ 2000 ∉ ks ∧ 4700 ∉ ks) : JE zR zI' x c0 := fun c hc hn => by
  obtain ⟨t1, t2, t3⟩ := tJ hs tx hc
  have a6 : zT (zR x 6) = 64 := sk_f hs tx (by decide) rfl (by decide)
  obtain ⟨n1, n2⟩ := ow_n (te := 10) hs a6 rfl (fun _ => rfl) (by decide) (by decide) hc h2 hn (by decide)
  rw [hm.row t1 (by decide) hk.2.2]
  exact (h c hc hn).imp id (fun z => z.cg (hm _ 14 (Or.inr n1)) (hm _ 7 (Or.inl (by rw [t3]; exact hk.1))) (hm.row (sk_f hs t3 (by decide) rfl (by decide)) (by decide) hk.2.1) (funext fun k => hm _ k (Or.inr (n2 1 (by decide)))))
theorem JE.z {zR : Nat → Nat → Nat} {zI : Nat → Nat → Int32} {x c0 : Nat} (h : JE zR zI x c0) (hz : (zI (zR x 7) c0).toInt = 0) : JX zR zI x := fun c hc => by
  by_cases e : c = c0
  · rw [e]; exact Or.inl hz
  · exact h c hc e
theorem JX.z2 {zR : Nat → Nat → Nat} {zI : Nat → Nat → Int32} {x : Nat} (h0 : (zI (zR x 7) 0).toInt = 0) (h1 : (zI (zR x 7) 1).toInt = 0) : JX zR zI x := fun c hc => by
  rcases (show c = 0 ∨ c = 1 by omega) with e | e <;> rw [e]
  · exact Or.inl h0
  · exact Or.inl h1
theorem bn0 : (vp_nar .boolean (0 : Int32)).toInt = 0 := by decide
theorem ht_recv {s : State} {H : Heap} {dC : Nat → ClassId} {dI : Nat → Nat → Nat} {cy : Nat → ClassId} {zL : List Nat} {zT : Nat → Nat} {zR : Nat → Nat → Nat} {zI : Nat → Nat → Int32} {zJ : Nat → Nat → Int64} {a t ci : Nat} {ks : List Nat} {q : vw_C} (hK : va_K (dC, dI) vwCl (TY cy) s) (hP : va_P (dC, dI) vwCl (WL cy zL zT zR zI zJ) H) (hs : SKP zL zT zR) (ta : zT a = t) (h0 : t ≠ 0) (hd : DT t = .inl (ci, ks)) (hc : vwCl[ci]? = some q) : ∃ cell : Cell, H[a]? = some cell ∧ cell.vm.isStatics = false ∧ s.vm.findClass q.1 = some cell.cls := by
  obtain ⟨i, -, hq⟩ := WL_in (cy := cy) hs ta h0
  have he := hq zI zJ
  rw [EN_o ta hd] at he
  exact va_recv hK hP hc he
theorem mxl_ne {v x y : Int64} (e : v = if y < x then x else y) (hx : 0 < x) : ¬ v = 0 := by
  intro h
  rw [h] at e
  by_cases q : y < x
  · rw [if_pos q] at e
    rw [← e] at hx
    exact absurd hx (by decide)
  · rw [if_neg q] at e
    rw [← e] at q
    exact q hx
theorem nzl {y : Int64} (h : y.toInt ≠ 0) : ¬ y = 0 := fun q => h (by rw [q]; decide)
