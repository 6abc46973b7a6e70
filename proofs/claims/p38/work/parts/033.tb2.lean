theorem rgF (x : Int32) : -2147483648 ≤ x.toInt ∧ x.toInt ≤ 2147483647 := by
  have h := rng x
  exact ⟨h.1, by omega⟩
theorem bz_or {r : Int32} {P : Prop} [Decidable P] (hw : r = if P then 1 else 0) : (r.toInt = 1 ∧ P) ∨ (r.toInt = 0 ∧ ¬ P) := by
  by_cases h : P
  · rw [if_pos h] at hw; rw [hw]; exact Or.inl ⟨by decide, h⟩
  · rw [if_neg h] at hw; rw [hw]; exact Or.inr ⟨by decide, h⟩
theorem tne {zT : Nat → Nat} {a b t t' : Nat} (ha : zT a = t) (hb : zT b = t') (h : t ≠ t') : a ≠ b := fun e => h (by rw [← ha, ← hb, e])
theorem WM.putA {ks : List Nat} {zT : Nat → Nat} {zR : Nat → Nat → Nat} {zI zI' : Nat → Nat → Int32} {a t k : Nat} {v : Int32} {zL : List Nat} (h : WM ks zT zR zI zI') (hs : SKP zL zT zR) (ta : zT a = t) {lo hi : Int} (hr : RT t k = (lo, hi)) (hv : lo ≤ v.toInt ∧ v.toInt ≤ hi) (ht : ¬ t < 12) (h2 : t = 42 → 1 ≤ v.toInt) (hk : t * 100 ∈ ks) : WM ks zT zR zI (u2 zI' a k v) :=
  h.put hs ta hr hv (fun e => absurd (by rw [e]; decide) ht) h2 (by unfold KEY; rw [if_neg ht]; exact hk)
theorem WM.at {ks : List Nat} {zT : Nat → Nat} {zR : Nat → Nat → Nat} {zI zI' : Nat → Nat → Int32} {a t : Nat} (h : WM ks zT zR zI zI') (ta : zT a = t) (k : Nat) {lo hi : Int} (hr : RT t k = (lo, hi)) : lo ≤ (zI' a k).toInt ∧ (zI' a k).toInt ≤ hi := wt_at h.1 ta k hr
theorem WM.nd {ks : List Nat} {zT : Nat → Nat} {zR : Nat → Nat → Nat} {zI zI' : Nat → Nat → Int32} {w : Nat} (h : WM ks zT zR zI zI') (tw : zT w = 10) {i : Int32} (h0 : 0 ≤ i.toInt) (hi : i.toInt < (zI' w 14).toInt) : 1 ≤ (zI' (zR w 6) i.toNatClampNeg).toInt := h.1.2 w tw _ (by
  have e : i.toNatClampNeg = i.toInt.toNat := rfl
  omega)
/-- places of a line: none -/
theorem WM.pl0 {ks : List Nat} {zT : Nat → Nat} {zR : Nat → Nat → Nat} {zI zI' : Nat → Nat → Int32} {a : Nat} {v : Int32} {zL : List Nat} (h : WM ks zT zR zI zI') (hs : SKP zL zT zR) (ta : zT a = 10) (hv : 0 ≤ v.toInt ∧ v.toInt ≤ 12) (hn : ∀ q : Nat, (q : Int) < v.toInt → 1 ≤ (zI' (zR a 6) q).toInt) (hk : 1014 ∈ ks) : WM ks zT zR zI (u2 zI' a 14 v) := by
  refine ⟨⟨fun b j => ?_, fun w hw q hq => ?_⟩, fun b j q => ?_⟩
  · by_cases e : b = a ∧ j = 14
    · obtain ⟨rfl, rfl⟩ := e
      rw [u2_s, ta]; exact hv
    · show (RT (zT b) j).1 ≤ (u2 zI' a 14 v b j).toInt ∧ (u2 zI' a 14 v b j).toInt ≤ (RT (zT b) j).2
      rw [show u2 zI' a 14 v b j = zI' b j from if_neg e]; exact h.1.1 b j
  · have t6 := hs.2.2.1 w 6 (by rw [hw]; decide) (by rw [hw]; decide)
    have e6 : zR w 6 ≠ a := fun e => by rw [e, ta, hw] at t6; exact absurd t6 (by decide)
    rw [u2_n e6]
    by_cases e : w = a
    · subst e
      rw [u2_s] at hq
      exact hn q hq
    · rw [u2_n e] at hq
      exact h.1.2 w hw q hq
  · rw [show u2 zI' a 14 v b j = zI' b j from if_neg (fun x => q (by rw [x.1, x.2, ta]; exact hk))]; exact h.2 b j q
theorem ht_recv {s : State} {H : Heap} {dC : Nat → ClassId} {dI : Nat → Nat → Nat} {cy : Nat → ClassId} {zL : List Nat} {zT : Nat → Nat} {zR : Nat → Nat → Nat} {zI : Nat → Nat → Int32} {zJ : Nat → Nat → Int64} {a t ci : Nat} {ks : List Nat} {q : vw_C} (hK : va_K (dC, dI) vwCl (TY cy) s) (hP : va_P (dC, dI) vwCl (WL cy zL zT zR zI zJ) H) (hs : SKP zL zT zR) (ta : zT a = t) (h0 : t ≠ 0) (hd : DT t = .inl (ci, ks)) (hc : vwCl[ci]? = some q) : ∃ cell : Cell, H[a]? = some cell ∧ cell.vm.isStatics = false ∧ s.vm.findClass q.1 = some cell.cls := by
  obtain ⟨i, -, hq⟩ := WL_in (cy := cy) hs ta h0
  have he := hq zI zJ
  rw [EN_o ta hd] at he
  exact va_recv hK hP hc he
theorem mxl_ne {v x y : Int64} (e : v = if y < x then x else y) (hx : 0 < x) : ¬ v = 0 := by
  intro h
  rw [h] at e
  by_cases q : y < x
  · rw [if_pos q] at e
    rw [← e] at hx
    exact absurd hx (by decide)
  · rw [if_neg q] at e
    rw [← e] at q
    exact q hx
theorem nzl {y : Int64} (h : y.toInt ≠ 0) : ¬ y = 0 := fun q => h (by rw [q]; decide)
