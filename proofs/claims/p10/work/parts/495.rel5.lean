/-! which KEEPS fit -/
theorem LSUB {a b c : Int64} (h : c = a - b) (ha : -2147483648 ≤ a.toInt ∧ a.toInt ≤ 2147483647) (hb : -2147483648 ≤ b.toInt ∧ b.toInt ≤ 2147483647) : c.toInt = a.toInt - b.toInt := by
  rw [h, Int64.toInt_sub]
  exact Int.bmod_eq_of_le (by omega) (by omega)
def ALLB (P : Int → Prop) (n : Int) : Prop := ∀ i : Int, 0 ≤ i → i < n → P i
theorem ALLB.z {P : Int → Prop} : ALLB P ((0 : Int32).toInt) := fun i i0 i1 => by
  have e : (0 : Int32).toInt = 0 := by decide
  omega
theorem ALLB.s {P : Int → Prop} {n m : Int} (h : ALLB P n) (hp : P n) (hm : m = n + 1) : ALLB P m := fun i i0 i1 => by
  by_cases c : i = n
  · rw [c]; exact hp
  · exact h i i0 (by omega)
theorem ALLB.e {P : Int → Prop} {n m : Int} (h : ALLB P n) (e : m ≤ n) : ALLB P m := fun i i0 i1 => h i i0 (by omega)
theorem ALLB.cg {P Q : Int → Prop} {n : Int} (h : ∀ i : Int, 0 ≤ i → i < n → (P i ↔ Q i)) : ALLB P n ↔ ALLB Q n := ⟨fun a i i0 i1 => (h i i0 i1).mp (a i i0 i1), fun a i i0 i1 => (h i i0 i1).mpr (a i i0 i1)⟩
def FTc (w : Int → Int32) (it : Int → Int) (b e i : Int) : Prop := ¬ (w (it (b + 2 * i))).toInt = -1004 ∧ -e ≤ (w (it (b + 2 * i))).toInt - it (b + 2 * i + 1) ∧ (w (it (b + 2 * i))).toInt - it (b + 2 * i + 1) ≤ e
theorem FTc.mk {w : Int → Int32} {it : Int → Int} {b e i : Int} {y v x : Int32} (hy : it (b + 2 * i) = y.toInt) (hv : it (b + 2 * i + 1) = v.toInt) (hw : x = w y.toInt) (h1 : ¬ x.toInt = -1004) (h2 : -e ≤ x.toInt - v.toInt) (h3 : x.toInt - v.toInt ≤ e) : FTc w it b e i := by
  unfold FTc
  rw [hy, hv, ← hw]; exact ⟨h1, h2, h3⟩
theorem FTc.no {w : Int → Int32} {it : Int → Int} {b e i n : Int} {y v x : Int32} (hy : it (b + 2 * i) = y.toInt) (hv : it (b + 2 * i + 1) = v.toInt) (hw : x = w y.toInt) (h : x.toInt = -1004 ∨ x.toInt - v.toInt < -e ∨ e < x.toInt - v.toInt) (h0 : 0 ≤ i) (h1 : i < n) : ¬ ALLB (FTc w it b e) n := fun a => by
  have q := a i h0 h1
  unfold FTc at q
  rw [hy, hv, ← hw] at q
  omega
theorem YQ.no {f : Nat → Int32} {a n q : Int} {i : Int32} (hi : i.toInt = a + 2 * q) (h0 : 0 ≤ q) (h1 : q < n) (hv : ¬ (0 ≤ (f i.toNatClampNeg).toInt ∧ (f i.toNatClampNeg).toInt ≤ 23)) : ¬ YQ f a n := fun h => hv (h.at hi h0 h1)
/-- bits, one by one -/
def LBR (P : Int → Prop) : Nat → Int32 → Prop
  | 0, r => r = 0
  | n + 1, r => ∃ q : Int32, LBR P n q ∧ ((P ((n : Int) + 1) ∧ ∃ y : Int32, y.toInt = (n : Int) ∧ r = q ||| ((1 : Int32) <<< (y &&& 31))) ∨ (¬ P ((n : Int) + 1) ∧ r = q))
theorem LBR.z {P : Int → Prop} {n : Nat} (h : n = 0) : LBR P n 0 := by
  rw [h]; exact (rfl : (0 : Int32) = 0)
theorem LBR.y {P : Int → Prop} {n m : Nat} {q r s y : Int32} {k : Int} (h : LBR P n q) (hm : m = n + 1) (hk : k = (n : Int) + 1) (hp : P k) (hy : y.toInt = (n : Int)) (hs : s = (1 : Int32) <<< (y &&& 31)) (hr : r = q ||| s) : LBR P m r := by
  rw [hm]
  exact ⟨q, h, Or.inl ⟨by rw [← hk]; exact hp, y, hy, by rw [hr, hs]⟩⟩
theorem LBR.n {P : Int → Prop} {n m : Nat} {q r : Int32} {k : Int} (h : LBR P n q) (hm : m = n + 1) (hk : k = (n : Int) + 1) (hp : ¬ P k) (hr : r = q) : LBR P m r := by
  rw [hm]
  exact ⟨q, h, Or.inr ⟨by rw [← hk]; exact hp, hr⟩⟩
theorem LBR.c {P : Int → Prop} {n m : Nat} {q : Int32} (h : LBR P n q) (e : n = m) : LBR P m q := by
  rw [← e]; exact h
theorem LBR.eq {P Q : Int → Prop} (h : ∀ k : Int, 1 ≤ k → k ≤ 5 → (P k ↔ Q k)) : ∀ (n : Nat), n ≤ 5 → ∀ r r' : Int32, LBR P n r → LBR Q n r' → r = r'
  | 0, _, r, r', a, b => (show r = 0 from a).trans (show r' = 0 from b).symm
  | n + 1, hn, r, r', a, b => by
    obtain ⟨q, a1, a2⟩ := a
    obtain ⟨q', b1, b2⟩ := b
    have e := LBR.eq h n (by omega) q q' a1 b1
    have hh := h ((n : Int) + 1) (by omega) (by omega)
    rcases a2 with ⟨p, y, hy, hr⟩ | ⟨p, hr⟩ <;> rcases b2 with ⟨p', y', hy', hr'⟩ | ⟨p', hr'⟩
    · rw [hr, hr', e, Int32.toInt_inj.mp (hy.trans hy'.symm)]
    · exact absurd (hh.mp p) p'
    · exact absurd (hh.mpr p') p
    · rw [hr, hr', e]
def LNok (a b n e : Int) : Prop := (0 ≤ a ∧ a ≤ 3) ∧ (0 ≤ b ∧ b ≤ 2) ∧ (1 ≤ n ∧ n ≤ 8) ∧ (0 ≤ e ∧ e ≤ 9)
/-- the answer to learn, by its bits -/
def LNa (P : Int → Prop) (r : Int32) : Prop := ∃ q : Int32, LBR P 5 q ∧ ((q.toInt = 0 ∧ r.toInt = -4) ∨ (¬ q.toInt = 0 ∧ r = q))
theorem LNa.eq {P Q : Int → Prop} {r r' : Int32} (h : ∀ k : Int, 1 ≤ k → k ≤ 5 → (P k ↔ Q k)) (a : LNa P r) (b : LNa Q r') : r.toInt = r'.toInt := by
  obtain ⟨q, a1, a2⟩ := a
  obtain ⟨q', b1, b2⟩ := b
  have e := LBR.eq h 5 (by decide) q q' a1 b1
  rw [← e] at b2
  rcases a2 with ⟨z, hr⟩ | ⟨z, hr⟩ <;> rcases b2 with ⟨z', hr'⟩ | ⟨z', hr'⟩
  · omega
  · exact absurd z z'
  · exact absurd z' z
  · rw [hr, hr']
