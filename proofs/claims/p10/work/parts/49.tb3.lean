/-- years, every second item from a on -/
def YQ (f : Nat → Int32) (a n : Int) : Prop := ∀ q : Int, 0 ≤ q → q < n → 0 ≤ (f (a + 2 * q).toNat).toInt ∧ (f (a + 2 * q).toNat).toInt ≤ 23
theorem YQ.z {f : Nat → Int32} {a : Int} : YQ f a ((0 : Int32).toInt) := fun q h0 h1 => by
  have e : (0 : Int32).toInt = 0 := by decide
  omega
theorem YQ.s {f : Nat → Int32} {a n m : Int} {i : Int32} (h : YQ f a n) (hm : m = n + 1) (h0 : 0 ≤ i.toInt) (hi : i.toInt = a + 2 * n) (hv : 0 ≤ (f i.toNatClampNeg).toInt ∧ (f i.toNatClampNeg).toInt ≤ 23) (hn : 0 ≤ n) : YQ f a m := fun q q0 q1 => by
  by_cases e : q = n
  · have e2 : (a + 2 * q).toNat = i.toNatClampNeg := by rw [e, ← hi]; rfl
    rw [e2]; exact hv
  · exact h q q0 (by omega)
theorem YQ.at {f : Nat → Int32} {a n q : Int} {i : Int32} (h : YQ f a n) (hi : i.toInt = a + 2 * q) (h0 : 0 ≤ q) (h1 : q < n) : 0 ≤ (f i.toNatClampNeg).toInt ∧ (f i.toNatClampNeg).toInt ≤ 23 := by
  have e2 : (a + 2 * q).toNat = i.toNatClampNeg := by rw [← hi]; rfl
  have z := h q h0 h1
  rw [e2] at z; exact z
theorem YQ.e {f : Nat → Int32} {a n m : Int} (h : YQ f a n) (hm : m ≤ n) : YQ f a m := fun q q0 q1 => h q q0 (by omega)
