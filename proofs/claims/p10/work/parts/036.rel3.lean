/-! rows of items -/
def zB (f : Nat → Int32) (i : Int) : Int := (f i.toNat).toInt
theorem zB_at {f : Nat → Int32} {i : Int32} {k : Int} (h : i.toInt = k) : zB f k = (f i.toNatClampNeg).toInt := by rw [← h]; rfl
/-- a row is filled with 0 below n; all else as it was -/
def FZ (I0 I : Nat → Nat → Int32) (a : Nat) (n : Int) : Prop := (∀ y : Nat, (y : Int) < n → I a y = 0) ∧ (∀ b : Nat, ¬ b = a → I b = I0 b)
theorem FZ.z {I : Nat → Nat → Int32} {a : Nat} : FZ I I a ((0 : Int32).toInt) := ⟨fun y h => by
  have e : (0 : Int32).toInt = 0 := by decide
  omega, fun _ _ => rfl⟩
theorem FZ.s {I0 I : Nat → Nat → Int32} {a : Nat} {n m : Int} {i : Int32} (h : FZ I0 I a n) (h0 : 0 ≤ n) (hi : i.toInt = n) (hm : m = n + 1) : FZ I0 (u2 I a i.toNatClampNeg 0) a m := by
  have e : i.toNatClampNeg = i.toInt.toNat := rfl
  refine ⟨fun y hy => ?_, fun b hb => ?_⟩
  · by_cases c : y = i.toNatClampNeg
    · rw [c, u2_s]
    · rw [u2_k c]; exact h.1 y (by omega)
  · rw [u2_a hb]; exact h.2 b hb
theorem FZ.e {I0 I : Nat → Nat → Int32} {a : Nat} {n m : Int} (h : FZ I0 I a n) (e : m ≤ n) : FZ I0 I a m := ⟨fun y hy => h.1 y (by omega), h.2⟩
def FZW (zT : Nat → Nat) (I0 I : Nat → Nat → Int32) (w : Nat) : Prop := (∀ y : Nat, y < 24 → I w y = 0) ∧ (∀ b : Nat, zT b = 36 → ¬ b = w → I b = I0 b)
theorem FZW.mk9 {zT : Nat → Nat} {I0 I1 I : Nat → Nat → Int32} {w : Nat} (h : FZ I1 I w 24) (ho : ∀ b : Nat, zT b = 36 → I1 b = I0 b) : FZW zT I0 I w := ⟨fun y hy => h.1 y (by omega), fun b tb hb => (h.2 b hb).trans (ho b tb)⟩
/-- one item is written -/
def WRT (zT : Nat → Nat) (I0 I : Nat → Nat → Int32) (w k : Nat) (v : Int32) : Prop := I w k = v ∧ ∀ b j : Nat, zT b = 36 → ¬ (b = w ∧ j = k) → I b j = I0 b j
/-- an item as its LANE holds it -/
def NAR (l : Int) (v : Int32) : Int32 := if l = 0 then v.toInt8.toInt32 else if l = 1 then v.toInt16.toInt32 else v
/-! rains -/
def MAYp (w v : Int) : Prop := (w = 1 ∧ -20 ≤ v ∧ v ≤ 20) ∨ (¬ w = 1 ∧ 0 ≤ v ∧ v ≤ 9)
def MAYS (f : Nat → Int32) (w b n : Int) : Prop := ∀ i : Int, 0 ≤ i → i < n → MAYp w (zB f (b + i))
theorem MAYS.z {f : Nat → Int32} {w b : Int} : MAYS f w b ((0 : Int32).toInt) := fun i i0 i1 => by
  have e : (0 : Int32).toInt = 0 := by decide
  omega
theorem MAYS.s {f : Nat → Int32} {w b n m v : Int} (h : MAYS f w b n) (hv : MAYp w v) (e : v = zB f (b + n)) (hm : m = n + 1) : MAYS f w b m := fun i i0 i1 => by
  by_cases c : i = n
  · rw [c, ← e]; exact hv
  · exact h i i0 (by omega)
theorem MAYS.e {f : Nat → Int32} {w b n m : Int} (h : MAYS f w b n) (e : m ≤ n) : MAYS f w b m := fun i i0 i1 => h i i0 (by omega)
theorem MAYS.no {f : Nat → Int32} {w b n k v : Int} (h : MAYS f w b n) (k0 : 0 ≤ k) (k1 : k < n) (e : v = zB f (b + k)) (hn : ¬ MAYp w v) : False := hn (by rw [e]; exact h k k0 k1)
def RSok (a b c e : Int) : Prop := (0 ≤ a ∧ a ≤ 2) ∧ ((0 ≤ b ∧ b ≤ 3) ∧ (0 ≤ c ∧ c ≤ 2)) ∧ (1 ≤ e ∧ e ≤ 24)
/-- the rain's row below n is taken from the items; all other rows of rain as they were -/
def RNS (zT : Nat → Nat) (I0 I : Nat → Nat → Int32) (R : Nat) (f : Nat → Int32) (b n : Int) : Prop := (∀ y : Nat, (y : Int) < n → (I R y).toInt = zB f (b + (y : Int))) ∧ (∀ y : Nat, n ≤ (y : Int) → I R y = I0 R y) ∧ (∀ a : Nat, zT a = 34 → ¬ a = R → I a = I0 a)
theorem RNS.z {zT : Nat → Nat} {I : Nat → Nat → Int32} {R : Nat} {f : Nat → Int32} {b : Int} : RNS zT I I R f b ((0 : Int32).toInt) := ⟨fun y h => by
  have e : (0 : Int32).toInt = 0 := by decide
  omega, fun _ _ => rfl, fun _ _ _ => rfl⟩
theorem RNS.s {zT : Nat → Nat} {I0 I : Nat → Nat → Int32} {R : Nat} {f : Nat → Int32} {b n m : Int} {i v : Int32} (h : RNS zT I0 I R f b n) (h0 : 0 ≤ n) (hi : i.toInt = n) (hv : v.toInt = zB f (b + n)) (hm : m = n + 1) : RNS zT I0 (u2 I R i.toNatClampNeg v) R f b m := by
  have e : i.toNatClampNeg = i.toInt.toNat := rfl
  have e2 : ((i.toNatClampNeg : Nat) : Int) = n := by omega
  refine ⟨fun y hy => ?_, fun y hy => ?_, fun a ta ha => ?_⟩
  · by_cases c : y = i.toNatClampNeg
    · rw [c, u2_s, e2]; exact hv
    · rw [u2_k c]; exact h.1 y (by omega)
  · rw [u2_k (by omega)]; exact h.2.1 y (by omega)
  · rw [u2_a ha]; exact h.2.2 a ta ha
theorem RNS.e {zT : Nat → Nat} {I0 I : Nat → Nat → Int32} {R : Nat} {f : Nat → Int32} {b n m : Int} (h : RNS zT I0 I R f b n) (e : m = n) : RNS zT I0 I R f b m := by rw [e]; exact h
