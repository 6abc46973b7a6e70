def DTL : List ((Nat × List Nat) ⊕ (Nat × Nat × Nat)) := [.inr (0, 0, 9), .inl (0, [0, 0, 0, 0, 0, 0, 0, 1, 1, 1, 1]), .inl (1, [0, 0, 0, 0, 0, 0, 1, 1]), .inl (2, [0, 0, 0, 0, 0, 0, 1]), .inl (3, [0, 1, 1]), .inl (4, [0, 0, 0, 0, 0, 1]), .inl (5, [0, 0, 0, 0, 0, 0, 0, 1, 1]), .inl (6, [0, 1, 1, 1]), .inl (7, [0, 1, 1, 1]), .inl (8, [0, 0, 0, 0, 0, 0, 0, 1, 1]), .inl (9, [0, 0, 0, 0, 0, 0, 0, 0, 0, 0, 0, 0, 0, 1, 1, 2]), .inl (10, [0, 0, 0, 0, 0, 0, 0, 0, 0, 1]), .inl (8, [0, 0, 0, 0, 0, 0, 0, 1, 1]), .inl (3, [0, 1, 1]), .inl (4, [0, 0, 0, 0, 0, 1]), .inl (0, [0, 0, 0, 0, 0, 0, 0, 1, 1, 1, 1]), .inl (2, [0, 0, 0, 0, 0, 0, 1]), .inl (1, [0, 0, 0, 0, 0, 0, 1, 1]), .inl (11, [0, 0, 1, 1, 1, 0, 1, 1, 0, 0, 0, 0, 0, 0, 0, 2, 0, 0, 0, 1, 2, 0, 0, 1, 0, 0, 0, 0]), .inr (0, 0, 9), .inr (0, 12, 1), .inr (0, 12, 1), .inr (0, 6, 1), .inr (0, 6, 1), .inr (0, 8, 1), .inr (0, 8, 1), .inr (0, 8, 1), .inr (0, 8, 1), .inr (0, 0, 9), .inr (0, 6, 1), .inr (0, 18, 1), .inr (0, 2, 1), .inr (0, 2, 1), .inr (2, 2, 1), .inr (0, 24, 1), .inr (0, 80, 1), .inr (0, 24, 1), .inr (0, 12, 1), .inr (0, 12, 1), .inr (0, 12, 1), .inr (0, 12, 1), .inr (0, 0, 9), .inr (0, 12, 1), .inr (0, 24, 1), .inr (0, 24, 1), .inr (2, 12, 1), .inr (2, 24, 1), .inr (2, 2, 1), .inr (0, 5, 1), .inr (0, 0, 9), .inr (1, 96, 2), .inr (1, 24, 2), .inr (1, 16224, 2), .inr (0, 0, 9), .inr (0, 0, 9), .inr (0, 0, 9), .inr (0, 0, 9), .inr (0, 0, 9), .inr (0, 0, 9), .inr (0, 0, 9), .inr (7, 3, 3), .inr (3, 2, 3), .inr (4, 4, 3), .inr (5, 4, 3), .inr (6, 2, 3), .inr (8, 12, 3), .inr (0, 0, 9), .inr (0, 0, 9), .inr (0, 0, 9), .inr (0, 0, 9), .inr (0, 12, 1), .inr (0, 12, 1), .inr (0, 6, 1), .inr (0, 6, 1), .inr (0, 8, 1), .inr (0, 8, 1), .inr (0, 8, 1), .inr (0, 8, 1), .inr (0, 0, 9), .inr (0, 6, 1), .inr (0, 18, 1), .inr (0, 2, 1), .inr (0, 2, 1), .inr (2, 2, 1), .inr (0, 24, 1), .inr (0, 0, 9), .inr (0, 0, 9), .inr (0, 0, 9), .inr (0, 0, 9), .inr (0, 0, 9), .inr (7, 3, 3), .inr (3, 2, 3), .inr (4, 4, 3), .inr (0, 0, 9), .inr (0, 0, 9), .inr (0, 0, 9), .inr (0, 0, 9), .inr (0, 0, 9), .inr (0, 5, 1), .inr (0, 0, 9), .inr (0, 392, 1), .inr (0, 80, 1), .inr (0, 66, 1), .inr (0, 12, 1), .inr (0, 12, 1), .inr (0, 12, 1), .inr (0, 12, 1), .inr (0, 12, 1), .inr (0, 12, 1), .inr (0, 392, 1), .inr (0, 4, 1), .inr (0, 4, 1), .inr (0, 96, 1), .inr (1, 1440, 2), .inr (1, 1440, 2), .inr (1, 24, 2), .inr (1, 288, 2), .inr (1, 20280, 2), .inr (1, 20280, 2), .inr (0, 0, 9)]
def DT (t : Nat) : (Nat × List Nat) ⊕ (Nat × Nat × Nat) := DTL.getD t (.inr (0, 0, 9))
def RTL : List (List (Int × Int)) := [[], [(-2147483648, 2147483647), (-2147483648, 2147483647), (-2147483648, 2147483647), (-2147483648, 2147483647), (-2147483648, 2147483647), (-2147483648, 2147483647), (-2147483648, 2147483647), (0, 12), (0, 6), (1, 4), (0, 1)], [(-2147483648, 2147483647), (-2147483648, 2147483647), (-2147483648, 2147483647), (-2147483648, 2147483647), (-2147483648, 2147483647), (-2147483648, 2147483647), (0, 2), (0, 1)], [(-2147483648, 2147483647), (-2147483648, 2147483647), (-2147483648, 2147483647), (-2147483648, 2147483647), (-2147483648, 2147483647), (-2147483648, 2147483647), (0, 8)], [(-2147483648, 2147483647), (1, 5), (1, 9)], [(-2147483648, 2147483647), (-2147483648, 2147483647), (-2147483648, 2147483647), (-2147483648, 2147483647), (-2147483648, 2147483647), (0, 6)], [(-2147483648, 2147483647), (-2147483648, 2147483647), (-2147483648, 2147483647), (-2147483648, 2147483647), (-2147483648, 2147483647), (-2147483648, 2147483647), (-2147483648, 2147483647), ((-1), 12), ((-1), 12)], [(-2147483648, 2147483647), (0, 80), (0, 80), ((-2147483648), 2147483647)], [(-2147483648, 2147483647), (0, 2), (0, 24), (0, 1)], [(-2147483648, 2147483647), (-2147483648, 2147483647), (-2147483648, 2147483647), (-2147483648, 2147483647), (-2147483648, 2147483647), (-2147483648, 2147483647), (-2147483648, 2147483647), (0, 4), (0, 5)], [(-2147483648, 2147483647), (-2147483648, 2147483647), (-2147483648, 2147483647), (-2147483648, 2147483647), (-2147483648, 2147483647), (-2147483648, 2147483647), (-2147483648, 2147483647), (-2147483648, 2147483647), (-2147483648, 2147483647), (-2147483648, 2147483647), (-2147483648, 2147483647), (-2147483648, 2147483647), (-2147483648, 2147483647), (0, 4), (0, 12), (-2147483648, 2147483647)], [(-2147483648, 2147483647), (-2147483648, 2147483647), (-2147483648, 2147483647), (-2147483648, 2147483647), (-2147483648, 2147483647), (-2147483648, 2147483647), (-2147483648, 2147483647), (-2147483648, 2147483647), (-2147483648, 2147483647), (0, 1)], [(-2147483648, 2147483647), (-2147483648, 2147483647), (-2147483648, 2147483647), (-2147483648, 2147483647), (-2147483648, 2147483647), (-2147483648, 2147483647), (-2147483648, 2147483647), (0, 4), (0, 5)], [(-2147483648, 2147483647), (1, 5), (1, 9)], [(-2147483648, 2147483647), (-2147483648, 2147483647), (-2147483648, 2147483647), (-2147483648, 2147483647), (-2147483648, 2147483647), (0, 6)], [(-2147483648, 2147483647), (-2147483648, 2147483647), (-2147483648, 2147483647), (-2147483648, 2147483647), (-2147483648, 2147483647), (-2147483648, 2147483647), (-2147483648, 2147483647), (0, 12), (0, 6), (1, 4), (0, 1)], [(-2147483648, 2147483647), (-2147483648, 2147483647), (-2147483648, 2147483647), (-2147483648, 2147483647), (-2147483648, 2147483647), (-2147483648, 2147483647), (0, 8)], [(-2147483648, 2147483647), (-2147483648, 2147483647), (-2147483648, 2147483647), (-2147483648, 2147483647), (-2147483648, 2147483647), (-2147483648, 2147483647), (0, 2), (0, 1)], [(-2147483648, 2147483647), (-2147483648, 2147483647), (0, 80), (0, 80), (0, 6), (-2147483648, 2147483647), (0, 12), (0, 4), (-2147483648, 2147483647), (-2147483648, 2147483647), (-2147483648, 2147483647), (-2147483648, 2147483647), (-2147483648, 2147483647), (-2147483648, 2147483647), (-2147483648, 2147483647), (-2147483648, 2147483647), (-2147483648, 2147483647), (-2147483648, 2147483647), (-2147483648, 2147483647), (0, 12), (-2147483648, 2147483647), (-2147483648, 2147483647), (-2147483648, 2147483647), (0, 1), (-2147483648, 2147483647), (-2147483648, 2147483647), (-2147483648, 2147483647), (-2147483648, 2147483647)], [], [((-2147483648), 2147483647)], [((-2147483648), 2147483647)], [((-2147483648), 2147483647)], [(0, 20)], [(0, 1)], [(0, 11)], [(0, 23)], [((-2147483648), 2147483647)], [], [(0, 3)], [((-2147483648), 2147483647)], [((-2147483648), 2147483647)], [((-1), 12)], [((-2147483648), 2147483647)], [((-2147483648), 2147483647)], [(0, 255)], [((-2147483648), 2147483647)], [(0, 11)], [(0, 11)], [(0, 23)], [(0, 20)], [], [(0, 20)], [(0, 0)], [(0, 168)], [((-2147483648), 2147483647)], [((-2147483648), 2147483647)], [((-2147483648), 2147483647)], [((-2147483648), 2147483647)], [], [], [], [], [], [], [], [], [], [], [], [], [], [], [], [], [], [], [], [], [], [((-2147483648), 2147483647)], [((-2147483648), 2147483647)], [((-2147483648), 2147483647)], [(0, 20)], [(0, 1)], [(0, 11)], [(0, 23)], [((-2147483648), 2147483647)], [], [(0, 3)], [((-2147483648), 2147483647)], [((-2147483648), 2147483647)], [((-1), 12)], [((-2147483648), 2147483647)], [((-2147483648), 2147483647)], [], [], [], [], [], [], [], [], [], [], [], [], [], [((-2147483648), 2147483647)], [], [((-2147483648), 2147483647)], [(0, 255)], [((-2147483648), 2147483647)], [(0, 11)], [((-2147483648), 2147483647)], [((-2147483648), 2147483647)], [((-2147483648), 2147483647)], [((-2147483648), 2147483647)], [(0, 11)], [((-2147483648), 2147483647)], [((-1), 2)], [(0, 24)], [((-2147483648), 2147483647)], [], [], [], [], [], [], []]
/-- the range of an int's place: of a field, of an array's elements -/
def RT (t k : Nat) : Int × Int := if t < 19 then (RTL.getD t []).getD k (-2147483648, 2147483647) else (RTL.getD t []).getD 0 (-2147483648, 2147483647)
def RFL : List (List Nat) := [[], [20, 21, 21, 22, 22, 22, 23, 0, 0, 0, 0], [31, 31, 31, 31, 32, 33, 0, 0], [24, 25, 26, 26, 27, 27, 0], [60, 0, 0], [22, 29, 30, 30, 30, 0], [45, 45, 46, 46, 44, 52, 50, 0, 0], [35, 0, 0, 0], [36, 0, 0, 0], [4, 5, 61, 3, 62, 48, 48, 0, 0], [37, 38, 39, 39, 40, 39, 42, 65, 65, 51, 43, 50, 50, 0, 0, 0], [9, 12, 7, 5, 2, 63, 64, 47, 6, 0], [13, 14, 91, 16, 92, 98, 98, 0, 0], [90, 0, 0], [72, 79, 80, 80, 80, 0], [70, 71, 71, 72, 72, 72, 73, 0, 0, 0, 0], [74, 75, 76, 76, 77, 77, 0], [81, 81, 81, 81, 82, 83, 0, 0], [100, 101, 0, 0, 0, 102, 0, 0, 103, 104, 105, 106, 107, 113, 114, 0, 115, 116, 108, 0, 0, 117, 118, 0, 109, 110, 111, 112], [], [], [], [], [], [], [], [], [], [], [], [], [], [], [], [], [], [], [], [], [], [], [], [], [], [], [], [], [], [], [], [], [], [], [], [], [], [], [], [], [], [34], [1], [2], [8], [10], [50], [], [], [], [], [], [], [], [], [], [], [], [], [], [], [], [], [], [], [], [], [], [], [], [], [84], [15], [17], [], [], [], [], [], [], [], [], [], [], [], [], [], [], [], [], [], [], [], [], [], [], [], [], [], [], []]
def RF (t k : Nat) : Nat := if t < 19 then (RFL.getD t []).getD k 0 else (RFL.getD t []).getD 0 0
def KEY (t k : Nat) : Nat := if t < 19 then t * 100 + k else t * 100
def u2 {α : Type} (f : Nat → Nat → α) (a k : Nat) (v : α) : Nat → Nat → α := fun b j => if b = a ∧ j = k then v else f b j
theorem u2_s {α : Type} {f : Nat → Nat → α} {a k : Nat} {v : α} : u2 f a k v a k = v := if_pos ⟨rfl, rfl⟩
theorem u2_k {α : Type} {f : Nat → Nat → α} {a b k j : Nat} {v : α} (h : j ≠ k) : u2 f a k v b j = f b j := if_neg (fun q => h q.2)
theorem u2_n {α : Type} {f : Nat → Nat → α} {a b k j : Nat} {v : α} (h : b ≠ a) : u2 f a k v b j = f b j := if_neg (fun q => h q.1)
theorem u2_a {α : Type} {f : Nat → Nat → α} {a b k : Nat} {v : α} (h : b ≠ a) : u2 f a k v b = f b := funext fun _ => if_neg (fun q => h q.1)
theorem u2_r {f : Nat → Nat → Int32} {a k : Nat} {v : Int32} : u2 f a k v a = upd (f a) k v := by
  funext j
  by_cases h : j = k
  · rw [h, u2_s, cw_s rfl]
  · rw [u2_k h, cw_n h]
/-- a whole row of one address -/
def ur {α : Type} (f : Nat → Nat → α) (a : Nat) (g : Nat → α) : Nat → Nat → α := fun b => if b = a then g else f b
theorem ur_s {α : Type} {f : Nat → Nat → α} {a : Nat} {g : Nat → α} : ur f a g a = g := if_pos rfl
theorem ur_n {α : Type} {f : Nat → Nat → α} {a b : Nat} {g : Nat → α} (h : b ≠ a) : ur f a g b = f b := if_neg h
def mkF (zR : Nat → Nat → Nat) (zI : Nat → Nat → Int32) (zJ : Nat → Nat → Int64) (a : Nat) : List Nat → Nat → List Value
  | [], _ => []
  | k :: ks, i => (if k = 0 then Value.ref (zR a i) else if k = 1 then Value.int (zI a i) else Value.long (zJ a i)) :: mkF zR zI zJ a ks (i + 1)
theorem mkF_at {zR : Nat → Nat → Nat} {zI : Nat → Nat → Int32} {zJ : Nat → Nat → Int64} {a : Nat} : ∀ (ks : List Nat) (i k x : Nat), ks[k]? = some x → (mkF zR zI zJ a ks i)[k]? = some (if x = 0 then Value.ref (zR a (i + k)) else if x = 1 then Value.int (zI a (i + k)) else Value.long (zJ a (i + k)))
  | [], _, _, _, h => by simp at h
  | y :: ks, i, 0, x, h => by
    simp at h
    subst h
    simp [mkF]
  | y :: ks, i, k + 1, x, h => by
    have h2 : ks[k]? = some x := by simpa using h
    have q := mkF_at (zR := zR) (zI := zI) (zJ := zJ) (a := a) ks (i + 1) k x h2
    have e : i + 1 + k = i + (k + 1) := by omega
    rw [e] at q
    simpa [mkF] using q
theorem mkF_len {zR : Nat → Nat → Nat} {zI : Nat → Nat → Int32} {zJ : Nat → Nat → Int64} {a : Nat} : ∀ (ks : List Nat) (i : Nat), (mkF zR zI zJ a ks i).length = ks.length
  | [], _ => rfl
  | _ :: ks, i => by simp [mkF, mkF_len ks (i + 1)]
theorem mkF_cg {zR : Nat → Nat → Nat} {zI zI' : Nat → Nat → Int32} {zJ zJ' : Nat → Nat → Int64} {a : Nat} : ∀ (ks : List Nat) (i : Nat), (∀ j, i ≤ j → zI' a j = zI a j) → (∀ j, i ≤ j → zJ' a j = zJ a j) → mkF zR zI' zJ' a ks i = mkF zR zI zJ a ks i
  | [], _, _, _ => rfl
  | k :: ks, i, h1, h2 => by
    unfold mkF
    rw [h1 i (Nat.le_refl i), h2 i (Nat.le_refl i), mkF_cg ks (i + 1) (fun j hj => h1 j (by omega)) (fun j hj => h2 j (by omega))]
theorem mkF_si {zR : Nat → Nat → Nat} {zI : Nat → Nat → Int32} {zJ : Nat → Nat → Int64} {a : Nat} {v : Int32} : ∀ (ks : List Nat) (i k : Nat), ks[k]? = some 1 → mkF zR (u2 zI a (i + k) v) zJ a ks i = (mkF zR zI zJ a ks i).set k (Value.int v)
  | [], _, _, h => by simp at h
  | y :: ks, i, 0, h => by
    simp at h
    subst h
    simp only [mkF, Nat.add_zero, List.set_cons_zero, Nat.one_ne_zero, if_false, if_true]
    rw [u2_s, mkF_cg ks (i + 1) (fun j hj => u2_k (by omega)) (fun j _ => rfl)]
  | y :: ks, i, k + 1, h => by
    have h2 : ks[k]? = some 1 := by simpa using h
    have q := mkF_si (v := v) (zR := zR) (zI := zI) (zJ := zJ) (a := a) ks (i + 1) k h2
    have e : i + 1 + k = i + (k + 1) := by omega
    rw [e] at q
    simp only [mkF, List.set_cons_succ]
    rw [q, u2_k (show i ≠ i + (k + 1) by omega)]
theorem mkF_sl {zR : Nat → Nat → Nat} {zI : Nat → Nat → Int32} {zJ : Nat → Nat → Int64} {a : Nat} {v : Int64} : ∀ (ks : List Nat) (i k : Nat), ks[k]? = some 2 → mkF zR zI (u2 zJ a (i + k) v) a ks i = (mkF zR zI zJ a ks i).set k (Value.long v)
  | [], _, _, h => by simp at h
  | y :: ks, i, 0, h => by
    simp at h
    subst h
    have e2 : ¬ (2 : Nat) = 0 := by decide
    have e3 : ¬ (2 : Nat) = 1 := by decide
    simp only [mkF, Nat.add_zero, List.set_cons_zero, if_neg e2, if_neg e3]
    rw [u2_s, mkF_cg ks (i + 1) (fun j _ => rfl) (fun j hj => u2_k (by omega))]
  | y :: ks, i, k + 1, h => by
    have h2 : ks[k]? = some 2 := by simpa using h
    have q := mkF_sl (v := v) (zR := zR) (zI := zI) (zJ := zJ) (a := a) ks (i + 1) k h2
    have e : i + 1 + k = i + (k + 1) := by omega
    rw [e] at q
    simp only [mkF, List.set_cons_succ]
    rw [q, u2_k (show i ≠ i + (k + 1) by omega)]
/-- what stands at an address, by its type -/
def EN (cy : Nat → ClassId) (zT : Nat → Nat) (zR : Nat → Nat → Nat) (zI : Nat → Nat → Int32) (zJ : Nat → Nat → Int64) (a : Nat) : va_E := match DT (zT a) with
  | .inl o => .inr (o.1, mkF zR zI zJ a o.2 0)
  | .inr q => .inl (cy q.1, q.2.1, if q.2.2 = 1 then .inl (zI a) else if q.2.2 = 2 then .inr (.inl (zJ a)) else .inr (.inr (.inr (.inr (fun i => if i < q.2.1 then some (zR a i) else none)))))
def WL (cy : Nat → ClassId) (zL : List Nat) (zT : Nat → Nat) (zR : Nat → Nat → Nat) (zI : Nat → Nat → Int32) (zJ : Nat → Nat → Int64) : va_W := zL.map (fun a => (a, EN cy zT zR zI zJ a))
/-- a slot that holds a reference -/
def VR (zT : Nat → Nat) (a i : Nat) : Prop := RF (zT a) i ≠ 0 ∧ (zT a < 19 ∨ ∃ q n e, DT (zT a) = .inr (q, n, e) ∧ i < n)
/-- the skeleton: which addresses have a type, and of what type a reference is -/
def SKP (zL : List Nat) (zT : Nat → Nat) (zR : Nat → Nat → Nat) : Prop := (∀ a, zT a ≠ 0 → a ∈ zL) ∧ (∀ i j a : Nat, zL[i]? = some a → zL[j]? = some a → i = j) ∧ (∀ a k, zT a < 19 → RF (zT a) k ≠ 0 → zT (zR a k) = RF (zT a) k) ∧ (∀ a k q n e, DT (zT a) = .inr (q, n, e) → RF (zT a) 0 ≠ 0 → k < n → zT (zR a k) = RF (zT a) 0) ∧ (∀ a b i j, VR zT a i → VR zT b j → zR a i = zR b j → a = b ∧ i = j)
/-- the ranges; a line's places need one place or more of the YEAR ahead -/
def WT (zT : Nat → Nat) (zR : Nat → Nat → Nat) (zI : Nat → Nat → Int32) : Prop := (∀ a k, (RT (zT a) k).1 ≤ (zI a k).toInt ∧ (zI a k).toInt ≤ (RT (zT a) k).2) ∧ (∀ w, zT w = 10 → ∀ q : Nat, (q : Int) < (zI w 14).toInt → 1 ≤ (zI (zR w 6) q).toInt)
/-- nothing else has changed -/
def SM (ks : List Nat) (zO : Nat → Prop) (zT : Nat → Nat) (zI zI' : Nat → Nat → Int32) : Prop := ∀ a k, (KEY (zT a) k ∉ ks ∨ ¬ zO a) → zI' a k = zI a k
def AL : Nat → Prop := fun _ => True
/-- an object and the rows that it holds -/
def OW (zT : Nat → Nat) (zR : Nat → Nat → Nat) (w : Nat) : Nat → Prop := fun a => a = w ∨ ∃ j, RF (zT w) j ≠ 0 ∧ a = zR w j
def WM (ks : List Nat) (zO : Nat → Prop) (zT : Nat → Nat) (zR : Nat → Nat → Nat) (zI zI' : Nat → Nat → Int32) : Prop := WT zT zR zI' ∧ SM ks zO zT zI zI'
theorem SM.rf {ks : List Nat} {zO : Nat → Prop} {zT : Nat → Nat} {zI : Nat → Nat → Int32} : SM ks zO zT zI zI := fun _ _ _ => rfl
theorem WM.rf {ks : List Nat} {zO : Nat → Prop} {zT : Nat → Nat} {zR : Nat → Nat → Nat} {zI : Nat → Nat → Int32} (h : WT zT zR zI) : WM ks zO zT zR zI zI := ⟨h, SM.rf⟩
theorem WM.tr {ks ks' : List Nat} {zO zO' : Nat → Prop} {zT : Nat → Nat} {zR : Nat → Nat → Nat} {zI zI' zI2 : Nat → Nat → Int32} (h : WM ks zO zT zR zI zI') (h2 : WM ks' zO' zT zR zI' zI2) (hs : ∀ x ∈ ks', x ∈ ks) (ho : ∀ a, zO' a → zO a) : WM ks zO zT zR zI zI2 := ⟨h2.1, fun a k hk => (h2.2 a k (hk.elim (fun n => Or.inl (fun q => n (hs _ q))) (fun n => Or.inr (fun q => n (ho a q))))).trans (h.2 a k hk)⟩
theorem wt_at {zT : Nat → Nat} {zR : Nat → Nat → Nat} {zI : Nat → Nat → Int32} {a t : Nat} (h : WT zT zR zI) (ta : zT a = t) (k : Nat) {lo hi : Int} (hr : RT t k = (lo, hi)) : lo ≤ (zI a k).toInt ∧ (zI a k).toInt ≤ hi := by
  have q := h.1 a k
  rw [ta, hr] at q
  exact q
theorem WT.put {zT : Nat → Nat} {zR : Nat → Nat → Nat} {zI : Nat → Nat → Int32} {a t k : Nat} {v : Int32} {zL : List Nat} (h : WT zT zR zI) (hs : SKP zL zT zR) (ta : zT a = t) {lo hi : Int} (hr : RT t k = (lo, hi)) (hv : lo ≤ v.toInt ∧ v.toInt ≤ hi) (h1 : t = 10 → k ≠ 14) (h2 : t = 42 → 1 ≤ v.toInt) : WT zT zR (u2 zI a k v) := by
  refine ⟨fun b j => ?_, fun w hw q hq => ?_⟩
  · by_cases e : b = a ∧ j = k
    · obtain ⟨rfl, rfl⟩ := e
      rw [u2_s, ta, hr]; exact hv
    · show (RT (zT b) j).1 ≤ (u2 zI a k v b j).toInt ∧ (u2 zI a k v b j).toInt ≤ (RT (zT b) j).2
      rw [show u2 zI a k v b j = zI b j from if_neg e]; exact h.1 b j
  · have e14 : u2 zI a k v w 14 = zI w 14 := if_neg (fun x => h1 (by rw [← ta, ← x.1]; exact hw) x.2.symm)
    rw [e14] at hq
    by_cases e : zR w 6 = a ∧ q = k
    · obtain ⟨e1, rfl⟩ := e
      rw [e1, u2_s]
      refine h2 ?_
      have := hs.2.2.1 w 6 (by rw [hw]; decide) (by rw [hw]; decide)
      rw [e1, ta, hw] at this
      exact this
    · rw [show u2 zI a k v (zR w 6) q = zI (zR w 6) q from if_neg e]; exact h.2 w hw q hq
theorem WM.put {ks : List Nat} {zO : Nat → Prop} {zT : Nat → Nat} {zR : Nat → Nat → Nat} {zI zI' : Nat → Nat → Int32} {a t k : Nat} {v : Int32} {zL : List Nat} (h : WM ks zO zT zR zI zI') (hs : SKP zL zT zR) (ta : zT a = t) {lo hi : Int} (hr : RT t k = (lo, hi)) (hv : lo ≤ v.toInt ∧ v.toInt ≤ hi) (h1 : t = 10 → k ≠ 14) (h2 : t = 42 → 1 ≤ v.toInt) (hk : KEY t k ∈ ks) (ho : zO a) : WM ks zO zT zR zI (u2 zI' a k v) :=
  ⟨h.1.put hs ta hr hv h1 h2, fun b j q => by
    rw [show u2 zI' a k v b j = zI' b j from if_neg (fun x => q.elim (fun n => n (by rw [x.1, x.2, ta]; exact hk)) (fun n => n (by rw [x.1]; exact ho)))]; exact h.2 b j q⟩
/-- a row's copy -/
theorem WM.cpy {ks : List Nat} {zO : Nat → Prop} {zT : Nat → Nat} {zR : Nat → Nat → Nat} {zI zI' : Nat → Nat → Int32} {a b t sp dp c : Nat} {zL : List Nat} (h : WM ks zO zT zR zI zI') (hs : SKP zL zT zR) {t1 : Nat} (ta : zT a = t1) (tb : zT b = t) (ht1 : ¬ t1 < 19) (ht : ¬ t < 19) (hrr : RT t1 0 = RT t 0) (h2 : t ≠ 42) (hk : t * 100 ∈ ks) (ho : zO b) : WM ks zO zT zR zI (ur zI' b (va_cpy (zI' a) (zI' b) sp dp c)) := by
  refine ⟨⟨fun x j => ?_, fun w hw q hq => ?_⟩, fun x j q => ?_⟩
  · by_cases e : x = b
    · subst e
      rw [ur_s]
      have r : ∀ t9, ¬ t9 < 19 → ∀ y, zT y = t9 → ∀ i, (RT t9 0).1 ≤ (zI' y i).toInt ∧ (zI' y i).toInt ≤ (RT t9 0).2 := fun t9 ht9 y hy i => by
        have z := h.1.1 y i
        rw [hy] at z
        unfold RT at z ⊢
        rw [if_neg ht9] at z ⊢
        exact z
      rw [tb]
      have e0 : RT t j = RT t 0 := by unfold RT; rw [if_neg ht, if_neg ht]
      rw [e0]
      unfold va_cpy
      by_cases g : dp ≤ j ∧ j < dp + c
      · rw [if_pos g, ← hrr]; exact r t1 ht1 a ta _
      · rw [if_neg g]; exact r t ht x tb _
    · rw [ur_n e]; exact h.1.1 x j
  · have e1 : ¬ w = b := fun x => by rw [x, tb] at hw; rw [hw] at ht; exact ht (by decide)
    rw [ur_n e1] at hq
    have e2 : ¬ zR w 6 = b := fun x => by
      have := hs.2.2.1 w 6 (by rw [hw]; decide) (by rw [hw]; decide)
      rw [x, tb, hw] at this
      exact h2 this
    rw [ur_n e2]; exact h.1.2 w hw q hq
  · have e1 : ¬ x = b := fun y => q.elim (fun n => n (by rw [y, tb]; unfold KEY; rw [if_neg ht]; exact hk)) (fun n => n (by rw [y]; exact ho))
    rw [ur_n e1]; exact h.2 x j q
theorem sk_f {zL : List Nat} {zT : Nat → Nat} {zR : Nat → Nat → Nat} {a t k t' : Nat} (hs : SKP zL zT zR) (ta : zT a = t) (ht : t < 19) (hr : RF t k = t') (h0 : t' ≠ 0) : zT (zR a k) = t' := by
  subst ta; subst hr
  exact hs.2.2.1 a k ht h0
theorem sk_a {zL : List Nat} {zT : Nat → Nat} {zR : Nat → Nat → Nat} {a t k t' q n e : Nat} (hs : SKP zL zT zR) (ta : zT a = t) (hd : DT t = .inr (q, n, e)) (hr : RF t 0 = t') (h0 : t' ≠ 0) (hk : k < n) : zT (zR a k) = t' := by
  subst ta; subst hr
  exact hs.2.2.2.1 a k q n e hd h0 hk
theorem WL_in {cy : Nat → ClassId} {zL : List Nat} {zT : Nat → Nat} {zR : Nat → Nat → Nat} {a t : Nat} (hs : SKP zL zT zR) (ta : zT a = t) (h0 : t ≠ 0) : ∃ q : Nat, zL[q]? = some a ∧ ∀ zI zJ, (WL cy zL zT zR zI zJ)[q]? = some (a, EN cy zT zR zI zJ a) := by
  obtain ⟨q, hq⟩ := List.getElem?_of_mem (hs.1 a (by rw [ta]; exact h0))
  exact ⟨q, hq, fun zI zJ => by unfold WL; rw [List.getElem?_map, hq]; rfl⟩
theorem WL_set {cy : Nat → ClassId} {zL : List Nat} {zT : Nat → Nat} {zR : Nat → Nat → Nat} {zI zI' : Nat → Nat → Int32} {zJ zJ' : Nat → Nat → Int64} {a q : Nat} (hs : SKP zL zT zR) (hq : zL[q]? = some a) {e' : va_E} (he : EN cy zT zR zI' zJ' a = e') (ho : ∀ b, b ≠ a → EN cy zT zR zI' zJ' b = EN cy zT zR zI zJ b) : (WL cy zL zT zR zI zJ).set q (a, e') = WL cy zL zT zR zI' zJ' := by
  apply List.ext_getElem?
  intro j
  unfold WL
  rw [List.getElem?_set]
  by_cases hj : q = j
  · subst hj
    rw [if_pos rfl, List.getElem?_map, hq]
    have hl : q < (zL.map (fun a => (a, EN cy zT zR zI zJ a))).length := by
      rw [List.length_map]; exact (List.getElem?_eq_some_iff.mp hq).1
    rw [if_pos hl, ← he]; rfl
  · rw [if_neg hj, List.getElem?_map, List.getElem?_map]
    cases hb : zL[j]? with
    | none => rfl
    | some b =>
      have hne : b ≠ a := fun x => hj (hs.2.1 q j a hq (by rw [hb, x]))
      show some (b, EN cy zT zR zI zJ b) = some (b, EN cy zT zR zI' zJ' b)
      rw [ho b hne]
theorem EN_o {cy : Nat → ClassId} {zT : Nat → Nat} {zR : Nat → Nat → Nat} {zI : Nat → Nat → Int32} {zJ : Nat → Nat → Int64} {a t ci : Nat} {ks : List Nat} (ta : zT a = t) (hd : DT t = .inl (ci, ks)) : EN cy zT zR zI zJ a = .inr (ci, mkF zR zI zJ a ks 0) := by
  unfold EN; rw [ta, hd]
theorem EN_i {cy : Nat → ClassId} {zT : Nat → Nat} {zR : Nat → Nat → Nat} {zI : Nat → Nat → Int32} {zJ : Nat → Nat → Int64} {a t q n : Nat} (ta : zT a = t) (hd : DT t = .inr (q, n, 1)) : EN cy zT zR zI zJ a = .inl (cy q, n, .inl (zI a)) := by
  unfold EN; rw [ta, hd]; rfl
theorem EN_l {cy : Nat → ClassId} {zT : Nat → Nat} {zR : Nat → Nat → Nat} {zI : Nat → Nat → Int32} {zJ : Nat → Nat → Int64} {a t q n : Nat} (ta : zT a = t) (hd : DT t = .inr (q, n, 2)) : EN cy zT zR zI zJ a = .inl (cy q, n, .inr (.inl (zJ a))) := by
  unfold EN; rw [ta, hd]; rfl
theorem EN_r {cy : Nat → ClassId} {zT : Nat → Nat} {zR : Nat → Nat → Nat} {zI : Nat → Nat → Int32} {zJ : Nat → Nat → Int64} {a t q n : Nat} (ta : zT a = t) (hd : DT t = .inr (q, n, 3)) : EN cy zT zR zI zJ a = .inl (cy q, n, .inr (.inr (.inr (.inr (fun i => if i < n then some (zR a i) else none))))) := by
  unfold EN; rw [ta, hd]; rfl
theorem EN_cg {cy : Nat → ClassId} {zT : Nat → Nat} {zR : Nat → Nat → Nat} {zI zI' : Nat → Nat → Int32} {zJ zJ' : Nat → Nat → Int64} {b : Nat} (h1 : zI' b = zI b) (h2 : zJ' b = zJ b) : EN cy zT zR zI' zJ' b = EN cy zT zR zI zJ b := by
  unfold EN
  cases DT (zT b) with
  | inl o => simp only [mkF_cg o.2 0 (fun j _ => congrFun h1 j) (fun j _ => congrFun h2 j)]
  | inr q => simp only [h1, h2]
theorem u2_rl {f : Nat → Nat → Int64} {a k : Nat} {v : Int64} : u2 f a k v a = vp_updL (f a) k v := by
  funext j
  unfold vp_updL
  by_cases h : j = k
  · rw [h, u2_s, if_pos rfl]
  · rw [u2_k h, if_neg h]
theorem va_A0 {q n : Nat} (h : q < n) : ¬ va_A [] n q := fun x => by
  rcases x with ⟨_, _, x⟩ | x
  · simp at x
  · exact absurd h (Nat.not_lt.mpr x)
theorem va_at_lt {D : va_G} {cl : List vw_C} {x : Nat × va_E} {H : Heap} (h : va_at D cl x H) : x.1 < H.size := by
  obtain ⟨a, e⟩ := x
  cases e with
  | inl b =>
    have h1 : H[a]? = some _ := h
    exact (Array.getElem?_eq_some_iff.mp h1).1
  | inr o =>
    obtain ⟨r, h1, cell, h2, h3⟩ := h
    exact (Array.getElem?_eq_some_iff.mp h2).1
section TB
variable {p : Program} {l : Launch} {e : Env} {R : Room} {s : State} {m : MethodId} {args : Array Value} {below : List Frame} {meth : Method} {c : Code} {H : Heap} {locs : List Loc} {cells slots mc ms : Nat} {Q : State → Prop} {pc : Nat} {ls : Array Slot} {rest st0 : List Value} {A : Nat → Prop} {H0 : Heap} {dC : Nat → ClassId} {dI : Nat → Nat → Nat} {cy : Nat → ClassId} {zL : List Nat} {zT : Nat → Nat} {zR : Nat → Nat → Nat} {zI : Nat → Nat → Int32} {zJ : Nat → Nat → Int64} {cc : ByteArray} {a t : Nat}
theorem ht_geti (hexec : p.tables.exec = Jvm.exec) (hb : c.code = cc) {own ref C : String} {T : u_T} {N ci index : Nat} {Ts : List Cond} (hts : ∀ w ∈ Ts, w.before args s = true) (hin : ∀ w ∈ u_ws C T N, w ∈ Ts) (hown : s.vm.findClass own = some m.cls) (hK : va_K (dC, dI) vwCl (TY cy) s) (hP : va_P (dC, dI) vwCl (WL cy zL zT zR zI zJ) H) (hs : SKP zL zT zR) (ta : zT a = t) (h0 : t ≠ 0) {ks : List Nat} (hd : DT t = .inl (ci, ks)) (hc : vwCl[ci]? = some (C, T, N)) (k : Nat) (hk : k < N) (hlink : (Cond.fieldLink own index ref (T k).2.1 (T k).2.2.1).before args s = true) (hsame : ∀ x, s.fieldFound? (T k).1 (T k).2.1 (T k).2.2.1 = some x → s.fieldFound? ref (T k).2.1 (T k).2.2.1 = some x) (hkk : ks[k]? = some 1) (hdg : decode cc pc = .ok (.getfield index, 3)) (kk : W p l e R s m args below meth c H locs cells slots Q (F0 m (pc + 3) ls (.int (zI a k) :: rest))) : W p l e R s m args below meth c H locs cells slots Q (F0 m pc ls (.ref a :: rest)) := by
  obtain ⟨q, -, hq⟩ := WL_in (cy := cy) hs ta h0
  have he := hq zI zJ
  rw [EN_o ta hd] at he
  have hv := mkF_at (zR := zR) (zI := zI) (zJ := zJ) (a := a) ks 0 k 1 hkk
  rw [Nat.zero_add] at hv
  exact va_get hexec hb hts hin hown hK hP q he hc k hk hlink hsame hv hdg kk
theorem ht_getr (hexec : p.tables.exec = Jvm.exec) (hb : c.code = cc) {own ref C : String} {T : u_T} {N ci index : Nat} {Ts : List Cond} (hts : ∀ w ∈ Ts, w.before args s = true) (hin : ∀ w ∈ u_ws C T N, w ∈ Ts) (hown : s.vm.findClass own = some m.cls) (hK : va_K (dC, dI) vwCl (TY cy) s) (hP : va_P (dC, dI) vwCl (WL cy zL zT zR zI zJ) H) (hs : SKP zL zT zR) (ta : zT a = t) (h0 : t ≠ 0) {ks : List Nat} (hd : DT t = .inl (ci, ks)) (hc : vwCl[ci]? = some (C, T, N)) (k : Nat) (hk : k < N) (hlink : (Cond.fieldLink own index ref (T k).2.1 (T k).2.2.1).before args s = true) (hsame : ∀ x, s.fieldFound? (T k).1 (T k).2.1 (T k).2.2.1 = some x → s.fieldFound? ref (T k).2.1 (T k).2.2.1 = some x) (hkk : ks[k]? = some 0) (hdg : decode cc pc = .ok (.getfield index, 3)) (kk : W p l e R s m args below meth c H locs cells slots Q (F0 m (pc + 3) ls (.ref (zR a k) :: rest))) : W p l e R s m args below meth c H locs cells slots Q (F0 m pc ls (.ref a :: rest)) := by
  obtain ⟨q, -, hq⟩ := WL_in (cy := cy) hs ta h0
  have he := hq zI zJ
  rw [EN_o ta hd] at he
  have hv := mkF_at (zR := zR) (zI := zI) (zJ := zJ) (a := a) ks 0 k 0 hkk
  rw [Nat.zero_add] at hv
  exact va_get hexec hb hts hin hown hK hP q he hc k hk hlink hsame hv hdg kk
theorem ht_getl (hexec : p.tables.exec = Jvm.exec) (hb : c.code = cc) {own ref C : String} {T : u_T} {N ci index : Nat} {Ts : List Cond} (hts : ∀ w ∈ Ts, w.before args s = true) (hin : ∀ w ∈ u_ws C T N, w ∈ Ts) (hown : s.vm.findClass own = some m.cls) (hK : va_K (dC, dI) vwCl (TY cy) s) (hP : va_P (dC, dI) vwCl (WL cy zL zT zR zI zJ) H) (hs : SKP zL zT zR) (ta : zT a = t) (h0 : t ≠ 0) {ks : List Nat} (hd : DT t = .inl (ci, ks)) (hc : vwCl[ci]? = some (C, T, N)) (k : Nat) (hk : k < N) (hlink : (Cond.fieldLink own index ref (T k).2.1 (T k).2.2.1).before args s = true) (hsame : ∀ x, s.fieldFound? (T k).1 (T k).2.1 (T k).2.2.1 = some x → s.fieldFound? ref (T k).2.1 (T k).2.2.1 = some x) (hkk : ks[k]? = some 2) (hdg : decode cc pc = .ok (.getfield index, 3)) (kk : W p l e R s m args below meth c H locs cells slots Q (F0 m (pc + 3) ls (.long (zJ a k) :: rest))) : W p l e R s m args below meth c H locs cells slots Q (F0 m pc ls (.ref a :: rest)) := by
  obtain ⟨q, -, hq⟩ := WL_in (cy := cy) hs ta h0
  have he := hq zI zJ
  rw [EN_o ta hd] at he
  have hv := mkF_at (zR := zR) (zI := zI) (zJ := zJ) (a := a) ks 0 k 2 hkk
  rw [Nat.zero_add] at hv
  exact va_get hexec hb hts hin hown hK hP q he hc k hk hlink hsame hv hdg kk
theorem ht_puti (hexec : p.tables.exec = Jvm.exec) (hb : c.code = cc) {own ref C : String} {T : u_T} {N ci index : Nat} {Ts : List Cond} (hts : ∀ w ∈ Ts, w.before args s = true) (hin : ∀ w ∈ u_ws C T N, w ∈ Ts) (ty0 : Nat → FieldType) (hty : ∀ k, k < N → parseFieldDescriptor (T k).2.2.1 = some (ty0 k)) (hnm : ∀ a, a < N → ∀ b, b < N → a ≠ b → (T a).2.1 ≠ (T b).2.1) (hown : s.vm.findClass own = some m.cls) (hK : va_K (dC, dI) vwCl (TY cy) s) (hP : va_P (dC, dI) vwCl (WL cy zL zT zR zI zJ) H) (hD : va_D A (WL cy zL zT zR zI zJ)) (hS : va_S A H0 H locs) (hs : SKP zL zT zR) (ta : zT a = t) (h0 : t ≠ 0) {ks : List Nat} (hd : DT t = .inl (ci, ks)) (hc : vwCl[ci]? = some (C, T, N)) (k : Nat) (hk : k < N) (hlink : (Cond.fieldLink own index ref (T k).2.1 (T k).2.2.1).before args s = true) (hsame : ∀ x, s.fieldFound? (T k).1 (T k).2.1 (T k).2.2.1 = some x → s.fieldFound? ref (T k).2.1 (T k).2.2.1 = some x) (hfin : (T k).2.2.2 = false) {ty : FieldType} {v : Int32} (hdd : parseFieldDescriptor (T k).2.2.1 = some ty) (hn : narrow ty (.int v) = .int v) (hfit : fits ty (.int v) = true) (hkk : ks[k]? = some 1) (hdg : decode cc pc = .ok (.putfield index, 3))
    (kk : ∀ (H1 : Heap) (locs1 : List Loc), va_P (dC, dI) vwCl (WL cy zL zT zR (u2 zI a k v) zJ) H1 → va_D A (WL cy zL zT zR (u2 zI a k v) zJ) → va_S A H0 H1 locs1 → W p l e R s m args below meth c H1 locs1 cells slots Q (F0 m (pc + 3) ls rest)) : W p l e R s m args below meth c H locs cells slots Q (F0 m pc ls (.int v :: .ref a :: rest)) := by
  obtain ⟨q, hz, hq⟩ := WL_in (cy := cy) hs ta h0
  have he := hq zI zJ
  rw [EN_o ta hd] at he
  have hl : k < (mkF zR zI zJ a ks 0).length := by rw [mkF_len]; exact (List.getElem?_eq_some_iff.mp hkk).1
  refine va_put hexec hb hts hin ty0 hty hnm hown hK hP hD hS q he hc k hk hlink hsame hfin hdd hn hfit hl hdg (fun H1 locs1 hP1 hD1 hS1 => ?_)
  have ex : EN cy zT zR (u2 zI a k v) zJ a = .inr (ci, (mkF zR zI zJ a ks 0).set k (.int v)) := by
    rw [EN_o ta hd]
    have z := mkF_si (zR := zR) (zI := zI) (zJ := zJ) (a := a) (v := v) ks 0 k hkk
    rw [Nat.zero_add] at z
    rw [z]
  have ew := WL_set (zI := zI) (zJ := zJ) hs hz ex (fun b hb' => EN_cg (u2_a hb') rfl)
  rw [ew] at hP1 hD1
  exact kk H1 locs1 hP1 hD1 hS1
theorem ht_putl (hexec : p.tables.exec = Jvm.exec) (hb : c.code = cc) {own ref C : String} {T : u_T} {N ci index : Nat} {Ts : List Cond} (hts : ∀ w ∈ Ts, w.before args s = true) (hin : ∀ w ∈ u_ws C T N, w ∈ Ts) (ty0 : Nat → FieldType) (hty : ∀ k, k < N → parseFieldDescriptor (T k).2.2.1 = some (ty0 k)) (hnm : ∀ a, a < N → ∀ b, b < N → a ≠ b → (T a).2.1 ≠ (T b).2.1) (hown : s.vm.findClass own = some m.cls) (hK : va_K (dC, dI) vwCl (TY cy) s) (hP : va_P (dC, dI) vwCl (WL cy zL zT zR zI zJ) H) (hD : va_D A (WL cy zL zT zR zI zJ)) (hS : va_S A H0 H locs) (hs : SKP zL zT zR) (ta : zT a = t) (h0 : t ≠ 0) {ks : List Nat} (hd : DT t = .inl (ci, ks)) (hc : vwCl[ci]? = some (C, T, N)) (k : Nat) (hk : k < N) (hlink : (Cond.fieldLink own index ref (T k).2.1 (T k).2.2.1).before args s = true) (hsame : ∀ x, s.fieldFound? (T k).1 (T k).2.1 (T k).2.2.1 = some x → s.fieldFound? ref (T k).2.1 (T k).2.2.1 = some x) (hfin : (T k).2.2.2 = false) {ty : FieldType} {v : Int64} (hdd : parseFieldDescriptor (T k).2.2.1 = some ty) (hn : narrow ty (.long v) = .long v) (hfit : fits ty (.long v) = true) (hkk : ks[k]? = some 2) (hdg : decode cc pc = .ok (.putfield index, 3))
    (kk : ∀ (H1 : Heap) (locs1 : List Loc), va_P (dC, dI) vwCl (WL cy zL zT zR zI (u2 zJ a k v)) H1 → va_D A (WL cy zL zT zR zI (u2 zJ a k v)) → va_S A H0 H1 locs1 → W p l e R s m args below meth c H1 locs1 cells slots Q (F0 m (pc + 3) ls rest)) : W p l e R s m args below meth c H locs cells slots Q (F0 m pc ls (.long v :: .ref a :: rest)) := by
  obtain ⟨q, hz, hq⟩ := WL_in (cy := cy) hs ta h0
  have he := hq zI zJ
  rw [EN_o ta hd] at he
  have hl : k < (mkF zR zI zJ a ks 0).length := by rw [mkF_len]; exact (List.getElem?_eq_some_iff.mp hkk).1
  refine va_put hexec hb hts hin ty0 hty hnm hown hK hP hD hS q he hc k hk hlink hsame hfin hdd hn hfit hl hdg (fun H1 locs1 hP1 hD1 hS1 => ?_)
  have ex : EN cy zT zR zI (u2 zJ a k v) a = .inr (ci, (mkF zR zI zJ a ks 0).set k (.long v)) := by
    rw [EN_o ta hd]
    have z := mkF_sl (zR := zR) (zI := zI) (zJ := zJ) (a := a) (v := v) ks 0 k hkk
    rw [Nat.zero_add] at z
    rw [z]
  have ew := WL_set (zI := zI) (zJ := zJ) hs hz ex (fun b hb' => EN_cg rfl (u2_a hb'))
  rw [ew] at hP1 hD1
  exact kk H1 locs1 hP1 hD1 hS1
theorem ht_iald (hexec : p.tables.exec = Jvm.exec) (hb : c.code = cc) (hK : va_K (dC, dI) vwCl (TY cy) s) (hP : va_P (dC, dI) vwCl (WL cy zL zT zR zI zJ) H) (hs : SKP zL zT zR) (ta : zT a = t) (h0 : t ≠ 0) {q n : Nat} (hd : DT t = .inr (q, n, 1)) (ht : (TY cy)[q]? = some (cy q, .int)) {i : Int32} (hi : 0 ≤ i.toInt ∧ i.toInt < n) (hdg : decode cc pc = .ok (.iaload, 1)) (kk : W p l e R s m args below meth c H locs cells slots Q (F0 m (pc + 1) ls (.int (zI a i.toNatClampNeg) :: rest))) : W p l e R s m args below meth c H locs cells slots Q (F0 m pc ls (.int i :: .ref a :: rest)) := by
  obtain ⟨q0, -, hq⟩ := WL_in (cy := cy) hs ta h0
  have he := hq zI zJ
  rw [EN_i ta hd] at he
  exact va_iald hexec hb hK hP q0 q he ht (vp_in_iff.mpr hi) hdg kk
theorem ht_zald (hexec : p.tables.exec = Jvm.exec) (hb : c.code = cc) (hK : va_K (dC, dI) vwCl (TY cy) s) (hP : va_P (dC, dI) vwCl (WL cy zL zT zR zI zJ) H) (hs : SKP zL zT zR) (ta : zT a = t) (h0 : t ≠ 0) {q n : Nat} (hd : DT t = .inr (q, n, 1)) (ht : (TY cy)[q]? = some (cy q, .boolean)) {i : Int32} (hi : 0 ≤ i.toInt ∧ i.toInt < n) (hdg : decode cc pc = .ok (.baload, 1)) (kk : W p l e R s m args below meth c H locs cells slots Q (F0 m (pc + 1) ls (.int (zI a i.toNatClampNeg) :: rest))) : W p l e R s m args below meth c H locs cells slots Q (F0 m pc ls (.int i :: .ref a :: rest)) := by
  obtain ⟨q0, -, hq⟩ := WL_in (cy := cy) hs ta h0
  have he := hq zI zJ
  rw [EN_i ta hd] at he
  exact va_zald hexec hb hK hP q0 q he ht (vp_in_iff.mpr hi) hdg kk
theorem ht_lald (hexec : p.tables.exec = Jvm.exec) (hb : c.code = cc) (hK : va_K (dC, dI) vwCl (TY cy) s) (hP : va_P (dC, dI) vwCl (WL cy zL zT zR zI zJ) H) (hs : SKP zL zT zR) (ta : zT a = t) (h0 : t ≠ 0) {q n : Nat} (hd : DT t = .inr (q, n, 2)) (ht : (TY cy)[q]? = some (cy q, .long)) {i : Int32} (hi : 0 ≤ i.toInt ∧ i.toInt < n) (hdg : decode cc pc = .ok (.laload, 1)) (kk : W p l e R s m args below meth c H locs cells slots Q (F0 m (pc + 1) ls (.long (zJ a i.toNatClampNeg) :: rest))) : W p l e R s m args below meth c H locs cells slots Q (F0 m pc ls (.int i :: .ref a :: rest)) := by
  obtain ⟨q0, -, hq⟩ := WL_in (cy := cy) hs ta h0
  have he := hq zI zJ
  rw [EN_l ta hd] at he
  exact va_lald hexec hb hK hP q0 q he ht (vp_in_iff.mpr hi) hdg kk
theorem ht_aald (hexec : p.tables.exec = Jvm.exec) (hb : c.code = cc) (hK : va_K (dC, dI) vwCl (TY cy) s) (hP : va_P (dC, dI) vwCl (WL cy zL zT zR zI zJ) H) (hs : SKP zL zT zR) (ta : zT a = t) (h0 : t ≠ 0) {q n : Nat} (hd : DT t = .inr (q, n, 3)) {C : String} (ht : (TY cy)[q]? = some (cy q, .object C)) {i : Int32} (hi : 0 ≤ i.toInt ∧ i.toInt < n) (hdg : decode cc pc = .ok (.aaload, 1)) (kk : W p l e R s m args below meth c H locs cells slots Q (F0 m (pc + 1) ls (.ref (zR a i.toNatClampNeg) :: rest))) : W p l e R s m args below meth c H locs cells slots Q (F0 m pc ls (.int i :: .ref a :: rest)) := by
  obtain ⟨q0, -, hq⟩ := WL_in (cy := cy) hs ta h0
  have he := hq zI zJ
  rw [EN_r ta hd] at he
  refine va_aldq hexec hb hK hP q0 q he ht (vp_in_iff.mpr hi) hdg ?_
  have hlt : i.toNatClampNeg < n := cl_lt hi.1 hi.2
  show W p l e R s m args below meth c H locs cells slots Q (F0 m (pc + 1) ls (va_rf (if i.toNatClampNeg < n then some (zR a i.toNatClampNeg) else none) :: rest))
  rw [if_pos hlt]
  exact kk
theorem ht_aaldA (hexec : p.tables.exec = Jvm.exec) (hb : c.code = cc) (hK : va_K (dC, dI) vwCl (TY cy) s) (hP : va_P (dC, dI) vwCl (WL cy zL zT zR zI zJ) H) (hs : SKP zL zT zR) (ta : zT a = t) (h0 : t ≠ 0) {q n : Nat} (hd : DT t = .inr (q, n, 3)) {C : FieldType} (ht : (TY cy)[q]? = some (cy q, .array C)) {i : Int32} (hi : 0 ≤ i.toInt ∧ i.toInt < n) (hdg : decode cc pc = .ok (.aaload, 1)) (kk : W p l e R s m args below meth c H locs cells slots Q (F0 m (pc + 1) ls (.ref (zR a i.toNatClampNeg) :: rest))) : W p l e R s m args below meth c H locs cells slots Q (F0 m pc ls (.int i :: .ref a :: rest)) := by
  obtain ⟨q0, -, hq⟩ := WL_in (cy := cy) hs ta h0
  have he := hq zI zJ
  rw [EN_r ta hd] at he
  refine va_aldA hexec hb hK hP q0 q he ht (vp_in_iff.mpr hi) hdg ?_
  have hlt : i.toNatClampNeg < n := cl_lt hi.1 hi.2
  show W p l e R s m args below meth c H locs cells slots Q (F0 m (pc + 1) ls (va_rf (if i.toNatClampNeg < n then some (zR a i.toNatClampNeg) else none) :: rest))
  rw [if_pos hlt]
  exact kk
theorem ht_alen (hexec : p.tables.exec = Jvm.exec) (hb : c.code = cc) (hK : va_K (dC, dI) vwCl (TY cy) s) (hP : va_P (dC, dI) vwCl (WL cy zL zT zR zI zJ) H) (hs : SKP zL zT zR) (ta : zT a = t) (h0 : t ≠ 0) {q n k : Nat} (hd : DT t = .inr (q, n, k)) {ty : FieldType} (ht : (TY cy)[q]? = some (cy q, ty)) {v : Int32} (hv : Int32.ofNat n = v) (hdg : decode cc pc = .ok (.arraylength, 1)) (kk : W p l e R s m args below meth c H locs cells slots Q (F0 m (pc + 1) ls (.int v :: rest))) : W p l e R s m args below meth c H locs cells slots Q (F0 m pc ls (.ref a :: rest)) := by
  obtain ⟨q0, -, hq⟩ := WL_in (cy := cy) hs ta h0
  have he := hq zI zJ
  unfold EN at he
  rw [ta, hd] at he
  exact va_alen hexec hb hK hP q0 q he ht hv hdg kk
theorem ht_iast (hexec : p.tables.exec = Jvm.exec) (hb : c.code = cc) (hK : va_K (dC, dI) vwCl (TY cy) s) (hP : va_P (dC, dI) vwCl (WL cy zL zT zR zI zJ) H) (hD : va_D A (WL cy zL zT zR zI zJ)) (hS : va_S A H0 H locs) (hs : SKP zL zT zR) (ta : zT a = t) (h0 : t ≠ 0) {q n : Nat} (hd : DT t = .inr (q, n, 1)) (ht : (TY cy)[q]? = some (cy q, .int)) {i : Int32} {v : Int32} (hi : 0 ≤ i.toInt ∧ i.toInt < n) (hdg : decode cc pc = .ok (.iastore, 1))
    (kk : ∀ (H1 : Heap) (locs1 : List Loc), va_P (dC, dI) vwCl (WL cy zL zT zR (u2 zI a i.toNatClampNeg v) zJ) H1 → va_D A (WL cy zL zT zR (u2 zI a i.toNatClampNeg v) zJ) → va_S A H0 H1 locs1 → W p l e R s m args below meth c H1 locs1 cells slots Q (F0 m (pc + 1) ls rest)) : W p l e R s m args below meth c H locs cells slots Q (F0 m pc ls (.int v :: .int i :: .ref a :: rest)) := by
  obtain ⟨q0, hz, hq⟩ := WL_in (cy := cy) hs ta h0
  have he := hq zI zJ
  rw [EN_i ta hd] at he
  refine va_iast hexec hb hK hP hD hS q0 q he ht (vp_in_iff.mpr hi) hdg (fun H1 locs1 hP1 hD1 hS1 => ?_)
  have ex := EN_i (cy := cy) (zR := zR) (zI := (u2 zI a i.toNatClampNeg v)) (zJ := zJ) ta hd
  rw [u2_r] at ex
  have ew := WL_set (zI := zI) (zJ := zJ) hs hz ex (fun b hb' => EN_cg (u2_a hb') rfl)
  rw [ew] at hP1 hD1
  exact kk H1 locs1 hP1 hD1 hS1
theorem ht_zast (hexec : p.tables.exec = Jvm.exec) (hb : c.code = cc) (hK : va_K (dC, dI) vwCl (TY cy) s) (hP : va_P (dC, dI) vwCl (WL cy zL zT zR zI zJ) H) (hD : va_D A (WL cy zL zT zR zI zJ)) (hS : va_S A H0 H locs) (hs : SKP zL zT zR) (ta : zT a = t) (h0 : t ≠ 0) {q n : Nat} (hd : DT t = .inr (q, n, 1)) (ht : (TY cy)[q]? = some (cy q, .boolean)) {i : Int32} {v : Int32} (hi : 0 ≤ i.toInt ∧ i.toInt < n) (hdg : decode cc pc = .ok (.bastore, 1))
    (kk : ∀ (H1 : Heap) (locs1 : List Loc), va_P (dC, dI) vwCl (WL cy zL zT zR (u2 zI a i.toNatClampNeg (vp_nar .boolean v)) zJ) H1 → va_D A (WL cy zL zT zR (u2 zI a i.toNatClampNeg (vp_nar .boolean v)) zJ) → va_S A H0 H1 locs1 → W p l e R s m args below meth c H1 locs1 cells slots Q (F0 m (pc + 1) ls rest)) : W p l e R s m args below meth c H locs cells slots Q (F0 m pc ls (.int v :: .int i :: .ref a :: rest)) := by
  obtain ⟨q0, hz, hq⟩ := WL_in (cy := cy) hs ta h0
  have he := hq zI zJ
  rw [EN_i ta hd] at he
  refine va_zast hexec hb hK hP hD hS q0 q he ht (vp_in_iff.mpr hi) hdg (fun H1 locs1 hP1 hD1 hS1 => ?_)
  have ex := EN_i (cy := cy) (zR := zR) (zI := (u2 zI a i.toNatClampNeg (vp_nar .boolean v))) (zJ := zJ) ta hd
  rw [u2_r] at ex
  have ew := WL_set (zI := zI) (zJ := zJ) hs hz ex (fun b hb' => EN_cg (u2_a hb') rfl)
  rw [ew] at hP1 hD1
  exact kk H1 locs1 hP1 hD1 hS1
theorem ht_last (hexec : p.tables.exec = Jvm.exec) (hb : c.code = cc) (hK : va_K (dC, dI) vwCl (TY cy) s) (hP : va_P (dC, dI) vwCl (WL cy zL zT zR zI zJ) H) (hD : va_D A (WL cy zL zT zR zI zJ)) (hS : va_S A H0 H locs) (hs : SKP zL zT zR) (ta : zT a = t) (h0 : t ≠ 0) {q n : Nat} (hd : DT t = .inr (q, n, 2)) (ht : (TY cy)[q]? = some (cy q, .long)) {i : Int32} {v : Int64} (hi : 0 ≤ i.toInt ∧ i.toInt < n) (hdg : decode cc pc = .ok (.lastore, 1))
    (kk : ∀ (H1 : Heap) (locs1 : List Loc), va_P (dC, dI) vwCl (WL cy zL zT zR zI (u2 zJ a i.toNatClampNeg v)) H1 → va_D A (WL cy zL zT zR zI (u2 zJ a i.toNatClampNeg v)) → va_S A H0 H1 locs1 → W p l e R s m args below meth c H1 locs1 cells slots Q (F0 m (pc + 1) ls rest)) : W p l e R s m args below meth c H locs cells slots Q (F0 m pc ls (.long v :: .int i :: .ref a :: rest)) := by
  obtain ⟨q0, hz, hq⟩ := WL_in (cy := cy) hs ta h0
  have he := hq zI zJ
  rw [EN_l ta hd] at he
  refine va_last hexec hb hK hP hD hS q0 q he ht (vp_in_iff.mpr hi) hdg (fun H1 locs1 hP1 hD1 hS1 => ?_)
  have ex := EN_l (cy := cy) (zR := zR) (zI := zI) (zJ := (u2 zJ a i.toNatClampNeg v)) ta hd
  rw [u2_rl] at ex
  have ew := WL_set (zI := zI) (zJ := zJ) hs hz ex (fun b hb' => EN_cg rfl (u2_a hb'))
  rw [ew] at hP1 hD1
  exact kk H1 locs1 hP1 hD1 hS1
theorem ht_cpi (hexec : p.tables.exec = Jvm.exec) (hb : c.code = cc) (hml : c.maxLocals = ls.size) {own : String} {index : Nat} (hown : s.vm.findClass own = some m.cls) (hlink : (Cond.methodLink own index arraycopyName).before args s = true) (hnat : (Cond.native arraycopyName).before args s = true) (hstat : (Cond.static arraycopyName).before args s = true) (hini : (Cond.initialized "java/lang/System").before args s = true) (hK : va_K (dC, dI) vwCl (TY cy) s) (hP : va_P (dC, dI) vwCl (WL cy zL zT zR zI zJ) H) (hD : va_D A (WL cy zL zT zR zI zJ)) (hS : va_S A H0 H locs) (hs : SKP zL zT zR) {b t2 : Nat} (ta : zT a = t) (tb : zT b = t2) (h0 : t ≠ 0) (h02 : t2 ≠ 0) {q n1 n2 : Nat} (hd : DT t = .inr (q, n1, 1)) (hd2 : DT t2 = .inr (q, n2, 1)) (ht : (TY cy)[q]? = some (cy q, .int)) {sp dp n : Int32} (h1 : ¬ sp < 0) (h2 : ¬ dp < 0) (h3 : ¬ n < 0) (h4 : sp.toNatClampNeg + n.toNatClampNeg ≤ n2) (h5 : dp.toNatClampNeg + n.toNatClampNeg ≤ n1) (hf : 1 ≤ R.frames) (hlo : (rest.map fun v => v.category).sum + (nativeFrameWords "java/lang/System" "arraycopy" 5 + 11) ≤ R.locals) (hdg : decode cc pc = .ok (.invokestatic index, 3))
    (kk : ∀ (H1 : Heap) (locs1 : List Loc), va_P (dC, dI) vwCl (WL cy zL zT zR (ur zI a (va_cpy (zI b) (zI a) sp.toNatClampNeg dp.toNatClampNeg n.toNatClampNeg)) zJ) H1 → va_D A (WL cy zL zT zR (ur zI a (va_cpy (zI b) (zI a) sp.toNatClampNeg dp.toNatClampNeg n.toNatClampNeg)) zJ) → va_S A H0 H1 locs1 → W p l e R s m args below meth c H1 locs1 cells slots Q (F0 m (pc + 3) ls rest)) : W p l e R s m args below meth c H locs cells slots Q (F0 m pc ls (.int n :: .int dp :: .ref a :: .int sp :: .ref b :: rest)) := by
  obtain ⟨q1, hz, hq1⟩ := WL_in (cy := cy) hs ta h0
  obtain ⟨q0, -, hq0⟩ := WL_in (cy := cy) hs tb h02
  have he1 := hq1 zI zJ
  have he0 := hq0 zI zJ
  rw [EN_i ta hd] at he1
  rw [EN_i tb hd2] at he0
  refine va_copyi hexec hb hml hown hlink hnat hstat hini hK hP hD hS q0 q1 q q he0 he1 ht ht rfl h1 h2 h3 h4 h5 (fun _ _ => rfl) hf hlo hdg (fun H1 locs1 hP1 hD1 hS1 => ?_)
  have ex := EN_i (cy := cy) (zR := zR) (zI := (ur zI a (va_cpy (zI b) (zI a) sp.toNatClampNeg dp.toNatClampNeg n.toNatClampNeg))) (zJ := zJ) ta hd
  rw [ur_s] at ex
  have ew := WL_set (zI := zI) (zJ := zJ) hs hz ex (fun b9 hb9 => EN_cg (ur_n hb9) rfl)
  rw [ew] at hP1 hD1
  exact kk H1 locs1 hP1 hD1 hS1
theorem ht_cpl (hexec : p.tables.exec = Jvm.exec) (hb : c.code = cc) (hml : c.maxLocals = ls.size) {own : String} {index : Nat} (hown : s.vm.findClass own = some m.cls) (hlink : (Cond.methodLink own index arraycopyName).before args s = true) (hnat : (Cond.native arraycopyName).before args s = true) (hstat : (Cond.static arraycopyName).before args s = true) (hini : (Cond.initialized "java/lang/System").before args s = true) (hK : va_K (dC, dI) vwCl (TY cy) s) (hP : va_P (dC, dI) vwCl (WL cy zL zT zR zI zJ) H) (hD : va_D A (WL cy zL zT zR zI zJ)) (hS : va_S A H0 H locs) (hs : SKP zL zT zR) {b t2 : Nat} (ta : zT a = t) (tb : zT b = t2) (h0 : t ≠ 0) (h02 : t2 ≠ 0) {q n1 n2 : Nat} (hd : DT t = .inr (q, n1, 2)) (hd2 : DT t2 = .inr (q, n2, 2)) (ht : (TY cy)[q]? = some (cy q, .long)) {sp dp n : Int32} (h1 : ¬ sp < 0) (h2 : ¬ dp < 0) (h3 : ¬ n < 0) (h4 : sp.toNatClampNeg + n.toNatClampNeg ≤ n2) (h5 : dp.toNatClampNeg + n.toNatClampNeg ≤ n1) (hf : 1 ≤ R.frames) (hlo : (rest.map fun v => v.category).sum + (nativeFrameWords "java/lang/System" "arraycopy" 5 + 11) ≤ R.locals) (hdg : decode cc pc = .ok (.invokestatic index, 3))
    (kk : ∀ (H1 : Heap) (locs1 : List Loc), va_P (dC, dI) vwCl (WL cy zL zT zR zI (ur zJ a (va_cpy (zJ b) (zJ a) sp.toNatClampNeg dp.toNatClampNeg n.toNatClampNeg))) H1 → va_D A (WL cy zL zT zR zI (ur zJ a (va_cpy (zJ b) (zJ a) sp.toNatClampNeg dp.toNatClampNeg n.toNatClampNeg))) → va_S A H0 H1 locs1 → W p l e R s m args below meth c H1 locs1 cells slots Q (F0 m (pc + 3) ls rest)) : W p l e R s m args below meth c H locs cells slots Q (F0 m pc ls (.int n :: .int dp :: .ref a :: .int sp :: .ref b :: rest)) := by
  obtain ⟨q1, hz, hq1⟩ := WL_in (cy := cy) hs ta h0
  obtain ⟨q0, -, hq0⟩ := WL_in (cy := cy) hs tb h02
  have he1 := hq1 zI zJ
  have he0 := hq0 zI zJ
  rw [EN_l ta hd] at he1
  rw [EN_l tb hd2] at he0
  refine va_copyl hexec hb hml hown hlink hnat hstat hini hK hP hD hS q0 q1 q q he0 he1 ht ht rfl h1 h2 h3 h4 h5 (fun _ _ => rfl) hf hlo hdg (fun H1 locs1 hP1 hD1 hS1 => ?_)
  have ex := EN_l (cy := cy) (zR := zR) (zI := zI) (zJ := (ur zJ a (va_cpy (zJ b) (zJ a) sp.toNatClampNeg dp.toNatClampNeg n.toNatClampNeg))) ta hd
  rw [ur_s] at ex
  have ew := WL_set (zI := zI) (zJ := zJ) hs hz ex (fun b9 hb9 => EN_cg rfl (ur_n hb9))
  rw [ew] at hP1 hD1
  exact kk H1 locs1 hP1 hD1 hS1
theorem hj_i {Sg : Type} {post : Int32 → Sg → Prop} {ws : va_W} {w1 : Sg → va_W} {a9 : Array Value} (hr : va_Run p l e R s m args below meth c H locs cells slots mc ms (F0 m pc ls st0) rest (va_Qi post (fun u t => POST dC dI cy (va_A ws H.size) (w1 u) t) (va_A ws H.size) a9) (va_A ws H.size)) (hP : va_P (dC, dI) vwCl ws H) (hD : va_D A ws) (hS : va_S A H0 H locs) (hA : ∀ q, H0.size ≤ q → A q)
    (kk : ∀ (r : Int32) (u : Sg) (H1 : Heap) (locs1 : List Loc), post r u → va_P (dC, dI) vwCl (w1 u) H1 → va_D A (w1 u) → va_S A H0 H1 locs1 → W p l e R s m args below meth c H1 locs1 (cells + mc) (slots + ms) Q (F0 m (pc + 3) ls (.int r :: rest))) : W p l e R s m args below meth c H locs cells slots Q (F0 m pc ls st0) := by
  have hFc : ∀ q, va_A ws H.size q → A q := fun q h => by
    rcases h with ⟨k, e, h⟩ | h
    · exact hD.2 k _ h
    · exact hA q (Nat.le_trans hS.1 h)
  refine va_calli hr hS (fun q _ h => hFc q h) hFc (fun r u t H1 locs1 ht hvm hw hB hz1 hk1 hS1 => ?_)
  obtain ⟨hP1, hK1, hD1⟩ := hB
  rw [ht] at hP1
  exact kk r u H1 locs1 hw hP1 (hD1.weaken (fun _ _ _ h => hFc _ h)) hS1
theorem hj0_i {Sg : Type} {post : Int32 → Sg → Prop} {ws : va_W} {a9 : Array Value} (hr : va_Run p l e R s m args below meth c H locs cells slots mc ms (F0 m pc ls st0) rest (va_Qi post (fun u t => POST dC dI cy (va_A [] H.size) [] t) (va_A [] H.size) a9) (va_A [] H.size)) (hP : va_P (dC, dI) vwCl ws H) (hD : va_D A ws) (hS : va_S A H0 H locs) (hA : ∀ q, H0.size ≤ q → A q)
    (kk : ∀ (r : Int32) (u : Sg) (H1 : Heap) (locs1 : List Loc), post r u → va_P (dC, dI) vwCl ws H1 → va_D A ws → va_S A H0 H1 locs1 → W p l e R s m args below meth c H1 locs1 (cells + mc) (slots + ms) Q (F0 m (pc + 3) ls (.int r :: rest))) : W p l e R s m args below meth c H locs cells slots Q (F0 m pc ls st0) := by
  have hFc : ∀ q, va_A [] H.size q → A q := fun q h => by
    rcases h with ⟨k, e, h⟩ | h
    · simp at h
    · exact hA q (Nat.le_trans hS.1 h)
  refine va_calli hr hS (fun q _ h => hFc q h) hFc (fun r u t H1 locs1 ht hvm hw hB hz1 hk1 hS1 => ?_)
  obtain ⟨hP1, hK1, hD1⟩ := hB
  rw [ht] at hP1
  exact kk r u H1 locs1 hw (fun k x hx => va_at.kept (hP k x hx) (hk1 _ (va_at_lt (hP k x hx)) (va_A0 (va_at_lt (hP k x hx))))) hD hS1
theorem hj_l {Sg : Type} {post : Int64 → Sg → Prop} {ws : va_W} {w1 : Sg → va_W} {a9 : Array Value} (hr : va_Run p l e R s m args below meth c H locs cells slots mc ms (F0 m pc ls st0) rest (va_Ql post (fun u t => POST dC dI cy (va_A ws H.size) (w1 u) t) (va_A ws H.size) a9) (va_A ws H.size)) (hP : va_P (dC, dI) vwCl ws H) (hD : va_D A ws) (hS : va_S A H0 H locs) (hA : ∀ q, H0.size ≤ q → A q)
    (kk : ∀ (r : Int64) (u : Sg) (H1 : Heap) (locs1 : List Loc), post r u → va_P (dC, dI) vwCl (w1 u) H1 → va_D A (w1 u) → va_S A H0 H1 locs1 → W p l e R s m args below meth c H1 locs1 (cells + mc) (slots + ms) Q (F0 m (pc + 3) ls (.long r :: rest))) : W p l e R s m args below meth c H locs cells slots Q (F0 m pc ls st0) := by
  have hFc : ∀ q, va_A ws H.size q → A q := fun q h => by
    rcases h with ⟨k, e, h⟩ | h
    · exact hD.2 k _ h
    · exact hA q (Nat.le_trans hS.1 h)
  refine va_calll hr hS (fun q _ h => hFc q h) hFc (fun r u t H1 locs1 ht hvm hw hB hz1 hk1 hS1 => ?_)
  obtain ⟨hP1, hK1, hD1⟩ := hB
  rw [ht] at hP1
  exact kk r u H1 locs1 hw hP1 (hD1.weaken (fun _ _ _ h => hFc _ h)) hS1
theorem hj0_l {Sg : Type} {post : Int64 → Sg → Prop} {ws : va_W} {a9 : Array Value} (hr : va_Run p l e R s m args below meth c H locs cells slots mc ms (F0 m pc ls st0) rest (va_Ql post (fun u t => POST dC dI cy (va_A [] H.size) [] t) (va_A [] H.size) a9) (va_A [] H.size)) (hP : va_P (dC, dI) vwCl ws H) (hD : va_D A ws) (hS : va_S A H0 H locs) (hA : ∀ q, H0.size ≤ q → A q)
    (kk : ∀ (r : Int64) (u : Sg) (H1 : Heap) (locs1 : List Loc), post r u → va_P (dC, dI) vwCl ws H1 → va_D A ws → va_S A H0 H1 locs1 → W p l e R s m args below meth c H1 locs1 (cells + mc) (slots + ms) Q (F0 m (pc + 3) ls (.long r :: rest))) : W p l e R s m args below meth c H locs cells slots Q (F0 m pc ls st0) := by
  have hFc : ∀ q, va_A [] H.size q → A q := fun q h => by
    rcases h with ⟨k, e, h⟩ | h
    · simp at h
    · exact hA q (Nat.le_trans hS.1 h)
  refine va_calll hr hS (fun q _ h => hFc q h) hFc (fun r u t H1 locs1 ht hvm hw hB hz1 hk1 hS1 => ?_)
  obtain ⟨hP1, hK1, hD1⟩ := hB
  rw [ht] at hP1
  exact kk r u H1 locs1 hw (fun k x hx => va_at.kept (hP k x hx) (hk1 _ (va_at_lt (hP k x hx)) (va_A0 (va_at_lt (hP k x hx))))) hD hS1
theorem hj_v {Sg : Type} {post : Sg → Prop} {ws : va_W} {w1 : Sg → va_W} {a9 : Array Value} (hr : va_Run p l e R s m args below meth c H locs cells slots mc ms (F0 m pc ls st0) rest (va_Qv post (fun u t => POST dC dI cy (va_A ws H.size) (w1 u) t) (va_A ws H.size) a9) (va_A ws H.size)) (hP : va_P (dC, dI) vwCl ws H) (hD : va_D A ws) (hS : va_S A H0 H locs) (hA : ∀ q, H0.size ≤ q → A q)
    (kk : ∀ (u : Sg) (H1 : Heap) (locs1 : List Loc), post u → va_P (dC, dI) vwCl (w1 u) H1 → va_D A (w1 u) → va_S A H0 H1 locs1 → W p l e R s m args below meth c H1 locs1 (cells + mc) (slots + ms) Q (F0 m (pc + 3) ls (rest))) : W p l e R s m args below meth c H locs cells slots Q (F0 m pc ls st0) := by
  have hFc : ∀ q, va_A ws H.size q → A q := fun q h => by
    rcases h with ⟨k, e, h⟩ | h
    · exact hD.2 k _ h
    · exact hA q (Nat.le_trans hS.1 h)
  refine va_callv hr hS (fun q _ h => hFc q h) hFc (fun u t H1 locs1 ht hvm hw hB hz1 hk1 hS1 => ?_)
  obtain ⟨hP1, hK1, hD1⟩ := hB
  rw [ht] at hP1
  exact kk u H1 locs1 hw hP1 (hD1.weaken (fun _ _ _ h => hFc _ h)) hS1
theorem hj0_v {Sg : Type} {post : Sg → Prop} {ws : va_W} {a9 : Array Value} (hr : va_Run p l e R s m args below meth c H locs cells slots mc ms (F0 m pc ls st0) rest (va_Qv post (fun u t => POST dC dI cy (va_A [] H.size) [] t) (va_A [] H.size) a9) (va_A [] H.size)) (hP : va_P (dC, dI) vwCl ws H) (hD : va_D A ws) (hS : va_S A H0 H locs) (hA : ∀ q, H0.size ≤ q → A q)
    (kk : ∀ (u : Sg) (H1 : Heap) (locs1 : List Loc), post u → va_P (dC, dI) vwCl ws H1 → va_D A ws → va_S A H0 H1 locs1 → W p l e R s m args below meth c H1 locs1 (cells + mc) (slots + ms) Q (F0 m (pc + 3) ls (rest))) : W p l e R s m args below meth c H locs cells slots Q (F0 m pc ls st0) := by
  have hFc : ∀ q, va_A [] H.size q → A q := fun q h => by
    rcases h with ⟨k, e, h⟩ | h
    · simp at h
    · exact hA q (Nat.le_trans hS.1 h)
  refine va_callv hr hS (fun q _ h => hFc q h) hFc (fun u t H1 locs1 ht hvm hw hB hz1 hk1 hS1 => ?_)
  obtain ⟨hP1, hK1, hD1⟩ := hB
  rw [ht] at hP1
  exact kk u H1 locs1 hw (fun k x hx => va_at.kept (hP k x hx) (hk1 _ (va_at_lt (hP k x hx)) (va_A0 (va_at_lt (hP k x hx))))) hD hS1
theorem hj_r {Sg : Type} {post : Sg → Prop} {B0 : Sg → Nat → Prop} {ws : va_W} {w1 : Sg → va_W} {a9 : Array Value} (hr : va_Run p l e R s m args below meth c H locs cells slots mc ms (F0 m pc ls st0) rest (va_Qr post (fun u a t => B0 u a ∧ POST dC dI cy (va_A ws H.size) (w1 u) t) (va_A ws H.size) a9) (va_A ws H.size)) (hP : va_P (dC, dI) vwCl ws H) (hD : va_D A ws) (hS : va_S A H0 H locs) (hA : ∀ q, H0.size ≤ q → A q)
    (kk : ∀ (r : Nat) (u : Sg) (H1 : Heap) (locs1 : List Loc), post u → B0 u r → va_P (dC, dI) vwCl (w1 u) H1 → va_D A (w1 u) → va_S A H0 H1 locs1 → W p l e R s m args below meth c H1 locs1 (cells + mc) (slots + ms) Q (F0 m (pc + 3) ls (.ref r :: rest))) : W p l e R s m args below meth c H locs cells slots Q (F0 m pc ls st0) := by
  have hFc : ∀ q, va_A ws H.size q → A q := fun q h => by
    rcases h with ⟨k, e, h⟩ | h
    · exact hD.2 k _ h
    · exact hA q (Nat.le_trans hS.1 h)
  refine va_callr hr hS (fun q _ h => hFc q h) hFc (fun u r t H1 locs1 ht hvm hw hB hz1 hk1 hS1 => ?_)
  obtain ⟨hb0, hP1, hK1, hD1⟩ := hB
  rw [ht] at hP1
  exact kk r u H1 locs1 hw hb0 hP1 (hD1.weaken (fun _ _ _ h => hFc _ h)) hS1
theorem hj0_r {Sg : Type} {post : Sg → Prop} {B0 : Sg → Nat → Prop} {ws : va_W} {a9 : Array Value} (hr : va_Run p l e R s m args below meth c H locs cells slots mc ms (F0 m pc ls st0) rest (va_Qr post (fun u a t => B0 u a ∧ POST dC dI cy (va_A [] H.size) [] t) (va_A [] H.size) a9) (va_A [] H.size)) (hP : va_P (dC, dI) vwCl ws H) (hD : va_D A ws) (hS : va_S A H0 H locs) (hA : ∀ q, H0.size ≤ q → A q)
    (kk : ∀ (r : Nat) (u : Sg) (H1 : Heap) (locs1 : List Loc), post u → B0 u r → va_P (dC, dI) vwCl ws H1 → va_D A ws → va_S A H0 H1 locs1 → W p l e R s m args below meth c H1 locs1 (cells + mc) (slots + ms) Q (F0 m (pc + 3) ls (.ref r :: rest))) : W p l e R s m args below meth c H locs cells slots Q (F0 m pc ls st0) := by
  have hFc : ∀ q, va_A [] H.size q → A q := fun q h => by
    rcases h with ⟨k, e, h⟩ | h
    · simp at h
    · exact hA q (Nat.le_trans hS.1 h)
  refine va_callr hr hS (fun q _ h => hFc q h) hFc (fun u r t H1 locs1 ht hvm hw hB hz1 hk1 hS1 => ?_)
  obtain ⟨hb0, hP1, hK1, hD1⟩ := hB
  rw [ht] at hP1
  exact kk r u H1 locs1 hw hb0 (fun k x hx => va_at.kept (hP k x hx) (hk1 _ (va_at_lt (hP k x hx)) (va_A0 (va_at_lt (hP k x hx))))) hD hS1
end TB
