def RG (f : Nat → Int32) (n : Nat) (lo hi : Int) : Prop := ∀ k : Nat, k < n → lo ≤ (f k).toInt ∧ (f k).toInt ≤ hi
theorem cl_lt {i : Int32} {n : Nat} (h0 : 0 ≤ i.toInt) (h1 : i.toInt < (n : Int)) : i.toNatClampNeg < n := by
  have h : i.toNatClampNeg = i.toInt.toNat := rfl
  omega
theorem RG.at {f : Nat → Int32} {n : Nat} {lo hi : Int} (h : RG f n lo hi) {i : Int32} (h0 : 0 ≤ i.toInt) (h1 : i.toInt < (n : Int)) : lo ≤ (f i.toNatClampNeg).toInt ∧ (f i.toNatClampNeg).toInt ≤ hi := h _ (cl_lt h0 h1)
theorem cw_s {f : Nat → Int32} {k j : Nat} {x : Int32} (h : j = k) : upd f k x j = x := by rw [h]; exact pk_us
theorem cw_n {f : Nat → Int32} {k j : Nat} {x : Int32} (h : j ≠ k) : upd f k x j = f j := pk_un h
theorem RG.upd {f : Nat → Int32} {n : Nat} {lo hi : Int} (h : RG f n lo hi) {i : Nat} {v : Int32} (hv : lo ≤ v.toInt ∧ v.toInt ≤ hi) : RG (upd f i v) n lo hi := fun k hk => by
  by_cases e : k = i
  · rw [cw_s e]; exact hv
  · rw [cw_n e]; exact h k hk
theorem RG.mono {f : Nat → Int32} {n : Nat} {lo hi lo' hi' : Int} (h : RG f n lo hi) (h1 : lo' ≤ lo) (h2 : hi ≤ hi') : RG f n lo' hi' := fun k hk => ⟨Int.le_trans h1 (h k hk).1, Int.le_trans (h k hk).2 h2⟩
theorem RG.cpy {f g : Nat → Int32} {n m : Nat} {lo hi : Int} {sp dp c : Nat} (hf : RG f m lo hi) (hg : RG g n lo hi) (hs : sp + c ≤ m) : RG (va_cpy f g sp dp c) n lo hi := fun k hk => by
  by_cases e : dp ≤ k ∧ k < dp + c
  · rw [pk_cpy_in e.1 e.2]; exact hf _ (by omega)
  · rw [pk_cpy_out (by omega)]; exact hg k hk
theorem RG.zero {n : Nat} {lo hi : Int} (h1 : lo ≤ 0) (h2 : 0 ≤ hi) : RG (fun _ => 0) n lo hi := fun k _ => by
  have e : (0 : Int32).toInt = 0 := by decide
  show lo ≤ (0 : Int32).toInt ∧ (0 : Int32).toInt ≤ hi
  rw [e]; exact ⟨h1, h2⟩
section WQ
variable {p : Program} {l : Launch} {e : Env} {R : Room} {s : State} {m : MethodId} {args : Array Value} {below : List Frame} {meth : Method} {c : Code} {H : Heap} {locs : List Loc} {cells slots : Nat} {Q : State → Prop}
theorem w_q {g : JFrame} (k : ∀ Q' : State → Prop, Q' = Q → W p l e R s m args below meth c H locs cells slots Q' g) : W p l e R s m args below meth c H locs cells slots Q g := k Q rfl
end WQ
theorem mulb {x y : Int32} {B D C : Int} (hx : 0 ≤ x.toInt ∧ x.toInt ≤ B) (hy : 0 ≤ y.toInt ∧ y.toInt ≤ D) (hC : B * D ≤ C) (h : C < 2147483648) : 0 ≤ (x * y).toInt ∧ (x * y).toInt ≤ C := by
  have h1 : 0 ≤ x.toInt * y.toInt := Int.mul_nonneg hx.1 hy.1
  have h2 : x.toInt * y.toInt ≤ B * D := Int.mul_le_mul hx.2 hy.2 hy.1 (Int.le_trans hx.1 hx.2)
  rw [Int32.toInt_mul, bmod_i (by omega) (by omega)]
  exact ⟨h1, by omega⟩
theorem tisub {x y : Int32} {a b : Int} (hx : x.toInt = a) (hy : y.toInt = b) (h1 : -2147483648 ≤ a - b) (h2 : a - b < 2147483648) : (x - y).toInt = a - b := tsub hx hy h1 h2
theorem timul {x y : Int32} {a b : Int} (hx : x.toInt = a) (hy : y.toInt = b) (h1 : -2147483648 ≤ a * b) (h2 : a * b < 2147483648) : (x * y).toInt = a * b := tmul hx hy h1 h2
theorem tineg {x : Int32} {a : Int} (hx : x.toInt = a) (h : -2147483648 < a) : (-x).toInt = -a := by
  have r := rng x
  rw [Int32.toInt_neg, hx]
  exact bmod_i (by omega) (by omega)
theorem tidiv {x y : Int32} {a k : Int} (hx : x.toInt = a) (hy : y.toInt = k) (h0 : 0 ≤ a) (hk : 0 < k) : (x / y).toInt = a / k := by
  have r := rng x
  have h1 : 0 ≤ a / k := Int.ediv_nonneg h0 (Int.le_of_lt hk)
  have h2 : a / k ≤ a := Int.ediv_le_self k h0
  rw [Int32.toInt_div, hx, hy, Int.tdiv_eq_ediv_of_nonneg h0]
  exact bmod_i (by omega) (by omega)
theorem tirem {x y : Int32} {a k : Int} (hx : x.toInt = a) (hy : y.toInt = k) (h0 : 0 ≤ a) (hk : 0 < k) : (x - x / y * y).toInt = a % k := by
  have r := rng x
  have d := tidiv hx hy h0 hk
  have h1 : 0 ≤ a / k := Int.ediv_nonneg h0 (Int.le_of_lt hk)
  have h3 : a / k * k ≤ a := Int.ediv_mul_le a (by omega)
  have h4 : 0 ≤ a / k * k := Int.mul_nonneg h1 (Int.le_of_lt hk)
  have m := tmul d hy (by omega) (by omega)
  have h5 : a % k = a - a / k * k := by rw [Int.emod_def, Int.mul_comm]
  rw [tsub hx m (by omega) (by omega), h5]
theorem andb {x y : Int32} {C : Int} (k : Nat) (hm : y.toBitVec.toNat = 2 ^ k - 1) (hk : k ≤ 30) (hC : ((2 ^ k - 1 : Nat) : Int) = C) : 0 ≤ (x &&& y).toInt ∧ (x &&& y).toInt ≤ C := by
  obtain ⟨j, hj, e⟩ := pk_andE x k hm
  have h2 : 2 ^ k ≤ 2 ^ 30 := Nat.pow_le_pow_right (by decide) hk
  have h3 : (2 : Nat) ^ 30 = 1073741824 := by decide
  rw [e, nI_toInt (by omega)]
  omega
theorem mx_s {v x y : Int32} {a b : Int} (e : v = if x < y then y else x) (hx : x.toInt = a) (hy : y.toInt = b) : (a < b → v.toInt = b) ∧ (¬ a < b → v.toInt = a) := by
  subst hx hy
  by_cases h : x < y
  · rw [if_pos h] at e
    exact ⟨fun _ => by rw [e], fun q => absurd (Int32.lt_iff_toInt_lt.mp h) q⟩
  · rw [if_neg h] at e
    exact ⟨fun q => absurd (Int32.lt_iff_toInt_lt.mpr q) h, fun _ => by rw [e]⟩
theorem mn_s {v x y : Int32} {a b : Int} (e : v = if y < x then y else x) (hx : x.toInt = a) (hy : y.toInt = b) : (b < a → v.toInt = b) ∧ (¬ b < a → v.toInt = a) := by
  subst hx hy
  by_cases h : y < x
  · rw [if_pos h] at e
    exact ⟨fun _ => by rw [e], fun q => absurd (Int32.lt_iff_toInt_lt.mp h) q⟩
  · rw [if_neg h] at e
    exact ⟨fun q => absurd (Int32.lt_iff_toInt_lt.mpr q) h, fun _ => by rw [e]⟩
theorem zb_n2 {x : Int32} (h : 0 ≤ x.toInt ∧ x.toInt ≤ 1) : narrow .boolean (.int x) = .int x := by
  rcases ix_2 h.1 (by omega) with rfl | rfl <;> rfl
theorem zb_f2 {x : Int32} (h : 0 ≤ x.toInt ∧ x.toInt ≤ 1) : fits .boolean (.int x) = true := by
  rcases ix_2 h.1 (by omega) with rfl | rfl <;> rfl
theorem ne_z {y : Int32} (h : y.toInt ≠ 0) : ¬ y = 0 := fun q => h (by rw [q]; decide)
theorem nl_z {x : Int32} (h : 0 ≤ x.toInt) : ¬ x < 0 := fun q => by
  have h1 := Int32.lt_iff_toInt_lt.mp q
  have h2 : (0 : Int32).toInt = 0 := by decide
  omega
theorem cpn {a n : Int32} {i j : Int} {N : Nat} (ha : a.toInt = i) (hn : n.toInt = j) (h0 : 0 ≤ i) (h1 : 0 ≤ j) (h : i + j ≤ (N : Int)) : a.toNatClampNeg + n.toNatClampNeg ≤ N := by
  have e1 : a.toNatClampNeg = a.toInt.toNat := rfl
  have e2 : n.toNatClampNeg = n.toInt.toNat := rfl
  omega
theorem land255 (x : Int64) : 0 ≤ (x &&& 255).toInt ∧ (x &&& 255).toInt ≤ 255 := by
  have e : (x &&& 255).toBitVec = x.toBitVec &&& 255#64 := by rw [Int64.toBitVec_and]; rfl
  have h : (x.toBitVec &&& 255#64).toNat ≤ 255 := by
    rw [BitVec.toNat_and]; exact Nat.and_le_right
  show 0 ≤ ((x &&& 255).toBitVec).toInt ∧ ((x &&& 255).toBitVec).toInt ≤ 255
  rw [e, BitVec.toInt_eq_toNat_cond, if_pos (by omega)]
  omega
theorem l2i255 {x : Int64} (h : 0 ≤ x.toInt ∧ x.toInt ≤ 255) : 0 ≤ x.toInt32.toInt ∧ x.toInt32.toInt ≤ 255 := by
  rw [Int64.toInt_toInt32, bmod_i (by omega) (by omega)]
  exact h
theorem bz_b {r : Int32} {P : Prop} [Decidable P] (hw : r = if P then 1 else 0) : 0 ≤ r.toInt ∧ r.toInt ≤ 1 := by
  rw [hw]; split <;> decide
theorem lk_eq {v : Int32} {x y : Int64} {a b : Int} (e : v = lg_cmp x y) (hx : x.toInt = a) (hy : y.toInt = b) (c : v = 0) : a = b := by
  subst hx hy; rw [(lg_cmp_eq x y).mp (e ▸ c)]
theorem lk_neq {v : Int32} {x y : Int64} {a b : Int} (e : v = lg_cmp x y) (hx : x.toInt = a) (hy : y.toInt = b) (c : ¬ v = 0) : ¬ (a = b) := by
  subst hx hy; exact fun h => c (e.trans ((lg_cmp_eq x y).mpr (Int64.toInt_inj.mp h)))
theorem lk_ne {v : Int32} {x y : Int64} {a b : Int} (e : v = lg_cmp x y) (hx : x.toInt = a) (hy : y.toInt = b) (c : ¬ v = 0) : ¬ (a = b) := lk_neq e hx hy c
theorem lk_nne {v : Int32} {x y : Int64} {a b : Int} (e : v = lg_cmp x y) (hx : x.toInt = a) (hy : y.toInt = b) (c : v = 0) : a = b := lk_eq e hx hy c
theorem lk_lt {v : Int32} {x y : Int64} {a b : Int} (e : v = lg_cmp x y) (hx : x.toInt = a) (hy : y.toInt = b) (c : v < 0) : a < b := by
  subst hx hy; exact lc_lt e c
theorem lk_nlt {v : Int32} {x y : Int64} {a b : Int} (e : v = lg_cmp x y) (hx : x.toInt = a) (hy : y.toInt = b) (c : ¬ v < 0) : ¬ (a < b) := by
  subst hx hy; exact lc_nlt e c
theorem lk_gt {v : Int32} {x y : Int64} {a b : Int} (e : v = lg_cmp x y) (hx : x.toInt = a) (hy : y.toInt = b) (c : 0 < v) : a > b := by
  subst hx hy; exact lc_gt e c
theorem lk_ngt {v : Int32} {x y : Int64} {a b : Int} (e : v = lg_cmp x y) (hx : x.toInt = a) (hy : y.toInt = b) (c : ¬ 0 < v) : ¬ (a > b) := by
  subst hx hy; exact lc_ngt e c
theorem lk_ge {v : Int32} {x y : Int64} {a b : Int} (e : v = lg_cmp x y) (hx : x.toInt = a) (hy : y.toInt = b) (c : 0 ≤ v) : ¬ (a < b) := by
  subst hx hy
  have h := Int64.le_iff_toInt_le.mp ((lg_cmp_ge x y).mp (e ▸ c))
  omega
theorem lk_nge {v : Int32} {x y : Int64} {a b : Int} (e : v = lg_cmp x y) (hx : x.toInt = a) (hy : y.toInt = b) (c : ¬ 0 ≤ v) : a < b := by
  subst hx hy
  have h : ¬ (y ≤ x) := fun q => c (e ▸ (lg_cmp_ge x y).mpr q)
  have h2 : ¬ (y.toInt ≤ x.toInt) := fun q => h (Int64.le_iff_toInt_le.mpr q)
  omega
theorem lk_le {v : Int32} {x y : Int64} {a b : Int} (e : v = lg_cmp x y) (hx : x.toInt = a) (hy : y.toInt = b) (c : v ≤ 0) : ¬ (a > b) := by
  subst hx hy
  have h := Int64.le_iff_toInt_le.mp ((lg_cmp_le x y).mp (e ▸ c))
  omega
theorem lk_nle {v : Int32} {x y : Int64} {a b : Int} (e : v = lg_cmp x y) (hx : x.toInt = a) (hy : y.toInt = b) (c : ¬ v ≤ 0) : a > b := by
  subst hx hy
  have h : ¬ (x ≤ y) := fun q => c (e ▸ (lg_cmp_le x y).mpr q)
  have h2 : ¬ (x.toInt ≤ y.toInt) := fun q => h (Int64.le_iff_toInt_le.mpr q)
  omega
/-- how many of the first n are no gaps -/
def PL (f : Nat → Int32) : Nat → Int
  | 0 => 0
  | n + 1 => PL f n + (if (f n).toInt = 2 then 0 else 1)
theorem PL_s {f : Nat → Int32} {t t' : Int32} (h0 : 0 ≤ t.toInt) (h1 : t'.toInt = t.toInt + 1) : ((f t.toNatClampNeg).toInt = 2 → PL f (t'.toInt).toNat = PL f (t.toInt).toNat) ∧ (¬ (f t.toNatClampNeg).toInt = 2 → PL f (t'.toInt).toNat = PL f (t.toInt).toNat + 1) := by
  have e : (t'.toInt).toNat = (t.toInt).toNat + 1 := by omega
  have e2 : t.toNatClampNeg = (t.toInt).toNat := rfl
  rw [e, e2]
  refine ⟨fun h => ?_, fun h => ?_⟩
  · show PL f (t.toInt).toNat + (if (f (t.toInt).toNat).toInt = 2 then 0 else 1) = _
    rw [if_pos h]; omega
  · show PL f (t.toInt).toNat + (if (f (t.toInt).toNat).toInt = 2 then 0 else 1) = _
    rw [if_neg h]
theorem PL_e {f : Nat → Int32} {a t u : Int} (h : a = PL f t.toNat) (e : t = u) : a = PL f u.toNat := by rw [← e]; exact h
theorem ixs_0_2 {x : Int32} (h0 : 0 ≤ x.toInt) (h1 : x.toInt < 2) : x = 0 ∨ x = 1 := by
  have h : x.toInt = 0 ∨ x.toInt = 1 := by omega
  rcases h with h | h
  · exact Or.inl (i32_eq 0 h (by decide))
  · exact Or.inr ((i32_eq 1 h (by decide)))
theorem ixs_0_3 {x : Int32} (h0 : 0 ≤ x.toInt) (h1 : x.toInt < 3) : x = 0 ∨ x = 1 ∨ x = 2 := by
  have h : x.toInt = 0 ∨ x.toInt = 1 ∨ x.toInt = 2 := by omega
  rcases h with h | h | h
  · exact Or.inl (i32_eq 0 h (by decide))
  · exact Or.inr (Or.inl (i32_eq 1 h (by decide)))
  · exact Or.inr (Or.inr ((i32_eq 2 h (by decide))))
theorem ixs_0_4 {x : Int32} (h0 : 0 ≤ x.toInt) (h1 : x.toInt < 4) : x = 0 ∨ x = 1 ∨ x = 2 ∨ x = 3 := by
  have h : x.toInt = 0 ∨ x.toInt = 1 ∨ x.toInt = 2 ∨ x.toInt = 3 := by omega
  rcases h with h | h | h | h
  · exact Or.inl (i32_eq 0 h (by decide))
  · exact Or.inr (Or.inl (i32_eq 1 h (by decide)))
  · exact Or.inr (Or.inr (Or.inl (i32_eq 2 h (by decide))))
  · exact Or.inr (Or.inr (Or.inr ((i32_eq 3 h (by decide)))))
theorem ixs_0_12 {x : Int32} (h0 : 0 ≤ x.toInt) (h1 : x.toInt < 12) : x = 0 ∨ x = 1 ∨ x = 2 ∨ x = 3 ∨ x = 4 ∨ x = 5 ∨ x = 6 ∨ x = 7 ∨ x = 8 ∨ x = 9 ∨ x = 10 ∨ x = 11 := by
  have h : x.toInt = 0 ∨ x.toInt = 1 ∨ x.toInt = 2 ∨ x.toInt = 3 ∨ x.toInt = 4 ∨ x.toInt = 5 ∨ x.toInt = 6 ∨ x.toInt = 7 ∨ x.toInt = 8 ∨ x.toInt = 9 ∨ x.toInt = 10 ∨ x.toInt = 11 := by omega
  rcases h with h | h | h | h | h | h | h | h | h | h | h | h
  · exact Or.inl (i32_eq 0 h (by decide))
  · exact Or.inr (Or.inl (i32_eq 1 h (by decide)))
  · exact Or.inr (Or.inr (Or.inl (i32_eq 2 h (by decide))))
  · exact Or.inr (Or.inr (Or.inr (Or.inl (i32_eq 3 h (by decide)))))
  · exact Or.inr (Or.inr (Or.inr (Or.inr (Or.inl (i32_eq 4 h (by decide))))))
  · exact Or.inr (Or.inr (Or.inr (Or.inr (Or.inr (Or.inl (i32_eq 5 h (by decide)))))))
  · exact Or.inr (Or.inr (Or.inr (Or.inr (Or.inr (Or.inr (Or.inl (i32_eq 6 h (by decide))))))))
  · exact Or.inr (Or.inr (Or.inr (Or.inr (Or.inr (Or.inr (Or.inr (Or.inl (i32_eq 7 h (by decide)))))))))
  · exact Or.inr (Or.inr (Or.inr (Or.inr (Or.inr (Or.inr (Or.inr (Or.inr (Or.inl (i32_eq 8 h (by decide))))))))))
  · exact Or.inr (Or.inr (Or.inr (Or.inr (Or.inr (Or.inr (Or.inr (Or.inr (Or.inr (Or.inl (i32_eq 9 h (by decide)))))))))))
  · exact Or.inr (Or.inr (Or.inr (Or.inr (Or.inr (Or.inr (Or.inr (Or.inr (Or.inr (Or.inr (Or.inl (i32_eq 10 h (by decide))))))))))))
  · exact Or.inr (Or.inr (Or.inr (Or.inr (Or.inr (Or.inr (Or.inr (Or.inr (Or.inr (Or.inr (Or.inr ((i32_eq 11 h (by decide)))))))))))))
theorem ixs_1_2 {x : Int32} (h0 : 1 ≤ x.toInt) (h1 : x.toInt < 3) : x = 1 ∨ x = 2 := by
  have h : x.toInt = 1 ∨ x.toInt = 2 := by omega
  rcases h with h | h
  · exact Or.inl (i32_eq 1 h (by decide))
  · exact Or.inr ((i32_eq 2 h (by decide)))
theorem ixs_1_11 {x : Int32} (h0 : 1 ≤ x.toInt) (h1 : x.toInt < 12) : x = 1 ∨ x = 2 ∨ x = 3 ∨ x = 4 ∨ x = 5 ∨ x = 6 ∨ x = 7 ∨ x = 8 ∨ x = 9 ∨ x = 10 ∨ x = 11 := by
  have h : x.toInt = 1 ∨ x.toInt = 2 ∨ x.toInt = 3 ∨ x.toInt = 4 ∨ x.toInt = 5 ∨ x.toInt = 6 ∨ x.toInt = 7 ∨ x.toInt = 8 ∨ x.toInt = 9 ∨ x.toInt = 10 ∨ x.toInt = 11 := by omega
  rcases h with h | h | h | h | h | h | h | h | h | h | h
  · exact Or.inl (i32_eq 1 h (by decide))
  · exact Or.inr (Or.inl (i32_eq 2 h (by decide)))
  · exact Or.inr (Or.inr (Or.inl (i32_eq 3 h (by decide))))
  · exact Or.inr (Or.inr (Or.inr (Or.inl (i32_eq 4 h (by decide)))))
  · exact Or.inr (Or.inr (Or.inr (Or.inr (Or.inl (i32_eq 5 h (by decide))))))
  · exact Or.inr (Or.inr (Or.inr (Or.inr (Or.inr (Or.inl (i32_eq 6 h (by decide)))))))
  · exact Or.inr (Or.inr (Or.inr (Or.inr (Or.inr (Or.inr (Or.inl (i32_eq 7 h (by decide))))))))
  · exact Or.inr (Or.inr (Or.inr (Or.inr (Or.inr (Or.inr (Or.inr (Or.inl (i32_eq 8 h (by decide)))))))))
  · exact Or.inr (Or.inr (Or.inr (Or.inr (Or.inr (Or.inr (Or.inr (Or.inr (Or.inl (i32_eq 9 h (by decide))))))))))
  · exact Or.inr (Or.inr (Or.inr (Or.inr (Or.inr (Or.inr (Or.inr (Or.inr (Or.inr (Or.inl (i32_eq 10 h (by decide)))))))))))
  · exact Or.inr (Or.inr (Or.inr (Or.inr (Or.inr (Or.inr (Or.inr (Or.inr (Or.inr (Or.inr ((i32_eq 11 h (by decide))))))))))))
section CJ2
variable {p : Program} {l : Launch} {e : Env} {R : Room} {s : State} {m : MethodId} {args : Array Value} {below : List Frame} {meth : Method} {c : Code} {H : Heap} {locs : List Loc} {cells slots mc ms : Nat} {Q : State → Prop} {pc : Nat} {ls : Array Slot} {rest st0 : List Value} {A : Nat → Prop} {H0 : Heap} {dC : Nat → ClassId} {dI : Nat → Nat → Nat} {cy : Nat → ClassId} {wc wr ws : va_W} {a : Array Value}
theorem cj_r {Sg : Type} {post : Sg → Prop} {w1 : Sg → va_W} {ra : Nat} (hr : va_Run p l e R s m args below meth c H locs cells slots mc ms (F0 m pc ls st0) rest (va_Qr post (fun u x t => x = ra ∧ POST dC dI cy (va_A wc H.size) (w1 u) t) (va_A wc H.size) a) (va_A wc H.size)) (hP : va_P (dC, dI) vwCl ws H) (hD : va_D A ws) (hS : va_S A H0 H locs) (hA : ∀ q, H0.size ≤ q → A q) (isC isR : List Nat) (hC : isC.map (fun i => ws[i]?) = wc.map some) (hR : isR.map (fun i => ws[i]?) = wr.map some) (hn : va_nd isR = true) (hdis : ∀ i ∈ isR, i ∉ isC)
    (kk : ∀ (u : Sg) (H1 : Heap) (locs1 : List Loc), post u → va_P (dC, dI) vwCl (wr ++ w1 u) H1 → va_D A (wr ++ w1 u) → va_S A H0 H1 locs1 → W p l e R s m args below meth c H1 locs1 (cells + mc) (slots + ms) Q (F0 m (pc + 3) ls (.ref ra :: rest))) : W p l e R s m args below meth c H locs cells slots Q (F0 m pc ls st0) := by
  have hFc := va_free (wc := wc) hD hS hA isC hC
  refine va_callr hr hS (fun q _ h => hFc q h) hFc (fun u x t H1 locs1 ht hvm hw hB hz1 hk1 hS1 => ?_)
  obtain ⟨rfl, hP1, hK1, hD1⟩ := hB
  rw [ht] at hP1
  obtain ⟨hP2, hD2⟩ := va_join hP hD isC isR hC hR hn hdis hk1 hFc hP1 hD1
  exact kk u H1 locs1 hw hP2 hD2 hS1
end CJ2
