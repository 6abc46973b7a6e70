/-! bits of a number -/
def GB (b : Int32) (i : Nat) : Bool := b.toBitVec.getLsbD i
theorem gb_or {x y : Int32} {i : Nat} : GB (x ||| y) i = (GB x i || GB y i) := by
  show (x ||| y).toBitVec.getLsbD i = _
  rw [Int32.toBitVec_or, BitVec.getLsbD_or]; rfl
theorem gb_and {x y : Int32} {i : Nat} : GB (x &&& y) i = (GB x i && GB y i) := by
  show (x &&& y).toBitVec.getLsbD i = _
  rw [Int32.toBitVec_and, BitVec.getLsbD_and]; rfl
theorem gb_p {b : Int32} {k i : Nat} (hb : b.toBitVec.toNat = 2 ^ k) (h : GB b i = true) : i = k := by
  have h2 : b.toBitVec.toNat.testBit i = true := h
  rw [hb, Nat.testBit_two_pow] at h2
  exact (of_decide_eq_true h2).symm
theorem ixs_0_8 {x : Int32} (h0 : 0 ≤ x.toInt) (h1 : x.toInt < 8) : x = 0 ∨ x = 1 ∨ x = 2 ∨ x = 3 ∨ x = 4 ∨ x = 5 ∨ x = 6 ∨ x = 7 := by
  have h : x.toInt = 0 ∨ x.toInt = 1 ∨ x.toInt = 2 ∨ x.toInt = 3 ∨ x.toInt = 4 ∨ x.toInt = 5 ∨ x.toInt = 6 ∨ x.toInt = 7 := by omega
  rcases h with h | h | h | h | h | h | h | h
  · exact Or.inl (i32_eq 0 h (by decide))
  · exact Or.inr (Or.inl (i32_eq 1 h (by decide)))
  · exact Or.inr (Or.inr (Or.inl (i32_eq 2 h (by decide))))
  · exact Or.inr (Or.inr (Or.inr (Or.inl (i32_eq 3 h (by decide)))))
  · exact Or.inr (Or.inr (Or.inr (Or.inr (Or.inl (i32_eq 4 h (by decide))))))
  · exact Or.inr (Or.inr (Or.inr (Or.inr (Or.inr (Or.inl (i32_eq 5 h (by decide)))))))
  · exact Or.inr (Or.inr (Or.inr (Or.inr (Or.inr (Or.inr (Or.inl (i32_eq 6 h (by decide))))))))
  · exact Or.inr (Or.inr (Or.inr (Or.inr (Or.inr (Or.inr (Or.inr (i32_eq 7 h (by decide))))))))
theorem gb_sh {d : Int32} (h0 : 0 ≤ d.toInt) (h1 : d.toInt < 8) {i : Nat} (h : GB ((1 : Int32) <<< (d &&& 31)) i = true) : (i : Int) = d.toInt := by
  rcases ixs_0_8 h0 h1 with e | e | e | e | e | e | e | e <;> subst e
  · have q := gb_p (k := 0) (by decide) h
    subst q; decide
  · have q := gb_p (k := 1) (by decide) h
    subst q; decide
  · have q := gb_p (k := 2) (by decide) h
    subst q; decide
  · have q := gb_p (k := 3) (by decide) h
    subst q; decide
  · have q := gb_p (k := 4) (by decide) h
    subst q; decide
  · have q := gb_p (k := 5) (by decide) h
    subst q; decide
  · have q := gb_p (k := 6) (by decide) h
    subst q; decide
  · have q := gb_p (k := 7) (by decide) h
    subst q; decide
theorem gb_srk {b s : Int32} {k : Nat} (hs : (s.toBitVec.smod 32).toNat = k) (hk : k < 32) (h : GB (b >>> s) 0 = true) : GB b k = true := by
  have e : (b >>> s).toBitVec = b.toBitVec.sshiftRight ((s.toBitVec.smod 32).toNat) := rfl
  have h2 : (b >>> s).toBitVec.getLsbD 0 = true := h
  rw [e, hs, BitVec.getLsbD_sshiftRight] at h2
  have h3 : ¬ (32 ≤ 0) := by decide
  have h4 : k + 0 < 32 := by omega
  show b.toBitVec.getLsbD k = true
  simpa [h3, h4, hk] using h2
theorem gb_sr {b d : Int32} (h0 : 0 ≤ d.toInt) (h1 : d.toInt < 8) (h : ((b >>> (d &&& 31)) &&& 1).toInt = 1) : ∃ k : Nat, (k : Int) = d.toInt ∧ k < 8 ∧ GB b k = true := by
  have e : (b >>> (d &&& 31)) &&& 1 = 1 := i32_eq 1 h (by decide)
  have g : GB ((b >>> (d &&& 31)) &&& 1) 0 = true := by rw [e]; decide
  rw [gb_and] at g
  have g2 : GB (b >>> (d &&& 31)) 0 = true := by
    cases q : GB (b >>> (d &&& 31)) 0 with
    | true => rfl
    | false => rw [q] at g; simp at g
  rcases ixs_0_8 h0 h1 with e | e | e | e | e | e | e | e <;> subst e
  · exact ⟨0, by decide, by decide, gb_srk (by decide) (by decide) g2⟩
  · exact ⟨1, by decide, by decide, gb_srk (by decide) (by decide) g2⟩
  · exact ⟨2, by decide, by decide, gb_srk (by decide) (by decide) g2⟩
  · exact ⟨3, by decide, by decide, gb_srk (by decide) (by decide) g2⟩
  · exact ⟨4, by decide, by decide, gb_srk (by decide) (by decide) g2⟩
  · exact ⟨5, by decide, by decide, gb_srk (by decide) (by decide) g2⟩
  · exact ⟨6, by decide, by decide, gb_srk (by decide) (by decide) g2⟩
  · exact ⟨7, by decide, by decide, gb_srk (by decide) (by decide) g2⟩
theorem gb_le {b : Int32} (h : ∀ i : Nat, GB b i = true → i < 8) : 0 ≤ b.toInt ∧ b.toInt ≤ 255 := by
  have q : b.toBitVec.toNat < 2 ^ 8 := Nat.lt_pow_two_of_testBit _ (fun i hi => by
    cases w : b.toBitVec.toNat.testBit i with
    | false => rfl
    | true => exact absurd (h i w) (by omega))
  have e := BitVec.toInt_eq_toNat_cond b.toBitVec
  have e2 : b.toInt = b.toBitVec.toInt := rfl
  have e3 : (2 : Nat) ^ 8 = 256 := by decide
  rw [← e2, if_pos (by omega)] at e
  omega
/-- these bits are of dates of this candle -/
def BQ (z : Nat → Int32) (c : Int) (b : Int32) : Prop := ∀ i : Nat, GB b i = true → i < 8 ∧ zA z (278 + 6 * (i : Int)) = c
theorem BQ.z {z : Nat → Int32} {c : Int} : BQ z c 0 := fun i h => by
  have h2 : (0 : Int32).toBitVec.toNat.testBit i = true := h
  rw [show (0 : Int32).toBitVec.toNat = 0 by decide, Nat.zero_testBit] at h2
  exact absurd h2 (by decide)
theorem BQ.le {z : Nat → Int32} {c : Int} {b : Int32} (h : BQ z c b) : 0 ≤ b.toInt ∧ b.toInt ≤ 255 := gb_le (fun i hi => (h i hi).1)
theorem BQ.o {z : Nat → Int32} {c : Int} {b d v w : Int32} (h : BQ z c b) (h0 : 0 ≤ d.toInt) (h1 : d.toInt < 8) (hc : zA z (278 + 6 * d.toInt) = c) (e : v = (1 : Int32) <<< (d &&& 31)) (e2 : w = b ||| v) : BQ z c w := fun i hi => by
  rw [e2, gb_or, Bool.or_eq_true] at hi
  rcases hi with hi | hi
  · exact h i hi
  · rw [e] at hi
    have q := gb_sh h0 h1 hi
    exact ⟨by omega, by rw [q]; exact hc⟩
theorem BQ.o0 {z : Nat → Int32} {c : Int} {b w : Int32} (h : BQ z c b) (e2 : w = b ||| 0) : BQ z c w := fun i hi => by
  rw [e2, gb_or, Bool.or_eq_true] at hi
  rcases hi with hi | hi
  · exact h i hi
  · exact BQ.z i hi
theorem BQ.a {z : Nat → Int32} {c : Int} {b v w : Int32} (h : BQ z c b) (e : w = b &&& v) : BQ z c w := fun i hi => by
  rw [e, gb_and, Bool.and_eq_true] at hi
  exact h i hi.1
theorem BQ.at {z : Nat → Int32} {c : Int} {b d : Int32} (h : BQ z c b) (h0 : 0 ≤ d.toInt) (h1 : d.toInt < 8) (hb : ((b >>> (d &&& 31)) &&& 1).toInt = 1) : zA z (278 + 6 * d.toInt) = c := by
  obtain ⟨k, k0, k1, k2⟩ := gb_sr h0 h1 hb
  rw [← k0]; exact (h k k2).2
/-! places of a candle -/
def KF (z : Nat → Int32) (c : Int) : Nat → Int32 := fun q => z (158 + 12 * c + (q : Int)).toNat
def PLZ (z : Nat → Int32) (c : Int) : Int := PL (KF z c) (zA z (5 + c)).toNat
theorem kf_at {z : Nat → Int32} {c : Int} {t : Int32} (h0 : 0 ≤ t.toInt) : (KF z c t.toNatClampNeg).toInt = zA z (158 + 12 * c + t.toInt) := by
  have e : ((t.toNatClampNeg : Nat) : Int) = t.toInt := by
    have e2 : t.toNatClampNeg = t.toInt.toNat := rfl
    omega
  show (z (158 + 12 * c + ((t.toNatClampNeg : Nat) : Int)).toNat).toInt = _
  rw [e]; rfl
theorem PLK.s {z : Nat → Int32} {c a k : Int} {t t' : Int32} (h : a = PL (KF z c) (t.toInt).toNat) (h0 : 0 ≤ t.toInt) (h1 : t'.toInt = t.toInt + 1) (hk : k = zA z (158 + 12 * c + t.toInt)) : (k = 2 → a = PL (KF z c) (t'.toInt).toNat) ∧ (¬ k = 2 → a + 1 = PL (KF z c) (t'.toInt).toNat) := by
  have q := PL_s (f := KF z c) h0 h1
  rw [kf_at h0, ← hk] at q
  exact ⟨fun e => by rw [q.1 e]; exact h, fun e => by rw [q.2 e, ← h]⟩
def PX (z pt : Nat → Int32) (c n T : Int) : Prop := ∀ t : Int, 0 ≤ t → t < T → ¬ zA z (158 + 12 * c + t) = 2 → ∃ q : Int, 0 ≤ q ∧ q < n ∧ zA pt q = t
def PO (z pt : Nat → Int32) (c n : Int) : Prop := PX z pt c n (zA z (5 + c))
theorem PX.z {z pt : Nat → Int32} {c n T : Int} (h : T = 0) : PX z pt c n T := fun t t0 t1 => by omega
theorem PX.k {z pt : Nat → Int32} {c n T T' : Int} (h : PX z pt c n T) (hk : zA z (158 + 12 * c + T) = 2) (hT : T' = T + 1) : PX z pt c n T' := fun t t0 t1 tk => by
  by_cases e : t = T
  · rw [e] at tk; exact absurd hk tk
  · exact h t t0 (by omega) tk
theorem PX.s {z pt : Nat → Int32} {c n n' T T' : Int} {i v : Int32} (h : PX z pt c n T) (h0 : 0 ≤ n) (hi : i.toInt = n) (hv : v.toInt = T) (hn : n' = n + 1) (hT : T' = T + 1) : PX z (upd pt i.toNatClampNeg v) c n' T' := fun t t0 t1 tk => by
  by_cases e : t = T
  · exact ⟨n, h0, by omega, by rw [zu_s hi.symm, hv, e]⟩
  · obtain ⟨q, q0, q1, q2⟩ := h t t0 (by omega) tk
    exact ⟨q, q0, by omega, by rw [zu_n (by omega) q0 (by omega)]; exact q2⟩
theorem PX.e {z pt : Nat → Int32} {c n n' T T' : Int} (h : PX z pt c n T) (e : T = T') (e2 : n = n') : PX z pt c n' T' := by rw [← e, ← e2]; exact h
theorem PO.at {z pt : Nat → Int32} {c n t : Int} (h : PO z pt c n) (h0 : 0 ≤ t) (h1 : t < zA z (5 + c)) (h2 : ¬ zA z (158 + 12 * c + t) = 2) : ∃ q : Int, 0 ≤ q ∧ q < n ∧ zA pt q = t := h t h0 h1 h2
theorem PO.d {z pt : Nat → Int32} {c n : Int} {b d : Int32} (hz : ZI z) (hb : BQ z c b) (h : PX z pt c n (zA z (5 + c))) (d0 : 0 ≤ d.toInt) (d1 : d.toInt < zA z 11) (hbit : ((b >>> (d &&& 31)) &&& 1).toInt = 1) : ∃ q : Int, 0 ≤ q ∧ q < n ∧ zA pt q = zA z (279 + 6 * d.toInt) := by
  have r := hz.1
  unfold ZR at r
  have e := hb.at d0 (by omega) hbit
  obtain ⟨-, ⟨b1, b2⟩, b3⟩ := hz.2.2.1 d.toInt d0 d1
  rw [e] at b2 b3
  exact h _ b1 b2 b3
theorem ZI.s5 {z : Nat → Int32} (h : ZI z) {c : Int} (hc : 0 ≤ c ∧ c ≤ 1) : 0 ≤ zA z (5 + c) ∧ zA z (5 + c) ≤ 12 := by
  have r := h.1
  unfold ZR at r
  rcases (show c = 0 ∨ c = 1 by omega) with e | e <;> subst e <;> simp only [Int.add_zero, Int.reduceAdd] <;> omega
theorem ZI.dc {z : Nat → Int32} (h : ZI z) {d : Int} (d0 : 0 ≤ d) (d1 : d < zA z 11) : 0 ≤ zA z (278 + 6 * d) ∧ zA z (278 + 6 * d) ≤ 1 := (h.2.2.1 d d0 d1).1
/-! a row but for one place -/
def FX (a f : Nat → Int32) (p : Int) : Prop := ∀ j : Int, 0 ≤ j → ¬ j = p → zA f j = zA a j
theorem FX.rf {a : Nat → Int32} {p : Int} : FX a a p := fun _ _ _ => rfl
theorem FX.up {a f : Nat → Int32} {p : Int} {i v : Int32} (h : FX a f p) (hi : i.toInt = p) (h0 : 0 ≤ p) : FX a (upd f i.toNatClampNeg v) p := fun j j0 hj => by
  rw [zu_n (by omega) j0 (by omega)]; exact h j j0 hj
theorem FX.e {a f : Nat → Int32} {p : Int} {i v : Int32} (h : FX a f p) (hi : i.toInt = p) (h0 : 0 ≤ p) (hv : v = a i.toNatClampNeg) : upd f i.toNatClampNeg v = a := funext fun k => by
  by_cases e : k = i.toNatClampNeg
  · rw [cw_s e, hv, e]
  · rw [cw_n e]
    have e2 : i.toNatClampNeg = i.toInt.toNat := rfl
    exact Int32.toInt_inj.mp (h (k : Int) (by omega) (by omega))
/-! the counting of ways, as the loops do it -/
def RB (M : Int) (mm lo hi nd : Nat → Int32) (p y r x : Int) : Int := if x - y < zA lo p then 0 else if zA hi p < x - y then 0 else if ((mm p.toNat >>> (Int32.ofInt x &&& 31)) &&& 1).toInt = 0 then 0 else if x - y = 0 then (if r < M then r + 1 else 0) else if zA nd p ≤ r then 1 else 0
theorem RB.le {M : Int} {mm lo hi nd : Nat → Int32} (hM : M ≤ 4) (p y r x : Int) : RB M mm lo hi nd p y r x ≤ 4 := by
  unfold RB
  repeat' split
  all_goals omega
def cI (p y r : Int) : Nat := (120 * p + 5 * y + r).toNat
def K4 (rb : Int → Int → Int → Int → Int) (p y r : Int) (many : Int64) : Nat → Int → (Nat → Int64) → (Nat → Int64)
  | 0, _, f => f
  | n + 1, x, f => if 0 < many.toInt then K4 rb p y r many n (x + 1) (if 0 < rb p y r x then vp_updL f (cI p x (rb p y r x)) (f (cI p x (rb p y r x)) + many) else f) else f
def K3 (rb : Int → Int → Int → Int → Int) (p y : Int) : Nat → Int → (Nat → Int64) → (Nat → Int64)
  | 0, _, f => f
  | n + 1, r, f => K3 rb p y n (r + 1) (K4 rb p y r (f (cI (p - 1) y r)) (24 - y).toNat y f)
def K2 (rb : Int → Int → Int → Int → Int) (p : Int) : Nat → Int → (Nat → Int64) → (Nat → Int64)
  | 0, _, f => f
  | n + 1, y, f => K2 rb p n (y + 1) (K3 rb p y 4 1 f)
def K1 (rb : Int → Int → Int → Int → Int) : Nat → Int → (Nat → Int64) → (Nat → Int64)
  | 0, _, f => f
  | n + 1, p, f => K1 rb n (p + 1) (K2 rb p 24 0 f)
def K0 (m0 : Int32) : Nat → Int → (Nat → Int64) → (Nat → Int64)
  | 0, _, f => f
  | n + 1, y, f => K0 m0 n (y + 1) (vp_updL f (cI 0 y 1) ((m0 >>> (Int32.ofInt y &&& 31)) &&& 1).toInt64)
def T2 (p y : Int) : Nat → Int → (Nat → Int64) → Int64 → Int64
  | 0, _, _, a => a
  | n + 1, r, f, a => T2 p y n (r + 1) f (a + f (cI p y r))
def T1 (p : Int) : Nat → Int → (Nat → Int64) → Int64 → Int64
  | 0, _, _, a => a
  | n + 1, y, f, a => T1 p n (y + 1) f (T2 p y 4 1 f a)
def W1 (P y : Int) (f : Nat → Int64) (a : Int64) : Int64 := if 0 < P then T1 (P - 1) (24 - y).toNat y f a else a
def W2 (P y r : Int) (f : Nat → Int64) (a : Int64) : Int64 := W1 P (y + 1) f (T2 (P - 1) y (5 - r).toNat r f a)
def V1 (rb : Int → Int → Int → Int → Int) (P p : Int) (f : Nat → Int64) : Int64 := W1 P 0 (K1 rb (P - p).toNat p f) 0
def V2 (rb : Int → Int → Int → Int → Int) (P p y : Int) (f : Nat → Int64) : Int64 := V1 rb P (p + 1) (K2 rb p (24 - y).toNat y f)
def V3 (rb : Int → Int → Int → Int → Int) (P p y r : Int) (f : Nat → Int64) : Int64 := V2 rb P p (y + 1) (K3 rb p y (5 - r).toNat r f)
def V4 (rb : Int → Int → Int → Int → Int) (P p y r : Int) (many : Int64) (x : Int) (f : Nat → Int64) : Int64 := V3 rb P p y (r + 1) (K4 rb p y r many (24 - x).toNat x f)
def V0 (rb : Int → Int → Int → Int → Int) (P : Int) (m0 : Int32) (y : Int) (f : Nat → Int64) : Int64 := if 0 < P then V1 rb P 1 (K0 m0 (24 - y).toNat y f) else 0
def clr (g : Nat → Int64) (n : Int) : Nat → Int64 := fun k => if (k : Int) < n then 0 else g k
def CFv (rb : Int → Int → Int → Int → Int) (P : Int) (m0 : Int32) (f : Nat → Int64) : Int64 := V0 rb P m0 0 f
theorem clr_z {f g : Nat → Int64} (h : f = g) : f = clr g ((0 : Int32).toInt) := by
  have e : (0 : Int32).toInt = 0 := by decide
  rw [h, e]
  funext k
  unfold clr
  rw [if_neg (by omega)]
theorem clr_s {f g : Nat → Int64} {n m : Int} {i : Int32} (h : f = clr g n) (h0 : 0 ≤ n) (hi : i.toInt = n) (hm : m = n + 1) : vp_updL f i.toNatClampNeg 0 = clr g m := by
  funext k
  have e : i.toNatClampNeg = i.toInt.toNat := rfl
  unfold vp_updL
  rw [h]
  unfold clr
  by_cases c : k = i.toNatClampNeg
  · rw [if_pos c, if_pos (by omega)]
  · rw [if_neg c]
    by_cases w : (k : Int) < n
    · rw [if_pos w, if_pos (by omega)]
    · rw [if_neg w, if_neg (by omega)]
section CV
variable {rb : Int → Int → Int → Int → Int} {P p y r x : Int} {m0 : Int32} {f g : Nat → Int64} {many w v a : Int64} {i : Int32} {R : Int64}
theorem V0.z {n : Int} (h : f = clr g n) (hn : n = 1440) : CFv rb P m0 (clr g 1440) = V0 rb P m0 ((0 : Int32).toInt) f := by
  have e : (0 : Int32).toInt = 0 := by decide
  rw [e, h, hn]; rfl
theorem V0.s {y' : Int} {s u t : Int32} (h : R = V0 rb P m0 y f) (hP : 0 < P) (h0 : 0 ≤ y) (h1 : y < 24) (hi : i.toInt = 5 * y + 1) (hs : s = m0 >>> (Int32.ofInt y &&& 31)) (hu : u = s &&& 1) (hv : v = u.toInt64) (hy : y' = y + 1) : R = V0 rb P m0 y' (vp_updL f i.toNatClampNeg v) := by
  rw [h, hy]
  unfold V0
  rw [if_pos hP, if_pos hP]
  have e : (24 - y).toNat = (24 - (y + 1)).toNat + 1 := by omega
  have e2 : cI 0 y 1 = i.toNatClampNeg := by
    show (120 * 0 + 5 * y + 1 : Int).toNat = i.toInt.toNat
    rw [hi]; congr 1; omega
  rw [e]
  show V1 rb P 1 (K0 m0 _ (y + 1) (vp_updL f (cI 0 y 1) ((m0 >>> (Int32.ofInt y &&& 31)) &&& 1).toInt64)) = _
  rw [e2, hv, hu, hs]
theorem V0.e (h : R = V0 rb P m0 y f) (hy : 24 ≤ y ∨ P ≤ 0) : R = V1 rb P ((1 : Int32).toInt) f := by
  have e : (1 : Int32).toInt = 1 := by decide
  rw [h, e]
  unfold V0
  by_cases hP : 0 < P
  · rw [if_pos hP, show (24 - y).toNat = 0 by omega]; rfl
  · rw [if_neg hP]
    unfold V1 W1
    rw [if_neg hP]
theorem V1.s (h : R = V1 rb P p f) (hp : p < P) : R = V2 rb P p ((0 : Int32).toInt) f := by
  have e : (0 : Int32).toInt = 0 := by decide
  rw [h, e]
  unfold V2 V1
  rw [show (P - p).toNat = (P - (p + 1)).toNat + 1 by omega]; rfl
theorem V1.e (h : R = V1 rb P p f) (hp : P ≤ p) (ha : a = 0) : R = W1 P ((0 : Int32).toInt) f a := by
  have e : (0 : Int32).toInt = 0 := by decide
  rw [h, e, ha]
  unfold V1
  rw [show (P - p).toNat = 0 by omega]; rfl
theorem V2.s (h : R = V2 rb P p y f) (hy : y < 24) : R = V3 rb P p y ((1 : Int32).toInt) f := by
  have e : (1 : Int32).toInt = 1 := by decide
  rw [h, e]
  unfold V3 V2
  rw [show (24 - y).toNat = (24 - (y + 1)).toNat + 1 by omega]; rfl
theorem V2.e {p' : Int} (h : R = V2 rb P p y f) (hy : 24 ≤ y) (hp : p' = p + 1) : R = V1 rb P p' f := by
  rw [h, hp]
  unfold V2
  rw [show (24 - y).toNat = 0 by omega]; rfl
theorem V3.s {x' : Int} (h : R = V3 rb P p y r f) (hr : r < 5) (hp : 0 ≤ 120 * (p - 1) + 5 * y + r) (hi : i.toInt = 120 * (p - 1) + 5 * y + r) (hm : many = f i.toNatClampNeg) (hx : x' = y) : R = V4 rb P p y r many x' f := by
  rw [h, hm, hx]
  unfold V4 V3
  have e2 : cI (p - 1) y r = i.toNatClampNeg := by
    show (120 * (p - 1) + 5 * y + r : Int).toNat = i.toInt.toNat
    rw [hi]
  rw [show (5 - r).toNat = (5 - (r + 1)).toNat + 1 by omega, ← e2]; rfl
theorem V3.e {y' : Int} (h : R = V3 rb P p y r f) (hr : 5 ≤ r) (hy : y' = y + 1) : R = V2 rb P p y' f := by
  rw [h, hy]
  unfold V3
  rw [show (5 - r).toNat = 0 by omega]; rfl
theorem V4.e {r' : Int} (h : R = V4 rb P p y r many x f) (hx : 24 ≤ x ∨ many.toInt ≤ 0) (hr : r' = r + 1) : R = V3 rb P p y r' f := by
  rw [h, hr]
  unfold V4
  rcases hx with e | e
  · rw [show (24 - x).toNat = 0 by omega]; rfl
  · cases (24 - x).toNat with
    | zero => rfl
    | succ n =>
      show V3 rb P p y (r + 1) (if 0 < many.toInt then _ else f) = _
      rw [if_neg (by omega)]
theorem V4.n {x' q : Int} (h : R = V4 rb P p y r many x f) (hx : x < 24) (hm : 0 < many.toInt) (hq : q = rb p y r x) (hn : ¬ 0 < q) (hx' : x' = x + 1) : R = V4 rb P p y r many x' f := by
  rw [h, hx']
  unfold V4
  rw [show (24 - x).toNat = (24 - (x + 1)).toNat + 1 by omega]
  show V3 rb P p y (r + 1) (if 0 < many.toInt then K4 rb p y r many _ (x + 1) (if 0 < rb p y r x then _ else f) else f) = _
  rw [if_pos hm, if_neg (by omega)]
theorem V4.s {x' q : Int} (h : R = V4 rb P p y r many x f) (hx : x < 24) (hm : 0 < many.toInt) (hq : q = rb p y r x) (hn : 0 < q) (hx' : x' = x + 1) (hi : i.toInt = 120 * p + 5 * x + q) (hw : w = f i.toNatClampNeg) (hv : v = w + many) : R = V4 rb P p y r many x' (vp_updL f i.toNatClampNeg v) := by
  rw [h, hx']
  unfold V4
  have e2 : cI p x (rb p y r x) = i.toNatClampNeg := by
    show (120 * p + 5 * x + rb p y r x : Int).toNat = i.toInt.toNat
    rw [hi, hq]
  rw [show (24 - x).toNat = (24 - (x + 1)).toNat + 1 by omega]
  show V3 rb P p y (r + 1) (if 0 < many.toInt then K4 rb p y r many _ (x + 1) (if 0 < rb p y r x then vp_updL f (cI p x (rb p y r x)) (f (cI p x (rb p y r x)) + many) else f) else f) = _
  rw [if_pos hm, if_pos (by omega), e2, hv, hw]
theorem W1.s (h : R = W1 P y f a) (hP : 0 < P) (hy : y < 24) : R = W2 P y ((1 : Int32).toInt) f a := by
  have e : (1 : Int32).toInt = 1 := by decide
  rw [h, e]
  unfold W2 W1
  rw [if_pos hP, if_pos hP, show (24 - y).toNat = (24 - (y + 1)).toNat + 1 by omega]; rfl
theorem W1.e (h : R = W1 P y f a) (hy : 24 ≤ y ∨ P ≤ 0) : R = a := by
  rw [h]
  unfold W1
  by_cases hP : 0 < P
  · rw [if_pos hP, show (24 - y).toNat = 0 by omega]; rfl
  · rw [if_neg hP]
theorem W2.e {y' : Int} (h : R = W2 P y r f a) (hr : 5 ≤ r) (hy : y' = y + 1) : R = W1 P y' f a := by
  rw [h, hy]
  unfold W2
  rw [show (5 - r).toNat = 0 by omega]; rfl
theorem W2.s {r' : Int} (h : R = W2 P y r f a) (hr : r < 5) (hr' : r' = r + 1) (hi : i.toInt = 120 * (P - 1) + 5 * y + r) (hw : w = f i.toNatClampNeg) (hv : v = a + w) : R = W2 P y r' f v := by
  rw [h, hr']
  unfold W2
  have e2 : cI (P - 1) y r = i.toNatClampNeg := by
    show (120 * (P - 1) + 5 * y + r : Int).toNat = i.toInt.toNat
    rw [hi]
  rw [show (5 - r).toNat = (5 - (r + 1)).toNat + 1 by omega]
  show W1 P (y + 1) f (T2 (P - 1) y _ (r + 1) f (a + f (cI (P - 1) y r))) = _
  rw [e2, ← hw, ← hv]
end CV
/-! rows that agree below 1440 give the same -/
def AG (f g : Nat → Int64) : Prop := ∀ k : Nat, k < 1440 → f k = g k
theorem AG.up {f g : Nat → Int64} {k : Nat} {v w : Int64} (h : AG f g) (e : v = w) : AG (vp_updL f k v) (vp_updL g k w) := fun j hj => by
  unfold vp_updL
  by_cases c : j = k
  · rw [if_pos c, if_pos c, e]
  · rw [if_neg c, if_neg c]; exact h j hj
theorem cI_lt {p y r : Int} (hp : 0 ≤ p ∧ p ≤ 11) (hy : 0 ≤ y ∧ y ≤ 23) (hr : 0 ≤ r ∧ r ≤ 4) : cI p y r < 1440 := by
  unfold cI
  omega
theorem K4.ag {rb : Int → Int → Int → Int → Int} (hb : ∀ p y r x, rb p y r x ≤ 4) {p y r : Int} {many : Int64} (hp : 0 ≤ p ∧ p ≤ 11) : ∀ (n : Nat) (x : Int) (f g : Nat → Int64), AG f g → 0 ≤ x → x + n ≤ 24 → AG (K4 rb p y r many n x f) (K4 rb p y r many n x g)
  | 0, _, _, _, h, _, _ => h
  | n + 1, x, f, g, h, h0, h1 => by
    show AG (if 0 < many.toInt then K4 rb p y r many n (x + 1) _ else f) (if 0 < many.toInt then K4 rb p y r many n (x + 1) _ else g)
    by_cases c : 0 < many.toInt
    · rw [if_pos c, if_pos c]
      refine K4.ag hb hp n (x + 1) _ _ ?_ (by omega) (by omega)
      by_cases d : 0 < rb p y r x
      · rw [if_pos d, if_pos d]
        exact h.up (by rw [h _ (cI_lt hp (by omega) ⟨by omega, hb p y r x⟩)])
      · rw [if_neg d, if_neg d]; exact h
    · rw [if_neg c, if_neg c]; exact h
theorem K3.ag {rb : Int → Int → Int → Int → Int} (hb : ∀ p y r x, rb p y r x ≤ 4) {p y : Int} (hp : 1 ≤ p ∧ p ≤ 11) (hy : 0 ≤ y ∧ y ≤ 23) : ∀ (n : Nat) (r : Int) (f g : Nat → Int64), AG f g → 0 ≤ r → r + n ≤ 5 → AG (K3 rb p y n r f) (K3 rb p y n r g)
  | 0, _, _, _, h, _, _ => h
  | n + 1, r, f, g, h, h0, h1 => by
    show AG (K3 rb p y n (r + 1) (K4 rb p y r (f (cI (p - 1) y r)) (24 - y).toNat y f)) (K3 rb p y n (r + 1) (K4 rb p y r (g (cI (p - 1) y r)) (24 - y).toNat y g))
    rw [h _ (cI_lt (p := p - 1) (by omega) hy ⟨h0, by omega⟩)]
    exact K3.ag hb hp hy n (r + 1) _ _ (K4.ag hb (by omega) _ _ _ _ h hy.1 (by omega)) (by omega) (by omega)
theorem K2.ag {rb : Int → Int → Int → Int → Int} (hb : ∀ p y r x, rb p y r x ≤ 4) {p : Int} (hp : 1 ≤ p ∧ p ≤ 11) : ∀ (n : Nat) (y : Int) (f g : Nat → Int64), AG f g → 0 ≤ y → y + n ≤ 24 → AG (K2 rb p n y f) (K2 rb p n y g)
  | 0, _, _, _, h, _, _ => h
  | n + 1, y, f, g, h, h0, h1 => K2.ag hb hp n (y + 1) _ _ (K3.ag hb hp (by omega) 4 1 _ _ h (by omega) (by omega)) (by omega) (by omega)
theorem K1.ag {rb : Int → Int → Int → Int → Int} (hb : ∀ p y r x, rb p y r x ≤ 4) : ∀ (n : Nat) (p : Int) (f g : Nat → Int64), AG f g → 1 ≤ p → p + n ≤ 12 → AG (K1 rb n p f) (K1 rb n p g)
  | 0, _, _, _, h, _, _ => h
  | n + 1, p, f, g, h, h0, h1 => K1.ag hb n (p + 1) _ _ (K2.ag hb (by omega) 24 0 _ _ h (by omega) (by omega)) (by omega) (by omega)
theorem K0.ag {m0 : Int32} : ∀ (n : Nat) (y : Int) (f g : Nat → Int64), AG f g → AG (K0 m0 n y f) (K0 m0 n y g)
  | 0, _, _, _, h => h
  | n + 1, y, f, g, h => K0.ag n (y + 1) _ _ (h.up rfl)
theorem T2.ag {p y : Int} (hp : 0 ≤ p ∧ p ≤ 11) (hy : 0 ≤ y ∧ y ≤ 23) : ∀ (n : Nat) (r : Int) (f g : Nat → Int64) (a : Int64), AG f g → 0 ≤ r → r + n ≤ 5 → T2 p y n r f a = T2 p y n r g a
  | 0, _, _, _, _, _, _, _ => rfl
  | n + 1, r, f, g, a, h, h0, h1 => by
    show T2 p y n (r + 1) f (a + f (cI p y r)) = T2 p y n (r + 1) g (a + g (cI p y r))
    rw [h _ (cI_lt hp hy ⟨h0, by omega⟩)]
    exact T2.ag hp hy n (r + 1) f g _ h (by omega) (by omega)
theorem T1.ag {p : Int} (hp : 0 ≤ p ∧ p ≤ 11) : ∀ (n : Nat) (y : Int) (f g : Nat → Int64) (a : Int64), AG f g → 0 ≤ y → y + n ≤ 24 → T1 p n y f a = T1 p n y g a
  | 0, _, _, _, _, _, _, _ => rfl
  | n + 1, y, f, g, a, h, h0, h1 => by
    show T1 p n (y + 1) f (T2 p y 4 1 f a) = T1 p n (y + 1) g (T2 p y 4 1 g a)
    rw [T2.ag hp (by omega) 4 1 f g a h (by omega) (by omega)]
    exact T1.ag hp n (y + 1) f g _ h (by omega) (by omega)
theorem CFv.ag {rb : Int → Int → Int → Int → Int} (hb : ∀ p y r x, rb p y r x ≤ 4) {P : Int} (hP : P ≤ 12) {m0 : Int32} {f g : Nat → Int64} (h : AG f g) : CFv rb P m0 f = CFv rb P m0 g := by
  unfold CFv V0
  by_cases c : 0 < P
  · rw [if_pos c, if_pos c]
    unfold V1 W1
    rw [if_pos c, if_pos c]
    exact T1.ag (by omega) _ _ _ _ _ (K1.ag hb _ _ _ _ (K0.ag _ _ _ _ h) (by omega) (by omega)) (by omega) (by omega)
  · rw [if_neg c, if_neg c]
def CT (zR : Nat → Nat → Nat) (I : Nat → Nat → Int32) (y : Nat) : Int64 := CFv (RB (I y 7).toInt (I (zR y 9)) (I (zR y 10)) (I (zR y 11)) (I (zR y 12))) (I y 6).toInt (I (zR y 9) 0) (fun _ => 0)
theorem CT.mk9 {zR : Nat → Nat → Nat} {I : Nat → Nat → Int32} {y : Nat} {g : Nat → Int64} {v : Int64} (h7 : (I y 7).toInt ≤ 4) (h6 : (I y 6).toInt ≤ 12) (h : CFv (RB (I y 7).toInt (I (zR y 9)) (I (zR y 10)) (I (zR y 11)) (I (zR y 12))) (I y 6).toInt (I (zR y 9) 0) (clr g 1440) = v) : v = CT zR I y := by
  rw [← h]
  refine CFv.ag (RB.le h7) h6 (fun k hk => ?_)
  unfold clr
  rw [if_pos (by omega)]
theorem CT.cg {zR : Nat → Nat → Nat} {I I' : Nat → Nat → Int32} {y : Nat} (h6 : I' y 6 = I y 6) (h7 : I' y 7 = I y 7) (h9 : I' (zR y 9) = I (zR y 9)) (h10 : I' (zR y 10) = I (zR y 10)) (h11 : I' (zR y 11) = I (zR y 11)) (h12 : I' (zR y 12) = I (zR y 12)) : CT zR I' y = CT zR I y := by
  unfold CT
  rw [h6, h7, h9, h10, h11, h12]
