/-! the reference's array z: what holds of it between calls -/
def zA (z : Nat → Int32) (i : Int) : Int := (z i.toNat).toInt
theorem zA_at {z : Nat → Int32} {i : Int32} : (z i.toNatClampNeg).toInt = zA z i.toInt := rfl
theorem zu_s {z : Nat → Int32} {i v : Int32} {j : Int} (h : j = i.toInt) : zA (upd z i.toNatClampNeg v) j = v.toInt := by
  show (upd z i.toNatClampNeg v j.toNat).toInt = _
  rw [cw_s (show j.toNat = i.toNatClampNeg by rw [h]; rfl)]
theorem zu_n {z : Nat → Int32} {i v : Int32} {j : Int} (h0 : 0 ≤ i.toInt) (hj : 0 ≤ j) (h : ¬ j = i.toInt) : zA (upd z i.toNatClampNeg v) j = zA z j := by
  show (upd z i.toNatClampNeg v j.toNat).toInt = _
  have e : i.toNatClampNeg = i.toInt.toNat := rfl
  rw [cw_n (show j.toNat ≠ i.toNatClampNeg by rw [e]; omega)]
  rfl
/-- a date that may stand: its candle, its thing -/
def DO (z : Nat → Int32) (d : Int) : Prop := (0 ≤ zA z (278 + 6 * d) ∧ zA z (278 + 6 * d) ≤ 1) ∧ (0 ≤ zA z (279 + 6 * d) ∧ zA z (279 + 6 * d) < zA z (5 + zA z (278 + 6 * d))) ∧ ¬ zA z (158 + 12 * zA z (278 + 6 * d) + zA z (279 + 6 * d)) = 2
/-- a claim that may stand: how many atoms, their goals -/
def CO (z : Nat → Int32) (k : Int) : Prop := (1 ≤ zA z (326 + 14 * k) ∧ zA z (326 + 14 * k) ≤ 2) ∧ (1 ≤ zA z (333 + 14 * k) ∧ zA z (333 + 14 * k) ≤ 12) ∧ (zA z (326 + 14 * k) = 2 → 1 ≤ zA z (339 + 14 * k) ∧ zA z (339 + 14 * k) ≤ 12)
def ZR (z : Nat → Int32) : Prop := (1 ≤ zA z 0 ∧ zA z 0 ≤ 5) ∧ (1 ≤ zA z 1 ∧ zA z 1 ≤ 9) ∧ (0 ≤ zA z 2 ∧ zA z 2 ≤ 6) ∧ (1 ≤ zA z 3 ∧ zA z 3 ≤ 4) ∧ (1 ≤ zA z 4 ∧ zA z 4 ≤ 4) ∧ (0 ≤ zA z 5 ∧ zA z 5 ≤ 12) ∧ (0 ≤ zA z 6 ∧ zA z 6 ≤ 12) ∧ (0 ≤ zA z 9 ∧ zA z 9 ≤ 6) ∧ (0 ≤ zA z 10 ∧ zA z 10 ≤ 6) ∧ (0 ≤ zA z 11 ∧ zA z 11 ≤ 8) ∧ (0 ≤ zA z 12 ∧ zA z 12 ≤ 4) ∧ (0 ≤ zA z 13 ∧ zA z 13 ≤ 5)
def ZL (z : Nat → Int32) : Prop := ∀ c : Int, 0 ≤ c → c < zA z 2 → 0 ≤ zA z (92 + 11 * c) ∧ zA z (92 + 11 * c) ≤ 3
def ZD (z : Nat → Int32) : Prop := ∀ d : Int, 0 ≤ d → d < zA z 11 → DO z d
def ZC (z : Nat → Int32) : Prop := ∀ k : Int, 0 ≤ k → k < zA z 12 → CO z k
def ZI (z : Nat → Int32) : Prop := ZR z ∧ ZL z ∧ ZD z ∧ ZC z
theorem zu {z : Nat → Int32} {i v : Int32} (h0 : 0 ≤ i.toInt) (j : Int) (hj : 0 ≤ j) : (j = i.toInt → zA (upd z i.toNatClampNeg v) j = v.toInt) ∧ (¬ j = i.toInt → zA (upd z i.toNatClampNeg v) j = zA z j) := ⟨fun h => zu_s h, fun h => zu_n h0 hj h⟩
theorem ZR.un {z : Nat → Int32} (h : ZR z) {i v : Int32} (h0 : 0 ≤ i.toInt) (n : ¬ i.toInt ≤ 6) (n2 : ¬ (9 ≤ i.toInt ∧ i.toInt ≤ 13)) : ZR (upd z i.toNatClampNeg v) := by
  unfold ZR
  rw [zu_n h0 (by omega) (by omega), zu_n h0 (by omega) (by omega), zu_n h0 (by omega) (by omega), zu_n h0 (by omega) (by omega), zu_n h0 (by omega) (by omega), zu_n h0 (by omega) (by omega), zu_n h0 (by omega) (by omega), zu_n h0 (by omega) (by omega), zu_n h0 (by omega) (by omega), zu_n h0 (by omega) (by omega), zu_n h0 (by omega) (by omega), zu_n h0 (by omega) (by omega)]
  exact h
/-- the range of a small cell -/
def RR (i v : Int) : Prop := (i = 0 → 1 ≤ v ∧ v ≤ 5) ∧ (i = 1 → 1 ≤ v ∧ v ≤ 9) ∧ (i = 2 → 0 ≤ v ∧ v ≤ 6) ∧ (i = 3 → 1 ≤ v ∧ v ≤ 4) ∧ (i = 4 → 1 ≤ v ∧ v ≤ 4) ∧ (i = 5 → 0 ≤ v ∧ v ≤ 12) ∧ (i = 6 → 0 ≤ v ∧ v ≤ 12) ∧ (i = 9 → 0 ≤ v ∧ v ≤ 6) ∧ (i = 10 → 0 ≤ v ∧ v ≤ 6) ∧ (i = 11 → 0 ≤ v ∧ v ≤ 8) ∧ (i = 12 → 0 ≤ v ∧ v ≤ 4) ∧ (i = 13 → 0 ≤ v ∧ v ≤ 5)
theorem ZR.set {z : Nat → Int32} (h : ZR z) {i v : Int32} (h0 : 0 ≤ i.toInt) (hv : RR i.toInt v.toInt) : ZR (upd z i.toNatClampNeg v) := by
  obtain ⟨a0, a1, a2, a3, a4, a5, a6, a9, a10, a11, a12, a13⟩ := h
  obtain ⟨b0, b1, b2, b3, b4, b5, b6, b9, b10, b11, b12, b13⟩ := hv
  have q := fun j hj => zu (z := z) (v := v) h0 j hj
  have q0 := q 0 (by omega); have q1 := q 1 (by omega); have q2 := q 2 (by omega); have q3 := q 3 (by omega); have q4 := q 4 (by omega); have q5 := q 5 (by omega); have q6 := q 6 (by omega)
  have q9 := q 9 (by omega); have q10 := q 10 (by omega); have q11 := q 11 (by omega); have q12 := q 12 (by omega); have q13 := q 13 (by omega)
  have key : ∀ (k lo hi : Int), (lo ≤ zA z k ∧ zA z k ≤ hi) → (i.toInt = k → lo ≤ v.toInt ∧ v.toInt ≤ hi) → ((k = i.toInt → zA (upd z i.toNatClampNeg v) k = v.toInt) ∧ (¬ k = i.toInt → zA (upd z i.toNatClampNeg v) k = zA z k)) → lo ≤ zA (upd z i.toNatClampNeg v) k ∧ zA (upd z i.toNatClampNeg v) k ≤ hi := by
    intro k lo hi x y w
    by_cases e : k = i.toInt
    · rw [w.1 e]; exact y e.symm
    · rw [w.2 e]; exact x
  exact ⟨key 0 _ _ a0 b0 q0, key 1 _ _ a1 b1 q1, key 2 _ _ a2 b2 q2, key 3 _ _ a3 b3 q3, key 4 _ _ a4 b4 q4, key 5 _ _ a5 b5 q5, key 6 _ _ a6 b6 q6, key 9 _ _ a9 b9 q9, key 10 _ _ a10 b10 q10, key 11 _ _ a11 b11 q11, key 12 _ _ a12 b12 q12, key 13 _ _ a13 b13 q13⟩
theorem ZL.un {z : Nat → Int32} (h : ZL z) {i v : Int32} (h0 : 0 ≤ i.toInt) (n2 : ¬ i.toInt = 2) (n : ∀ c : Int, 0 ≤ c → c < zA z 2 → ¬ 92 + 11 * c = i.toInt) : ZL (upd z i.toNatClampNeg v) := by
  intro c c0 c1
  rw [zu_n h0 (by omega) (by omega)] at c1
  rw [zu_n h0 (by omega) (n c c0 c1)]
  exact h c c0 c1
/-- a date's words read only its own two cells, its candle's size, its thing's kind -/
theorem DO.of {z y : Nat → Int32} {d : Int} (h : DO z d) (h1 : zA y (278 + 6 * d) = zA z (278 + 6 * d)) (h2 : zA y (279 + 6 * d) = zA z (279 + 6 * d)) (h3 : zA z (279 + 6 * d) < zA y (5 + zA z (278 + 6 * d))) (h4 : zA y (158 + 12 * zA z (278 + 6 * d) + zA z (279 + 6 * d)) = zA z (158 + 12 * zA z (278 + 6 * d) + zA z (279 + 6 * d))) : DO y d := by
  obtain ⟨a, b, c⟩ := h
  unfold DO
  rw [h1, h2, h4]
  exact ⟨a, ⟨b.1, h3⟩, c⟩
theorem DO.un {z : Nat → Int32} {d : Int} (h : DO z d) (hd : 0 ≤ d) {i v : Int32} (h0 : 0 ≤ i.toInt) (n5 : ¬ (5 ≤ i.toInt ∧ i.toInt ≤ 6)) (n1 : ¬ 278 + 6 * d = i.toInt) (n2 : ¬ 279 + 6 * d = i.toInt) (nk : ∀ c t : Int, 0 ≤ c → c ≤ 1 → 0 ≤ t → t < zA z (5 + c) → ¬ 158 + 12 * c + t = i.toInt) : DO (upd z i.toNatClampNeg v) d := by
  obtain ⟨⟨a1, a2⟩, ⟨b1, b2⟩, c⟩ := id h
  refine h.of (zu_n h0 (by omega) n1) (zu_n h0 (by omega) n2) ?_ (zu_n h0 (by omega) (nk _ _ a1 a2 b1 b2))
  rw [zu_n h0 (by omega) (by omega)]
  exact b2
theorem ZD.un {z : Nat → Int32} (h : ZD z) {i v : Int32} (h0 : 0 ≤ i.toInt) (n5 : ¬ (5 ≤ i.toInt ∧ i.toInt ≤ 6)) (n11 : ¬ i.toInt = 11) (n : ∀ d : Int, 0 ≤ d → d < zA z 11 → ¬ 278 + 6 * d = i.toInt ∧ ¬ 279 + 6 * d = i.toInt) (nk : ∀ c t : Int, 0 ≤ c → c ≤ 1 → 0 ≤ t → t < zA z (5 + c) → ¬ 158 + 12 * c + t = i.toInt) : ZD (upd z i.toNatClampNeg v) := by
  intro d d0 d1
  rw [zu_n h0 (by omega) (by omega)] at d1
  exact (h d d0 d1).un d0 h0 n5 (n d d0 d1).1 (n d d0 d1).2 nk
theorem CO.of {z y : Nat → Int32} {k : Int} (h : CO z k) (h1 : zA y (326 + 14 * k) = zA z (326 + 14 * k)) (h2 : zA y (333 + 14 * k) = zA z (333 + 14 * k)) (h3 : zA y (339 + 14 * k) = zA z (339 + 14 * k)) : CO y k := by
  unfold CO
  rw [h1, h2, h3]
  exact h
theorem ZC.un {z : Nat → Int32} (h : ZC z) {i v : Int32} (h0 : 0 ≤ i.toInt) (n12 : ¬ i.toInt = 12) (n : ∀ k : Int, 0 ≤ k → k < zA z 12 → ¬ 326 + 14 * k = i.toInt ∧ ¬ 333 + 14 * k = i.toInt ∧ ¬ 339 + 14 * k = i.toInt) : ZC (upd z i.toNatClampNeg v) := by
  intro k k0 k1
  rw [zu_n h0 (by omega) (by omega)] at k1
  obtain ⟨a, b, c⟩ := n k k0 k1
  exact (h k k0 k1).of (zu_n h0 (by omega) a) (zu_n h0 (by omega) b) (zu_n h0 (by omega) c)
/-- a store into cells that no word reads -/
theorem ZI.fr {z : Nat → Int32} (h : ZI z) {i v : Int32} (hi : (7 ≤ i.toInt ∧ i.toInt ≤ 8) ∨ (20 ≤ i.toInt ∧ i.toInt ≤ 91) ∨ (182 ≤ i.toInt ∧ i.toInt ≤ 277) ∨ (382 ≤ i.toInt ∧ i.toInt ≤ 391)) : ZI (upd z i.toNatClampNeg v) := by
  have r := h.1
  unfold ZR at r
  exact ⟨h.1.un (by omega) (by omega) (by omega), h.2.1.un (by omega) (by omega) (fun c _ _ => by omega), h.2.2.1.un (by omega) (by omega) (by omega) (fun d _ _ => by omega) (fun c t c0 c1 t0 t1 => by
    rcases (show c = 0 ∨ c = 1 by omega) with e | e <;> subst e <;> simp only [Int.add_zero, Int.reduceAdd] at t1 <;> omega), h.2.2.2.un (by omega) (by omega) (fun k _ _ => by omega)⟩
/-- why a date was thrown out -/
theorem ZI.th {z : Nat → Int32} (h : ZI z) {i v : Int32} {d : Int} (hd : 0 ≤ d ∧ d ≤ 7) (hi : i.toInt = 283 + 6 * d) : ZI (upd z i.toNatClampNeg v) := by
  have r := h.1
  unfold ZR at r
  exact ⟨h.1.un (by omega) (by omega) (by omega), h.2.1.un (by omega) (by omega) (fun c _ _ => by omega), h.2.2.1.un (by omega) (by omega) (by omega) (fun d _ _ => by omega) (fun c t c0 c1 t0 t1 => by
    rcases (show c = 0 ∨ c = 1 by omega) with e | e <;> subst e <;> simp only [Int.add_zero, Int.reduceAdd] at t1 <;> omega), h.2.2.2.un (by omega) (by omega) (fun k _ _ => by omega)⟩
/-- small cells that the words with 'for all' don't read -/
theorem ZI.sm {z : Nat → Int32} (h : ZI z) {i v : Int32} (hi : i.toInt = 0 ∨ i.toInt = 1 ∨ i.toInt = 3 ∨ i.toInt = 4 ∨ i.toInt = 9 ∨ i.toInt = 10 ∨ i.toInt = 13) (hv : RR i.toInt v.toInt) : ZI (upd z i.toNatClampNeg v) := by
  exact ⟨h.1.set (by omega) hv, h.2.1.un (by omega) (by omega) (fun c _ _ => by omega), h.2.2.1.un (by omega) (by omega) (by omega) (fun d _ _ => by omega) (fun c t c0 c1 t0 t1 => by omega), h.2.2.2.un (by omega) (by omega) (fun k _ _ => by omega)⟩
/-- a candle's size, where its dates' things stay below it -/
theorem ZI.sz {z : Nat → Int32} (h : ZI z) {i v : Int32} {c : Int} (hc : 0 ≤ c ∧ c ≤ 1) (hi : i.toInt = 5 + c) (hv : 0 ≤ v.toInt ∧ v.toInt ≤ 12) (hd : ∀ d : Int, 0 ≤ d → d < zA z 11 → zA z (278 + 6 * d) = c → zA z (279 + 6 * d) < v.toInt) : ZI (upd z i.toNatClampNeg v) := by
  refine ⟨h.1.set (by omega) (by unfold RR; omega), h.2.1.un (by omega) (by omega) (fun c _ _ => by omega), ?_, h.2.2.2.un (by omega) (by omega) (fun k _ _ => by omega)⟩
  intro d d0 d1
  rw [zu_n (by omega) (by omega) (by omega)] at d1
  have q := h.2.2.1 d d0 d1
  obtain ⟨⟨a1, a2⟩, ⟨b1, b2⟩, -⟩ := id q
  refine q.of (zu_n (by omega) (by omega) (by omega)) (zu_n (by omega) (by omega) (by omega)) ?_ (zu_n (by omega) (by omega) (by omega))
  by_cases e : zA z (278 + 6 * d) = c
  · rw [zu_s (by omega)]; exact hd d d0 d1 e
  · rw [zu_n (by omega) (by omega) (by omega)]; exact b2
/-- a kind, behind the candle's last thing -/
theorem ZI.kd {z : Nat → Int32} (h : ZI z) {i v : Int32} {c t : Int} (hc : 0 ≤ c ∧ c ≤ 1) (ht : 0 ≤ t ∧ t ≤ 11) (hi : i.toInt = 158 + 12 * c + t) (hs : zA z (5 + c) ≤ t) : ZI (upd z i.toNatClampNeg v) := by
  have r := h.1
  unfold ZR at r
  exact ⟨h.1.un (by omega) (by omega) (by omega), h.2.1.un (by omega) (by omega) (fun c _ _ => by omega), h.2.2.1.un (by omega) (by omega) (by omega) (fun d _ _ => by omega) (fun c' t' c0 c1 t0 t1 => by
    rcases (show c = 0 ∨ c = 1 by omega) with e | e <;> rcases (show c' = 0 ∨ c' = 1 by omega) with e' | e' <;> subst e <;> subst e' <;> simp only [Int.add_zero, Int.reduceAdd] at t1 hs <;> omega), h.2.2.2.un (by omega) (by omega) (fun k _ _ => by omega)⟩
/-- a date's cells, behind the last date -/
theorem ZI.dt {z : Nat → Int32} (h : ZI z) {i v : Int32} (hi : 278 + 6 * zA z 11 ≤ i.toInt ∧ i.toInt ≤ 325) : ZI (upd z i.toNatClampNeg v) := by
  have r := h.1
  unfold ZR at r
  exact ⟨h.1.un (by omega) (by omega) (by omega), h.2.1.un (by omega) (by omega) (fun c _ _ => by omega), h.2.2.1.un (by omega) (by omega) (by omega) (fun d _ _ => by omega) (fun c t c0 c1 t0 t1 => by
    rcases (show c = 0 ∨ c = 1 by omega) with e | e <;> subst e <;> simp only [Int.add_zero, Int.reduceAdd] at t1 <;> omega), h.2.2.2.un (by omega) (by omega) (fun k _ _ => by omega)⟩
/-- one date more -/
theorem ZI.d1 {z : Nat → Int32} (h : ZI z) {i v : Int32} (hi : i.toInt = 11) (hv : v.toInt = zA z 11 + 1) (h8 : zA z 11 < 8) (hd : DO z (zA z 11)) : ZI (upd z i.toNatClampNeg v) := by
  have r := h.1
  unfold ZR at r
  refine ⟨h.1.set (by omega) (by unfold RR; omega), h.2.1.un (by omega) (by omega) (fun c _ _ => by omega), ?_, h.2.2.2.un (by omega) (by omega) (fun k _ _ => by omega)⟩
  intro d d0 d1
  rw [zu_s hi.symm, hv] at d1
  have q : DO z d := by
    rcases (show d < zA z 11 ∨ d = zA z 11 by omega) with e | e
    · exact h.2.2.1 d d0 e
    · rw [e]; exact hd
  exact q.un d0 (by omega) (by omega) (by omega) (by omega) (fun c t c0 c1 t0 t1 => by omega)
/-- a claim's cells, behind the last claim -/
theorem ZI.cl {z : Nat → Int32} (h : ZI z) {i v : Int32} (hi : 326 + 14 * zA z 12 ≤ i.toInt ∧ i.toInt ≤ 381) : ZI (upd z i.toNatClampNeg v) := by
  have r := h.1
  unfold ZR at r
  exact ⟨h.1.un (by omega) (by omega) (by omega), h.2.1.un (by omega) (by omega) (fun c _ _ => by omega), h.2.2.1.un (by omega) (by omega) (by omega) (fun d _ _ => by omega) (fun c t c0 c1 t0 t1 => by
    rcases (show c = 0 ∨ c = 1 by omega) with e | e <;> subst e <;> simp only [Int.add_zero, Int.reduceAdd] at t1 <;> omega), h.2.2.2.un (by omega) (by omega) (fun k _ _ => by omega)⟩
/-- one claim more -/
theorem ZI.c1 {z : Nat → Int32} (h : ZI z) {i v : Int32} (hi : i.toInt = 12) (hv : v.toInt = zA z 12 + 1) (h4 : zA z 12 < 4) (hd : CO z (zA z 12)) : ZI (upd z i.toNatClampNeg v) := by
  have r := h.1
  unfold ZR at r
  refine ⟨h.1.set (by omega) (by unfold RR; omega), h.2.1.un (by omega) (by omega) (fun c _ _ => by omega), h.2.2.1.un (by omega) (by omega) (by omega) (fun d _ _ => by omega) (fun c t c0 c1 t0 t1 => by omega), ?_⟩
  intro d d0 d1
  rw [zu_s hi.symm, hv] at d1
  have q : CO z d := by
    rcases (show d < zA z 12 ∨ d = zA z 12 by omega) with e | e
    · exact h.2.2.2 d d0 e
    · rw [e]; exact hd
  exact q.of (zu_n (by omega) (by omega) (by omega)) (zu_n (by omega) (by omega) (by omega)) (zu_n (by omega) (by omega) (by omega))
theorem ZI.g0 {z : Nat → Int32} (h : ZI z) {i : Int32} (h0 : 0 ≤ i.toInt) (h1 : i.toInt ≤ 0) : 1 ≤ (z i.toNatClampNeg).toInt ∧ (z i.toNatClampNeg).toInt ≤ 5 := by
  rw [zA_at, show i.toInt = 0 by omega]; exact h.1.1
theorem ZI.g1 {z : Nat → Int32} (h : ZI z) {i : Int32} (h0 : 1 ≤ i.toInt) (h1 : i.toInt ≤ 1) : 1 ≤ (z i.toNatClampNeg).toInt ∧ (z i.toNatClampNeg).toInt ≤ 9 := by
  rw [zA_at, show i.toInt = 1 by omega]; exact h.1.2.1
theorem ZI.g2 {z : Nat → Int32} (h : ZI z) {i : Int32} (h0 : 2 ≤ i.toInt) (h1 : i.toInt ≤ 2) : 0 ≤ (z i.toNatClampNeg).toInt ∧ (z i.toNatClampNeg).toInt ≤ 6 := by
  rw [zA_at, show i.toInt = 2 by omega]; exact h.1.2.2.1
theorem ZI.g3 {z : Nat → Int32} (h : ZI z) {i : Int32} (h0 : 3 ≤ i.toInt) (h1 : i.toInt ≤ 4) : 1 ≤ (z i.toNatClampNeg).toInt ∧ (z i.toNatClampNeg).toInt ≤ 4 := by
  rw [zA_at]
  rcases (show i.toInt = 3 ∨ i.toInt = 4 by omega) with e | e <;> rw [e]
  · exact h.1.2.2.2.1
  · exact h.1.2.2.2.2.1
theorem ZI.g5 {z : Nat → Int32} (h : ZI z) {i : Int32} (h0 : 5 ≤ i.toInt) (h1 : i.toInt ≤ 6) : 0 ≤ (z i.toNatClampNeg).toInt ∧ (z i.toNatClampNeg).toInt ≤ 12 := by
  rw [zA_at]
  rcases (show i.toInt = 5 ∨ i.toInt = 6 by omega) with e | e <;> rw [e]
  · exact h.1.2.2.2.2.2.1
  · exact h.1.2.2.2.2.2.2.1
theorem ZI.g9 {z : Nat → Int32} (h : ZI z) {i : Int32} (h0 : 9 ≤ i.toInt) (h1 : i.toInt ≤ 10) : 0 ≤ (z i.toNatClampNeg).toInt ∧ (z i.toNatClampNeg).toInt ≤ 6 := by
  rw [zA_at]
  rcases (show i.toInt = 9 ∨ i.toInt = 10 by omega) with e | e <;> rw [e]
  · exact h.1.2.2.2.2.2.2.2.1
  · exact h.1.2.2.2.2.2.2.2.2.1
theorem ZI.g11 {z : Nat → Int32} (h : ZI z) {i : Int32} (h0 : 11 ≤ i.toInt) (h1 : i.toInt ≤ 11) : 0 ≤ (z i.toNatClampNeg).toInt ∧ (z i.toNatClampNeg).toInt ≤ 8 := by
  rw [zA_at, show i.toInt = 11 by omega]; exact h.1.2.2.2.2.2.2.2.2.2.1
theorem ZI.g12 {z : Nat → Int32} (h : ZI z) {i : Int32} (h0 : 12 ≤ i.toInt) (h1 : i.toInt ≤ 12) : 0 ≤ (z i.toNatClampNeg).toInt ∧ (z i.toNatClampNeg).toInt ≤ 4 := by
  rw [zA_at, show i.toInt = 12 by omega]; exact h.1.2.2.2.2.2.2.2.2.2.2.1
theorem ZI.g13 {z : Nat → Int32} (h : ZI z) {i : Int32} (h0 : 13 ≤ i.toInt) (h1 : i.toInt ≤ 13) : 0 ≤ (z i.toNatClampNeg).toInt ∧ (z i.toNatClampNeg).toInt ≤ 5 := by
  rw [zA_at, show i.toInt = 13 by omega]; exact h.1.2.2.2.2.2.2.2.2.2.2.2
/-! frames and copies of rows -/
def FRM (a f : Nat → Int32) (lo hi : Int) : Prop := ∀ j : Int, 0 ≤ j → (j < lo ∨ hi < j) → zA f j = zA a j
theorem FRM.rf {a : Nat → Int32} {lo hi : Int} : FRM a a lo hi := fun _ _ _ => rfl
theorem FRM.up {a f : Nat → Int32} {lo hi : Int} {i v : Int32} (h : FRM a f lo hi) (h9 : 0 ≤ i.toInt ∧ lo ≤ i.toInt ∧ i.toInt ≤ hi) : FRM a (upd f i.toNatClampNeg v) lo hi := fun j j0 hj => by
  rw [zu_n h9.1 j0 (by omega)]; exact h j j0 hj
theorem FRM.tr {a f g : Nat → Int32} {lo hi lo' hi' : Int} (h : FRM a f lo hi) (h' : FRM f g lo' hi') (hs : lo ≤ lo' ∧ hi' ≤ hi) : FRM a g lo hi := fun j j0 hj => (h' j j0 (by omega)).trans (h j j0 hj)
def CPY (d0 s d : Nat → Int32) (b k : Int) : Prop := (∀ j : Int, 0 ≤ j → (j < b ∨ b + k ≤ j) → zA d j = zA d0 j) ∧ (∀ j : Int, 0 ≤ j → j < k → zA d (b + j) = zA s j)
theorem CPY.z {d s : Nat → Int32} {b : Int} : CPY d s d b ((0 : Int32).toInt) := ⟨fun _ _ _ => rfl, fun j j0 hj => by
  have e : (0 : Int32).toInt = 0 := by decide
  omega⟩
theorem CPY.s {d0 s d : Nat → Int32} {b k k' : Int} {i v : Int32} (h : CPY d0 s d b k) (hb : 0 ≤ b) (hk : 0 ≤ k) (hi : i.toInt = b + k) (hv : v.toInt = zA s k) (hk' : k' = k + 1) : CPY d0 s (upd d i.toNatClampNeg v) b k' := by
  subst hk'
  refine ⟨fun j j0 hj => ?_, fun j j0 hj => ?_⟩
  · rw [zu_n (by omega) j0 (by omega)]; exact h.1 j j0 (by omega)
  · by_cases e : j = k
    · rw [zu_s (by omega), hv, e]
    · rw [zu_n (by omega) (by omega) (by omega)]; exact h.2 j j0 (by omega)
/-- ZI reads the 392 cells alone -/
theorem ZI.cg {z y : Nat → Int32} (h : ZI z) (e : ∀ j : Int, 0 ≤ j → j < 392 → zA y j = zA z j) : ZI y := by
  have r := h.1
  unfold ZR at r
  refine ⟨?_, fun c c0 c1 => ?_, fun d d0 d1 => ?_, fun k k0 k1 => ?_⟩
  · unfold ZR
    rw [e 0 (by omega) (by omega), e 1 (by omega) (by omega), e 2 (by omega) (by omega), e 3 (by omega) (by omega), e 4 (by omega) (by omega), e 5 (by omega) (by omega), e 6 (by omega) (by omega), e 9 (by omega) (by omega), e 10 (by omega) (by omega), e 11 (by omega) (by omega), e 12 (by omega) (by omega), e 13 (by omega) (by omega)]
    exact h.1
  · rw [e 2 (by omega) (by omega)] at c1
    rw [e _ (by omega) (by omega)]
    exact h.2.1 c c0 c1
  · rw [e 11 (by omega) (by omega)] at d1
    have q := h.2.2.1 d d0 d1
    obtain ⟨⟨a1, a2⟩, ⟨b1, b2⟩, -⟩ := id q
    have hs : zA z (5 + zA z (278 + 6 * d)) ≤ 12 := by
      rcases (show zA z (278 + 6 * d) = 0 ∨ zA z (278 + 6 * d) = 1 by omega) with w | w <;> rw [w] <;> simp only [Int.add_zero, Int.reduceAdd] <;> omega
    refine q.of (e _ (by omega) (by omega)) (e _ (by omega) (by omega)) ?_ (e _ (by omega) (by omega))
    rw [e _ (by omega) (by omega)]; exact b2
  · rw [e 12 (by omega) (by omega)] at k1
    exact (h.2.2.2 k k0 k1).of (e _ (by omega) (by omega)) (e _ (by omega) (by omega)) (e _ (by omega) (by omega))
theorem ZI.law {z0 z1 r : Nat → Int32} {i n : Int32} (h : ZI z0) (hc : CPY z0 r z1 92 66) (hn : 0 ≤ n.toInt ∧ n.toInt ≤ 6) (hl : ∀ c : Int, 0 ≤ c → c < n.toInt → 0 ≤ zA r (11 * c) ∧ zA r (11 * c) ≤ 3) (hi : i.toInt = 2) : ZI (upd z1 i.toNatClampNeg n) := by
  have r0 := h.1
  unfold ZR at r0
  have e : ∀ j : Int, 0 ≤ j → (j < 92 ∨ 158 ≤ j) → ¬ j = 2 → zA (upd z1 i.toNatClampNeg n) j = zA z0 j := fun j j0 hj h2 => by
    rw [zu_n (by omega) j0 (by omega)]; exact hc.1 j j0 (by omega)
  have e2 : zA (upd z1 i.toNatClampNeg n) 2 = n.toInt := zu_s hi.symm
  refine ⟨?_, fun c c0 c1 => ?_, fun d d0 d1 => ?_, fun k k0 k1 => ?_⟩
  · unfold ZR
    rw [e 0 (by omega) (by omega) (by omega), e 1 (by omega) (by omega) (by omega), e2, e 3 (by omega) (by omega) (by omega), e 4 (by omega) (by omega) (by omega), e 5 (by omega) (by omega) (by omega), e 6 (by omega) (by omega) (by omega), e 9 (by omega) (by omega) (by omega), e 10 (by omega) (by omega) (by omega), e 11 (by omega) (by omega) (by omega), e 12 (by omega) (by omega) (by omega), e 13 (by omega) (by omega) (by omega)]
    omega
  · rw [e2] at c1
    rw [zu_n (by omega) (by omega) (by omega), show (92 + 11 * c : Int) = 92 + (11 * c) by omega, hc.2 (11 * c) (by omega) (by omega)]
    exact hl c c0 c1
  · rw [e 11 (by omega) (by omega) (by omega)] at d1
    have q := h.2.2.1 d d0 d1
    obtain ⟨⟨a1, a2⟩, ⟨b1, b2⟩, -⟩ := id q
    refine q.of (e _ (by omega) (by omega) (by omega)) (e _ (by omega) (by omega) (by omega)) ?_ (e _ (by omega) (by omega) (by omega))
    rw [e _ (by omega) (by omega) (by omega)]; exact b2
  · rw [e 12 (by omega) (by omega) (by omega)] at k1
    exact (h.2.2.2 k k0 k1).of (e _ (by omega) (by omega) (by omega)) (e _ (by omega) (by omega) (by omega)) (e _ (by omega) (by omega) (by omega))
/-- WET, as the loop adds it -/
def WS (z : Nat → Int32) : Nat → Int → Int32 → Int32
  | 0, _, a => a
  | n + 1, y, a => if y < 0 then a else WS z n (y - 1) (a + z (20 + 3 * y).toNat)
theorem WS.s {z : Nat → Int32} {n m : Nat} {y y' : Int} {a b v : Int32} {i : Int32} {w : Int32} (h : w = WS z n y a) (hn : n = m + 1) (hy : 0 ≤ y) (hy' : y' = y - 1) (hi : i.toInt = 20 + 3 * y) (hv : v = z i.toNatClampNeg) (hb : b = a + v) : w = WS z m y' b := by
  subst hn; subst hy'
  rw [h]
  have e : (20 + 3 * y).toNat = i.toNatClampNeg := by rw [← hi]; rfl
  show (if y < 0 then a else WS z m (y - 1) (a + z (20 + 3 * y).toNat)) = _
  rw [if_neg (by omega), e, hb, hv]
theorem WS.e {z : Nat → Int32} {n : Nat} {y : Int} {a w : Int32} (h : w = WS z n y a) (hx : n = 0 ∨ y < 0) : a = w := by
  rw [h]
  rcases hx with e | e
  · rw [e]; rfl
  · cases n with
    | zero => rfl
    | succ m => show a = (if y < 0 then a else _); rw [if_pos e]
theorem WS.cg {z u : Nat → Int32} (e : ∀ j : Int, 20 ≤ j → j < 92 → u j.toNat = z j.toNat) : ∀ (n : Nat) (y : Int) (a : Int32), y ≤ 23 → WS u n y a = WS z n y a
  | 0, _, _, _ => rfl
  | n + 1, y, a, hy => by
    show (if y < 0 then a else WS u n (y - 1) (a + u (20 + 3 * y).toNat)) = (if y < 0 then a else WS z n (y - 1) (a + z (20 + 3 * y).toNat))
    by_cases c : y < 0
    · rw [if_pos c, if_pos c]
    · rw [if_neg c, if_neg c, e _ (by omega) (by omega)]
      exact WS.cg e n (y - 1) _ (by omega)
theorem ne_ws {r w : Int32} (h : r = w) (hn : ¬ r.toInt = 0) : ¬ w = 0 := fun e => hn (by rw [h, e]; decide)
/-- the rest of a division is nearer to 0 than the divisor -/
theorem lrem_i {x y : Int64} (hy : y.toInt ≠ 0) : (x - x / y * y).toInt = x.toInt.tmod y.toInt := by
  have hx1 := Int64.le_toInt x
  have hx2 := Int64.toInt_lt x
  have hy1 := Int64.le_toInt y
  have hy2 := Int64.toInt_lt y
  have hb : (x.toInt.tmod y.toInt).natAbs < y.toInt.natAbs := by
    rw [Int.natAbs_tmod]
    exact Nat.mod_lt _ (by omega)
  rw [Int64.toInt_sub, Int64.toInt_mul, Int64.toInt_div]
  have e : x.toInt.tmod y.toInt = x.toInt - x.toInt.tdiv y.toInt * y.toInt := by
    have q := Int.tmod_add_tdiv_mul x.toInt y.toInt
    omega
  rw [Int.bmod_mul_bmod, Int.sub_bmod_bmod, ← e]
  exact Int.bmod_eq_of_le (by omega) (by omega)
theorem lrem_dec {x y r : Int64} (hr : r = x - x / y * y) (hy : y.toInt ≠ 0) : r.toInt.natAbs < y.toInt.natAbs := by
  rw [hr, lrem_i hy, Int.natAbs_tmod]
  exact Nat.mod_lt _ (by omega)
/-- a bit less -/
theorem andm {b c d : Int32} (e : d = b &&& c) (hb : 0 ≤ b.toInt) (hc : 0 ≤ c.toInt) : 0 ≤ d.toInt ∧ d.toInt ≤ c.toInt := by
  have f : ∀ x : Int32, 0 ≤ x.toInt → x.toInt = (x.toBitVec.toNat : Int) ∧ x.toBitVec.toNat < 2147483648 := fun x hx => by
    have r := rng x
    have q : x.toInt = x.toBitVec.toInt := rfl
    have w := BitVec.toInt_eq_toNat_cond x.toBitVec
    rw [← q] at w
    by_cases g : 2 * x.toBitVec.toNat < 2 ^ 32
    · rw [if_pos g] at w
      exact ⟨w, by omega⟩
    · rw [if_neg g] at w
      omega
  have fb := f b hb
  have fc := f c hc
  have hd : d.toBitVec.toNat = b.toBitVec.toNat &&& c.toBitVec.toNat := by rw [e]; exact BitVec.toNat_and ..
  have hl : d.toBitVec.toNat ≤ c.toBitVec.toNat := by rw [hd]; exact Nat.and_le_right
  have w := BitVec.toInt_eq_toNat_cond d.toBitVec
  have q : d.toInt = d.toBitVec.toInt := rfl
  rw [← q, if_pos (by omega)] at w
  omega
theorem cl_ne {i j : Int32} (h0 : 0 ≤ i.toInt) (h1 : 0 ≤ j.toInt) (h : ¬ i.toInt = j.toInt) : i.toNatClampNeg ≠ j.toNatClampNeg := fun e => h (by
  have a : i.toNatClampNeg = i.toInt.toNat := rfl
  have b : j.toNatClampNeg = j.toInt.toNat := rfl
  omega)
theorem DO.mk9 {z : Nat → Int32} {d c t : Int} (h1 : zA z (278 + 6 * d) = c) (h2 : zA z (279 + 6 * d) = t) (hc : 0 ≤ c ∧ c ≤ 1) (ht : 0 ≤ t ∧ t < zA z (5 + c)) (hk : ¬ zA z (158 + 12 * c + t) = 2) : DO z d := by
  unfold DO
  rw [h1, h2]
  exact ⟨hc, ht, hk⟩
theorem CO.mk9 {z r : Nat → Int32} {k : Int} (h : ∀ j : Int, 0 ≤ j → j < 14 → zA z (326 + 14 * k + j) = zA r j) (h0 : 1 ≤ zA r 0 ∧ zA r 0 ≤ 2) (h1 : 1 ≤ zA r 7 ∧ zA r 7 ≤ 12) (h2 : zA r 0 = 2 → 1 ≤ zA r 13 ∧ zA r 13 ≤ 12) : CO z k := by
  have a := h 0 (by omega) (by omega)
  have b := h 7 (by omega) (by omega)
  have c := h 13 (by omega) (by omega)
  rw [show (326 + 14 * k + 0 : Int) = 326 + 14 * k by omega] at a
  rw [show (326 + 14 * k + 7 : Int) = 333 + 14 * k by omega] at b
  rw [show (326 + 14 * k + 13 : Int) = 339 + 14 * k by omega] at c
  unfold CO
  rw [a, b, c]
  exact ⟨h0, h1, h2⟩
/-- one thing more -/
theorem ZI.sz1 {z : Nat → Int32} (h : ZI z) {i v : Int32} {c : Int} (hc : 0 ≤ c ∧ c ≤ 1) (hi : i.toInt = 5 + c) (hv : v.toInt = zA z (5 + c) + 1) (h12 : v.toInt ≤ 12) : ZI (upd z i.toNatClampNeg v) := by
  have r := h.1
  unfold ZR at r
  have h0 : 0 ≤ zA z (5 + c) := by
    rcases (show c = 0 ∨ c = 1 by omega) with e | e <;> subst e <;> simp only [Int.add_zero, Int.reduceAdd] <;> omega
  refine ZI.sz h hc hi ⟨by omega, h12⟩ (fun d d0 d1 hd => ?_)
  have q := (h.2.2.1 d d0 d1).2.1.2
  rw [hd] at q
  omega
/-- all but sizes, kinds, weights, years stay -/
def FA (x u : Nat → Int32) : Prop := ∀ j : Int, 0 ≤ j → (j ≤ 4 ∨ (7 ≤ j ∧ j ≤ 157) ∨ 230 ≤ j) → zA u j = zA x j
theorem FA.rf {x : Nat → Int32} : FA x x := fun _ _ _ => rfl
theorem FA.up {x u : Nat → Int32} {i v : Int32} (h : FA x u) (hi : (5 ≤ i.toInt ∧ i.toInt ≤ 6) ∨ (158 ≤ i.toInt ∧ i.toInt ≤ 229)) : FA x (upd u i.toNatClampNeg v) := fun j j0 hj => by
  rw [zu_n (by omega) j0 (by omega)]; exact h j j0 hj
theorem FA.tr {x u w : Nat → Int32} (h : FA x u) (h2 : FA u w) : FA x w := fun j j0 hj => (h2 j j0 hj).trans (h j j0 hj)
theorem FA.ws {x u : Nat → Int32} (h : FA x u) {n : Nat} {y : Int} (hy : y ≤ 23) {a : Int32} : WS u n y a = WS x n y a := WS.cg (fun j j0 j1 => Int32.toInt_inj.mp (h j (by omega) (by omega))) n y a hy
/-- the clauses read so far have no more than three conditions -/
def RLX (r : Nat → Int32) (n : Int) : Prop := ∀ c : Int, 0 ≤ c → c < n → 0 ≤ zA r (11 * c) ∧ zA r (11 * c) ≤ 3
theorem RLX.z {r : Nat → Int32} : RLX r ((0 : Int32).toInt) := fun c c0 c1 => by
  have e : (0 : Int32).toInt = 0 := by decide
  omega
theorem RLX.s {r u : Nat → Int32} {n : Int} (h : RLX r n) (h0 : 0 ≤ n) (hf : FRM r u (11 * n) (11 * n + 10)) (hv : 0 ≤ zA u (11 * n) ∧ zA u (11 * n) ≤ 3) : RLX u (n + 1) := fun c c0 c1 => by
  by_cases e : c = n
  · rw [e]; exact hv
  · rw [hf (11 * c) (by omega) (by omega)]; exact h c c0 (by omega)
theorem RLX.e {r : Nat → Int32} {n m : Int} (h : RLX r n) (e : m = n) : RLX r m := by rw [e]; exact h
theorem CPY.e {d0 s d : Nat → Int32} {b k m : Int} (h : CPY d0 s d b k) (e : k = m) : CPY d0 s d b m := by rw [← e]; exact h
theorem ZI.cp {d0 s d : Nat → Int32} {k : Int} (hz : ZI s) (h : CPY d0 s d 0 k) (hk : 392 ≤ k) : ZI d := hz.cg (fun j j0 j1 => by
  have q := h.2 j j0 (by omega)
  rwa [Int.zero_add] at q)
