/-! the reference's array z: what holds of it between calls -/
def zA (z : Nat → Int32) (i : Int) : Int := (z i.toNat).toInt
theorem zA_at {z : Nat → Int32} {i : Int32} : (z i.toNatClampNeg).toInt = zA z i.toInt := rfl
theorem zu_s {z : Nat → Int32} {i v : Int32} {j : Int} (h : j = i.toInt) : zA (upd z i.toNatClampNeg v) j = v.toInt := by
  show (upd z i.toNatClampNeg v j.toNat).toInt = _
  rw [cw_s (show j.toNat = i.toNatClampNeg by rw [h]; rfl)]
theorem zu_n {z : Nat → Int32} {i v : Int32} {j : Int} (h0 : 0 ≤ i.toInt) (hj : 0 ≤ j) (h : ¬ j = i.toInt) : zA (upd z i.toNatClampNeg v) j = zA z j := by
  show (upd z i.toNatClampNeg v j.toNat).toInt = _
  have e : i.toNatClampNeg = i.toInt.toNat := rfl
  rw [cw_n (show j.toNat ≠ i.toNatClampNeg by rw [e]; omega)]
  rfl
/-- a date that may stand: its candle, its thing -/
def DO (z : Nat → Int32) (d : Int) : Prop := (0 ≤ zA z (278 + 6 * d) ∧ zA z (278 + 6 * d) ≤ 1) ∧ (0 ≤ zA z (279 + 6 * d) ∧ zA z (279 + 6 * d) < zA z (5 + zA z (278 + 6 * d))) ∧ ¬ zA z (158 + 12 * zA z (278 + 6 * d) + zA z (279 + 6 * d)) = 2
/-- a claim that may stand: how many atoms, their goals -/
def CO (z : Nat → Int32) (k : Int) : Prop := (1 ≤ zA z (326 + 14 * k) ∧ zA z (326 + 14 * k) ≤ 2) ∧ (1 ≤ zA z (333 + 14 * k) ∧ zA z (333 + 14 * k) ≤ 12) ∧ (zA z (326 + 14 * k) = 2 → 1 ≤ zA z (339 + 14 * k) ∧ zA z (339 + 14 * k) ≤ 12)
def ZR (z : Nat → Int32) : Prop := (1 ≤ zA z 0 ∧ zA z 0 ≤ 5) ∧ (1 ≤ zA z 1 ∧ zA z 1 ≤ 9) ∧ (0 ≤ zA z 2 ∧ zA z 2 ≤ 6) ∧ (1 ≤ zA z 3 ∧ zA z 3 ≤ 4) ∧ (1 ≤ zA z 4 ∧ zA z 4 ≤ 4) ∧ (0 ≤ zA z 5 ∧ zA z 5 ≤ 12) ∧ (0 ≤ zA z 6 ∧ zA z 6 ≤ 12) ∧ (0 ≤ zA z 9 ∧ zA z 9 ≤ 6) ∧ (0 ≤ zA z 10 ∧ zA z 10 ≤ 6) ∧ (0 ≤ zA z 11 ∧ zA z 11 ≤ 8) ∧ (0 ≤ zA z 12 ∧ zA z 12 ≤ 4) ∧ (0 ≤ zA z 13 ∧ zA z 13 ≤ 5)
def ZL (z : Nat → Int32) : Prop := ∀ c : Int, 0 ≤ c → c < zA z 2 → 0 ≤ zA z (92 + 11 * c) ∧ zA z (92 + 11 * c) ≤ 3
def ZD (z : Nat → Int32) : Prop := ∀ d : Int, 0 ≤ d → d < zA z 11 → DO z d
def ZC (z : Nat → Int32) : Prop := ∀ k : Int, 0 ≤ k → k < zA z 12 → CO z k
def ZI (z : Nat → Int32) : Prop := ZR z ∧ ZL z ∧ ZD z ∧ ZC z
theorem zu {z : Nat → Int32} {i v : Int32} (h0 : 0 ≤ i.toInt) (j : Int) (hj : 0 ≤ j) : (j = i.toInt → zA (upd z i.toNatClampNeg v) j = v.toInt) ∧ (¬ j = i.toInt → zA (upd z i.toNatClampNeg v) j = zA z j) := ⟨fun h => zu_s h, fun h => zu_n h0 hj h⟩
theorem ZR.un {z : Nat → Int32} (h : ZR z) {i v : Int32} (h0 : 0 ≤ i.toInt) (n : ¬ i.toInt ≤ 6) (n2 : ¬ (9 ≤ i.toInt ∧ i.toInt ≤ 13)) : ZR (upd z i.toNatClampNeg v) := by
  unfold ZR
  rw [zu_n h0 (by omega) (by omega), zu_n h0 (by omega) (by omega), zu_n h0 (by omega) (by omega), zu_n h0 (by omega) (by omega), zu_n h0 (by omega) (by omega), zu_n h0 (by omega) (by omega), zu_n h0 (by omega) (by omega), zu_n h0 (by omega) (by omega), zu_n h0 (by omega) (by omega), zu_n h0 (by omega) (by omega), zu_n h0 (by omega) (by omega), zu_n h0 (by omega) (by omega)]
  exact h
/-- the range of a small cell -/
def RR (i v : Int) : Prop := (i = 0 → 1 ≤ v ∧ v ≤ 5) ∧ (i = 1 → 1 ≤ v ∧ v ≤ 9) ∧ (i = 2 → 0 ≤ v ∧ v ≤ 6) ∧ (i = 3 → 1 ≤ v ∧ v ≤ 4) ∧ (i = 4 → 1 ≤ v ∧ v ≤ 4) ∧ (i = 5 → 0 ≤ v ∧ v ≤ 12) ∧ (i = 6 → 0 ≤ v ∧ v ≤ 12) ∧ (i = 9 → 0 ≤ v ∧ v ≤ 6) ∧ (i = 10 → 0 ≤ v ∧ v ≤ 6) ∧ (i = 11 → 0 ≤ v ∧ v ≤ 8) ∧ (i = 12 → 0 ≤ v ∧ v ≤ 4) ∧ (i = 13 → 0 ≤ v ∧ v ≤ 5)
theorem ZR.set {z : Nat → Int32} (h : ZR z) {i v : Int32} (h0 : 0 ≤ i.toInt) (hv : RR i.toInt v.toInt) : ZR (upd z i.toNatClampNeg v) := by
  obtain ⟨a0, a1, a2, a3, a4, a5, a6, a9, a10, a11, a12, a13⟩ := h
  obtain ⟨b0, b1, b2, b3, b4, b5, b6, b9, b10, b11, b12, b13⟩ := hv
  have q := fun j hj => zu (z := z) (v := v) h0 j hj
  have q0 := q 0 (by omega); have q1 := q 1 (by omega); have q2 := q 2 (by omega); have q3 := q 3 (by omega); have q4 := q 4 (by omega); have q5 := q 5 (by omega); have q6 := q 6 (by omega)
  have q9 := q 9 (by omega); have q10 := q 10 (by omega); have q11 := q 11 (by omega); have q12 := q 12 (by omega); have q13 := q 13 (by omega)
  have key : ∀ (k lo hi : Int), (lo ≤ zA z k ∧ zA z k ≤ hi) → (i.toInt = k → lo ≤ v.toInt ∧ v.toInt ≤ hi) → ((k = i.toInt → zA (upd z i.toNatClampNeg v) k = v.toInt) ∧ (¬ k = i.toInt → zA (upd z i.toNatClampNeg v) k = zA z k)) → lo ≤ zA (upd z i.toNatClampNeg v) k ∧ zA (upd z i.toNatClampNeg v) k ≤ hi := by
    intro k lo hi x y w
    by_cases e : k = i.toInt
    · rw [w.1 e]; exact y e.symm
    · rw [w.2 e]; exact x
  exact ⟨key 0 _ _ a0 b0 q0, key 1 _ _ a1 b1 q1, key 2 _ _ a2 b2 q2, key 3 _ _ a3 b3 q3, key 4 _ _ a4 b4 q4, key 5 _ _ a5 b5 q5, key 6 _ _ a6 b6 q6, key 9 _ _ a9 b9 q9, key 10 _ _ a10 b10 q10, key 11 _ _ a11 b11 q11, key 12 _ _ a12 b12 q12, key 13 _ _ a13 b13 q13⟩
theorem ZL.un {z : Nat → Int32} (h : ZL z) {i v : Int32} (h0 : 0 ≤ i.toInt) (n2 : ¬ i.toInt = 2) (n : ∀ c : Int, 0 ≤ c → c < zA z 2 → ¬ 92 + 11 * c = i.toInt) : ZL (upd z i.toNatClampNeg v) := by
  intro c c0 c1
  rw [zu_n h0 (by omega) (by omega)] at c1
  rw [zu_n h0 (by omega) (n c c0 c1)]
  exact h c c0 c1
/-- a date's words read only its own two cells, its candle's size, its thing's kind -/
theorem DO.of {z y : Nat → Int32} {d : Int} (h : DO z d) (h1 : zA y (278 + 6 * d) = zA z (278 + 6 * d)) (h2 : zA y (279 + 6 * d) = zA z (279 + 6 * d)) (h3 : zA z (279 + 6 * d) < zA y (5 + zA z (278 + 6 * d))) (h4 : zA y (158 + 12 * zA z (278 + 6 * d) + zA z (279 + 6 * d)) = zA z (158 + 12 * zA z (278 + 6 * d) + zA z (279 + 6 * d))) : DO y d := by
  obtain ⟨a, b, c⟩ := h
  unfold DO
  rw [h1, h2, h4]
  exact ⟨a, ⟨b.1, h3⟩, c⟩
theorem DO.un {z : Nat → Int32} {d : Int} (h : DO z d) (hd : 0 ≤ d) {i v : Int32} (h0 : 0 ≤ i.toInt) (n5 : ¬ (5 ≤ i.toInt ∧ i.toInt ≤ 6)) (n1 : ¬ 278 + 6 * d = i.toInt) (n2 : ¬ 279 + 6 * d = i.toInt) (nk : ∀ c t : Int, 0 ≤ c → c ≤ 1 → 0 ≤ t → t < zA z (5 + c) → ¬ 158 + 12 * c + t = i.toInt) : DO (upd z i.toNatClampNeg v) d := by
  obtain ⟨⟨a1, a2⟩, ⟨b1, b2⟩, c⟩ := id h
  refine h.of (zu_n h0 (by omega) n1) (zu_n h0 (by omega) n2) ?_ (zu_n h0 (by omega) (nk _ _ a1 a2 b1 b2))
  rw [zu_n h0 (by omega) (by omega)]
  exact b2
theorem ZD.un {z : Nat → Int32} (h : ZD z) {i v : Int32} (h0 : 0 ≤ i.toInt) (n5 : ¬ (5 ≤ i.toInt ∧ i.toInt ≤ 6)) (n11 : ¬ i.toInt = 11) (n : ∀ d : Int, 0 ≤ d → d < zA z 11 → ¬ 278 + 6 * d = i.toInt ∧ ¬ 279 + 6 * d = i.toInt) (nk : ∀ c t : Int, 0 ≤ c → c ≤ 1 → 0 ≤ t → t < zA z (5 + c) → ¬ 158 + 12 * c + t = i.toInt) : ZD (upd z i.toNatClampNeg v) := by
  intro d d0 d1
  rw [zu_n h0 (by omega) (by omega)] at d1
  exact (h d d0 d1).un d0 h0 n5 (n d d0 d1).1 (n d d0 d1).2 nk
theorem CO.of {z y : Nat → Int32} {k : Int} (h : CO z k) (h1 : zA y (326 + 14 * k) = zA z (326 + 14 * k)) (h2 : zA y (333 + 14 * k) = zA z (333 + 14 * k)) (h3 : zA y (339 + 14 * k) = zA z (339 + 14 * k)) : CO y k := by
  unfold CO
  rw [h1, h2, h3]
  exact h
theorem ZC.un {z : Nat → Int32} (h : ZC z) {i v : Int32} (h0 : 0 ≤ i.toInt) (n12 : ¬ i.toInt = 12) (n : ∀ k : Int, 0 ≤ k → k < zA z 12 → ¬ 326 + 14 * k = i.toInt ∧ ¬ 333 + 14 * k = i.toInt ∧ ¬ 339 + 14 * k = i.toInt) : ZC (upd z i.toNatClampNeg v) := by
  intro k k0 k1
  rw [zu_n h0 (by omega) (by omega)] at k1
  obtain ⟨a, b, c⟩ := n k k0 k1
  exact (h k k0 k1).of (zu_n h0 (by omega) a) (zu_n h0 (by omega) b) (zu_n h0 (by omega) c)
/-- a store into cells that no word reads -/
theorem ZI.fr {z : Nat → Int32} (h : ZI z) {i v : Int32} (hi : (7 ≤ i.toInt ∧ i.toInt ≤ 8) ∨ (20 ≤ i.toInt ∧ i.toInt ≤ 91) ∨ (182 ≤ i.toInt ∧ i.toInt ≤ 277) ∨ (382 ≤ i.toInt ∧ i.toInt ≤ 391)) : ZI (upd z i.toNatClampNeg v) := by
  have r := h.1
  unfold ZR at r
  exact ⟨h.1.un (by omega) (by omega) (by omega), h.2.1.un (by omega) (by omega) (fun c _ _ => by omega), h.2.2.1.un (by omega) (by omega) (by omega) (fun d _ _ => by omega) (fun c t c0 c1 t0 t1 => by
    rcases (show c = 0 ∨ c = 1 by omega) with e | e <;> subst e <;> simp only [Int.add_zero] at t1 <;> omega), h.2.2.2.un (by omega) (by omega) (fun k _ _ => by omega)⟩
/-- why a date was thrown out -/
theorem ZI.th {z : Nat → Int32} (h : ZI z) {i v : Int32} {d : Int} (hd : 0 ≤ d ∧ d ≤ 7) (hi : i.toInt = 283 + 6 * d) : ZI (upd z i.toNatClampNeg v) := by
  have r := h.1
  unfold ZR at r
  exact ⟨h.1.un (by omega) (by omega) (by omega), h.2.1.un (by omega) (by omega) (fun c _ _ => by omega), h.2.2.1.un (by omega) (by omega) (by omega) (fun d _ _ => by omega) (fun c t c0 c1 t0 t1 => by
    rcases (show c = 0 ∨ c = 1 by omega) with e | e <;> subst e <;> simp only [Int.add_zero] at t1 <;> omega), h.2.2.2.un (by omega) (by omega) (fun k _ _ => by omega)⟩
/-- small cells that the words with 'for all' don't read -/
theorem ZI.sm {z : Nat → Int32} (h : ZI z) {i v : Int32} (hi : i.toInt = 0 ∨ i.toInt = 1 ∨ i.toInt = 3 ∨ i.toInt = 4 ∨ i.toInt = 9 ∨ i.toInt = 10 ∨ i.toInt = 13) (hv : RR i.toInt v.toInt) : ZI (upd z i.toNatClampNeg v) := by
  exact ⟨h.1.set (by omega) hv, h.2.1.un (by omega) (by omega) (fun c _ _ => by omega), h.2.2.1.un (by omega) (by omega) (by omega) (fun d _ _ => by omega) (fun c t c0 c1 t0 t1 => by omega), h.2.2.2.un (by omega) (by omega) (fun k _ _ => by omega)⟩
/-- a candle's size, where its dates' things stay below it -/
theorem ZI.sz {z : Nat → Int32} (h : ZI z) {i v : Int32} {c : Int} (hc : 0 ≤ c ∧ c ≤ 1) (hi : i.toInt = 5 + c) (hv : 0 ≤ v.toInt ∧ v.toInt ≤ 12) (hd : ∀ d : Int, 0 ≤ d → d < zA z 11 → zA z (278 + 6 * d) = c → zA z (279 + 6 * d) < v.toInt) : ZI (upd z i.toNatClampNeg v) := by
  refine ⟨h.1.set (by omega) (by unfold RR; omega), h.2.1.un (by omega) (by omega) (fun c _ _ => by omega), ?_, h.2.2.2.un (by omega) (by omega) (fun k _ _ => by omega)⟩
  intro d d0 d1
  rw [zu_n (by omega) (by omega) (by omega)] at d1
  have q := h.2.2.1 d d0 d1
  obtain ⟨⟨a1, a2⟩, ⟨b1, b2⟩, -⟩ := id q
  refine q.of (zu_n (by omega) (by omega) (by omega)) (zu_n (by omega) (by omega) (by omega)) ?_ (zu_n (by omega) (by omega) (by omega))
  by_cases e : zA z (278 + 6 * d) = c
  · rw [zu_s (by omega)]; exact hd d d0 d1 e
  · rw [zu_n (by omega) (by omega) (by omega)]; exact b2
/-- a kind, behind the candle's last thing -/
theorem ZI.kd {z : Nat → Int32} (h : ZI z) {i v : Int32} {c t : Int} (hc : 0 ≤ c ∧ c ≤ 1) (ht : 0 ≤ t ∧ t ≤ 11) (hi : i.toInt = 158 + 12 * c + t) (hs : zA z (5 + c) ≤ t) : ZI (upd z i.toNatClampNeg v) := by
  have r := h.1
  unfold ZR at r
  exact ⟨h.1.un (by omega) (by omega) (by omega), h.2.1.un (by omega) (by omega) (fun c _ _ => by omega), h.2.2.1.un (by omega) (by omega) (by omega) (fun d _ _ => by omega) (fun c' t' c0 c1 t0 t1 => by
    rcases (show c = 0 ∨ c = 1 by omega) with e | e <;> rcases (show c' = 0 ∨ c' = 1 by omega) with e' | e' <;> subst e <;> subst e' <;> simp only [Int.add_zero, Int.reduceAdd] at t1 hs <;> omega), h.2.2.2.un (by omega) (by omega) (fun k _ _ => by omega)⟩
/-- a date's cells, behind the last date -/
theorem ZI.dt {z : Nat → Int32} (h : ZI z) {i v : Int32} (hi : 278 + 6 * zA z 11 ≤ i.toInt ∧ i.toInt ≤ 325) : ZI (upd z i.toNatClampNeg v) := by
  have r := h.1
  unfold ZR at r
  exact ⟨h.1.un (by omega) (by omega) (by omega), h.2.1.un (by omega) (by omega) (fun c _ _ => by omega), h.2.2.1.un (by omega) (by omega) (by omega) (fun d _ _ => by omega) (fun c t c0 c1 t0 t1 => by
    rcases (show c = 0 ∨ c = 1 by omega) with e | e <;> subst e <;> simp only [Int.add_zero, Int.reduceAdd] at t1 <;> omega), h.2.2.2.un (by omega) (by omega) (fun k _ _ => by omega)⟩
/-- one date more -/
theorem ZI.d1 {z : Nat → Int32} (h : ZI z) {i v : Int32} (hi : i.toInt = 11) (hv : v.toInt = zA z 11 + 1) (h8 : zA z 11 < 8) (hd : DO z (zA z 11)) : ZI (upd z i.toNatClampNeg v) := by
  have r := h.1
  unfold ZR at r
  refine ⟨h.1.set (by omega) (by unfold RR; omega), h.2.1.un (by omega) (by omega) (fun c _ _ => by omega), ?_, h.2.2.2.un (by omega) (by omega) (fun k _ _ => by omega)⟩
  intro d d0 d1
  rw [zu_s hi.symm, hv] at d1
  have q : DO z d := by
    rcases (show d < zA z 11 ∨ d = zA z 11 by omega) with e | e
    · exact h.2.2.1 d d0 e
    · rw [e]; exact hd
  exact q.un d0 (by omega) (by omega) (by omega) (by omega) (fun c t c0 c1 t0 t1 => by omega)
/-- a claim's cells, behind the last claim -/
theorem ZI.cl {z : Nat → Int32} (h : ZI z) {i v : Int32} (hi : 326 + 14 * zA z 12 ≤ i.toInt ∧ i.toInt ≤ 381) : ZI (upd z i.toNatClampNeg v) := by
  have r := h.1
  unfold ZR at r
  exact ⟨h.1.un (by omega) (by omega) (by omega), h.2.1.un (by omega) (by omega) (fun c _ _ => by omega), h.2.2.1.un (by omega) (by omega) (by omega) (fun d _ _ => by omega) (fun c t c0 c1 t0 t1 => by
    rcases (show c = 0 ∨ c = 1 by omega) with e | e <;> subst e <;> simp only [Int.add_zero, Int.reduceAdd] at t1 <;> omega), h.2.2.2.un (by omega) (by omega) (fun k _ _ => by omega)⟩
/-- one claim more -/
theorem ZI.c1 {z : Nat → Int32} (h : ZI z) {i v : Int32} (hi : i.toInt = 12) (hv : v.toInt = zA z 12 + 1) (h4 : zA z 12 < 4) (hd : CO z (zA z 12)) : ZI (upd z i.toNatClampNeg v) := by
  have r := h.1
  unfold ZR at r
  refine ⟨h.1.set (by omega) (by unfold RR; omega), h.2.1.un (by omega) (by omega) (fun c _ _ => by omega), h.2.2.1.un (by omega) (by omega) (by omega) (fun d _ _ => by omega) (fun c t c0 c1 t0 t1 => by omega), ?_⟩
  intro d d0 d1
  rw [zu_s hi.symm, hv] at d1
  have q : CO z d := by
    rcases (show d < zA z 12 ∨ d = zA z 12 by omega) with e | e
    · exact h.2.2.2 d d0 e
    · rw [e]; exact hd
  exact q.of (zu_n (by omega) (by omega) (by omega)) (zu_n (by omega) (by omega) (by omega)) (zu_n (by omega) (by omega) (by omega))
theorem ZI.g0 {z : Nat → Int32} (h : ZI z) {i : Int32} (h0 : 0 ≤ i.toInt) (h1 : i.toInt ≤ 0) : 1 ≤ (z i.toNatClampNeg).toInt ∧ (z i.toNatClampNeg).toInt ≤ 5 := by
  rw [zA_at, show i.toInt = 0 by omega]; exact h.1.1
theorem ZI.g1 {z : Nat → Int32} (h : ZI z) {i : Int32} (h0 : 1 ≤ i.toInt) (h1 : i.toInt ≤ 1) : 1 ≤ (z i.toNatClampNeg).toInt ∧ (z i.toNatClampNeg).toInt ≤ 9 := by
  rw [zA_at, show i.toInt = 1 by omega]; exact h.1.2.1
theorem ZI.g2 {z : Nat → Int32} (h : ZI z) {i : Int32} (h0 : 2 ≤ i.toInt) (h1 : i.toInt ≤ 2) : 0 ≤ (z i.toNatClampNeg).toInt ∧ (z i.toNatClampNeg).toInt ≤ 6 := by
  rw [zA_at, show i.toInt = 2 by omega]; exact h.1.2.2.1
theorem ZI.g3 {z : Nat → Int32} (h : ZI z) {i : Int32} (h0 : 3 ≤ i.toInt) (h1 : i.toInt ≤ 4) : 1 ≤ (z i.toNatClampNeg).toInt ∧ (z i.toNatClampNeg).toInt ≤ 4 := by
  rw [zA_at]
  rcases (show i.toInt = 3 ∨ i.toInt = 4 by omega) with e | e <;> rw [e]
  · exact h.1.2.2.2.1
  · exact h.1.2.2.2.2.1
theorem ZI.g5 {z : Nat → Int32} (h : ZI z) {i : Int32} (h0 : 5 ≤ i.toInt) (h1 : i.toInt ≤ 6) : 0 ≤ (z i.toNatClampNeg).toInt ∧ (z i.toNatClampNeg).toInt ≤ 12 := by
  rw [zA_at]
  rcases (show i.toInt = 5 ∨ i.toInt = 6 by omega) with e | e <;> rw [e]
  · exact h.1.2.2.2.2.2.1
  · exact h.1.2.2.2.2.2.2.1
theorem ZI.g9 {z : Nat → Int32} (h : ZI z) {i : Int32} (h0 : 9 ≤ i.toInt) (h1 : i.toInt ≤ 10) : 0 ≤ (z i.toNatClampNeg).toInt ∧ (z i.toNatClampNeg).toInt ≤ 6 := by
  rw [zA_at]
  rcases (show i.toInt = 9 ∨ i.toInt = 10 by omega) with e | e <;> rw [e]
  · exact h.1.2.2.2.2.2.2.2.1
  · exact h.1.2.2.2.2.2.2.2.2.1
theorem ZI.g11 {z : Nat → Int32} (h : ZI z) {i : Int32} (h0 : 11 ≤ i.toInt) (h1 : i.toInt ≤ 11) : 0 ≤ (z i.toNatClampNeg).toInt ∧ (z i.toNatClampNeg).toInt ≤ 8 := by
  rw [zA_at, show i.toInt = 11 by omega]; exact h.1.2.2.2.2.2.2.2.2.2.1
theorem ZI.g12 {z : Nat → Int32} (h : ZI z) {i : Int32} (h0 : 12 ≤ i.toInt) (h1 : i.toInt ≤ 12) : 0 ≤ (z i.toNatClampNeg).toInt ∧ (z i.toNatClampNeg).toInt ≤ 4 := by
  rw [zA_at, show i.toInt = 12 by omega]; exact h.1.2.2.2.2.2.2.2.2.2.2.1
theorem ZI.g13 {z : Nat → Int32} (h : ZI z) {i : Int32} (h0 : 13 ≤ i.toInt) (h1 : i.toInt ≤ 13) : 0 ≤ (z i.toNatClampNeg).toInt ∧ (z i.toNatClampNeg).toInt ≤ 5 := by
  rw [zA_at, show i.toInt = 13 by omega]; exact h.1.2.2.2.2.2.2.2.2.2.2.2
