/-! dates that go; bits; places -/
/-- no date of this candle from a thing on -/
def DR (z : Nat → Int32) (c f : Int) : Prop := ∀ d : Int, 0 ≤ d → d < zA z 11 → zA z (278 + 6 * d) = c → zA z (279 + 6 * d) < f
/-- dates 0 .. l-1 are copies of old ones that stay -/
def DC (z0 z : Nat → Int32) (c f l : Int) : Prop := ∀ e : Int, 0 ≤ e → e < l → ∃ d : Int, 0 ≤ d ∧ d < zA z0 11 ∧ zA z (278 + 6 * e) = zA z0 (278 + 6 * d) ∧ zA z (279 + 6 * e) = zA z0 (279 + 6 * d) ∧ (zA z0 (278 + 6 * d) = c → zA z0 (279 + 6 * d) < f)
/-- the loop over the dates, at d, l of them kept; within the copy of one, k cells done -/
def DD (z0 z : Nat → Int32) (c f l d k : Int) : Prop := (∀ j : Int, 0 ≤ j → (j < 278 ∨ 325 < j) → zA z j = zA z0 j) ∧ (∀ j : Int, 278 + 6 * d ≤ j → j ≤ 325 → zA z j = zA z0 j) ∧ DC z0 z c f l ∧ (0 < k → zA z (278 + 6 * l) = zA z0 (278 + 6 * d)) ∧ (1 < k → zA z (279 + 6 * l) = zA z0 (279 + 6 * d))
theorem DD.z {z : Nat → Int32} {c f : Int} : DD z z c f ((0 : Int32).toInt) ((0 : Int32).toInt) 0 := by
  have e : (0 : Int32).toInt = 0 := by decide
  refine ⟨fun _ _ _ => rfl, fun _ _ _ => rfl, fun q q0 q1 => ?_, fun h => ?_, fun h => ?_⟩ <;> omega
theorem DD.s {z0 z : Nat → Int32} {c f l d k m : Int} {i v : Int32} (h : DD z0 z c f l d k) (hl : 0 ≤ l ∧ l ≤ d) (hd : d ≤ 7) (hk : 0 ≤ k ∧ k ≤ 5) (hi : i.toInt = 278 + 6 * l + k) (hv : v.toInt = zA z (278 + 6 * d + k)) (hm : m = k + 1) : DD z0 (upd z i.toNatClampNeg v) c f l d m := by
  obtain ⟨a, b, e, p, q⟩ := h
  have hv2 : v.toInt = zA z0 (278 + 6 * d + k) := hv.trans (b _ (by omega) (by omega))
  subst hm
  refine ⟨fun j j0 hj => ?_, fun j j0 hj => ?_, fun x x0 x1 => ?_, fun _ => ?_, fun _ => ?_⟩
  · rw [zu_n (by omega) j0 (by omega)]; exact a j j0 hj
  · by_cases w : j = i.toInt
    · rw [zu_s w, hv2, w, hi]
      have : d = l := by omega
      rw [this]
    · rw [zu_n (by omega) (by omega) w]; exact b j j0 hj
  · obtain ⟨y, y0, y1, y2, y3, y4⟩ := e x x0 x1
    exact ⟨y, y0, y1, (zu_n (by omega) (by omega) (by omega)).trans y2, (zu_n (by omega) (by omega) (by omega)).trans y3, y4⟩
  · by_cases w : k = 0
    · rw [zu_s (by omega), hv2, w, Int.add_zero]
    · rw [zu_n (by omega) (by omega) (by omega)]; exact p (by omega)
  · by_cases w : k = 1
    · rw [zu_s (by omega), hv2, w, show (278 + 6 * d + 1 : Int) = 279 + 6 * d by omega]
    · rw [zu_n (by omega) (by omega) (by omega)]; exact q (by omega)
/-- one is kept -/
theorem DD.k {z0 z : Nat → Int32} {c f l d k l' d' : Int} (h : DD z0 z c f l d k) (hk : 6 ≤ k) (h0 : 0 ≤ d) (h1 : d < zA z0 11) (hc : zA z0 (278 + 6 * d) = c → zA z0 (279 + 6 * d) < f) (hl : l' = l + 1) (hd : d' = d + 1) : DD z0 z c f l' d' 0 := by
  obtain ⟨a, b, e, p, q⟩ := h
  subst hl; subst hd
  refine ⟨a, fun j j0 hj => b j (by omega) hj, fun x x0 x1 => ?_, fun h => ?_, fun h => ?_⟩
  · by_cases w : x = l
    · exact ⟨d, h0, h1, by rw [w]; exact p (by omega), by rw [w]; exact q (by omega), hc⟩
    · exact e x x0 (by omega)
  · omega
  · omega
/-- one goes -/
theorem DD.g {z0 z : Nat → Int32} {c f l d d' : Int} (h : DD z0 z c f l d 0) (hd : d' = d + 1) : DD z0 z c f l d' 0 := by
  obtain ⟨a, b, e, -, -⟩ := h
  subst hd
  refine ⟨a, fun j j0 hj => b j (by omega) hj, e, fun h => ?_, fun h => ?_⟩ <;> omega
theorem DD.e {z0 z : Nat → Int32} {c f l d : Int} {i v : Int32} (hz : ZI z0) (h : DD z0 z c f l d 0) (hi : i.toInt = 11) (hv : v.toInt = l) (hl : 0 ≤ l ∧ l ≤ 8) : ZI (upd z i.toNatClampNeg v) ∧ DR (upd z i.toNatClampNeg v) c f := by
  obtain ⟨a, -, e, -, -⟩ := h
  have r := hz.1
  unfold ZR at r
  have n : ∀ j : Int, 0 ≤ j → (j < 278 ∨ 325 < j) → ¬ j = 11 → zA (upd z i.toNatClampNeg v) j = zA z0 j := fun j j0 hj h2 => by
    rw [zu_n (by omega) j0 (by omega)]; exact a j j0 hj
  have n11 : zA (upd z i.toNatClampNeg v) 11 = l := (zu_s hi.symm).trans hv
  have dn : ∀ x : Int, 0 ≤ x → x < l → ∃ y : Int, 0 ≤ y ∧ y < zA z0 11 ∧ zA (upd z i.toNatClampNeg v) (278 + 6 * x) = zA z0 (278 + 6 * y) ∧ zA (upd z i.toNatClampNeg v) (279 + 6 * x) = zA z0 (279 + 6 * y) ∧ (zA z0 (278 + 6 * y) = c → zA z0 (279 + 6 * y) < f) := fun x x0 x1 => by
    obtain ⟨y, y0, y1, y2, y3, y4⟩ := e x x0 x1
    exact ⟨y, y0, y1, (zu_n (by omega) (by omega) (by omega)).trans y2, (zu_n (by omega) (by omega) (by omega)).trans y3, y4⟩
  refine ⟨⟨?_, fun q q0 q1 => ?_, fun q q0 q1 => ?_, fun k k0 k1 => ?_⟩, fun q q0 q1 q2 => ?_⟩
  · unfold ZR
    rw [n 0 (by omega) (by omega) (by omega), n 1 (by omega) (by omega) (by omega), n 2 (by omega) (by omega) (by omega), n 3 (by omega) (by omega) (by omega), n 4 (by omega) (by omega) (by omega), n 5 (by omega) (by omega) (by omega), n 6 (by omega) (by omega) (by omega), n 9 (by omega) (by omega) (by omega), n 10 (by omega) (by omega) (by omega), n11, n 12 (by omega) (by omega) (by omega), n 13 (by omega) (by omega) (by omega)]
    omega
  · rw [n 2 (by omega) (by omega) (by omega)] at q1
    rw [n _ (by omega) (by omega) (by omega)]
    exact hz.2.1 q q0 q1
  · rw [n11] at q1
    obtain ⟨y, y0, y1, y2, y3, -⟩ := dn q q0 q1
    obtain ⟨⟨a1, a2⟩, ⟨b1, b2⟩, b3⟩ := hz.2.2.1 y y0 y1
    have hs : zA z0 (5 + zA z0 (278 + 6 * y)) ≤ 12 := by
      rcases (show zA z0 (278 + 6 * y) = 0 ∨ zA z0 (278 + 6 * y) = 1 by omega) with w | w <;> rw [w] <;> simp only [Int.add_zero, Int.reduceAdd] <;> omega
    unfold DO
    rw [y2, y3, n _ (by omega) (by omega) (by omega), n _ (by omega) (by omega) (by omega)]
    exact ⟨⟨a1, a2⟩, ⟨b1, b2⟩, b3⟩
  · rw [n 12 (by omega) (by omega) (by omega)] at k1
    exact (hz.2.2.2 k k0 k1).of (n _ (by omega) (by omega) (by omega)) (n _ (by omega) (by omega) (by omega)) (n _ (by omega) (by omega) (by omega))
  · rw [n11] at q1
    obtain ⟨y, y0, y1, y2, y3, y4⟩ := dn q q0 q1
    rw [y2] at q2
    rw [y3]; exact y4 q2
/-- where something grows, WET is not 0 -/
def WP (z : Nat → Int32) (y m : Int) : Prop := m ≤ 0 ∨ ¬ WS z (zA z 0).toNat y 0 = 0
theorem WP.fa {x u : Nat → Int32} {y m : Int} (h : WP x y m) (f : FA x u) (hy : y ≤ 23) : WP u y m := h.imp id (fun n => by
  rw [f.ws hy, f 0 (by omega) (by omega)]; exact n)
theorem WP.at {z : Nat → Int32} {y m : Int} {k : Int32} (h : WP z y m) (hm : 0 < m) (hk : k.toInt = zA z 0) : ¬ WS z (k.toInt).toNat y 0 = 0 := by
  rw [hk]; exact h.resolve_left (by omega)
theorem nq1 {q : Int} (h : 0 ≤ q) : ¬ q < (0 : Int32).toInt := by
  have e : (0 : Int32).toInt = 0 := by decide
  omega
