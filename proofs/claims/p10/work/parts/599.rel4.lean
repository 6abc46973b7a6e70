/-- WATER's sum, as the reference counts it -/
def WSP (z : Nat → Int32) : Nat → Int → Int32 → Int32
  | 0, _, a => a
  | n + 1, y, a => if y < 0 then a else WSP z n (y - 1) (a + z (20 + 3 * y).toNat * z (20 + 3 * y + 1).toNat)
theorem WSP.s {z : Nat → Int32} {n m : Nat} {y y' : Int} {a b v1 v2 v w : Int32} {i i2 : Int32} (h : w = WSP z n y a) (hn : n = m + 1) (hy : 0 ≤ y) (hy' : y' = y - 1) (hi : i.toInt = 20 + 3 * y) (hi2 : i2.toInt = 20 + 3 * y + 1) (h1 : v1 = z i.toNatClampNeg) (h2 : v2 = z i2.toNatClampNeg) (hv : v = v1 * v2) (hb : b = a + v) : w = WSP z m y' b := by
  have e1 : i.toNatClampNeg = (20 + 3 * y).toNat := by rw [← hi]; rfl
  have e2 : i2.toNatClampNeg = (20 + 3 * y + 1).toNat := by rw [← hi2]; rfl
  rw [h, hn, hy', hb, hv, h1, h2, e1, e2]
  show (if y < 0 then a else WSP z m (y - 1) (a + z (20 + 3 * y).toNat * z (20 + 3 * y + 1).toNat)) = _
  rw [if_neg (by omega)]
theorem WSP.e {z : Nat → Int32} {n : Nat} {y : Int} {a w : Int32} (h : w = WSP z n y a) (hx : n = 0 ∨ y < 0) : a = w := by
  rw [h]
  cases n with
  | zero => rfl
  | succ m => exact (if_pos (by omega)).symm
theorem WSP.dv {s w a b r : Int32} (h1 : s = a) (h2 : w = b) (h : r = s / w) : r = a / b := by rw [h, h1, h2]
def WRZ (z : Nat → Int32) (k : Nat) (y : Int) : Int32 := if WS z k y 0 = 0 then -1004 else WSP z k y 0 / WS z k y 0
theorem WRZ.z {z : Nat → Int32} {k : Nat} {y : Int} {w : Int32} (h : w = WS z k y 0) (hw : w.toInt = 0) : (-1004 : Int32) = WRZ z k y := by
  have e : w = 0 := Int32.toInt_inj.mp (hw.trans (by decide))
  unfold WRZ
  rw [← h, if_pos e]
theorem WRZ.d {z : Nat → Int32} {k k2 : Nat} {y : Int} {w r : Int32} (h : w = WS z k y 0) (hw : ¬ w.toInt = 0) (hk : k2 = k) (hr : r = WSP z k2 y 0 / WS z k2 y 0) : r = WRZ z k y := by
  unfold WRZ
  rw [← h, if_neg (fun e => hw (by rw [e]; decide)), h, ← hk]; exact hr
/-- one sum, counted upwards and downwards -/
theorem WTC.up {f : Nat → Int32} {y : Int} {n : Nat} (hy : 0 ≤ y) : WTC f y ((n + 1 : Nat) : Int) = WTC f (y - 1) (n : Int) + f y.toNat := by
  have e : LOY (y - 1) (n : Int) = LOY y ((n + 1 : Nat) : Int) := by
    unfold LOY
    split <;> split <;> omega
  have b : 0 ≤ LOY y ((n + 1 : Nat) : Int) ∧ LOY y ((n + 1 : Nat) : Int) ≤ y := by
    unfold LOY
    split <;> omega
  unfold WTC
  rw [e, show (y + 1 - LOY y ((n + 1 : Nat) : Int)).toNat = (y - 1 + 1 - LOY y ((n + 1 : Nat) : Int)).toNat + 1 by omega]
  show SA f _ _ + f (LOY y ((n + 1 : Nat) : Int) + (((y - 1 + 1 - LOY y ((n + 1 : Nat) : Int)).toNat : Nat) : Int)).toNat = _
  rw [show (LOY y ((n + 1 : Nat) : Int) + (((y - 1 + 1 - LOY y ((n + 1 : Nat) : Int)).toNat : Nat) : Int)).toNat = y.toNat by omega]
theorem WTC.no {f : Nat → Int32} {y : Int} {k : Int} (h : y + 1 - LOY y k ≤ 0) : WTC f y k = 0 := by
  unfold WTC
  rw [show (y + 1 - LOY y k).toNat = 0 by omega]; rfl
theorem WS.wtc {z f : Nat → Int32} (h : ∀ j : Nat, j < 24 → f j = z (20 + 3 * (j : Int)).toNat) : ∀ (n : Nat) (y : Int) (a : Int32), -1 ≤ y → y ≤ 23 → WS z n y a = a + WTC f y (n : Int)
  | 0, y, a, h0, _ => by
    rw [WTC.no (by unfold LOY; split <;> omega), Int32.add_zero]; rfl
  | n + 1, y, a, h0, h1 => by
    by_cases c : y < 0
    · rw [WTC.no (by unfold LOY; split <;> omega), Int32.add_zero]; exact if_pos c
    · rw [WTC.up (by omega), h y.toNat (by omega), show ((y.toNat : Nat) : Int) = y by omega]
      show (if y < 0 then a else WS z n (y - 1) (a + z (20 + 3 * y).toNat)) = _
      rw [if_neg c, WS.wtc h n (y - 1) _ (by omega) (by omega), Int32.add_assoc, Int32.add_comm (z _)]
theorem WSP.wtc {z f : Nat → Int32} (h : ∀ j : Nat, j < 24 → f j = z (20 + 3 * (j : Int)).toNat * z (20 + 3 * (j : Int) + 1).toNat) : ∀ (n : Nat) (y : Int) (a : Int32), -1 ≤ y → y ≤ 23 → WSP z n y a = a + WTC f y (n : Int)
  | 0, y, a, h0, _ => by
    rw [WTC.no (by unfold LOY; split <;> omega), Int32.add_zero]; rfl
  | n + 1, y, a, h0, h1 => by
    by_cases c : y < 0
    · rw [WTC.no (by unfold LOY; split <;> omega), Int32.add_zero]; exact if_pos c
    · rw [WTC.up (by omega), h y.toNat (by omega), show ((y.toNat : Nat) : Int) = y by omega]
      show (if y < 0 then a else WSP z n (y - 1) (a + z (20 + 3 * y).toNat * z (20 + 3 * y + 1).toNat)) = _
      rw [if_neg c, WSP.wtc h n (y - 1) _ (by omega) (by omega), Int32.add_assoc, Int32.add_comm (_ * _)]
/-- the rain's rows, by words -/
theorem RRn.at {zR : Nat → Nat → Nat} {I : Nat → Nat → Int32} {x y : Nat} (h : RRn zR I x y) {w j : Nat} (hw : w < 3) (hj : j < 24) : I (zR (zR (zR (zR x 0) 0) 0) w) j = I (zR y 0) (20 + 3 * (j : Int) + (w : Int)).toNat := Int32.toInt_inj.mp (h.1 w j hw hj)
theorem WET.w {zR : Nat → Nat → Nat} {I : Nat → Nat → Int32} {x y : Nat} {k a : Int} {n : Nat} (h : RRn zR I x y) (ha : 0 ≤ a ∧ a ≤ 23) (hk : k = (n : Int)) : WTC (I (zR (zR (zR (zR x 0) 0) 0) 0)) a k = WS (I (zR y 0)) n a 0 := by
  rw [WS.wtc (f := I (zR (zR (zR (zR x 0) 0) 0) 0)) (fun j hj => by
    have q := h.at (w := 0) (by decide) hj
    rw [show (20 + 3 * (j : Int) + ((0 : Nat) : Int)) = 20 + 3 * (j : Int) by omega] at q; exact q) n a 0 (by omega) (by omega), Int32.zero_add, hk]
theorem WET.p {zR : Nat → Nat → Nat} {I : Nat → Nat → Int32} {x y : Nat} {k a : Int} {n : Nat} (h : RRn zR I x y) (ha : 0 ≤ a ∧ a ≤ 23) (hk : k = (n : Int)) : WTC (PRO (I (zR (zR (zR (zR x 0) 0) 0) 0)) (I (zR (zR (zR (zR x 0) 0) 0) 1))) a k = WSP (I (zR y 0)) n a 0 := by
  rw [WSP.wtc (f := PRO (I (zR (zR (zR (zR x 0) 0) 0) 0)) (I (zR (zR (zR (zR x 0) 0) 0) 1))) (fun j hj => by
    have q := h.at (w := 0) (by decide) hj
    rw [show (20 + 3 * (j : Int) + ((0 : Nat) : Int)) = 20 + 3 * (j : Int) by omega] at q
    have r := h.at (w := 1) (by decide) hj
    rw [show (20 + 3 * (j : Int) + ((1 : Nat) : Int)) = 20 + 3 * (j : Int) + 1 by omega] at r
    exact PRO.at q r rfl) n a 0 (by omega) (by omega), Int32.zero_add, hk]
theorem KP.nat {zL : List Nat} {zT : Nat → Nat} {zR : Nat → Nat → Nat} {I : Nat → Nat → Int32} {x y : Nat} (h : R3 zR I x y) (hw : WT zT zR I) (hs : SKP zL zT zR) (tx : zT x = 11) : (I (zR (zR x 0) 0) 1).toInt = (((zA (I (zR y 0)) (0)).toNat : Nat) : Int) := by
  have e := h.1.2.1.1
  have b := (wt_at hw (nw_h hs tx).1 1 (lo := 1) (hi := 5) rfl).1
  omega
theorem WET.eq {zL : List Nat} {zT : Nat → Nat} {zR : Nat → Nat → Nat} {I : Nat → Nat → Int32} {x y : Nat} {a r r' : Int32} (h : RRn zR I x y) (h3 : R3 zR I x y) (hw : WT zT zR I) (hs : SKP zL zT zR) (tx : zT x = 11)
    (n1 : ¬ (0 ≤ a.toInt ∧ a.toInt ≤ 23) → r.toInt = -1) (p1 : (0 ≤ a.toInt ∧ a.toInt ≤ 23) → r = WTC (I (zR (zR (zR (zR x 0) 0) 0) 0)) a.toInt (I (zR (zR x 0) 0) 1).toInt)
    (n2 : ¬ (0 ≤ a.toInt ∧ a.toInt ≤ 23) → r'.toInt = -1) (p2 : (0 ≤ a.toInt ∧ a.toInt ≤ 23) → r' = WS (I (zR y 0)) (zA (I (zR y 0)) (0)).toNat a.toInt 0) : r.toInt = r'.toInt := by
  by_cases c : 0 ≤ a.toInt ∧ a.toInt ≤ 23
  · rw [p1 c, p2 c, WET.w h c (KP.nat h3 hw hs tx)]
  · rw [n1 c, n2 c]
theorem WAT.eq {zL : List Nat} {zT : Nat → Nat} {zR : Nat → Nat → Nat} {I : Nat → Nat → Int32} {x y : Nat} {a r r' : Int32} (h : RRn zR I x y) (h3 : R3 zR I x y) (hw : WT zT zR I) (hs : SKP zL zT zR) (tx : zT x = 11)
    (n1 : ¬ (0 ≤ a.toInt ∧ a.toInt ≤ 23) → r.toInt = -1001) (p1 : (0 ≤ a.toInt ∧ a.toInt ≤ 23) → r = WRC (I (zR (zR (zR (zR x 0) 0) 0) 0)) (I (zR (zR (zR (zR x 0) 0) 0) 1)) a.toInt (I (zR (zR x 0) 0) 1).toInt)
    (n2 : ¬ (0 ≤ a.toInt ∧ a.toInt ≤ 23) → r'.toInt = -1001) (p2 : (0 ≤ a.toInt ∧ a.toInt ≤ 23) → r' = WRZ (I (zR y 0)) (zA (I (zR y 0)) (0)).toNat a.toInt) : r.toInt = r'.toInt := by
  by_cases c : 0 ≤ a.toInt ∧ a.toInt ≤ 23
  · rw [p1 c, p2 c]
    unfold WRC WRZ
    rw [WET.w h c (KP.nat h3 hw hs tx), WET.p h c (KP.nat h3 hw hs tx)]
  · rw [n1 c, n2 c]
