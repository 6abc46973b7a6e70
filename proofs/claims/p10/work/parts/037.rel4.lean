/-! sums over the YEARS that the hill keeps -/
def SA (f : Nat → Int32) (lo : Int) : Nat → Int32
  | 0 => 0
  | n + 1 => SA f lo n + f (lo + (n : Int)).toNat
def LOY (y k : Int) : Int := if y - k + 1 < 0 then 0 else y - k + 1
def WTC (f : Nat → Int32) (y k : Int) : Int32 := SA f (LOY y k) (y + 1 - LOY y k).toNat
def PRO (f g : Nat → Int32) : Nat → Int32 := fun j => f j * g j
/-- WATER as the class counts it -/
def WRC (f g : Nat → Int32) (y k : Int) : Int32 := if WTC f y k = 0 then -1004 else WTC (PRO f g) y k / WTC f y k
theorem SA.z {f : Nat → Int32} {lo : Int} {y : Int32} (h : y.toInt = lo) : (0 : Int32) = SA f lo (y.toInt - lo).toNat := by
  rw [show (y.toInt - lo).toNat = 0 by omega]; rfl
theorem SA.s {f : Nat → Int32} {lo : Int} {a v b y y' : Int32} (h : a = SA f lo (y.toInt - lo).toNat) (h0 : lo ≤ y.toInt) (hv : f y.toNatClampNeg = v) (hb : b = a + v) (hy' : y'.toInt = y.toInt + 1) : b = SA f lo (y'.toInt - lo).toNat := by
  rw [show (y'.toInt - lo).toNat = (y.toInt - lo).toNat + 1 by omega, hb]
  show a + v = SA f lo (y.toInt - lo).toNat + f (lo + (((y.toInt - lo).toNat : Nat) : Int)).toNat
  rw [show (lo + (((y.toInt - lo).toNat : Nat) : Int)).toNat = y.toNatClampNeg by
    have e : y.toNatClampNeg = y.toInt.toNat := rfl
    omega, hv, ← h]
theorem SA.e {f : Nat → Int32} {lo y k : Int} {a : Int32} {j : Int32} (h : a = SA f lo (j.toInt - lo).toNat) (hl : lo = LOY y k) (hj : j.toInt = y + 1) : a = WTC f y k := by
  unfold WTC
  rw [← hl, ← hj]; exact h
theorem PRO.at {f g : Nat → Int32} {i : Nat} {a b c : Int32} (h1 : f i = a) (h2 : g i = b) (h : c = a * b) : PRO f g i = c := by
  show f i * g i = c
  rw [h1, h2, h]
theorem LOY.in {y k : Int} (h0 : 0 ≤ y) (h1 : 1 ≤ k) : 0 ≤ LOY y k ∧ LOY y k ≤ y := by
  unfold LOY
  split <;> omega
theorem WRC.z {f g : Nat → Int32} {y k : Int} {w : Int32} (h : w = WTC f y k) (hw : w.toInt = 0) : (-1004 : Int32) = WRC f g y k := by
  have e : w = 0 := Int32.toInt_inj.mp (hw.trans (by decide))
  unfold WRC
  rw [← h, if_pos e]
theorem WRC.d {f g : Nat → Int32} {y k : Int} {w s r : Int32} (h : w = WTC f y k) (hw : ¬ w.toInt = 0) (hs : s = WTC (PRO f g) y k) (hr : r = s / w) : r = WRC f g y k := by
  unfold WRC
  rw [← h, ← hs, if_neg (fun e => hw (by rw [e]; decide))]; exact hr
