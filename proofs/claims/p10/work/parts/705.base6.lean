/-! how many ways there can be at the most -/
def TBL : List (List Int) := [[1, 1, 1, 1, 1, 1, 1, 1, 1, 1, 1, 1, 1, 1, 1, 1, 1, 1, 1, 1, 1, 1, 1, 1], [1, 2, 3, 4, 5, 6, 7, 8, 9, 10, 11, 12, 13, 14, 15, 16, 17, 18, 19, 20, 21, 22, 23, 24], [1, 3, 6, 10, 15, 21, 28, 36, 45, 55, 66, 78, 91, 105, 120, 136, 153, 171, 190, 210, 231, 253, 276, 300], [1, 4, 10, 20, 35, 56, 84, 120, 165, 220, 286, 364, 455, 560, 680, 816, 969, 1140, 1330, 1540, 1771, 2024, 2300, 2600], [1, 5, 15, 35, 70, 126, 210, 330, 495, 715, 1001, 1365, 1820, 2380, 3060, 3876, 4845, 5985, 7315, 8855, 10626, 12650, 14950, 17550], [1, 6, 21, 56, 126, 252, 462, 792, 1287, 2002, 3003, 4368, 6188, 8568, 11628, 15504, 20349, 26334, 33649, 42504, 53130, 65780, 80730, 98280], [1, 7, 28, 84, 210, 462, 924, 1716, 3003, 5005, 8008, 12376, 18564, 27132, 38760, 54264, 74613, 100947, 134596, 177100, 230230, 296010, 376740, 475020], [1, 8, 36, 120, 330, 792, 1716, 3432, 6435, 11440, 19448, 31824, 50388, 77520, 116280, 170544, 245157, 346104, 480700, 657800, 888030, 1184040, 1560780, 2035800], [1, 9, 45, 165, 495, 1287, 3003, 6435, 12870, 24310, 43758, 75582, 125970, 203490, 319770, 490314, 735471, 1081575, 1562275, 2220075, 3108105, 4292145, 5852925, 7888725], [1, 10, 55, 220, 715, 2002, 5005, 11440, 24310, 48620, 92378, 167960, 293930, 497420, 817190, 1307504, 2042975, 3124550, 4686825, 6906900, 10015005, 14307150, 20160075, 28048800], [1, 11, 66, 286, 1001, 3003, 8008, 19448, 43758, 92378, 184756, 352716, 646646, 1144066, 1961256, 3268760, 5311735, 8436285, 13123110, 20030010, 30045015, 44352165, 64512240, 92561040], [1, 12, 78, 364, 1365, 4368, 12376, 31824, 75582, 167960, 352716, 705432, 1352078, 2496144, 4457400, 7726160, 13037895, 21474180, 34597290, 54627300, 84672315, 129024480, 193536720, 286097760]]
def tb (p x : Int) : Int := (TBL.getD p.toNat []).getD x.toNat 0
def SU (g : Int → Int) : Nat → Int → Int
  | 0, _ => 0
  | n + 1, x => SU g n x + (if (n : Int) ≤ x then g n else 0)
theorem tb_su0 : ∀ p : Nat, p < 11 → ∀ x : Nat, x < 24 → SU (tb p) 24 x ≤ tb (p + 1) x := by decide +kernel
theorem tb_nn0 : ∀ p : Nat, p < 12 → ∀ x : Nat, x < 24 → 0 ≤ tb p x ∧ tb p x ≤ 1000000000 := by decide +kernel
theorem tb_fin0 : ∀ p : Nat, p < 12 → SU (tb p) 24 23 ≤ 1000000000 := by decide +kernel
theorem tb_su {p x : Int} (h0 : 0 ≤ p) (h1 : p ≤ 10) (x0 : 0 ≤ x) (x1 : x ≤ 23) : SU (tb p) 24 x ≤ tb (p + 1) x := by
  have q := tb_su0 p.toNat (by omega) x.toNat (by omega)
  rwa [show ((p.toNat : Nat) : Int) = p by omega, show ((x.toNat : Nat) : Int) = x by omega] at q
theorem tb_nn {p x : Int} (h0 : 0 ≤ p) (h1 : p ≤ 11) (x0 : 0 ≤ x) (x1 : x ≤ 23) : 0 ≤ tb p x ∧ tb p x ≤ 1000000000 := by
  have q := tb_nn0 p.toNat (by omega) x.toNat (by omega)
  rwa [show ((p.toNat : Nat) : Int) = p by omega, show ((x.toNat : Nat) : Int) = x by omega] at q
theorem tb_fin {p : Int} (h0 : 0 ≤ p) (h1 : p ≤ 11) : SU (tb p) 24 23 ≤ 1000000000 := by
  have q := tb_fin0 p.toNat (by omega)
  rwa [show ((p.toNat : Nat) : Int) = p by omega] at q
theorem SU.mono {g : Int → Int} {x : Int} (hg : ∀ z : Int, 0 ≤ z → z ≤ 23 → 0 ≤ g z) (n : Nat) : ∀ k : Nat, n + k ≤ 24 → SU g n x ≤ SU g (n + k) x
  | 0, _ => Int.le_refl _
  | k + 1, h => by
    have q := SU.mono (x := x) hg n k (by omega)
    show SU g n x ≤ SU g (n + k) x + (if ((n + k : Nat) : Int) ≤ x then g ((n + k : Nat) : Int) else 0)
    have w := hg ((n + k : Nat) : Int) (by omega) (by omega)
    split <;> omega
theorem SU.le {g : Int → Int} {x : Int} (hg : ∀ z : Int, 0 ≤ z → z ≤ 23 → 0 ≤ g z) {n : Nat} (h : n ≤ 24) : SU g n x ≤ SU g 24 x := by
  have q := SU.mono (x := x) hg n (24 - n) (by omega)
  rwa [show n + (24 - n) = 24 by omega] at q
def sr (f : Nat → Int64) (p y : Int) : Nat → Int → Int
  | 0, _ => 0
  | n + 1, r => (f (cI p y r)).toInt + sr f p y n (r + 1)
def NN (f : Nat → Int64) (p : Int) : Prop := ∀ x r : Int, 0 ≤ x → x ≤ 23 → 1 ≤ r → r ≤ 4 → 0 ≤ (f (cI p x r)).toInt
def SB (f : Nat → Int64) (p : Int) (U : Int → Int) : Prop := ∀ x : Int, 0 ≤ x → x ≤ 23 → sr f p x 4 1 ≤ U x
/-- cells that are none of this place -/
def OUTp (p : Int) (k : Nat) : Prop := ∀ x r : Int, 0 ≤ x → x ≤ 23 → 1 ≤ r → r ≤ 4 → k ≠ cI p x r
def FRb (f g : Nat → Int64) (p : Int) : Prop := ∀ k : Nat, OUTp p k → g k = f k
theorem cI_ne {p x r q y s : Int} (hp : 0 ≤ p) (hq : 0 ≤ q) (hx : 0 ≤ x ∧ x ≤ 23) (hy : 0 ≤ y ∧ y ≤ 23) (hr : 0 ≤ r ∧ r ≤ 4) (hs : 0 ≤ s ∧ s ≤ 4) (h : ¬ (p = q ∧ x = y ∧ r = s)) : cI p x r ≠ cI q y s := by
  unfold cI
  omega
theorem sr4 {f : Nat → Int64} {p y : Int} : sr f p y 4 1 = (f (cI p y 1)).toInt + ((f (cI p y 2)).toInt + ((f (cI p y 3)).toInt + (f (cI p y 4)).toInt)) := by
  show (f (cI p y 1)).toInt + ((f (cI p y (1 + 1))).toInt + ((f (cI p y (1 + 1 + 1))).toInt + ((f (cI p y (1 + 1 + 1 + 1))).toInt + 0))) = _
  rw [Int.add_zero]; rfl
theorem NN.sr {f : Nat → Int64} {p y : Int} (h : NN f p) (hy : 0 ≤ y ∧ y ≤ 23) : ∀ (n : Nat) (r : Int), 1 ≤ r → r + n ≤ 5 → 0 ≤ sr f p y n r
  | 0, _, _, _ => Int.le_refl _
  | n + 1, r, h0, h1 => by
    have a := h y r hy.1 hy.2 h0 (by omega)
    have b := NN.sr h hy n (r + 1) (by omega) (by omega)
    show 0 ≤ (f (cI p y r)).toInt + _
    omega
theorem sr.cg {f g : Nat → Int64} {p q y : Int} (h : FRb f g p) (hq : 0 ≤ q) (hp : 0 ≤ p) (hne : ¬ p = q) (hy : 0 ≤ y ∧ y ≤ 23) : ∀ (n : Nat) (r : Int), 0 ≤ r → r + n ≤ 5 → sr g q y n r = sr f q y n r
  | 0, _, _, _ => rfl
  | n + 1, r, h0, h1 => by
    show (g (cI q y r)).toInt + sr g q y n (r + 1) = (f (cI q y r)).toInt + sr f q y n (r + 1)
    rw [h (cI q y r) (fun x s x0 x1 s0 s1 => cI_ne hq hp hy ⟨x0, x1⟩ ⟨h0, by omega⟩ ⟨by omega, s1⟩ (fun e => hne e.1.symm)), sr.cg h hq hp hne hy n (r + 1) (by omega) (by omega)]
theorem NN.cg {f g : Nat → Int64} {p q : Int} (h : FRb f g p) (hq : 0 ≤ q) (hp : 0 ≤ p) (hne : ¬ p = q) (hn : NN f q) : NN g q := fun x r x0 x1 r0 r1 => by
  rw [h (cI q x r) (fun z s z0 z1 s0 s1 => cI_ne hq hp ⟨x0, x1⟩ ⟨z0, z1⟩ ⟨by omega, r1⟩ ⟨by omega, s1⟩ (fun e => hne e.1.symm))]
  exact hn x r x0 x1 r0 r1
theorem FRb.tr {f g w : Nat → Int64} {p : Int} (h : FRb f g p) (h2 : FRb g w p) : FRb f w p := fun k hk => (h2 k hk).trans (h k hk)
theorem i64_add {a b : Int64} (h0 : 0 ≤ a.toInt) (h1 : 0 ≤ b.toInt) (h2 : a.toInt + b.toInt ≤ 4000000000000000000) : (a + b).toInt = a.toInt + b.toInt := by
  rw [Int64.toInt_add]
  exact Int.bmod_eq_of_le (by omega) (by omega)
/-- one cell more -/
theorem up1 {f : Nat → Int64} {p x q : Int} {m : Int64} {U : Int → Int} (hp : 0 ≤ p) (hx : 0 ≤ x ∧ x ≤ 23) (hq : 1 ≤ q ∧ q ≤ 4) (hm : 0 ≤ m.toInt) (hn : NN f p) (hs : SB f p U) (hU : U x + m.toInt ≤ 4000000000000000000) : NN (vp_updL f (cI p x q) (f (cI p x q) + m)) p ∧ SB (vp_updL f (cI p x q) (f (cI p x q) + m)) p (fun z => U z + (if z = x then m.toInt else 0)) ∧ FRb f (vp_updL f (cI p x q) (f (cI p x q) + m)) p := by
  have a1 := hn x 1 hx.1 hx.2 (by omega) (by omega)
  have a2 := hn x 2 hx.1 hx.2 (by omega) (by omega)
  have a3 := hn x 3 hx.1 hx.2 (by omega) (by omega)
  have a4 := hn x 4 hx.1 hx.2 (by omega) (by omega)
  have aq := hn x q hx.1 hx.2 hq.1 hq.2
  have s0 := hs x hx.1 hx.2
  rw [sr4] at s0
  have le : (f (cI p x q)).toInt ≤ U x := by
    rcases (show q = 1 ∨ q = 2 ∨ q = 3 ∨ q = 4 by omega) with e | e | e | e <;> subst e <;> omega
  have val : (f (cI p x q) + m).toInt = (f (cI p x q)).toInt + m.toInt := i64_add aq hm (by omega)
  have other : ∀ z r : Int, 0 ≤ z → z ≤ 23 → 0 ≤ r → r ≤ 4 → ¬ (z = x ∧ r = q) → vp_updL f (cI p x q) (f (cI p x q) + m) (cI p z r) = f (cI p z r) := fun z r z0 z1 r0 r1 h => if_neg (cI_ne hp hp ⟨z0, z1⟩ hx ⟨r0, r1⟩ ⟨by omega, hq.2⟩ (fun e => h ⟨e.2.1, e.2.2⟩))
  have this : vp_updL f (cI p x q) (f (cI p x q) + m) (cI p x q) = f (cI p x q) + m := if_pos rfl
  refine ⟨fun z r z0 z1 r0 r1 => ?_, fun z z0 z1 => ?_, fun k hk => if_neg (hk x q hx.1 hx.2 hq.1 hq.2)⟩
  · by_cases e : z = x ∧ r = q
    · obtain ⟨rfl, rfl⟩ := e
      rw [this, val]; omega
    · rw [other z r z0 z1 (by omega) r1 e]; exact hn z r z0 z1 r0 r1
  · have sz := hs z z0 z1
    rw [sr4] at sz
    rw [sr4]
    show _ ≤ U z + (if z = x then m.toInt else 0)
    by_cases e : z = x
    · subst e
      rw [if_pos rfl]
      rcases (show q = 1 ∨ q = 2 ∨ q = 3 ∨ q = 4 by omega) with e | e | e | e <;> subst e
      · rw [this, val, other z 2 z0 z1 (by omega) (by omega) (by omega), other z 3 z0 z1 (by omega) (by omega) (by omega), other z 4 z0 z1 (by omega) (by omega) (by omega)]; omega
      · rw [this, val, other z 1 z0 z1 (by omega) (by omega) (by omega), other z 3 z0 z1 (by omega) (by omega) (by omega), other z 4 z0 z1 (by omega) (by omega) (by omega)]; omega
      · rw [this, val, other z 1 z0 z1 (by omega) (by omega) (by omega), other z 2 z0 z1 (by omega) (by omega) (by omega), other z 4 z0 z1 (by omega) (by omega) (by omega)]; omega
      · rw [this, val, other z 1 z0 z1 (by omega) (by omega) (by omega), other z 2 z0 z1 (by omega) (by omega) (by omega), other z 3 z0 z1 (by omega) (by omega) (by omega)]; omega
    · rw [if_neg e, other z 1 z0 z1 (by omega) (by omega) (by omega), other z 2 z0 z1 (by omega) (by omega) (by omega), other z 3 z0 z1 (by omega) (by omega) (by omega), other z 4 z0 z1 (by omega) (by omega) (by omega)]; omega
theorem SB.w {f : Nat → Int64} {p : Int} {U U' : Int → Int} (h : SB f p U) (e : ∀ z : Int, 0 ≤ z → z ≤ 23 → U z ≤ U' z) : SB f p U' := fun z z0 z1 => Int.le_trans (h z z0 z1) (e z z0 z1)
theorem K4.b {rb : Int → Int → Int → Int → Int} (hb : ∀ p y r x, rb p y r x ≤ 4) {p y r : Int} {many : Int64} (hp : 0 ≤ p) (hm : 0 ≤ many.toInt) : ∀ (n : Nat) (x : Int) (f : Nat → Int64) (U : Int → Int), 0 ≤ x → x + n ≤ 24 → NN f p → SB f p U → (∀ z : Int, x ≤ z → z ≤ 23 → U z + many.toInt ≤ 4000000000000000000) → NN (K4 rb p y r many n x f) p ∧ SB (K4 rb p y r many n x f) p (fun z => U z + (if x ≤ z then many.toInt else 0)) ∧ FRb f (K4 rb p y r many n x f) p
  | 0, x, f, U, _, _, hn, hs, _ => ⟨hn, hs.w (fun z _ _ => by split <;> omega), fun _ _ => rfl⟩
  | n + 1, x, f, U, x0, x1, hn, hs, hU => by
    show NN (if 0 < many.toInt then K4 rb p y r many n (x + 1) (if 0 < rb p y r x then vp_updL f (cI p x (rb p y r x)) (f (cI p x (rb p y r x)) + many) else f) else f) p ∧ SB (if 0 < many.toInt then K4 rb p y r many n (x + 1) (if 0 < rb p y r x then vp_updL f (cI p x (rb p y r x)) (f (cI p x (rb p y r x)) + many) else f) else f) p _ ∧ FRb f (if 0 < many.toInt then K4 rb p y r many n (x + 1) (if 0 < rb p y r x then vp_updL f (cI p x (rb p y r x)) (f (cI p x (rb p y r x)) + many) else f) else f) p
    by_cases c : 0 < many.toInt
    · rw [if_pos c]
      obtain ⟨f1, hf1⟩ : ∃ f1 : Nat → Int64, f1 = (if 0 < rb p y r x then vp_updL f (cI p x (rb p y r x)) (f (cI p x (rb p y r x)) + many) else f) := ⟨_, rfl⟩
      rw [← hf1]
      have st : NN f1 p ∧ SB f1 p (fun z => U z + (if z = x then many.toInt else 0)) ∧ FRb f f1 p := by
        rw [hf1]
        by_cases d : 0 < rb p y r x
        · rw [if_pos d]
          exact up1 hp ⟨x0, by omega⟩ ⟨by omega, hb p y r x⟩ hm hn hs (hU x (Int.le_refl _) (by omega))
        · rw [if_neg d]
          exact ⟨hn, hs.w (fun z _ _ => by split <;> omega), fun _ _ => rfl⟩
      obtain ⟨a, b, d⟩ := K4.b hb (y := y) (r := r) hp hm n (x + 1) f1 _ (by omega) (by omega) st.1 st.2.1 (fun z z0 z1 => by
        have q := hU z (by omega) z1
        show U z + (if z = x then many.toInt else 0) + many.toInt ≤ _
        rw [if_neg (by omega)]; omega)
      refine ⟨a, b.w (fun z z0 z1 => ?_), st.2.2.tr d⟩
      show U z + (if z = x then many.toInt else 0) + (if x + 1 ≤ z then many.toInt else 0) ≤ U z + (if x ≤ z then many.toInt else 0)
      by_cases e1 : z = x
      · rw [if_pos e1, if_neg (by omega), if_pos (by omega)]; omega
      · rw [if_neg e1]
        by_cases e2 : x + 1 ≤ z
        · rw [if_pos e2, if_pos (by omega)]; omega
        · rw [if_neg e2, if_neg (by omega)]; omega
    · rw [if_neg c]
      exact ⟨hn, hs.w (fun z _ _ => by split <;> omega), fun _ _ => rfl⟩
theorem K3.b {rb : Int → Int → Int → Int → Int} (hb : ∀ p y r x, rb p y r x ≤ 4) {p y : Int} (hp : 1 ≤ p) (hy : 0 ≤ y ∧ y ≤ 23) : ∀ (n : Nat) (r : Int) (f : Nat → Int64) (U : Int → Int), 1 ≤ r → r + n ≤ 5 → NN f p → NN f (p - 1) → SB f p U → (∀ z : Int, 0 ≤ z → z ≤ 23 → U z + sr f (p - 1) y n r ≤ 4000000000000000000) → NN (K3 rb p y n r f) p ∧ SB (K3 rb p y n r f) p (fun z => U z + (if y ≤ z then sr f (p - 1) y n r else 0)) ∧ FRb f (K3 rb p y n r f) p
  | 0, r, f, U, _, _, hn, _, hs, _ => ⟨hn, hs.w (fun z _ _ => by show U z ≤ U z + (if y ≤ z then 0 else 0); split <;> omega), fun _ _ => rfl⟩
  | n + 1, r, f, U, r0, r1, hn, hn1, hs, hU => by
    have m0 := hn1 y r hy.1 hy.2 r0 (by omega)
    have m1 := hn1.sr hy n (r + 1) (by omega) (by omega)
    have hU' : ∀ z : Int, 0 ≤ z → z ≤ 23 → U z + ((f (cI (p - 1) y r)).toInt + sr f (p - 1) y n (r + 1)) ≤ 4000000000000000000 := hU
    obtain ⟨f1, hf1⟩ : ∃ f1 : Nat → Int64, f1 = K4 rb p y r (f (cI (p - 1) y r)) (24 - y).toNat y f := ⟨_, rfl⟩
    show NN (K3 rb p y n (r + 1) (K4 rb p y r (f (cI (p - 1) y r)) (24 - y).toNat y f)) p ∧ SB (K3 rb p y n (r + 1) (K4 rb p y r (f (cI (p - 1) y r)) (24 - y).toNat y f)) p (fun z => U z + (if y ≤ z then (f (cI (p - 1) y r)).toInt + sr f (p - 1) y n (r + 1) else 0)) ∧ FRb f (K3 rb p y n (r + 1) (K4 rb p y r (f (cI (p - 1) y r)) (24 - y).toNat y f)) p
    obtain ⟨a, b, d⟩ := K4.b hb (y := y) (r := r) (p := p) (many := f (cI (p - 1) y r)) (by omega) m0 (24 - y).toNat y f U hy.1 (by omega) hn hs (fun z z0 z1 => by
      have q := hU' z (by omega) z1
      omega)
    rw [← hf1] at a b d ⊢
    have e := sr.cg d (q := p - 1) (by omega) (by omega) (by omega) hy n (r + 1) (by omega) (by omega)
    obtain ⟨a2, b2, d2⟩ := K3.b hb hp hy n (r + 1) f1 _ (by omega) (by omega) a (hn1.cg d (by omega) (by omega) (by omega)) b (fun z z0 z1 => by
      rw [e]
      have q := hU' z z0 z1
      show U z + (if y ≤ z then (f (cI (p - 1) y r)).toInt else 0) + sr f (p - 1) y n (r + 1) ≤ _
      split <;> omega)
    refine ⟨a2, b2.w (fun z z0 z1 => ?_), d.tr d2⟩
    rw [e]
    show U z + (if y ≤ z then (f (cI (p - 1) y r)).toInt else 0) + (if y ≤ z then sr f (p - 1) y n (r + 1) else 0) ≤ U z + (if y ≤ z then (f (cI (p - 1) y r)).toInt + sr f (p - 1) y n (r + 1) else 0)
    split <;> omega
theorem K2.b {rb : Int → Int → Int → Int → Int} (hb : ∀ p y r x, rb p y r x ≤ 4) {p : Int} (hp : 1 ≤ p) {g : Int → Int} (hg : ∀ z : Int, 0 ≤ z → z ≤ 23 → 0 ≤ g z ∧ g z ≤ 1000000000) (hgs : ∀ z : Int, 0 ≤ z → z ≤ 23 → SU g 24 z ≤ 1000000000) : ∀ (n y : Nat) (f : Nat → Int64), y + n = 24 → NN f p → NN f (p - 1) → SB f (p - 1) g → SB f p (SU g y) → NN (K2 rb p n y f) p ∧ SB (K2 rb p n y f) p (SU g 24) ∧ FRb f (K2 rb p n y f) p
  | 0, y, f, hy, hn, _, _, hs => ⟨hn, by rw [show (24 : Nat) = y by omega]; exact hs, fun _ _ => rfl⟩
  | n + 1, y, f, hy, hn, hn1, hg1, hs => by
    have hle := hg1 y (by omega) (by omega)
    obtain ⟨a, b, d⟩ := K3.b hb (y := (y : Int)) hp (by omega) 4 1 f (SU g y) (by omega) (by omega) hn hn1 hs (fun z z0 z1 => by
      have q := SU.le (x := z) (fun z z0 z1 => (hg z z0 z1).1) (show y ≤ 24 by omega)
      have q2 := hgs z z0 z1
      have q3 := (hg y (by omega) (by omega)).2
      omega)
    have b' : SB (K3 rb p y 4 1 f) p (SU g (y + 1)) := b.w (fun z z0 z1 => by
      show SU g y z + (if (y : Int) ≤ z then sr f (p - 1) y 4 1 else 0) ≤ SU g y z + (if (y : Int) ≤ z then g y else 0)
      split <;> omega)
    have hg1' : SB (K3 rb p y 4 1 f) (p - 1) g := fun z z0 z1 => by
      rw [sr.cg d (q := p - 1) (by omega) (by omega) (by omega) ⟨z0, z1⟩ 4 1 (by omega) (by omega)]
      exact hg1 z z0 z1
    obtain ⟨a2, b2, d2⟩ := K2.b hb hp hg hgs n (y + 1) (K3 rb p y 4 1 f) (by omega) a (hn1.cg d (by omega) (by omega) (by omega)) hg1' b'
    exact ⟨a2, b2, d.tr d2⟩
/-- nothing from this place on -/
def ZB (f : Nat → Int64) (p : Int) : Prop := ∀ q x r : Int, p ≤ q → 0 ≤ x → x ≤ 23 → 1 ≤ r → r ≤ 4 → (f (cI q x r)).toInt = 0
theorem K1.b {rb : Int → Int → Int → Int → Int} (hb : ∀ p y r x, rb p y r x ≤ 4) : ∀ (n : Nat) (p : Int) (f : Nat → Int64), 1 ≤ p → p + n ≤ 12 → NN f (p - 1) → SB f (p - 1) (tb (p - 1)) → ZB f p → NN (K1 rb n p f) (p + n - 1) ∧ SB (K1 rb n p f) (p + n - 1) (tb (p + n - 1))
  | 0, p, f, _, _, hn, hs, _ => by
    rw [show p + ((0 : Nat) : Int) - 1 = p - 1 by omega]; exact ⟨hn, hs⟩
  | n + 1, p, f, p0, p1, hn, hs, hz => by
    have z0 : SB f p (SU (tb (p - 1)) 0) := fun x x0 x1 => by
      rw [sr4, hz p x 1 (by omega) x0 x1 (by omega) (by omega), hz p x 2 (by omega) x0 x1 (by omega) (by omega), hz p x 3 (by omega) x0 x1 (by omega) (by omega), hz p x 4 (by omega) x0 x1 (by omega) (by omega)]
      show (0 : Int) + (0 + (0 + 0)) ≤ 0
      omega
    obtain ⟨a, b, d⟩ := K2.b hb (p := p) (g := tb (p - 1)) p0 (fun z z0 z1 => tb_nn (by omega) (by omega) z0 z1) (fun z z0 z1 => by
      have q := tb_su (p := p - 1) (by omega) (by omega) z0 z1
      have q2 := tb_nn (p := p - 1 + 1) (by omega) (by omega) z0 z1
      omega) 24 0 f (by omega) (fun x r x0 x1 r0 r1 => by rw [hz p x r (by omega) x0 x1 r0 r1]; omega) hn hs z0
    have e0 : (((0 : Nat)) : Int) = 0 := rfl
    rw [e0] at a b d
    have b' : SB (K2 rb p 24 0 f) p (tb p) := b.w (fun z z0 z1 => by
      have q := tb_su (p := p - 1) (by omega) (by omega) z0 z1
      rwa [show p - 1 + 1 = p by omega] at q)
    have q := K1.b hb n (p + 1) (K2 rb p 24 0 f) (by omega) (by omega) (by rw [show p + 1 - 1 = p by omega]; exact a) (by rw [show p + 1 - 1 = p by omega]; exact b') (fun q x r hq x0 x1 r0 r1 => by
      rw [d (cI q x r) (fun z s z0 z1 s0 s1 => cI_ne (by omega) (by omega) ⟨x0, x1⟩ ⟨z0, z1⟩ ⟨by omega, r1⟩ ⟨by omega, s1⟩ (by omega))]
      exact hz q x r (by omega) x0 x1 r0 r1)
    rw [show p + 1 + (n : Int) - 1 = p + ((n + 1 : Nat) : Int) - 1 by omega] at q
    exact q
/-- the first place: every cell 0 or 1, and 0 but where the run is 1 -/
def QB (f : Nat → Int64) : Prop := ∀ k : Nat, (0 ≤ (f k).toInt ∧ (f k).toInt ≤ 1) ∧ ((∀ x : Int, 0 ≤ x → x ≤ 23 → k ≠ cI 0 x 1) → (f k).toInt = 0)
theorem K0.b {m0 : Int32} : ∀ (n : Nat) (y : Int) (f : Nat → Int64), 0 ≤ y → y + n ≤ 24 → QB f → QB (K0 m0 n y f)
  | 0, _, _, _, _, h => h
  | n + 1, y, f, y0, y1, h => by
    refine K0.b (m0 := m0) n (y + 1) _ (by omega) (by omega) (fun k => ?_)
    unfold vp_updL
    by_cases c : k = cI 0 y 1
    · rw [if_pos c]
      have q := andb (x := m0 >>> (Int32.ofInt y &&& 31)) (y := 1) (C := 1) 1 (by decide) (by decide) (by decide)
      have e : (((m0 >>> (Int32.ofInt y &&& 31)) &&& 1).toInt64).toInt = ((m0 >>> (Int32.ofInt y &&& 31)) &&& 1).toInt := Int32.toInt_toInt64 _
      exact ⟨by rw [e]; exact q, fun w => absurd c (w y y0 (by omega))⟩
    · rw [if_neg c]; exact h k
theorem T2.b {f : Nat → Int64} {p y : Int} (hn : NN f p) (hy : 0 ≤ y ∧ y ≤ 23) : ∀ (n : Nat) (r : Int) (a : Int64), 1 ≤ r → r + n ≤ 5 → 0 ≤ a.toInt → a.toInt + sr f p y n r ≤ 4000000000000000000 → (T2 p y n r f a).toInt = a.toInt + sr f p y n r
  | 0, _, a, _, _, _, _ => by show a.toInt = a.toInt + 0; omega
  | n + 1, r, a, r0, r1, ha, hs => by
    have m0 := hn y r hy.1 hy.2 r0 (by omega)
    have m1 := hn.sr hy n (r + 1) (by omega) (by omega)
    have hs' : a.toInt + ((f (cI p y r)).toInt + sr f p y n (r + 1)) ≤ 4000000000000000000 := hs
    have e := i64_add ha m0 (by omega)
    show (T2 p y n (r + 1) f (a + f (cI p y r))).toInt = a.toInt + ((f (cI p y r)).toInt + sr f p y n (r + 1))
    rw [T2.b hn hy n (r + 1) (a + f (cI p y r)) (by omega) (by omega) (by omega) (by omega), e]; omega
theorem T1.b {f : Nat → Int64} {p : Int} {g : Int → Int} (hn : NN f p) (hs : SB f p g) (hg : ∀ z : Int, 0 ≤ z → z ≤ 23 → 0 ≤ g z ∧ g z ≤ 1000000000) (hgs : SU g 24 23 ≤ 1000000000) : ∀ (n y : Nat) (a : Int64), y + n = 24 → 0 ≤ a.toInt → a.toInt ≤ SU g y 23 → 0 ≤ (T1 p n y f a).toInt ∧ (T1 p n y f a).toInt ≤ SU g 24 23
  | 0, y, a, hy, a0, a1 => ⟨a0, by rw [show (24 : Nat) = y by omega]; exact a1⟩
  | n + 1, y, a, hy, a0, a1 => by
    have q := SU.le (x := 23) (fun z z0 z1 => (hg z z0 z1).1) (show y ≤ 24 by omega)
    have w := hs y (by omega) (by omega)
    have w0 := hn.sr (y := (y : Int)) (by omega) 4 1 (by omega) (by omega)
    have w2 := hg y (by omega) (by omega)
    have e := T2.b hn (y := (y : Int)) (by omega) 4 1 a (by omega) (by omega) a0 (by omega)
    refine T1.b hn hs hg hgs n (y + 1) (T2 p y 4 1 f a) (by omega) (by omega) ?_
    show _ ≤ SU g y 23 + (if (y : Int) ≤ 23 then g y else 0)
    rw [if_pos (by omega)]
    omega
theorem CT.bd {zR : Nat → Nat → Nat} {I : Nat → Nat → Int32} {y : Nat} (h7 : (I y 7).toInt ≤ 4) (h6 : (I y 6).toInt ≤ 12) : 0 ≤ (CT zR I y).toInt ∧ (CT zR I y).toInt ≤ 1000000000 := by
  have z0 : (0 : Int64).toInt = 0 := by decide
  unfold CT CFv V0
  by_cases c : 0 < (I y 6).toInt
  · rw [if_pos c]
    unfold V1 W1
    rw [if_pos c]
    obtain ⟨f, hf⟩ : ∃ f, f = K0 (I (zR y 9) 0) (24 - (0 : Int)).toNat 0 (fun _ => (0 : Int64)) := ⟨_, rfl⟩
    rw [← hf]
    have qb : QB f := by
      rw [hf]
      exact K0.b _ _ _ (by omega) (by omega) (fun k => ⟨by rw [z0]; omega, fun _ => z0⟩)
    obtain ⟨a, b⟩ := K1.b (RB.le h7) ((I y 6).toInt - 1).toNat 1 f (by omega) (by omega) (fun x r _ _ _ _ => (qb _).1.1) (fun x x0 x1 => by
      rw [sr4, (qb (cI (1 - 1) x 2)).2 (fun z z0 z1 => cI_ne (by omega) (by omega) ⟨x0, x1⟩ ⟨z0, z1⟩ (by omega) (by omega) (by omega)), (qb (cI (1 - 1) x 3)).2 (fun z z0 z1 => cI_ne (by omega) (by omega) ⟨x0, x1⟩ ⟨z0, z1⟩ (by omega) (by omega) (by omega)), (qb (cI (1 - 1) x 4)).2 (fun z z0 z1 => cI_ne (by omega) (by omega) ⟨x0, x1⟩ ⟨z0, z1⟩ (by omega) (by omega) (by omega))]
      have q := (qb (cI (1 - 1) x 1)).1.2
      have t : tb (1 - 1) x = 1 := by
        have e : ∀ x : Nat, x < 24 → tb 0 x = 1 := by decide +kernel
        have e2 := e x.toNat (by omega)
        rw [show ((x.toNat : Nat) : Int) = x by omega] at e2
        exact e2
      rw [t]; omega) (fun q x r hq x0 x1 r0 r1 => (qb (cI q x r)).2 (fun z z0 z1 => cI_ne (by omega) (by omega) ⟨x0, x1⟩ ⟨z0, z1⟩ ⟨by omega, r1⟩ (by omega) (by omega)))
    rw [show (1 : Int) + (((I y 6).toInt - 1).toNat : Int) - 1 = (I y 6).toInt - 1 by omega] at a b
    obtain ⟨t1, t2⟩ := T1.b a b (fun z z0 z1 => tb_nn (by omega) (by omega) z0 z1) (tb_fin (by omega) (by omega)) 24 0 0 (by omega) (by omega) (by show (0 : Int64).toInt ≤ 0; omega)
    exact ⟨t1, Int.le_trans t2 (tb_fin (by omega) (by omega))⟩
  · rw [if_neg c, z0]
    omega
theorem mulnz {a b v : Int64} (hv : v = a * b) (a0 : 0 ≤ a.toInt ∧ a.toInt ≤ 1000000000) (an : ¬ a.toInt = 0) (b0 : 0 ≤ b.toInt ∧ b.toInt ≤ 1000000000) (bn : ¬ b.toInt = 0) : v.toInt ≠ 0 := by
  have h1 : a.toInt * b.toInt ≤ 1000000000 * 1000000000 := Int.mul_le_mul a0.2 b0.2 b0.1 (by omega)
  have h0 : 1 * 1 ≤ a.toInt * b.toInt := Int.mul_le_mul (by omega) (by omega) (by omega) a0.1
  have e : v.toInt = a.toInt * b.toInt := by
    rw [hv, Int64.toInt_mul]
    exact Int.bmod_eq_of_le (by omega) (by omega)
  omega
