def RNok (y w v : Int) : Prop := (0 ≤ y ∧ y ≤ 23) ∧ (0 ≤ w ∧ w ≤ 2) ∧ ((w = 1 ∧ -20 ≤ v ∧ v ≤ 20) ∨ (¬ w = 1 ∧ 0 ≤ v ∧ v ≤ 9))
def STok (a b : Int) : Prop := (a = 0 ∧ 1 ≤ b ∧ b ≤ 5) ∨ (a = 1 ∧ 1 ≤ b ∧ b ≤ 9)
def MSok (a b : Int) : Prop := (0 ≤ a ∧ a ≤ 1) ∧ 1 ≤ b ∧ b ≤ 4
def CSok (a b : Int) : Prop := (-30 ≤ a ∧ a ≤ 30) ∧ a ≤ b ∧ b ≤ 30
theorem cpy24 {f g : Nat → Int32} (y : Nat) (h : y < 24) : va_cpy f g (0 : Int32).toNatClampNeg (0 : Int32).toNatClampNeg (24 : Int32).toNatClampNeg y = f y := by
  have e0 : (0 : Int32).toNatClampNeg = 0 := by decide
  have e1 : (24 : Int32).toNatClampNeg = 24 := by decide
  rw [e0, e1]
  unfold va_cpy
  rw [if_pos ⟨Nat.zero_le _, by omega⟩, Nat.zero_add, Nat.sub_zero]
/-- a hill's rain, taken over: the rows below n -/
def TKR (zR : Nat → Nat → Nat) (I0 I : Nat → Nat → Int32) (t o : Nat) (n : Int) : Prop := ∀ w y : Nat, (w : Int) < n → w < 3 → y < 24 → I (zR (zR t 0) w) y = I0 (zR (zR o 0) w) y
theorem TKR.z {zR : Nat → Nat → Nat} {I0 I : Nat → Nat → Int32} {t o : Nat} : TKR zR I0 I t o ((0 : Int32).toInt) := fun w y h _ _ => by
  have e : (0 : Int32).toInt = 0 := by decide
  omega
theorem TKR.s {zL : List Nat} {zT : Nat → Nat} {zR : Nat → Nat → Nat} {I0 I I' : Nat → Nat → Int32} {t o c e : Nat} {i : Int32} {n n' : Int} (h : TKR zR I0 I t o n) (hs : SKP zL zT zR) (tA : zT (zR t 0) = c) (hc : c = 60 ∨ c = 90) (h0 : 0 ≤ i.toInt ∧ i.toInt ≤ 2) (hn : n = i.toInt) (hn' : n' = n + 1) (p1 : ∀ y9 : Nat, y9 < 24 → I' (zR (zR t 0) i.toNatClampNeg) y9 = I (zR (zR o 0) i.toNatClampNeg) y9) (p2 : ∀ a9 : Nat, ¬ a9 = zR (zR t 0) i.toNatClampNeg → I' a9 = I a9) (ho : I (zR (zR o 0) i.toNatClampNeg) = I0 (zR (zR o 0) i.toNatClampNeg)) : TKR zR I0 I' t o n' := fun w y hw hw3 hy => by
  have ei : i.toNatClampNeg = i.toInt.toNat := rfl
  by_cases q : w = i.toNatClampNeg
  · rw [q, p1 y hy, ho]
  · have ne : ¬ zR (zR t 0) w = zR (zR t 0) i.toNatClampNeg := fun e9 => by
      rcases hc with rfl | rfl
      · exact q (hs.2.2.2.2 _ _ _ _ (vr_a tA (n := 3) rfl (by decide : (34 : Nat) ≠ 0) hw3) (vr_a tA (n := 3) rfl (by decide : (34 : Nat) ≠ 0) (by omega)) e9).2
      · exact q (hs.2.2.2.2 _ _ _ _ (vr_a tA (n := 3) rfl (by decide : (84 : Nat) ≠ 0) hw3) (vr_a tA (n := 3) rfl (by decide : (84 : Nat) ≠ 0) (by omega)) e9).2
    rw [p2 _ ne]
    exact h w y (by omega) hw3 hy
/-- a hill, taken over -/
def TKH (zR : Nat → Nat → Nat) (I0 I : Nat → Nat → Int32) (t o : Nat) : Prop := TKR zR I0 I t o 3 ∧ I t 1 = I0 o 1 ∧ I t 2 = I0 o 2
/-- candles' MOST, taken over, those below n -/
def TKM (zR : Nat → Nat → Nat) (I0 I : Nat → Nat → Int32) (t o : Nat) (n : Int) : Prop := ∀ c : Nat, (c : Int) < n → c < 2 → I (zR (zR t 2) c) 9 = I0 (zR (zR o 2) c) 9
/-- a state, taken over: causes, hill, MOST -/
def TKS (zR : Nat → Nat → Nat) (I0 I : Nat → Nat → Int32) (t o : Nat) : Prop := I t 8 = I0 o 8 ∧ TKH zR I0 I (zR t 0) (zR o 0) ∧ TKM zR I0 I t o 2
theorem TKM.z {zR : Nat → Nat → Nat} {I0 I : Nat → Nat → Int32} {t o : Nat} : TKM zR I0 I t o ((0 : Int32).toInt) := fun c h _ => by
  have e : (0 : Int32).toInt = 0 := by decide
  omega
theorem th_row {zL : List Nat} {zT : Nat → Nat} {zR : Nat → Nat → Nat} {t w : Nat} (hs : SKP zL zT zR) (tt : zT t = 4 ∨ zT t = 13) (hw : w < 3) : zT (zR (zR t 0) w) = 34 ∨ zT (zR (zR t 0) w) = 84 := by
  rcases tt with tt | tt
  · exact Or.inl (sk_a (n := 3) hs (sk_f hs tt (by decide) rfl (by decide) : zT (zR t 0) = 60) rfl rfl (by decide) hw)
  · exact Or.inr (sk_a (n := 3) hs (sk_f hs tt (by decide) rfl (by decide) : zT (zR t 0) = 90) rfl rfl (by decide) hw)
theorem TKR.sm {ks : List Nat} {zO : Nat → Prop} {zL : List Nat} {zT : Nat → Nat} {zR : Nat → Nat → Nat} {I0 I I' : Nat → Nat → Int32} {t o : Nat} {n : Int} (h : TKR zR I0 I t o n) (hs : SKP zL zT zR) (tt : zT t = 4 ∨ zT t = 13) (hm : SM ks zO zT I I') (hk : 3400 ∉ ks ∧ 8400 ∉ ks) : TKR zR I0 I' t o n := fun w y h1 h2 h3 => by
  have e : I' (zR (zR t 0) w) = I (zR (zR t 0) w) := by
    rcases th_row hs tt h2 with q | q
    · exact hm.row q (by decide) hk.1
    · exact hm.row q (by decide) hk.2
  rw [e]; exact h w y h1 h2 h3
theorem TKH.sm {ks : List Nat} {zO : Nat → Prop} {zL : List Nat} {zT : Nat → Nat} {zR : Nat → Nat → Nat} {I0 I I' : Nat → Nat → Int32} {t o : Nat} (h : TKH zR I0 I t o) (hs : SKP zL zT zR) (tt : zT t = 4 ∨ zT t = 13) (hm : SM ks zO zT I I') (hk : 3400 ∉ ks ∧ 8400 ∉ ks ∧ 401 ∉ ks ∧ 402 ∉ ks ∧ 1301 ∉ ks ∧ 1302 ∉ ks) : TKH zR I0 I' t o := by
  refine ⟨h.1.sm hs tt hm ⟨hk.1, hk.2.1⟩, ?_, ?_⟩
  · rcases tt with tt | tt
    · rw [hm t 1 (Or.inl (by rw [tt]; exact hk.2.2.1))]; exact h.2.1
    · rw [hm t 1 (Or.inl (by rw [tt]; exact hk.2.2.2.2.1))]; exact h.2.1
  · rcases tt with tt | tt
    · rw [hm t 2 (Or.inl (by rw [tt]; exact hk.2.2.2.1))]; exact h.2.2
    · rw [hm t 2 (Or.inl (by rw [tt]; exact hk.2.2.2.2.2))]; exact h.2.2
theorem tc_row {zL : List Nat} {zT : Nat → Nat} {zR : Nat → Nat → Nat} {t c : Nat} (hs : SKP zL zT zR) (tt : zT t = 9 ∨ zT t = 12) (hc : c < 2) : zT (zR (zR t 2) c) = 1 ∨ zT (zR (zR t 2) c) = 15 := by
  rcases tt with tt | tt
  · exact Or.inl (sk_a (n := 2) hs (sk_f hs tt (by decide) rfl (by decide) : zT (zR t 2) = 61) rfl rfl (by decide) hc)
  · exact Or.inr (sk_a (n := 2) hs (sk_f hs tt (by decide) rfl (by decide) : zT (zR t 2) = 91) rfl rfl (by decide) hc)
theorem tc_ne {zL : List Nat} {zT : Nat → Nat} {zR : Nat → Nat → Nat} {t c d : Nat} (hs : SKP zL zT zR) (tt : zT t = 9 ∨ zT t = 12) (hc : c < 2) (hd : d < 2) (hne : ¬ c = d) : ¬ zR (zR t 2) c = zR (zR t 2) d := fun e => by
  rcases tt with tt | tt
  · have tA : zT (zR t 2) = 61 := sk_f hs tt (by decide) rfl (by decide)
    exact hne (hs.2.2.2.2 _ _ _ _ (vr_a tA (n := 2) rfl (by decide : (1 : Nat) ≠ 0) hc) (vr_a tA (n := 2) rfl (by decide : (1 : Nat) ≠ 0) hd) e).2
  · have tA : zT (zR t 2) = 91 := sk_f hs tt (by decide) rfl (by decide)
    exact hne (hs.2.2.2.2 _ _ _ _ (vr_a tA (n := 2) rfl (by decide : (15 : Nat) ≠ 0) hc) (vr_a tA (n := 2) rfl (by decide : (15 : Nat) ≠ 0) hd) e).2
theorem TKM.sm {ks : List Nat} {zO : Nat → Prop} {zL : List Nat} {zT : Nat → Nat} {zR : Nat → Nat → Nat} {I0 I I' : Nat → Nat → Int32} {t o : Nat} {n : Int} (h : TKM zR I0 I t o n) (hs : SKP zL zT zR) (tt : zT t = 9 ∨ zT t = 12) (hm : SM ks zO zT I I') (hk : 109 ∉ ks ∧ 1509 ∉ ks) : TKM zR I0 I' t o n := fun c h1 h2 => by
  have e : I' (zR (zR t 2) c) 9 = I (zR (zR t 2) c) 9 := by
    rcases tc_row hs tt h2 with q | q
    · exact hm _ 9 (Or.inl (by rw [q]; exact hk.1))
    · exact hm _ 9 (Or.inl (by rw [q]; exact hk.2))
  rw [e]; exact h c h1 h2
theorem TKM.s {zL : List Nat} {zT : Nat → Nat} {zR : Nat → Nat → Nat} {I0 I I' : Nat → Nat → Int32} {t o tc : Nat} {i : Int32} {n n' : Int} (h : TKM zR I0 I t o n) (hs : SKP zL zT zR) (tt : zT t = 9 ∨ zT t = 12) (h0 : 0 ≤ i.toInt ∧ i.toInt ≤ 1) (hn : n = i.toInt) (hn' : n' = n + 1) (ht : ∀ c : Nat, c < 2 → zT (zR (zR t 2) c) = tc) (p1 : I' (zR (zR t 2) i.toNatClampNeg) 9 = I (zR (zR o 2) i.toNatClampNeg) 9) (p2 : ∀ a9 : Nat, zT a9 = tc → ¬ a9 = zR (zR t 2) i.toNatClampNeg → I' a9 9 = I a9 9) (ho : I (zR (zR o 2) i.toNatClampNeg) 9 = I0 (zR (zR o 2) i.toNatClampNeg) 9) : TKM zR I0 I' t o n' := fun c hc hc2 => by
  have ei : i.toNatClampNeg = i.toInt.toNat := rfl
  by_cases q : c = i.toNatClampNeg
  · rw [q, p1, ho]
  · rw [p2 _ (ht c hc2) (tc_ne hs tt hc2 (by omega) q)]
    exact h c (by omega) hc2
theorem TKS.sm {ks : List Nat} {zO : Nat → Prop} {zL : List Nat} {zT : Nat → Nat} {zR : Nat → Nat → Nat} {I0 I I' : Nat → Nat → Int32} {t o : Nat} (h : TKS zR I0 I t o) (hs : SKP zL zT zR) (tt : zT t = 9 ∨ zT t = 12) (hm : SM ks zO zT I I') (hk : (3400 ∉ ks ∧ 8400 ∉ ks ∧ 401 ∉ ks ∧ 402 ∉ ks ∧ 1301 ∉ ks ∧ 1302 ∉ ks) ∧ (109 ∉ ks ∧ 1509 ∉ ks) ∧ 908 ∉ ks ∧ 1208 ∉ ks) : TKS zR I0 I' t o := by
  refine ⟨?_, h.2.1.sm hs (tt.imp (fun q => sk_f hs q (by decide) rfl (by decide)) (fun q => sk_f hs q (by decide) rfl (by decide))) hm hk.1, h.2.2.sm hs tt hm hk.2.1⟩
  rcases tt with tt | tt
  · rw [hm t 8 (Or.inl (by rw [tt]; exact hk.2.2.1))]; exact h.1
  · rw [hm t 8 (Or.inl (by rw [tt]; exact hk.2.2.2))]; exact h.1
theorem TKR.e {zR : Nat → Nat → Nat} {I0 I : Nat → Nat → Int32} {t o : Nat} {n m : Int} (h : TKR zR I0 I t o n) (e : m ≤ n) : TKR zR I0 I t o m := fun w y h1 h2 h3 => h w y (by omega) h2 h3
theorem TKM.e {zR : Nat → Nat → Nat} {I0 I : Nat → Nat → Int32} {t o : Nat} {n m : Int} (h : TKM zR I0 I t o n) (e : m ≤ n) : TKM zR I0 I t o m := fun c h1 h2 => h c (by omega) h2
