def cTT : List Nat := [11, 9, 4, 60, 34, 34, 34, 5, 22, 29, 30, 30, 30, 61, 1, 20, 21, 21, 22, 22, 22, 23, 1, 20, 21, 21, 22, 22, 22, 23, 3, 24, 25, 26, 26, 27, 27, 62, 2, 31, 31, 31, 31, 32, 33, 2, 31, 31, 31, 31, 32, 33, 2, 31, 31, 31, 31, 32, 33, 2, 31, 31, 31, 31, 32, 33, 48, 48, 12, 13, 90, 84, 84, 84, 14, 72, 79, 80, 80, 80, 91, 15, 70, 71, 71, 72, 72, 72, 73, 15, 70, 71, 71, 72, 72, 72, 73, 16, 74, 75, 76, 76, 77, 77, 92, 17, 81, 81, 81, 81, 82, 83, 17, 81, 81, 81, 81, 82, 83, 17, 81, 81, 81, 81, 82, 83, 17, 81, 81, 81, 81, 82, 83, 98, 98, 7, 35, 5, 22, 29, 30, 30, 30, 2, 31, 31, 31, 31, 32, 33, 63, 8, 36, 8, 36, 8, 36, 8, 36, 64, 10, 37, 38, 39, 39, 40, 39, 42, 65, 50, 50, 50, 50, 50, 50, 50, 50, 50, 50, 50, 50, 65, 50, 50, 50, 50, 50, 50, 50, 50, 50, 50, 50, 50, 51, 43, 50, 50, 10, 37, 38, 39, 39, 40, 39, 42, 65, 50, 50, 50, 50, 50, 50, 50, 50, 50, 50, 50, 50, 65, 50, 50, 50, 50, 50, 50, 50, 50, 50, 50, 50, 50, 51, 43, 50, 50, 47, 6, 45, 45, 46, 46, 44, 52, 50, 18, 100, 101, 102, 103, 104, 105, 106, 107, 113, 114, 115, 116, 108, 117, 118, 109, 110, 111, 112]
def cRR : List (List Nat) := [[1, 68, 135, 137, 143, 150, 159, 236, 237], [2, 7, 13, 30, 37, 66, 67], [3], [4, 5, 6], [], [], [], [8, 9, 10, 11, 12], [], [], [], [], [], [14, 22], [15, 16, 17, 18, 19, 20, 21], [], [], [], [], [], [], [], [23, 24, 25, 26, 27, 28, 29], [], [], [], [], [], [], [], [31, 32, 33, 34, 35, 36], [], [], [], [], [], [], [38, 45, 52, 59], [39, 40, 41, 42, 43, 44], [], [], [], [], [], [], [46, 47, 48, 49, 50, 51], [], [], [], [], [], [], [53, 54, 55, 56, 57, 58], [], [], [], [], [], [], [60, 61, 62, 63, 64, 65], [], [], [], [], [], [], [], [], [69, 74, 80, 97, 104, 133, 134], [70], [71, 72, 73], [], [], [], [75, 76, 77, 78, 79], [], [], [], [], [], [81, 89], [82, 83, 84, 85, 86, 87, 88], [], [], [], [], [], [], [], [90, 91, 92, 93, 94, 95, 96], [], [], [], [], [], [], [], [98, 99, 100, 101, 102, 103], [], [], [], [], [], [], [105, 112, 119, 126], [106, 107, 108, 109, 110, 111], [], [], [], [], [], [], [113, 114, 115, 116, 117, 118], [], [], [], [], [], [], [120, 121, 122, 123, 124, 125], [], [], [], [], [], [], [127, 128, 129, 130, 131, 132], [], [], [], [], [], [], [], [], [136], [], [138, 139, 140, 141, 142], [], [], [], [], [], [144, 145, 146, 147, 148, 149], [], [], [], [], [], [], [151, 153, 155, 157], [152], [], [154], [], [156], [], [158], [], [160, 198], [161, 162, 163, 164, 165, 166, 167, 168, 181, 194, 195, 196, 197], [], [], [], [], [], [], [], [169, 170, 171, 172, 173, 174, 175, 176, 177, 178, 179, 180], [], [], [], [], [], [], [], [], [], [], [], [], [182, 183, 184, 185, 186, 187, 188, 189, 190, 191, 192, 193], [], [], [], [], [], [], [], [], [], [], [], [], [], [], [], [], [199, 200, 201, 202, 203, 204, 205, 206, 219, 232, 233, 234, 235], [], [], [], [], [], [], [], [207, 208, 209, 210, 211, 212, 213, 214, 215, 216, 217, 218], [], [], [], [], [], [], [], [], [], [], [], [], [220, 221, 222, 223, 224, 225, 226, 227, 228, 229, 230, 231], [], [], [], [], [], [], [], [], [], [], [], [], [], [], [], [], [], [238, 239, 240, 241, 242, 243, 244], [], [], [], [], [], [], [], [246, 247, 0, 0, 0, 248, 0, 0, 249, 250, 251, 252, 253, 254, 255, 0, 256, 257, 258, 0, 0, 259, 260, 0, 261, 262, 263, 264], [], [], [], [], [], [], [], [], [], [], [], [], [], [], [], [], [], [], []]
def cIV : List (List Int32) := [[0, 0, 0, 0, 0, 0, 0, 0, 0, 0], [0, 0, 0, 0, 0, 0, 0, 0, 0], [0, 1, 3], [], [], [], [], [0, 0, 0, 0, 0, 0], [], [], [], [], [], [], [0, 0, 0, 0, 0, 0, 0, 0, 0, 2, 0], [], [], [], [], [], [], [], [0, 0, 0, 0, 0, 0, 0, 0, 0, 2, 0], [], [], [], [], [], [], [], [0, 0, 0, 0, 0, 0, 0], [], [], [], [], [], [], [], [0, 0, 0, 0, 0, 0, 0, 0], [], [], [], [], [], [], [0, 0, 0, 0, 0, 0, 0, 0], [], [], [], [], [], [], [0, 0, 0, 0, 0, 0, 0, 0], [], [], [], [], [], [], [0, 0, 0, 0, 0, 0, 0, 0], [], [], [], [], [], [], [], [], [0, 0, 0, 0, 0, 0, 0, 0, 0], [0, 1, 3], [], [], [], [], [0, 0, 0, 0, 0, 0], [], [], [], [], [], [], [0, 0, 0, 0, 0, 0, 0, 0, 0, 2, 0], [], [], [], [], [], [], [], [0, 0, 0, 0, 0, 0, 0, 0, 0, 2, 0], [], [], [], [], [], [], [], [0, 0, 0, 0, 0, 0, 0], [], [], [], [], [], [], [], [0, 0, 0, 0, 0, 0, 0, 0], [], [], [], [], [], [], [0, 0, 0, 0, 0, 0, 0, 0], [], [], [], [], [], [], [0, 0, 0, 0, 0, 0, 0, 0], [], [], [], [], [], [], [0, 0, 0, 0, 0, 0, 0, 0], [], [], [], [], [], [], [], [], [0, 0, 0, 0], [], [0, 0, 0, 0, 0, 0], [], [], [], [], [], [0, 0, 0, 0, 0, 0, 0, 0], [], [], [], [], [], [], [], [0, 0, 0, 0], [], [0, 0, 0, 0], [], [0, 0, 0, 0], [], [0, 0, 0, 0], [], [], [0, 0, 0, 0, 0, 0, 0, 0, 0, 0, 0, 0, 0, 0, 0, 0], [], [], [], [], [], [], [], [], [], [], [], [], [], [], [], [], [], [], [], [], [], [], [], [], [], [], [], [], [], [], [], [], [], [], [], [], [], [0, 0, 0, 0, 0, 0, 0, 0, 0, 0, 0, 0, 0, 0, 0, 0], [], [], [], [], [], [], [], [], [], [], [], [], [], [], [], [], [], [], [], [], [], [], [], [], [], [], [], [], [], [], [], [], [], [], [], [], [], [], [0, 0, 0, 0, 0, 0, 0, 0, 0], [], [], [], [], [], [], [], [0, 0, 0, 0, 0, 0, 0, 0, 0, 0, 0, 0, 0, 0, 0, 0, 0, 0, 0, 0, 0, 0, 0, 0, 0, 0, 0, 0], [], [], [], [], [], [], [], [], [], [], [], [], [], [], [], [], [], [], []]
def cPAR : List (Nat × Nat) := [(265, 999), (0, 0), (1, 0), (2, 0), (3, 0), (3, 1), (3, 2), (1, 1), (7, 0), (7, 1), (7, 2), (7, 3), (7, 4), (1, 2), (13, 0), (14, 0), (14, 1), (14, 2), (14, 3), (14, 4), (14, 5), (14, 6), (13, 1), (22, 0), (22, 1), (22, 2), (22, 3), (22, 4), (22, 5), (22, 6), (1, 3), (30, 0), (30, 1), (30, 2), (30, 3), (30, 4), (30, 5), (1, 4), (37, 0), (38, 0), (38, 1), (38, 2), (38, 3), (38, 4), (38, 5), (37, 1), (45, 0), (45, 1), (45, 2), (45, 3), (45, 4), (45, 5), (37, 2), (52, 0), (52, 1), (52, 2), (52, 3), (52, 4), (52, 5), (37, 3), (59, 0), (59, 1), (59, 2), (59, 3), (59, 4), (59, 5), (1, 5), (1, 6), (0, 1), (68, 0), (69, 0), (70, 0), (70, 1), (70, 2), (68, 1), (74, 0), (74, 1), (74, 2), (74, 3), (74, 4), (68, 2), (80, 0), (81, 0), (81, 1), (81, 2), (81, 3), (81, 4), (81, 5), (81, 6), (80, 1), (89, 0), (89, 1), (89, 2), (89, 3), (89, 4), (89, 5), (89, 6), (68, 3), (97, 0), (97, 1), (97, 2), (97, 3), (97, 4), (97, 5), (68, 4), (104, 0), (105, 0), (105, 1), (105, 2), (105, 3), (105, 4), (105, 5), (104, 1), (112, 0), (112, 1), (112, 2), (112, 3), (112, 4), (112, 5), (104, 2), (119, 0), (119, 1), (119, 2), (119, 3), (119, 4), (119, 5), (104, 3), (126, 0), (126, 1), (126, 2), (126, 3), (126, 4), (126, 5), (68, 5), (68, 6), (0, 2), (135, 0), (0, 3), (137, 0), (137, 1), (137, 2), (137, 3), (137, 4), (0, 4), (143, 0), (143, 1), (143, 2), (143, 3), (143, 4), (143, 5), (0, 5), (150, 0), (151, 0), (150, 1), (153, 0), (150, 2), (155, 0), (150, 3), (157, 0), (0, 6), (159, 0), (160, 0), (160, 1), (160, 2), (160, 3), (160, 4), (160, 5), (160, 6), (160, 7), (168, 0), (168, 1), (168, 2), (168, 3), (168, 4), (168, 5), (168, 6), (168, 7), (168, 8), (168, 9), (168, 10), (168, 11), (160, 8), (181, 0), (181, 1), (181, 2), (181, 3), (181, 4), (181, 5), (181, 6), (181, 7), (181, 8), (181, 9), (181, 10), (181, 11), (160, 9), (160, 10), (160, 11), (160, 12), (159, 1), (198, 0), (198, 1), (198, 2), (198, 3), (198, 4), (198, 5), (198, 6), (198, 7), (206, 0), (206, 1), (206, 2), (206, 3), (206, 4), (206, 5), (206, 6), (206, 7), (206, 8), (206, 9), (206, 10), (206, 11), (198, 8), (219, 0), (219, 1), (219, 2), (219, 3), (219, 4), (219, 5), (219, 6), (219, 7), (219, 8), (219, 9), (219, 10), (219, 11), (198, 9), (198, 10), (198, 11), (198, 12), (0, 7), (0, 8), (237, 0), (237, 1), (237, 2), (237, 3), (237, 4), (237, 5), (237, 6), (265, 999), (245, 0), (245, 1), (245, 5), (245, 8), (245, 9), (245, 10), (245, 11), (245, 12), (245, 13), (245, 14), (245, 16), (245, 17), (245, 18), (245, 21), (245, 22), (245, 24), (245, 25), (245, 26), (245, 27)]
def cvT (k : Nat) : Nat := cTT.getD k 0
def cvR (k i : Nat) : Nat := (cRR.getD k []).getD i 0
def cvI (k i : Nat) : Int32 := if k = 246 then zz i else if k = 262 then ll i else (cIV.getD k []).getD i 0
def cx (g : Nat → Nat) (a : Nat) : Nat := (List.range 265).findIdx (fun k => g k == a)
theorem cx_at {g : Nat → Nat} (hg : ∀ i j : Nat, i < 265 → j < 265 → g i = g j → i = j) {k : Nat} (hk : k < 265) : cx g (g k) = k := by
  unfold cx
  have h1 : (List.range 265).findIdx (fun x => g x == g k) = k := by
    rw [List.findIdx_eq (by rw [List.length_range]; exact hk)]
    refine ⟨?_, fun j hj => ?_⟩
    · simp
    · have hne : ¬ g j = g k := fun e => by have q := hg j k (by omega) hk e; omega
      simpa using hne
  exact h1
theorem cx_no {g : Nat → Nat} {a : Nat} (h : ∀ k : Nat, k < 265 → ¬ g k = a) : cx g a = 265 := by
  unfold cx
  have e : (List.range 265).findIdx (fun k => g k == a) = (List.range 265).length := List.findIdx_eq_length.mpr (fun x hx => by
    have q := h x (List.mem_range.mp hx)
    simpa using q)
  rw [e, List.length_range]
def oL (g : Nat → Nat) : List Nat := (List.range 265).map g
def oT (g : Nat → Nat) (a : Nat) : Nat := cvT (cx g a)
def oR (g : Nat → Nat) (a i : Nat) : Nat := g (cvR (cx g a) i)
def oI (g : Nat → Nat) (a i : Nat) : Int32 := cvI (cx g a) i
def oJ (_ _ : Nat) : Int64 := 0
/-- an entry, by its place -/
def EK (cy : Nat → ClassId) (g : Nat → Nat) (k : Nat) : va_E := match DT (cvT k) with
  | .inl o => .inr (o.1, mkF (fun _ i => g (cvR k i)) (fun _ i => cvI k i) (fun _ _ => 0) 0 o.2 0)
  | .inr q => .inl (cy q.1, q.2.1, if q.2.2 = 1 then .inl (cvI k) else if q.2.2 = 2 then .inr (.inl (fun _ => 0)) else .inr (.inr (.inr (.inr (fun i => if i < q.2.1 then some (g (cvR k i)) else none)))))
theorem mkF_a {zR zR' : Nat → Nat → Nat} {zI zI' : Nat → Nat → Int32} {zJ zJ' : Nat → Nat → Int64} {a b : Nat} : ∀ (ks : List Nat) (i : Nat), (∀ j, zR a j = zR' b j) → (∀ j, zI a j = zI' b j) → (∀ j, zJ a j = zJ' b j) → mkF zR zI zJ a ks i = mkF zR' zI' zJ' b ks i
  | [], _, _, _, _ => rfl
  | k :: ks, i, h1, h2, h3 => by
    unfold mkF
    rw [h1 i, h2 i, h3 i, mkF_a ks (i + 1) h1 h2 h3]
theorem EK_at {cy : Nat → ClassId} {g : Nat → Nat} {a k : Nat} (h : cx g a = k) : EN cy (oT g) (oR g) (oI g) oJ a = EK cy g k := by
  unfold EN EK oT
  rw [h]
  cases DT (cvT k) with
  | inl o => simp only [mkF_a (zR := oR g) (zR' := fun _ i => g (cvR k i)) (zI := oI g) (zI' := fun _ i => cvI k i) (zJ := oJ) (zJ' := fun _ _ => 0) (a := a) (b := 0) o.2 0 (fun j => by unfold oR; rw [h]) (fun j => by unfold oI; rw [h]) (fun _ => rfl)]
  | inr q =>
    have e1 : oI g a = cvI k := funext fun j => by unfold oI; rw [h]
    have e2 : oJ a = fun _ => 0 := rfl
    have e3 : ∀ i, oR g a i = g (cvR k i) := fun i => by unfold oR; rw [h]
    simp only [e1, e2, e3]
theorem va_up2 {x0 x1 : Nat} {f : Nat → Nat} (h0 : f 0 = x0) (h1 : f 1 = x1) : va_up (va_up (fun _ => none) (0 : Int32).toNatClampNeg (some x0)) (1 : Int32).toNatClampNeg (some x1) = fun i => if i < 2 then some (f i) else none := by
  funext i
  match i with
  | 0 => rw [h0]; rfl
  | 1 => rw [h1]; rfl
  | i + 2 =>
    have e : ¬ i + 2 < 2 := by omega
    have e0 : (0 : Int32).toNatClampNeg = 0 := by decide
    have e1 : (1 : Int32).toNatClampNeg = 1 := by decide
    rw [if_neg e, e0, e1]
    simp [va_up]
theorem va_up4 {x0 x1 x2 x3 : Nat} {f : Nat → Nat} (h0 : f 0 = x0) (h1 : f 1 = x1) (h2 : f 2 = x2) (h3 : f 3 = x3) : va_up (va_up (va_up (va_up (fun _ => none) (0 : Int32).toNatClampNeg (some x0)) (1 : Int32).toNatClampNeg (some x1)) (2 : Int32).toNatClampNeg (some x2)) (3 : Int32).toNatClampNeg (some x3) = fun i => if i < 4 then some (f i) else none := by
  funext i
  match i with
  | 0 => rw [h0]; rfl
  | 1 => rw [h1]; rfl
  | 2 => rw [h2]; rfl
  | 3 => rw [h3]; rfl
  | i + 4 =>
    have e : ¬ i + 4 < 4 := by omega
    have e0 : (0 : Int32).toNatClampNeg = 0 := by decide
    have e1 : (1 : Int32).toNatClampNeg = 1 := by decide
    have e2 : (2 : Int32).toNatClampNeg = 2 := by decide
    have e3 : (3 : Int32).toNatClampNeg = 3 := by decide
    rw [if_neg e, e0, e1, e2, e3]
    simp [va_up]
theorem row_q {n : Nat} {f q : Nat → Nat} (h : ∀ i, i < n → q i = f i) : (fun i => if i < n then some (q i) else none) = fun i => if i < n then some (f i) else none := by
  funext i
  by_cases c : i < n
  · rw [if_pos c, if_pos c, h i c]
  · rw [if_neg c, if_neg c]
theorem ek_0 {cy : Nat → ClassId} {g : Nat → Nat} : EK cy g 0 = .inr (10, [.ref (g 1), .ref (g 68), .ref (g 135), .ref (g 137), .ref (g 143), .ref (g 150), .ref (g 159), .ref (g 236), .ref (g 237), .int 0]) := rfl
theorem ek_1 {cy : Nat → ClassId} {g : Nat → Nat} : EK cy g 1 = .inr (8, [.ref (g 2), .ref (g 7), .ref (g 13), .ref (g 30), .ref (g 37), .ref (g 66), .ref (g 67), .int 0, .int 0]) := rfl
theorem ek_2 {cy : Nat → ClassId} {g : Nat → Nat} : EK cy g 2 = .inr (3, [.ref (g 3), .int 1, .int 3]) := rfl
theorem ek_3 {cy : Nat → ClassId} {g q0 : Nat → Nat} (h : ∀ i, i < 3 → q0 i = g (cvR 3 i)) : EK cy g 3 = .inl (cy 7, 3, .inr (.inr (.inr (.inr (fun i => if i < 3 then some (q0 i) else none))))) := (congrArg (fun f9 => (.inl (cy 7, 3, .inr (.inr (.inr (.inr f9)))) : va_E)) (row_q h)).symm
theorem ek_4 {cy : Nat → ClassId} {g : Nat → Nat} : EK cy g 4 = .inl (cy 0, 24, .inl (fun _ => 0)) := rfl
theorem ek_5 {cy : Nat → ClassId} {g : Nat → Nat} : EK cy g 5 = .inl (cy 0, 24, .inl (fun _ => 0)) := rfl
theorem ek_6 {cy : Nat → ClassId} {g : Nat → Nat} : EK cy g 6 = .inl (cy 0, 24, .inl (fun _ => 0)) := rfl
theorem ek_7 {cy : Nat → ClassId} {g : Nat → Nat} : EK cy g 7 = .inr (4, [.ref (g 8), .ref (g 9), .ref (g 10), .ref (g 11), .ref (g 12), .int 0]) := rfl
theorem ek_8 {cy : Nat → ClassId} {g : Nat → Nat} : EK cy g 8 = .inl (cy 0, 6, .inl (fun _ => 0)) := rfl
theorem ek_9 {cy : Nat → ClassId} {g : Nat → Nat} : EK cy g 9 = .inl (cy 0, 6, .inl (fun _ => 0)) := rfl
theorem ek_10 {cy : Nat → ClassId} {g : Nat → Nat} : EK cy g 10 = .inl (cy 0, 18, .inl (fun _ => 0)) := rfl
theorem ek_11 {cy : Nat → ClassId} {g : Nat → Nat} : EK cy g 11 = .inl (cy 0, 18, .inl (fun _ => 0)) := rfl
theorem ek_12 {cy : Nat → ClassId} {g : Nat → Nat} : EK cy g 12 = .inl (cy 0, 18, .inl (fun _ => 0)) := rfl
theorem ek_13 {cy : Nat → ClassId} {g : Nat → Nat} : EK cy g 13 = .inl (cy 3, 2, .inr (.inr (.inr (.inr (va_up (va_up (fun _ => none) (0 : Int32).toNatClampNeg (some (g 14))) (1 : Int32).toNatClampNeg (some (g 22))))))) := (congrArg (fun f9 => (.inl (cy 3, 2, .inr (.inr (.inr (.inr f9)))) : va_E)) (va_up2 (f := fun i => g (cvR 13 i)) rfl rfl)).symm
theorem ek_14 {cy : Nat → ClassId} {g : Nat → Nat} : EK cy g 14 = .inr (0, [.ref (g 15), .ref (g 16), .ref (g 17), .ref (g 18), .ref (g 19), .ref (g 20), .ref (g 21), .int 0, .int 0, .int 2, .int 0]) := rfl
theorem ek_15 {cy : Nat → ClassId} {g : Nat → Nat} : EK cy g 15 = .inl (cy 0, 12, .inl (fun _ => 0)) := rfl
theorem ek_16 {cy : Nat → ClassId} {g : Nat → Nat} : EK cy g 16 = .inl (cy 0, 12, .inl (fun _ => 0)) := rfl
theorem ek_17 {cy : Nat → ClassId} {g : Nat → Nat} : EK cy g 17 = .inl (cy 0, 12, .inl (fun _ => 0)) := rfl
theorem ek_18 {cy : Nat → ClassId} {g : Nat → Nat} : EK cy g 18 = .inl (cy 0, 6, .inl (fun _ => 0)) := rfl
theorem ek_19 {cy : Nat → ClassId} {g : Nat → Nat} : EK cy g 19 = .inl (cy 0, 6, .inl (fun _ => 0)) := rfl
theorem ek_20 {cy : Nat → ClassId} {g : Nat → Nat} : EK cy g 20 = .inl (cy 0, 6, .inl (fun _ => 0)) := rfl
theorem ek_21 {cy : Nat → ClassId} {g : Nat → Nat} : EK cy g 21 = .inl (cy 0, 6, .inl (fun _ => 0)) := rfl
theorem ek_22 {cy : Nat → ClassId} {g : Nat → Nat} : EK cy g 22 = .inr (0, [.ref (g 23), .ref (g 24), .ref (g 25), .ref (g 26), .ref (g 27), .ref (g 28), .ref (g 29), .int 0, .int 0, .int 2, .int 0]) := rfl
theorem ek_23 {cy : Nat → ClassId} {g : Nat → Nat} : EK cy g 23 = .inl (cy 0, 12, .inl (fun _ => 0)) := rfl
theorem ek_24 {cy : Nat → ClassId} {g : Nat → Nat} : EK cy g 24 = .inl (cy 0, 12, .inl (fun _ => 0)) := rfl
theorem ek_25 {cy : Nat → ClassId} {g : Nat → Nat} : EK cy g 25 = .inl (cy 0, 12, .inl (fun _ => 0)) := rfl
theorem ek_26 {cy : Nat → ClassId} {g : Nat → Nat} : EK cy g 26 = .inl (cy 0, 6, .inl (fun _ => 0)) := rfl
theorem ek_27 {cy : Nat → ClassId} {g : Nat → Nat} : EK cy g 27 = .inl (cy 0, 6, .inl (fun _ => 0)) := rfl
theorem ek_28 {cy : Nat → ClassId} {g : Nat → Nat} : EK cy g 28 = .inl (cy 0, 6, .inl (fun _ => 0)) := rfl
theorem ek_29 {cy : Nat → ClassId} {g : Nat → Nat} : EK cy g 29 = .inl (cy 0, 6, .inl (fun _ => 0)) := rfl
theorem ek_30 {cy : Nat → ClassId} {g : Nat → Nat} : EK cy g 30 = .inr (2, [.ref (g 31), .ref (g 32), .ref (g 33), .ref (g 34), .ref (g 35), .ref (g 36), .int 0]) := rfl
theorem ek_31 {cy : Nat → ClassId} {g : Nat → Nat} : EK cy g 31 = .inl (cy 0, 8, .inl (fun _ => 0)) := rfl
theorem ek_32 {cy : Nat → ClassId} {g : Nat → Nat} : EK cy g 32 = .inl (cy 0, 8, .inl (fun _ => 0)) := rfl
theorem ek_33 {cy : Nat → ClassId} {g : Nat → Nat} : EK cy g 33 = .inl (cy 0, 8, .inl (fun _ => 0)) := rfl
theorem ek_34 {cy : Nat → ClassId} {g : Nat → Nat} : EK cy g 34 = .inl (cy 0, 8, .inl (fun _ => 0)) := rfl
theorem ek_35 {cy : Nat → ClassId} {g : Nat → Nat} : EK cy g 35 = .inl (cy 0, 8, .inl (fun _ => 0)) := rfl
theorem ek_36 {cy : Nat → ClassId} {g : Nat → Nat} : EK cy g 36 = .inl (cy 0, 8, .inl (fun _ => 0)) := rfl
theorem ek_37 {cy : Nat → ClassId} {g : Nat → Nat} : EK cy g 37 = .inl (cy 4, 4, .inr (.inr (.inr (.inr (va_up (va_up (va_up (va_up (fun _ => none) (0 : Int32).toNatClampNeg (some (g 38))) (1 : Int32).toNatClampNeg (some (g 45))) (2 : Int32).toNatClampNeg (some (g 52))) (3 : Int32).toNatClampNeg (some (g 59))))))) := (congrArg (fun f9 => (.inl (cy 4, 4, .inr (.inr (.inr (.inr f9)))) : va_E)) (va_up4 (f := fun i => g (cvR 37 i)) rfl rfl rfl rfl)).symm
theorem ek_38 {cy : Nat → ClassId} {g : Nat → Nat} : EK cy g 38 = .inr (1, [.ref (g 39), .ref (g 40), .ref (g 41), .ref (g 42), .ref (g 43), .ref (g 44), .int 0, .int 0]) := rfl
theorem ek_39 {cy : Nat → ClassId} {g : Nat → Nat} : EK cy g 39 = .inl (cy 0, 2, .inl (fun _ => 0)) := rfl
theorem ek_40 {cy : Nat → ClassId} {g : Nat → Nat} : EK cy g 40 = .inl (cy 0, 2, .inl (fun _ => 0)) := rfl
theorem ek_41 {cy : Nat → ClassId} {g : Nat → Nat} : EK cy g 41 = .inl (cy 0, 2, .inl (fun _ => 0)) := rfl
theorem ek_42 {cy : Nat → ClassId} {g : Nat → Nat} : EK cy g 42 = .inl (cy 0, 2, .inl (fun _ => 0)) := rfl
theorem ek_43 {cy : Nat → ClassId} {g : Nat → Nat} : EK cy g 43 = .inl (cy 0, 2, .inl (fun _ => 0)) := rfl
theorem ek_44 {cy : Nat → ClassId} {g : Nat → Nat} : EK cy g 44 = .inl (cy 2, 2, .inl (fun _ => 0)) := rfl
theorem ek_45 {cy : Nat → ClassId} {g : Nat → Nat} : EK cy g 45 = .inr (1, [.ref (g 46), .ref (g 47), .ref (g 48), .ref (g 49), .ref (g 50), .ref (g 51), .int 0, .int 0]) := rfl
theorem ek_46 {cy : Nat → ClassId} {g : Nat → Nat} : EK cy g 46 = .inl (cy 0, 2, .inl (fun _ => 0)) := rfl
theorem ek_47 {cy : Nat → ClassId} {g : Nat → Nat} : EK cy g 47 = .inl (cy 0, 2, .inl (fun _ => 0)) := rfl
theorem ek_48 {cy : Nat → ClassId} {g : Nat → Nat} : EK cy g 48 = .inl (cy 0, 2, .inl (fun _ => 0)) := rfl
theorem ek_49 {cy : Nat → ClassId} {g : Nat → Nat} : EK cy g 49 = .inl (cy 0, 2, .inl (fun _ => 0)) := rfl
theorem ek_50 {cy : Nat → ClassId} {g : Nat → Nat} : EK cy g 50 = .inl (cy 0, 2, .inl (fun _ => 0)) := rfl
theorem ek_51 {cy : Nat → ClassId} {g : Nat → Nat} : EK cy g 51 = .inl (cy 2, 2, .inl (fun _ => 0)) := rfl
theorem ek_52 {cy : Nat → ClassId} {g : Nat → Nat} : EK cy g 52 = .inr (1, [.ref (g 53), .ref (g 54), .ref (g 55), .ref (g 56), .ref (g 57), .ref (g 58), .int 0, .int 0]) := rfl
theorem ek_53 {cy : Nat → ClassId} {g : Nat → Nat} : EK cy g 53 = .inl (cy 0, 2, .inl (fun _ => 0)) := rfl
theorem ek_54 {cy : Nat → ClassId} {g : Nat → Nat} : EK cy g 54 = .inl (cy 0, 2, .inl (fun _ => 0)) := rfl
theorem ek_55 {cy : Nat → ClassId} {g : Nat → Nat} : EK cy g 55 = .inl (cy 0, 2, .inl (fun _ => 0)) := rfl
theorem ek_56 {cy : Nat → ClassId} {g : Nat → Nat} : EK cy g 56 = .inl (cy 0, 2, .inl (fun _ => 0)) := rfl
theorem ek_57 {cy : Nat → ClassId} {g : Nat → Nat} : EK cy g 57 = .inl (cy 0, 2, .inl (fun _ => 0)) := rfl
theorem ek_58 {cy : Nat → ClassId} {g : Nat → Nat} : EK cy g 58 = .inl (cy 2, 2, .inl (fun _ => 0)) := rfl
theorem ek_59 {cy : Nat → ClassId} {g : Nat → Nat} : EK cy g 59 = .inr (1, [.ref (g 60), .ref (g 61), .ref (g 62), .ref (g 63), .ref (g 64), .ref (g 65), .int 0, .int 0]) := rfl
theorem ek_60 {cy : Nat → ClassId} {g : Nat → Nat} : EK cy g 60 = .inl (cy 0, 2, .inl (fun _ => 0)) := rfl
theorem ek_61 {cy : Nat → ClassId} {g : Nat → Nat} : EK cy g 61 = .inl (cy 0, 2, .inl (fun _ => 0)) := rfl
theorem ek_62 {cy : Nat → ClassId} {g : Nat → Nat} : EK cy g 62 = .inl (cy 0, 2, .inl (fun _ => 0)) := rfl
theorem ek_63 {cy : Nat → ClassId} {g : Nat → Nat} : EK cy g 63 = .inl (cy 0, 2, .inl (fun _ => 0)) := rfl
theorem ek_64 {cy : Nat → ClassId} {g : Nat → Nat} : EK cy g 64 = .inl (cy 0, 2, .inl (fun _ => 0)) := rfl
theorem ek_65 {cy : Nat → ClassId} {g : Nat → Nat} : EK cy g 65 = .inl (cy 2, 2, .inl (fun _ => 0)) := rfl
theorem ek_66 {cy : Nat → ClassId} {g : Nat → Nat} : EK cy g 66 = .inl (cy 0, 5, .inl (fun _ => 0)) := rfl
theorem ek_67 {cy : Nat → ClassId} {g : Nat → Nat} : EK cy g 67 = .inl (cy 0, 5, .inl (fun _ => 0)) := rfl
theorem ek_68 {cy : Nat → ClassId} {g : Nat → Nat} : EK cy g 68 = .inr (8, [.ref (g 69), .ref (g 74), .ref (g 80), .ref (g 97), .ref (g 104), .ref (g 133), .ref (g 134), .int 0, .int 0]) := rfl
theorem ek_69 {cy : Nat → ClassId} {g : Nat → Nat} : EK cy g 69 = .inr (3, [.ref (g 70), .int 1, .int 3]) := rfl
theorem ek_70 {cy : Nat → ClassId} {g q1 : Nat → Nat} (h : ∀ i, i < 3 → q1 i = g (cvR 70 i)) : EK cy g 70 = .inl (cy 7, 3, .inr (.inr (.inr (.inr (fun i => if i < 3 then some (q1 i) else none))))) := (congrArg (fun f9 => (.inl (cy 7, 3, .inr (.inr (.inr (.inr f9)))) : va_E)) (row_q h)).symm
theorem ek_71 {cy : Nat → ClassId} {g : Nat → Nat} : EK cy g 71 = .inl (cy 0, 24, .inl (fun _ => 0)) := rfl
theorem ek_72 {cy : Nat → ClassId} {g : Nat → Nat} : EK cy g 72 = .inl (cy 0, 24, .inl (fun _ => 0)) := rfl
theorem ek_73 {cy : Nat → ClassId} {g : Nat → Nat} : EK cy g 73 = .inl (cy 0, 24, .inl (fun _ => 0)) := rfl
theorem ek_74 {cy : Nat → ClassId} {g : Nat → Nat} : EK cy g 74 = .inr (4, [.ref (g 75), .ref (g 76), .ref (g 77), .ref (g 78), .ref (g 79), .int 0]) := rfl
theorem ek_75 {cy : Nat → ClassId} {g : Nat → Nat} : EK cy g 75 = .inl (cy 0, 6, .inl (fun _ => 0)) := rfl
theorem ek_76 {cy : Nat → ClassId} {g : Nat → Nat} : EK cy g 76 = .inl (cy 0, 6, .inl (fun _ => 0)) := rfl
theorem ek_77 {cy : Nat → ClassId} {g : Nat → Nat} : EK cy g 77 = .inl (cy 0, 18, .inl (fun _ => 0)) := rfl
theorem ek_78 {cy : Nat → ClassId} {g : Nat → Nat} : EK cy g 78 = .inl (cy 0, 18, .inl (fun _ => 0)) := rfl
theorem ek_79 {cy : Nat → ClassId} {g : Nat → Nat} : EK cy g 79 = .inl (cy 0, 18, .inl (fun _ => 0)) := rfl
theorem ek_80 {cy : Nat → ClassId} {g : Nat → Nat} : EK cy g 80 = .inl (cy 3, 2, .inr (.inr (.inr (.inr (va_up (va_up (fun _ => none) (0 : Int32).toNatClampNeg (some (g 81))) (1 : Int32).toNatClampNeg (some (g 89))))))) := (congrArg (fun f9 => (.inl (cy 3, 2, .inr (.inr (.inr (.inr f9)))) : va_E)) (va_up2 (f := fun i => g (cvR 80 i)) rfl rfl)).symm
theorem ek_81 {cy : Nat → ClassId} {g : Nat → Nat} : EK cy g 81 = .inr (0, [.ref (g 82), .ref (g 83), .ref (g 84), .ref (g 85), .ref (g 86), .ref (g 87), .ref (g 88), .int 0, .int 0, .int 2, .int 0]) := rfl
theorem ek_82 {cy : Nat → ClassId} {g : Nat → Nat} : EK cy g 82 = .inl (cy 0, 12, .inl (fun _ => 0)) := rfl
theorem ek_83 {cy : Nat → ClassId} {g : Nat → Nat} : EK cy g 83 = .inl (cy 0, 12, .inl (fun _ => 0)) := rfl
theorem ek_84 {cy : Nat → ClassId} {g : Nat → Nat} : EK cy g 84 = .inl (cy 0, 12, .inl (fun _ => 0)) := rfl
theorem ek_85 {cy : Nat → ClassId} {g : Nat → Nat} : EK cy g 85 = .inl (cy 0, 6, .inl (fun _ => 0)) := rfl
theorem ek_86 {cy : Nat → ClassId} {g : Nat → Nat} : EK cy g 86 = .inl (cy 0, 6, .inl (fun _ => 0)) := rfl
theorem ek_87 {cy : Nat → ClassId} {g : Nat → Nat} : EK cy g 87 = .inl (cy 0, 6, .inl (fun _ => 0)) := rfl
theorem ek_88 {cy : Nat → ClassId} {g : Nat → Nat} : EK cy g 88 = .inl (cy 0, 6, .inl (fun _ => 0)) := rfl
theorem ek_89 {cy : Nat → ClassId} {g : Nat → Nat} : EK cy g 89 = .inr (0, [.ref (g 90), .ref (g 91), .ref (g 92), .ref (g 93), .ref (g 94), .ref (g 95), .ref (g 96), .int 0, .int 0, .int 2, .int 0]) := rfl
theorem ek_90 {cy : Nat → ClassId} {g : Nat → Nat} : EK cy g 90 = .inl (cy 0, 12, .inl (fun _ => 0)) := rfl
theorem ek_91 {cy : Nat → ClassId} {g : Nat → Nat} : EK cy g 91 = .inl (cy 0, 12, .inl (fun _ => 0)) := rfl
theorem ek_92 {cy : Nat → ClassId} {g : Nat → Nat} : EK cy g 92 = .inl (cy 0, 12, .inl (fun _ => 0)) := rfl
theorem ek_93 {cy : Nat → ClassId} {g : Nat → Nat} : EK cy g 93 = .inl (cy 0, 6, .inl (fun _ => 0)) := rfl
theorem ek_94 {cy : Nat → ClassId} {g : Nat → Nat} : EK cy g 94 = .inl (cy 0, 6, .inl (fun _ => 0)) := rfl
theorem ek_95 {cy : Nat → ClassId} {g : Nat → Nat} : EK cy g 95 = .inl (cy 0, 6, .inl (fun _ => 0)) := rfl
theorem ek_96 {cy : Nat → ClassId} {g : Nat → Nat} : EK cy g 96 = .inl (cy 0, 6, .inl (fun _ => 0)) := rfl
theorem ek_97 {cy : Nat → ClassId} {g : Nat → Nat} : EK cy g 97 = .inr (2, [.ref (g 98), .ref (g 99), .ref (g 100), .ref (g 101), .ref (g 102), .ref (g 103), .int 0]) := rfl
theorem ek_98 {cy : Nat → ClassId} {g : Nat → Nat} : EK cy g 98 = .inl (cy 0, 8, .inl (fun _ => 0)) := rfl
theorem ek_99 {cy : Nat → ClassId} {g : Nat → Nat} : EK cy g 99 = .inl (cy 0, 8, .inl (fun _ => 0)) := rfl
theorem ek_100 {cy : Nat → ClassId} {g : Nat → Nat} : EK cy g 100 = .inl (cy 0, 8, .inl (fun _ => 0)) := rfl
theorem ek_101 {cy : Nat → ClassId} {g : Nat → Nat} : EK cy g 101 = .inl (cy 0, 8, .inl (fun _ => 0)) := rfl
theorem ek_102 {cy : Nat → ClassId} {g : Nat → Nat} : EK cy g 102 = .inl (cy 0, 8, .inl (fun _ => 0)) := rfl
theorem ek_103 {cy : Nat → ClassId} {g : Nat → Nat} : EK cy g 103 = .inl (cy 0, 8, .inl (fun _ => 0)) := rfl
theorem ek_104 {cy : Nat → ClassId} {g : Nat → Nat} : EK cy g 104 = .inl (cy 4, 4, .inr (.inr (.inr (.inr (va_up (va_up (va_up (va_up (fun _ => none) (0 : Int32).toNatClampNeg (some (g 105))) (1 : Int32).toNatClampNeg (some (g 112))) (2 : Int32).toNatClampNeg (some (g 119))) (3 : Int32).toNatClampNeg (some (g 126))))))) := (congrArg (fun f9 => (.inl (cy 4, 4, .inr (.inr (.inr (.inr f9)))) : va_E)) (va_up4 (f := fun i => g (cvR 104 i)) rfl rfl rfl rfl)).symm
theorem ek_105 {cy : Nat → ClassId} {g : Nat → Nat} : EK cy g 105 = .inr (1, [.ref (g 106), .ref (g 107), .ref (g 108), .ref (g 109), .ref (g 110), .ref (g 111), .int 0, .int 0]) := rfl
theorem ek_106 {cy : Nat → ClassId} {g : Nat → Nat} : EK cy g 106 = .inl (cy 0, 2, .inl (fun _ => 0)) := rfl
theorem ek_107 {cy : Nat → ClassId} {g : Nat → Nat} : EK cy g 107 = .inl (cy 0, 2, .inl (fun _ => 0)) := rfl
theorem ek_108 {cy : Nat → ClassId} {g : Nat → Nat} : EK cy g 108 = .inl (cy 0, 2, .inl (fun _ => 0)) := rfl
theorem ek_109 {cy : Nat → ClassId} {g : Nat → Nat} : EK cy g 109 = .inl (cy 0, 2, .inl (fun _ => 0)) := rfl
theorem ek_110 {cy : Nat → ClassId} {g : Nat → Nat} : EK cy g 110 = .inl (cy 0, 2, .inl (fun _ => 0)) := rfl
theorem ek_111 {cy : Nat → ClassId} {g : Nat → Nat} : EK cy g 111 = .inl (cy 2, 2, .inl (fun _ => 0)) := rfl
theorem ek_112 {cy : Nat → ClassId} {g : Nat → Nat} : EK cy g 112 = .inr (1, [.ref (g 113), .ref (g 114), .ref (g 115), .ref (g 116), .ref (g 117), .ref (g 118), .int 0, .int 0]) := rfl
theorem ek_113 {cy : Nat → ClassId} {g : Nat → Nat} : EK cy g 113 = .inl (cy 0, 2, .inl (fun _ => 0)) := rfl
theorem ek_114 {cy : Nat → ClassId} {g : Nat → Nat} : EK cy g 114 = .inl (cy 0, 2, .inl (fun _ => 0)) := rfl
theorem ek_115 {cy : Nat → ClassId} {g : Nat → Nat} : EK cy g 115 = .inl (cy 0, 2, .inl (fun _ => 0)) := rfl
theorem ek_116 {cy : Nat → ClassId} {g : Nat → Nat} : EK cy g 116 = .inl (cy 0, 2, .inl (fun _ => 0)) := rfl
theorem ek_117 {cy : Nat → ClassId} {g : Nat → Nat} : EK cy g 117 = .inl (cy 0, 2, .inl (fun _ => 0)) := rfl
theorem ek_118 {cy : Nat → ClassId} {g : Nat → Nat} : EK cy g 118 = .inl (cy 2, 2, .inl (fun _ => 0)) := rfl
theorem ek_119 {cy : Nat → ClassId} {g : Nat → Nat} : EK cy g 119 = .inr (1, [.ref (g 120), .ref (g 121), .ref (g 122), .ref (g 123), .ref (g 124), .ref (g 125), .int 0, .int 0]) := rfl
theorem ek_120 {cy : Nat → ClassId} {g : Nat → Nat} : EK cy g 120 = .inl (cy 0, 2, .inl (fun _ => 0)) := rfl
theorem ek_121 {cy : Nat → ClassId} {g : Nat → Nat} : EK cy g 121 = .inl (cy 0, 2, .inl (fun _ => 0)) := rfl
theorem ek_122 {cy : Nat → ClassId} {g : Nat → Nat} : EK cy g 122 = .inl (cy 0, 2, .inl (fun _ => 0)) := rfl
theorem ek_123 {cy : Nat → ClassId} {g : Nat → Nat} : EK cy g 123 = .inl (cy 0, 2, .inl (fun _ => 0)) := rfl
theorem ek_124 {cy : Nat → ClassId} {g : Nat → Nat} : EK cy g 124 = .inl (cy 0, 2, .inl (fun _ => 0)) := rfl
theorem ek_125 {cy : Nat → ClassId} {g : Nat → Nat} : EK cy g 125 = .inl (cy 2, 2, .inl (fun _ => 0)) := rfl
theorem ek_126 {cy : Nat → ClassId} {g : Nat → Nat} : EK cy g 126 = .inr (1, [.ref (g 127), .ref (g 128), .ref (g 129), .ref (g 130), .ref (g 131), .ref (g 132), .int 0, .int 0]) := rfl
theorem ek_127 {cy : Nat → ClassId} {g : Nat → Nat} : EK cy g 127 = .inl (cy 0, 2, .inl (fun _ => 0)) := rfl
theorem ek_128 {cy : Nat → ClassId} {g : Nat → Nat} : EK cy g 128 = .inl (cy 0, 2, .inl (fun _ => 0)) := rfl
theorem ek_129 {cy : Nat → ClassId} {g : Nat → Nat} : EK cy g 129 = .inl (cy 0, 2, .inl (fun _ => 0)) := rfl
theorem ek_130 {cy : Nat → ClassId} {g : Nat → Nat} : EK cy g 130 = .inl (cy 0, 2, .inl (fun _ => 0)) := rfl
theorem ek_131 {cy : Nat → ClassId} {g : Nat → Nat} : EK cy g 131 = .inl (cy 0, 2, .inl (fun _ => 0)) := rfl
theorem ek_132 {cy : Nat → ClassId} {g : Nat → Nat} : EK cy g 132 = .inl (cy 2, 2, .inl (fun _ => 0)) := rfl
theorem ek_133 {cy : Nat → ClassId} {g : Nat → Nat} : EK cy g 133 = .inl (cy 0, 5, .inl (fun _ => 0)) := rfl
theorem ek_134 {cy : Nat → ClassId} {g : Nat → Nat} : EK cy g 134 = .inl (cy 0, 5, .inl (fun _ => 0)) := rfl
theorem ek_135 {cy : Nat → ClassId} {g : Nat → Nat} : EK cy g 135 = .inr (6, [.ref (g 136), .int 0, .int 0, .int 0]) := rfl
theorem ek_136 {cy : Nat → ClassId} {g : Nat → Nat} : EK cy g 136 = .inl (cy 0, 80, .inl (fun _ => 0)) := rfl
theorem ek_137 {cy : Nat → ClassId} {g : Nat → Nat} : EK cy g 137 = .inr (4, [.ref (g 138), .ref (g 139), .ref (g 140), .ref (g 141), .ref (g 142), .int 0]) := rfl
theorem ek_138 {cy : Nat → ClassId} {g : Nat → Nat} : EK cy g 138 = .inl (cy 0, 6, .inl (fun _ => 0)) := rfl
theorem ek_139 {cy : Nat → ClassId} {g : Nat → Nat} : EK cy g 139 = .inl (cy 0, 6, .inl (fun _ => 0)) := rfl
theorem ek_140 {cy : Nat → ClassId} {g : Nat → Nat} : EK cy g 140 = .inl (cy 0, 18, .inl (fun _ => 0)) := rfl
theorem ek_141 {cy : Nat → ClassId} {g : Nat → Nat} : EK cy g 141 = .inl (cy 0, 18, .inl (fun _ => 0)) := rfl
theorem ek_142 {cy : Nat → ClassId} {g : Nat → Nat} : EK cy g 142 = .inl (cy 0, 18, .inl (fun _ => 0)) := rfl
theorem ek_143 {cy : Nat → ClassId} {g : Nat → Nat} : EK cy g 143 = .inr (1, [.ref (g 144), .ref (g 145), .ref (g 146), .ref (g 147), .ref (g 148), .ref (g 149), .int 0, .int 0]) := rfl
theorem ek_144 {cy : Nat → ClassId} {g : Nat → Nat} : EK cy g 144 = .inl (cy 0, 2, .inl (fun _ => 0)) := rfl
theorem ek_145 {cy : Nat → ClassId} {g : Nat → Nat} : EK cy g 145 = .inl (cy 0, 2, .inl (fun _ => 0)) := rfl
theorem ek_146 {cy : Nat → ClassId} {g : Nat → Nat} : EK cy g 146 = .inl (cy 0, 2, .inl (fun _ => 0)) := rfl
theorem ek_147 {cy : Nat → ClassId} {g : Nat → Nat} : EK cy g 147 = .inl (cy 0, 2, .inl (fun _ => 0)) := rfl
theorem ek_148 {cy : Nat → ClassId} {g : Nat → Nat} : EK cy g 148 = .inl (cy 0, 2, .inl (fun _ => 0)) := rfl
theorem ek_149 {cy : Nat → ClassId} {g : Nat → Nat} : EK cy g 149 = .inl (cy 2, 2, .inl (fun _ => 0)) := rfl
theorem ek_150 {cy : Nat → ClassId} {g : Nat → Nat} : EK cy g 150 = .inl (cy 5, 4, .inr (.inr (.inr (.inr (va_up (va_up (va_up (va_up (fun _ => none) (0 : Int32).toNatClampNeg (some (g 151))) (1 : Int32).toNatClampNeg (some (g 153))) (2 : Int32).toNatClampNeg (some (g 155))) (3 : Int32).toNatClampNeg (some (g 157))))))) := (congrArg (fun f9 => (.inl (cy 5, 4, .inr (.inr (.inr (.inr f9)))) : va_E)) (va_up4 (f := fun i => g (cvR 150 i)) rfl rfl rfl rfl)).symm
theorem ek_151 {cy : Nat → ClassId} {g : Nat → Nat} : EK cy g 151 = .inr (7, [.ref (g 152), .int 0, .int 0, .int 0]) := rfl
theorem ek_152 {cy : Nat → ClassId} {g : Nat → Nat} : EK cy g 152 = .inl (cy 0, 24, .inl (fun _ => 0)) := rfl
theorem ek_153 {cy : Nat → ClassId} {g : Nat → Nat} : EK cy g 153 = .inr (7, [.ref (g 154), .int 0, .int 0, .int 0]) := rfl
theorem ek_154 {cy : Nat → ClassId} {g : Nat → Nat} : EK cy g 154 = .inl (cy 0, 24, .inl (fun _ => 0)) := rfl
theorem ek_155 {cy : Nat → ClassId} {g : Nat → Nat} : EK cy g 155 = .inr (7, [.ref (g 156), .int 0, .int 0, .int 0]) := rfl
theorem ek_156 {cy : Nat → ClassId} {g : Nat → Nat} : EK cy g 156 = .inl (cy 0, 24, .inl (fun _ => 0)) := rfl
theorem ek_157 {cy : Nat → ClassId} {g : Nat → Nat} : EK cy g 157 = .inr (7, [.ref (g 158), .int 0, .int 0, .int 0]) := rfl
theorem ek_158 {cy : Nat → ClassId} {g : Nat → Nat} : EK cy g 158 = .inl (cy 0, 24, .inl (fun _ => 0)) := rfl
theorem ek_159 {cy : Nat → ClassId} {g : Nat → Nat} : EK cy g 159 = .inl (cy 6, 2, .inr (.inr (.inr (.inr (va_up (va_up (fun _ => none) (0 : Int32).toNatClampNeg (some (g 160))) (1 : Int32).toNatClampNeg (some (g 198))))))) := (congrArg (fun f9 => (.inl (cy 6, 2, .inr (.inr (.inr (.inr f9)))) : va_E)) (va_up2 (f := fun i => g (cvR 159 i)) rfl rfl)).symm
theorem ek_160 {cy : Nat → ClassId} {g : Nat → Nat} : EK cy g 160 = .inr (9, [.ref (g 161), .ref (g 162), .ref (g 163), .ref (g 164), .ref (g 165), .ref (g 166), .ref (g 167), .ref (g 168), .ref (g 181), .ref (g 194), .ref (g 195), .ref (g 196), .ref (g 197), .int 0, .int 0, .long 0]) := rfl
theorem ek_161 {cy : Nat → ClassId} {g : Nat → Nat} : EK cy g 161 = .inl (cy 0, 12, .inl (fun _ => 0)) := rfl
theorem ek_162 {cy : Nat → ClassId} {g : Nat → Nat} : EK cy g 162 = .inl (cy 0, 12, .inl (fun _ => 0)) := rfl
theorem ek_163 {cy : Nat → ClassId} {g : Nat → Nat} : EK cy g 163 = .inl (cy 0, 12, .inl (fun _ => 0)) := rfl
theorem ek_164 {cy : Nat → ClassId} {g : Nat → Nat} : EK cy g 164 = .inl (cy 0, 12, .inl (fun _ => 0)) := rfl
theorem ek_165 {cy : Nat → ClassId} {g : Nat → Nat} : EK cy g 165 = .inl (cy 0, 12, .inl (fun _ => 0)) := rfl
theorem ek_166 {cy : Nat → ClassId} {g : Nat → Nat} : EK cy g 166 = .inl (cy 0, 12, .inl (fun _ => 0)) := rfl
theorem ek_167 {cy : Nat → ClassId} {g : Nat → Nat} : EK cy g 167 = .inl (cy 0, 12, .inl (fun _ => 0)) := rfl
theorem ek_168 {cy : Nat → ClassId} {g q2 : Nat → Nat} (h : ∀ i, i < 12 → q2 i = g (cvR 168 i)) : EK cy g 168 = .inl (cy 8, 12, .inr (.inr (.inr (.inr (fun i => if i < 12 then some (q2 i) else none))))) := (congrArg (fun f9 => (.inl (cy 8, 12, .inr (.inr (.inr (.inr f9)))) : va_E)) (row_q h)).symm
theorem ek_169 {cy : Nat → ClassId} {g : Nat → Nat} : EK cy g 169 = .inl (cy 1, 96, .inr (.inl (fun _ => 0))) := rfl
theorem ek_170 {cy : Nat → ClassId} {g : Nat → Nat} : EK cy g 170 = .inl (cy 1, 96, .inr (.inl (fun _ => 0))) := rfl
theorem ek_171 {cy : Nat → ClassId} {g : Nat → Nat} : EK cy g 171 = .inl (cy 1, 96, .inr (.inl (fun _ => 0))) := rfl
theorem ek_172 {cy : Nat → ClassId} {g : Nat → Nat} : EK cy g 172 = .inl (cy 1, 96, .inr (.inl (fun _ => 0))) := rfl
theorem ek_173 {cy : Nat → ClassId} {g : Nat → Nat} : EK cy g 173 = .inl (cy 1, 96, .inr (.inl (fun _ => 0))) := rfl
theorem ek_174 {cy : Nat → ClassId} {g : Nat → Nat} : EK cy g 174 = .inl (cy 1, 96, .inr (.inl (fun _ => 0))) := rfl
theorem ek_175 {cy : Nat → ClassId} {g : Nat → Nat} : EK cy g 175 = .inl (cy 1, 96, .inr (.inl (fun _ => 0))) := rfl
theorem ek_176 {cy : Nat → ClassId} {g : Nat → Nat} : EK cy g 176 = .inl (cy 1, 96, .inr (.inl (fun _ => 0))) := rfl
theorem ek_177 {cy : Nat → ClassId} {g : Nat → Nat} : EK cy g 177 = .inl (cy 1, 96, .inr (.inl (fun _ => 0))) := rfl
theorem ek_178 {cy : Nat → ClassId} {g : Nat → Nat} : EK cy g 178 = .inl (cy 1, 96, .inr (.inl (fun _ => 0))) := rfl
theorem ek_179 {cy : Nat → ClassId} {g : Nat → Nat} : EK cy g 179 = .inl (cy 1, 96, .inr (.inl (fun _ => 0))) := rfl
theorem ek_180 {cy : Nat → ClassId} {g : Nat → Nat} : EK cy g 180 = .inl (cy 1, 96, .inr (.inl (fun _ => 0))) := rfl
theorem ek_181 {cy : Nat → ClassId} {g q3 : Nat → Nat} (h : ∀ i, i < 12 → q3 i = g (cvR 181 i)) : EK cy g 181 = .inl (cy 8, 12, .inr (.inr (.inr (.inr (fun i => if i < 12 then some (q3 i) else none))))) := (congrArg (fun f9 => (.inl (cy 8, 12, .inr (.inr (.inr (.inr f9)))) : va_E)) (row_q h)).symm
theorem ek_182 {cy : Nat → ClassId} {g : Nat → Nat} : EK cy g 182 = .inl (cy 1, 96, .inr (.inl (fun _ => 0))) := rfl
theorem ek_183 {cy : Nat → ClassId} {g : Nat → Nat} : EK cy g 183 = .inl (cy 1, 96, .inr (.inl (fun _ => 0))) := rfl
theorem ek_184 {cy : Nat → ClassId} {g : Nat → Nat} : EK cy g 184 = .inl (cy 1, 96, .inr (.inl (fun _ => 0))) := rfl
theorem ek_185 {cy : Nat → ClassId} {g : Nat → Nat} : EK cy g 185 = .inl (cy 1, 96, .inr (.inl (fun _ => 0))) := rfl
theorem ek_186 {cy : Nat → ClassId} {g : Nat → Nat} : EK cy g 186 = .inl (cy 1, 96, .inr (.inl (fun _ => 0))) := rfl
theorem ek_187 {cy : Nat → ClassId} {g : Nat → Nat} : EK cy g 187 = .inl (cy 1, 96, .inr (.inl (fun _ => 0))) := rfl
theorem ek_188 {cy : Nat → ClassId} {g : Nat → Nat} : EK cy g 188 = .inl (cy 1, 96, .inr (.inl (fun _ => 0))) := rfl
theorem ek_189 {cy : Nat → ClassId} {g : Nat → Nat} : EK cy g 189 = .inl (cy 1, 96, .inr (.inl (fun _ => 0))) := rfl
theorem ek_190 {cy : Nat → ClassId} {g : Nat → Nat} : EK cy g 190 = .inl (cy 1, 96, .inr (.inl (fun _ => 0))) := rfl
theorem ek_191 {cy : Nat → ClassId} {g : Nat → Nat} : EK cy g 191 = .inl (cy 1, 96, .inr (.inl (fun _ => 0))) := rfl
theorem ek_192 {cy : Nat → ClassId} {g : Nat → Nat} : EK cy g 192 = .inl (cy 1, 96, .inr (.inl (fun _ => 0))) := rfl
theorem ek_193 {cy : Nat → ClassId} {g : Nat → Nat} : EK cy g 193 = .inl (cy 1, 96, .inr (.inl (fun _ => 0))) := rfl
theorem ek_194 {cy : Nat → ClassId} {g : Nat → Nat} : EK cy g 194 = .inl (cy 1, 24, .inr (.inl (fun _ => 0))) := rfl
theorem ek_195 {cy : Nat → ClassId} {g : Nat → Nat} : EK cy g 195 = .inl (cy 0, 24, .inl (fun _ => 0)) := rfl
theorem ek_196 {cy : Nat → ClassId} {g : Nat → Nat} : EK cy g 196 = .inl (cy 1, 96, .inr (.inl (fun _ => 0))) := rfl
theorem ek_197 {cy : Nat → ClassId} {g : Nat → Nat} : EK cy g 197 = .inl (cy 1, 96, .inr (.inl (fun _ => 0))) := rfl
theorem ek_198 {cy : Nat → ClassId} {g : Nat → Nat} : EK cy g 198 = .inr (9, [.ref (g 199), .ref (g 200), .ref (g 201), .ref (g 202), .ref (g 203), .ref (g 204), .ref (g 205), .ref (g 206), .ref (g 219), .ref (g 232), .ref (g 233), .ref (g 234), .ref (g 235), .int 0, .int 0, .long 0]) := rfl
theorem ek_199 {cy : Nat → ClassId} {g : Nat → Nat} : EK cy g 199 = .inl (cy 0, 12, .inl (fun _ => 0)) := rfl
theorem ek_200 {cy : Nat → ClassId} {g : Nat → Nat} : EK cy g 200 = .inl (cy 0, 12, .inl (fun _ => 0)) := rfl
theorem ek_201 {cy : Nat → ClassId} {g : Nat → Nat} : EK cy g 201 = .inl (cy 0, 12, .inl (fun _ => 0)) := rfl
theorem ek_202 {cy : Nat → ClassId} {g : Nat → Nat} : EK cy g 202 = .inl (cy 0, 12, .inl (fun _ => 0)) := rfl
theorem ek_203 {cy : Nat → ClassId} {g : Nat → Nat} : EK cy g 203 = .inl (cy 0, 12, .inl (fun _ => 0)) := rfl
theorem ek_204 {cy : Nat → ClassId} {g : Nat → Nat} : EK cy g 204 = .inl (cy 0, 12, .inl (fun _ => 0)) := rfl
theorem ek_205 {cy : Nat → ClassId} {g : Nat → Nat} : EK cy g 205 = .inl (cy 0, 12, .inl (fun _ => 0)) := rfl
theorem ek_206 {cy : Nat → ClassId} {g q4 : Nat → Nat} (h : ∀ i, i < 12 → q4 i = g (cvR 206 i)) : EK cy g 206 = .inl (cy 8, 12, .inr (.inr (.inr (.inr (fun i => if i < 12 then some (q4 i) else none))))) := (congrArg (fun f9 => (.inl (cy 8, 12, .inr (.inr (.inr (.inr f9)))) : va_E)) (row_q h)).symm
theorem ek_207 {cy : Nat → ClassId} {g : Nat → Nat} : EK cy g 207 = .inl (cy 1, 96, .inr (.inl (fun _ => 0))) := rfl
theorem ek_208 {cy : Nat → ClassId} {g : Nat → Nat} : EK cy g 208 = .inl (cy 1, 96, .inr (.inl (fun _ => 0))) := rfl
theorem ek_209 {cy : Nat → ClassId} {g : Nat → Nat} : EK cy g 209 = .inl (cy 1, 96, .inr (.inl (fun _ => 0))) := rfl
theorem ek_210 {cy : Nat → ClassId} {g : Nat → Nat} : EK cy g 210 = .inl (cy 1, 96, .inr (.inl (fun _ => 0))) := rfl
theorem ek_211 {cy : Nat → ClassId} {g : Nat → Nat} : EK cy g 211 = .inl (cy 1, 96, .inr (.inl (fun _ => 0))) := rfl
theorem ek_212 {cy : Nat → ClassId} {g : Nat → Nat} : EK cy g 212 = .inl (cy 1, 96, .inr (.inl (fun _ => 0))) := rfl
theorem ek_213 {cy : Nat → ClassId} {g : Nat → Nat} : EK cy g 213 = .inl (cy 1, 96, .inr (.inl (fun _ => 0))) := rfl
theorem ek_214 {cy : Nat → ClassId} {g : Nat → Nat} : EK cy g 214 = .inl (cy 1, 96, .inr (.inl (fun _ => 0))) := rfl
theorem ek_215 {cy : Nat → ClassId} {g : Nat → Nat} : EK cy g 215 = .inl (cy 1, 96, .inr (.inl (fun _ => 0))) := rfl
theorem ek_216 {cy : Nat → ClassId} {g : Nat → Nat} : EK cy g 216 = .inl (cy 1, 96, .inr (.inl (fun _ => 0))) := rfl
theorem ek_217 {cy : Nat → ClassId} {g : Nat → Nat} : EK cy g 217 = .inl (cy 1, 96, .inr (.inl (fun _ => 0))) := rfl
theorem ek_218 {cy : Nat → ClassId} {g : Nat → Nat} : EK cy g 218 = .inl (cy 1, 96, .inr (.inl (fun _ => 0))) := rfl
theorem ek_219 {cy : Nat → ClassId} {g q5 : Nat → Nat} (h : ∀ i, i < 12 → q5 i = g (cvR 219 i)) : EK cy g 219 = .inl (cy 8, 12, .inr (.inr (.inr (.inr (fun i => if i < 12 then some (q5 i) else none))))) := (congrArg (fun f9 => (.inl (cy 8, 12, .inr (.inr (.inr (.inr f9)))) : va_E)) (row_q h)).symm
theorem ek_220 {cy : Nat → ClassId} {g : Nat → Nat} : EK cy g 220 = .inl (cy 1, 96, .inr (.inl (fun _ => 0))) := rfl
theorem ek_221 {cy : Nat → ClassId} {g : Nat → Nat} : EK cy g 221 = .inl (cy 1, 96, .inr (.inl (fun _ => 0))) := rfl
theorem ek_222 {cy : Nat → ClassId} {g : Nat → Nat} : EK cy g 222 = .inl (cy 1, 96, .inr (.inl (fun _ => 0))) := rfl
theorem ek_223 {cy : Nat → ClassId} {g : Nat → Nat} : EK cy g 223 = .inl (cy 1, 96, .inr (.inl (fun _ => 0))) := rfl
theorem ek_224 {cy : Nat → ClassId} {g : Nat → Nat} : EK cy g 224 = .inl (cy 1, 96, .inr (.inl (fun _ => 0))) := rfl
theorem ek_225 {cy : Nat → ClassId} {g : Nat → Nat} : EK cy g 225 = .inl (cy 1, 96, .inr (.inl (fun _ => 0))) := rfl
theorem ek_226 {cy : Nat → ClassId} {g : Nat → Nat} : EK cy g 226 = .inl (cy 1, 96, .inr (.inl (fun _ => 0))) := rfl
theorem ek_227 {cy : Nat → ClassId} {g : Nat → Nat} : EK cy g 227 = .inl (cy 1, 96, .inr (.inl (fun _ => 0))) := rfl
theorem ek_228 {cy : Nat → ClassId} {g : Nat → Nat} : EK cy g 228 = .inl (cy 1, 96, .inr (.inl (fun _ => 0))) := rfl
theorem ek_229 {cy : Nat → ClassId} {g : Nat → Nat} : EK cy g 229 = .inl (cy 1, 96, .inr (.inl (fun _ => 0))) := rfl
theorem ek_230 {cy : Nat → ClassId} {g : Nat → Nat} : EK cy g 230 = .inl (cy 1, 96, .inr (.inl (fun _ => 0))) := rfl
theorem ek_231 {cy : Nat → ClassId} {g : Nat → Nat} : EK cy g 231 = .inl (cy 1, 96, .inr (.inl (fun _ => 0))) := rfl
theorem ek_232 {cy : Nat → ClassId} {g : Nat → Nat} : EK cy g 232 = .inl (cy 1, 24, .inr (.inl (fun _ => 0))) := rfl
theorem ek_233 {cy : Nat → ClassId} {g : Nat → Nat} : EK cy g 233 = .inl (cy 0, 24, .inl (fun _ => 0)) := rfl
theorem ek_234 {cy : Nat → ClassId} {g : Nat → Nat} : EK cy g 234 = .inl (cy 1, 96, .inr (.inl (fun _ => 0))) := rfl
theorem ek_235 {cy : Nat → ClassId} {g : Nat → Nat} : EK cy g 235 = .inl (cy 1, 96, .inr (.inl (fun _ => 0))) := rfl
theorem ek_236 {cy : Nat → ClassId} {g : Nat → Nat} : EK cy g 236 = .inl (cy 2, 2, .inl (fun _ => 0)) := rfl
theorem ek_237 {cy : Nat → ClassId} {g : Nat → Nat} : EK cy g 237 = .inr (5, [.ref (g 238), .ref (g 239), .ref (g 240), .ref (g 241), .ref (g 242), .ref (g 243), .ref (g 244), .int 0, .int 0]) := rfl
theorem ek_238 {cy : Nat → ClassId} {g : Nat → Nat} : EK cy g 238 = .inl (cy 2, 12, .inl (fun _ => 0)) := rfl
theorem ek_239 {cy : Nat → ClassId} {g : Nat → Nat} : EK cy g 239 = .inl (cy 2, 12, .inl (fun _ => 0)) := rfl
theorem ek_240 {cy : Nat → ClassId} {g : Nat → Nat} : EK cy g 240 = .inl (cy 2, 24, .inl (fun _ => 0)) := rfl
theorem ek_241 {cy : Nat → ClassId} {g : Nat → Nat} : EK cy g 241 = .inl (cy 2, 24, .inl (fun _ => 0)) := rfl
theorem ek_242 {cy : Nat → ClassId} {g : Nat → Nat} : EK cy g 242 = .inl (cy 0, 24, .inl (fun _ => 0)) := rfl
theorem ek_243 {cy : Nat → ClassId} {g : Nat → Nat} : EK cy g 243 = .inl (cy 1, 16224, .inr (.inl (fun _ => 0))) := rfl
theorem ek_244 {cy : Nat → ClassId} {g : Nat → Nat} : EK cy g 244 = .inl (cy 1, 96, .inr (.inl (fun _ => 0))) := rfl
theorem ek_245 {cy : Nat → ClassId} {g : Nat → Nat} : EK cy g 245 = .inr (11, [.ref (g 246), .ref (g 247), .int 0, .int 0, .int 0, .ref (g 248), .int 0, .int 0, .ref (g 249), .ref (g 250), .ref (g 251), .ref (g 252), .ref (g 253), .ref (g 254), .ref (g 255), .long 0, .ref (g 256), .ref (g 257), .ref (g 258), .int 0, .long 0, .ref (g 259), .ref (g 260), .int 0, .ref (g 261), .ref (g 262), .ref (g 263), .ref (g 264)]) := rfl
theorem ek_246 {cy : Nat → ClassId} {g : Nat → Nat} : EK cy g 246 = .inl (cy 0, 392, .inl zz) := rfl
theorem ek_247 {cy : Nat → ClassId} {g : Nat → Nat} : EK cy g 247 = .inl (cy 0, 80, .inl (fun _ => 0)) := rfl
theorem ek_248 {cy : Nat → ClassId} {g : Nat → Nat} : EK cy g 248 = .inl (cy 0, 66, .inl (fun _ => 0)) := rfl
theorem ek_249 {cy : Nat → ClassId} {g : Nat → Nat} : EK cy g 249 = .inl (cy 0, 12, .inl (fun _ => 0)) := rfl
theorem ek_250 {cy : Nat → ClassId} {g : Nat → Nat} : EK cy g 250 = .inl (cy 0, 12, .inl (fun _ => 0)) := rfl
theorem ek_251 {cy : Nat → ClassId} {g : Nat → Nat} : EK cy g 251 = .inl (cy 0, 12, .inl (fun _ => 0)) := rfl
theorem ek_252 {cy : Nat → ClassId} {g : Nat → Nat} : EK cy g 252 = .inl (cy 0, 12, .inl (fun _ => 0)) := rfl
theorem ek_253 {cy : Nat → ClassId} {g : Nat → Nat} : EK cy g 253 = .inl (cy 0, 12, .inl (fun _ => 0)) := rfl
theorem ek_254 {cy : Nat → ClassId} {g : Nat → Nat} : EK cy g 254 = .inl (cy 1, 1440, .inr (.inl (fun _ => 0))) := rfl
theorem ek_255 {cy : Nat → ClassId} {g : Nat → Nat} : EK cy g 255 = .inl (cy 1, 1440, .inr (.inl (fun _ => 0))) := rfl
theorem ek_256 {cy : Nat → ClassId} {g : Nat → Nat} : EK cy g 256 = .inl (cy 1, 24, .inr (.inl (fun _ => 0))) := rfl
theorem ek_257 {cy : Nat → ClassId} {g : Nat → Nat} : EK cy g 257 = .inl (cy 1, 288, .inr (.inl (fun _ => 0))) := rfl
theorem ek_258 {cy : Nat → ClassId} {g : Nat → Nat} : EK cy g 258 = .inl (cy 0, 12, .inl (fun _ => 0)) := rfl
theorem ek_259 {cy : Nat → ClassId} {g : Nat → Nat} : EK cy g 259 = .inl (cy 1, 20280, .inr (.inl (fun _ => 0))) := rfl
theorem ek_260 {cy : Nat → ClassId} {g : Nat → Nat} : EK cy g 260 = .inl (cy 1, 20280, .inr (.inl (fun _ => 0))) := rfl
theorem ek_261 {cy : Nat → ClassId} {g : Nat → Nat} : EK cy g 261 = .inl (cy 0, 392, .inl (fun _ => 0)) := rfl
theorem ek_262 {cy : Nat → ClassId} {g : Nat → Nat} : EK cy g 262 = .inl (cy 0, 4, .inl ll) := rfl
theorem ek_263 {cy : Nat → ClassId} {g : Nat → Nat} : EK cy g 263 = .inl (cy 0, 4, .inl (fun _ => 0)) := rfl
theorem ek_264 {cy : Nat → ClassId} {g : Nat → Nat} : EK cy g 264 = .inl (cy 0, 96, .inl (fun _ => 0)) := rfl
def WS0 (cy : Nat → ClassId) (g q0 q1 q2 q3 q4 q5 : Nat → Nat) : va_W := [((g 0), .inr (10, [.ref (g 1), .ref (g 68), .ref (g 135), .ref (g 137), .ref (g 143), .ref (g 150), .ref (g 159), .ref (g 236), .ref (g 237), .int 0])), ((g 1), .inr (8, [.ref (g 2), .ref (g 7), .ref (g 13), .ref (g 30), .ref (g 37), .ref (g 66), .ref (g 67), .int 0, .int 0])), ((g 2), .inr (3, [.ref (g 3), .int 1, .int 3])), ((g 3), .inl (cy 7, 3, .inr (.inr (.inr (.inr (fun i => if i < 3 then some (q0 i) else none)))))), ((g 4), .inl (cy 0, 24, .inl (fun _ => 0))), ((g 5), .inl (cy 0, 24, .inl (fun _ => 0))), ((g 6), .inl (cy 0, 24, .inl (fun _ => 0))), ((g 7), .inr (4, [.ref (g 8), .ref (g 9), .ref (g 10), .ref (g 11), .ref (g 12), .int 0])), ((g 8), .inl (cy 0, 6, .inl (fun _ => 0))), ((g 9), .inl (cy 0, 6, .inl (fun _ => 0))), ((g 10), .inl (cy 0, 18, .inl (fun _ => 0))), ((g 11), .inl (cy 0, 18, .inl (fun _ => 0))), ((g 12), .inl (cy 0, 18, .inl (fun _ => 0))), ((g 13), .inl (cy 3, 2, .inr (.inr (.inr (.inr (va_up (va_up (fun _ => none) (0 : Int32).toNatClampNeg (some (g 14))) (1 : Int32).toNatClampNeg (some (g 22)))))))), ((g 14), .inr (0, [.ref (g 15), .ref (g 16), .ref (g 17), .ref (g 18), .ref (g 19), .ref (g 20), .ref (g 21), .int 0, .int 0, .int 2, .int 0])), ((g 15), .inl (cy 0, 12, .inl (fun _ => 0))), ((g 16), .inl (cy 0, 12, .inl (fun _ => 0))), ((g 17), .inl (cy 0, 12, .inl (fun _ => 0))), ((g 18), .inl (cy 0, 6, .inl (fun _ => 0))), ((g 19), .inl (cy 0, 6, .inl (fun _ => 0))), ((g 20), .inl (cy 0, 6, .inl (fun _ => 0))), ((g 21), .inl (cy 0, 6, .inl (fun _ => 0))), ((g 22), .inr (0, [.ref (g 23), .ref (g 24), .ref (g 25), .ref (g 26), .ref (g 27), .ref (g 28), .ref (g 29), .int 0, .int 0, .int 2, .int 0])), ((g 23), .inl (cy 0, 12, .inl (fun _ => 0))), ((g 24), .inl (cy 0, 12, .inl (fun _ => 0))), ((g 25), .inl (cy 0, 12, .inl (fun _ => 0))), ((g 26), .inl (cy 0, 6, .inl (fun _ => 0))), ((g 27), .inl (cy 0, 6, .inl (fun _ => 0))), ((g 28), .inl (cy 0, 6, .inl (fun _ => 0))), ((g 29), .inl (cy 0, 6, .inl (fun _ => 0))), ((g 30), .inr (2, [.ref (g 31), .ref (g 32), .ref (g 33), .ref (g 34), .ref (g 35), .ref (g 36), .int 0])), ((g 31), .inl (cy 0, 8, .inl (fun _ => 0))), ((g 32), .inl (cy 0, 8, .inl (fun _ => 0))), ((g 33), .inl (cy 0, 8, .inl (fun _ => 0))), ((g 34), .inl (cy 0, 8, .inl (fun _ => 0))), ((g 35), .inl (cy 0, 8, .inl (fun _ => 0))), ((g 36), .inl (cy 0, 8, .inl (fun _ => 0))), ((g 37), .inl (cy 4, 4, .inr (.inr (.inr (.inr (va_up (va_up (va_up (va_up (fun _ => none) (0 : Int32).toNatClampNeg (some (g 38))) (1 : Int32).toNatClampNeg (some (g 45))) (2 : Int32).toNatClampNeg (some (g 52))) (3 : Int32).toNatClampNeg (some (g 59)))))))), ((g 38), .inr (1, [.ref (g 39), .ref (g 40), .ref (g 41), .ref (g 42), .ref (g 43), .ref (g 44), .int 0, .int 0])), ((g 39), .inl (cy 0, 2, .inl (fun _ => 0))), ((g 40), .inl (cy 0, 2, .inl (fun _ => 0))), ((g 41), .inl (cy 0, 2, .inl (fun _ => 0))), ((g 42), .inl (cy 0, 2, .inl (fun _ => 0))), ((g 43), .inl (cy 0, 2, .inl (fun _ => 0))), ((g 44), .inl (cy 2, 2, .inl (fun _ => 0))), ((g 45), .inr (1, [.ref (g 46), .ref (g 47), .ref (g 48), .ref (g 49), .ref (g 50), .ref (g 51), .int 0, .int 0])), ((g 46), .inl (cy 0, 2, .inl (fun _ => 0))), ((g 47), .inl (cy 0, 2, .inl (fun _ => 0))), ((g 48), .inl (cy 0, 2, .inl (fun _ => 0))), ((g 49), .inl (cy 0, 2, .inl (fun _ => 0))), ((g 50), .inl (cy 0, 2, .inl (fun _ => 0))), ((g 51), .inl (cy 2, 2, .inl (fun _ => 0))), ((g 52), .inr (1, [.ref (g 53), .ref (g 54), .ref (g 55), .ref (g 56), .ref (g 57), .ref (g 58), .int 0, .int 0])), ((g 53), .inl (cy 0, 2, .inl (fun _ => 0))), ((g 54), .inl (cy 0, 2, .inl (fun _ => 0))), ((g 55), .inl (cy 0, 2, .inl (fun _ => 0))), ((g 56), .inl (cy 0, 2, .inl (fun _ => 0))), ((g 57), .inl (cy 0, 2, .inl (fun _ => 0))), ((g 58), .inl (cy 2, 2, .inl (fun _ => 0))), ((g 59), .inr (1, [.ref (g 60), .ref (g 61), .ref (g 62), .ref (g 63), .ref (g 64), .ref (g 65), .int 0, .int 0])), ((g 60), .inl (cy 0, 2, .inl (fun _ => 0))), ((g 61), .inl (cy 0, 2, .inl (fun _ => 0))), ((g 62), .inl (cy 0, 2, .inl (fun _ => 0))), ((g 63), .inl (cy 0, 2, .inl (fun _ => 0))), ((g 64), .inl (cy 0, 2, .inl (fun _ => 0))), ((g 65), .inl (cy 2, 2, .inl (fun _ => 0))), ((g 66), .inl (cy 0, 5, .inl (fun _ => 0))), ((g 67), .inl (cy 0, 5, .inl (fun _ => 0))), ((g 68), .inr (8, [.ref (g 69), .ref (g 74), .ref (g 80), .ref (g 97), .ref (g 104), .ref (g 133), .ref (g 134), .int 0, .int 0])), ((g 69), .inr (3, [.ref (g 70), .int 1, .int 3])), ((g 70), .inl (cy 7, 3, .inr (.inr (.inr (.inr (fun i => if i < 3 then some (q1 i) else none)))))), ((g 71), .inl (cy 0, 24, .inl (fun _ => 0))), ((g 72), .inl (cy 0, 24, .inl (fun _ => 0))), ((g 73), .inl (cy 0, 24, .inl (fun _ => 0))), ((g 74), .inr (4, [.ref (g 75), .ref (g 76), .ref (g 77), .ref (g 78), .ref (g 79), .int 0])), ((g 75), .inl (cy 0, 6, .inl (fun _ => 0))), ((g 76), .inl (cy 0, 6, .inl (fun _ => 0))), ((g 77), .inl (cy 0, 18, .inl (fun _ => 0))), ((g 78), .inl (cy 0, 18, .inl (fun _ => 0))), ((g 79), .inl (cy 0, 18, .inl (fun _ => 0))), ((g 80), .inl (cy 3, 2, .inr (.inr (.inr (.inr (va_up (va_up (fun _ => none) (0 : Int32).toNatClampNeg (some (g 81))) (1 : Int32).toNatClampNeg (some (g 89)))))))), ((g 81), .inr (0, [.ref (g 82), .ref (g 83), .ref (g 84), .ref (g 85), .ref (g 86), .ref (g 87), .ref (g 88), .int 0, .int 0, .int 2, .int 0])), ((g 82), .inl (cy 0, 12, .inl (fun _ => 0))), ((g 83), .inl (cy 0, 12, .inl (fun _ => 0))), ((g 84), .inl (cy 0, 12, .inl (fun _ => 0))), ((g 85), .inl (cy 0, 6, .inl (fun _ => 0))), ((g 86), .inl (cy 0, 6, .inl (fun _ => 0))), ((g 87), .inl (cy 0, 6, .inl (fun _ => 0))), ((g 88), .inl (cy 0, 6, .inl (fun _ => 0))), ((g 89), .inr (0, [.ref (g 90), .ref (g 91), .ref (g 92), .ref (g 93), .ref (g 94), .ref (g 95), .ref (g 96), .int 0, .int 0, .int 2, .int 0])), ((g 90), .inl (cy 0, 12, .inl (fun _ => 0))), ((g 91), .inl (cy 0, 12, .inl (fun _ => 0))), ((g 92), .inl (cy 0, 12, .inl (fun _ => 0))), ((g 93), .inl (cy 0, 6, .inl (fun _ => 0))), ((g 94), .inl (cy 0, 6, .inl (fun _ => 0))), ((g 95), .inl (cy 0, 6, .inl (fun _ => 0))), ((g 96), .inl (cy 0, 6, .inl (fun _ => 0))), ((g 97), .inr (2, [.ref (g 98), .ref (g 99), .ref (g 100), .ref (g 101), .ref (g 102), .ref (g 103), .int 0])), ((g 98), .inl (cy 0, 8, .inl (fun _ => 0))), ((g 99), .inl (cy 0, 8, .inl (fun _ => 0))), ((g 100), .inl (cy 0, 8, .inl (fun _ => 0))), ((g 101), .inl (cy 0, 8, .inl (fun _ => 0))), ((g 102), .inl (cy 0, 8, .inl (fun _ => 0))), ((g 103), .inl (cy 0, 8, .inl (fun _ => 0))), ((g 104), .inl (cy 4, 4, .inr (.inr (.inr (.inr (va_up (va_up (va_up (va_up (fun _ => none) (0 : Int32).toNatClampNeg (some (g 105))) (1 : Int32).toNatClampNeg (some (g 112))) (2 : Int32).toNatClampNeg (some (g 119))) (3 : Int32).toNatClampNeg (some (g 126)))))))), ((g 105), .inr (1, [.ref (g 106), .ref (g 107), .ref (g 108), .ref (g 109), .ref (g 110), .ref (g 111), .int 0, .int 0])), ((g 106), .inl (cy 0, 2, .inl (fun _ => 0))), ((g 107), .inl (cy 0, 2, .inl (fun _ => 0))), ((g 108), .inl (cy 0, 2, .inl (fun _ => 0))), ((g 109), .inl (cy 0, 2, .inl (fun _ => 0))), ((g 110), .inl (cy 0, 2, .inl (fun _ => 0))), ((g 111), .inl (cy 2, 2, .inl (fun _ => 0))), ((g 112), .inr (1, [.ref (g 113), .ref (g 114), .ref (g 115), .ref (g 116), .ref (g 117), .ref (g 118), .int 0, .int 0])), ((g 113), .inl (cy 0, 2, .inl (fun _ => 0))), ((g 114), .inl (cy 0, 2, .inl (fun _ => 0))), ((g 115), .inl (cy 0, 2, .inl (fun _ => 0))), ((g 116), .inl (cy 0, 2, .inl (fun _ => 0))), ((g 117), .inl (cy 0, 2, .inl (fun _ => 0))), ((g 118), .inl (cy 2, 2, .inl (fun _ => 0))), ((g 119), .inr (1, [.ref (g 120), .ref (g 121), .ref (g 122), .ref (g 123), .ref (g 124), .ref (g 125), .int 0, .int 0])), ((g 120), .inl (cy 0, 2, .inl (fun _ => 0))), ((g 121), .inl (cy 0, 2, .inl (fun _ => 0))), ((g 122), .inl (cy 0, 2, .inl (fun _ => 0))), ((g 123), .inl (cy 0, 2, .inl (fun _ => 0))), ((g 124), .inl (cy 0, 2, .inl (fun _ => 0))), ((g 125), .inl (cy 2, 2, .inl (fun _ => 0))), ((g 126), .inr (1, [.ref (g 127), .ref (g 128), .ref (g 129), .ref (g 130), .ref (g 131), .ref (g 132), .int 0, .int 0])), ((g 127), .inl (cy 0, 2, .inl (fun _ => 0))), ((g 128), .inl (cy 0, 2, .inl (fun _ => 0))), ((g 129), .inl (cy 0, 2, .inl (fun _ => 0))), ((g 130), .inl (cy 0, 2, .inl (fun _ => 0))), ((g 131), .inl (cy 0, 2, .inl (fun _ => 0))), ((g 132), .inl (cy 2, 2, .inl (fun _ => 0))), ((g 133), .inl (cy 0, 5, .inl (fun _ => 0))), ((g 134), .inl (cy 0, 5, .inl (fun _ => 0))), ((g 135), .inr (6, [.ref (g 136), .int 0, .int 0, .int 0])), ((g 136), .inl (cy 0, 80, .inl (fun _ => 0))), ((g 137), .inr (4, [.ref (g 138), .ref (g 139), .ref (g 140), .ref (g 141), .ref (g 142), .int 0])), ((g 138), .inl (cy 0, 6, .inl (fun _ => 0))), ((g 139), .inl (cy 0, 6, .inl (fun _ => 0))), ((g 140), .inl (cy 0, 18, .inl (fun _ => 0))), ((g 141), .inl (cy 0, 18, .inl (fun _ => 0))), ((g 142), .inl (cy 0, 18, .inl (fun _ => 0))), ((g 143), .inr (1, [.ref (g 144), .ref (g 145), .ref (g 146), .ref (g 147), .ref (g 148), .ref (g 149), .int 0, .int 0])), ((g 144), .inl (cy 0, 2, .inl (fun _ => 0))), ((g 145), .inl (cy 0, 2, .inl (fun _ => 0))), ((g 146), .inl (cy 0, 2, .inl (fun _ => 0))), ((g 147), .inl (cy 0, 2, .inl (fun _ => 0))), ((g 148), .inl (cy 0, 2, .inl (fun _ => 0))), ((g 149), .inl (cy 2, 2, .inl (fun _ => 0))), ((g 150), .inl (cy 5, 4, .inr (.inr (.inr (.inr (va_up (va_up (va_up (va_up (fun _ => none) (0 : Int32).toNatClampNeg (some (g 151))) (1 : Int32).toNatClampNeg (some (g 153))) (2 : Int32).toNatClampNeg (some (g 155))) (3 : Int32).toNatClampNeg (some (g 157)))))))), ((g 151), .inr (7, [.ref (g 152), .int 0, .int 0, .int 0])), ((g 152), .inl (cy 0, 24, .inl (fun _ => 0))), ((g 153), .inr (7, [.ref (g 154), .int 0, .int 0, .int 0])), ((g 154), .inl (cy 0, 24, .inl (fun _ => 0))), ((g 155), .inr (7, [.ref (g 156), .int 0, .int 0, .int 0])), ((g 156), .inl (cy 0, 24, .inl (fun _ => 0))), ((g 157), .inr (7, [.ref (g 158), .int 0, .int 0, .int 0])), ((g 158), .inl (cy 0, 24, .inl (fun _ => 0))), ((g 159), .inl (cy 6, 2, .inr (.inr (.inr (.inr (va_up (va_up (fun _ => none) (0 : Int32).toNatClampNeg (some (g 160))) (1 : Int32).toNatClampNeg (some (g 198)))))))), ((g 160), .inr (9, [.ref (g 161), .ref (g 162), .ref (g 163), .ref (g 164), .ref (g 165), .ref (g 166), .ref (g 167), .ref (g 168), .ref (g 181), .ref (g 194), .ref (g 195), .ref (g 196), .ref (g 197), .int 0, .int 0, .long 0])), ((g 161), .inl (cy 0, 12, .inl (fun _ => 0))), ((g 162), .inl (cy 0, 12, .inl (fun _ => 0))), ((g 163), .inl (cy 0, 12, .inl (fun _ => 0))), ((g 164), .inl (cy 0, 12, .inl (fun _ => 0))), ((g 165), .inl (cy 0, 12, .inl (fun _ => 0))), ((g 166), .inl (cy 0, 12, .inl (fun _ => 0))), ((g 167), .inl (cy 0, 12, .inl (fun _ => 0))), ((g 168), .inl (cy 8, 12, .inr (.inr (.inr (.inr (fun i => if i < 12 then some (q2 i) else none)))))), ((g 169), .inl (cy 1, 96, .inr (.inl (fun _ => 0)))), ((g 170), .inl (cy 1, 96, .inr (.inl (fun _ => 0)))), ((g 171), .inl (cy 1, 96, .inr (.inl (fun _ => 0)))), ((g 172), .inl (cy 1, 96, .inr (.inl (fun _ => 0)))), ((g 173), .inl (cy 1, 96, .inr (.inl (fun _ => 0)))), ((g 174), .inl (cy 1, 96, .inr (.inl (fun _ => 0)))), ((g 175), .inl (cy 1, 96, .inr (.inl (fun _ => 0)))), ((g 176), .inl (cy 1, 96, .inr (.inl (fun _ => 0)))), ((g 177), .inl (cy 1, 96, .inr (.inl (fun _ => 0)))), ((g 178), .inl (cy 1, 96, .inr (.inl (fun _ => 0)))), ((g 179), .inl (cy 1, 96, .inr (.inl (fun _ => 0)))), ((g 180), .inl (cy 1, 96, .inr (.inl (fun _ => 0)))), ((g 181), .inl (cy 8, 12, .inr (.inr (.inr (.inr (fun i => if i < 12 then some (q3 i) else none)))))), ((g 182), .inl (cy 1, 96, .inr (.inl (fun _ => 0)))), ((g 183), .inl (cy 1, 96, .inr (.inl (fun _ => 0)))), ((g 184), .inl (cy 1, 96, .inr (.inl (fun _ => 0)))), ((g 185), .inl (cy 1, 96, .inr (.inl (fun _ => 0)))), ((g 186), .inl (cy 1, 96, .inr (.inl (fun _ => 0)))), ((g 187), .inl (cy 1, 96, .inr (.inl (fun _ => 0)))), ((g 188), .inl (cy 1, 96, .inr (.inl (fun _ => 0)))), ((g 189), .inl (cy 1, 96, .inr (.inl (fun _ => 0)))), ((g 190), .inl (cy 1, 96, .inr (.inl (fun _ => 0)))), ((g 191), .inl (cy 1, 96, .inr (.inl (fun _ => 0)))), ((g 192), .inl (cy 1, 96, .inr (.inl (fun _ => 0)))), ((g 193), .inl (cy 1, 96, .inr (.inl (fun _ => 0)))), ((g 194), .inl (cy 1, 24, .inr (.inl (fun _ => 0)))), ((g 195), .inl (cy 0, 24, .inl (fun _ => 0))), ((g 196), .inl (cy 1, 96, .inr (.inl (fun _ => 0)))), ((g 197), .inl (cy 1, 96, .inr (.inl (fun _ => 0)))), ((g 198), .inr (9, [.ref (g 199), .ref (g 200), .ref (g 201), .ref (g 202), .ref (g 203), .ref (g 204), .ref (g 205), .ref (g 206), .ref (g 219), .ref (g 232), .ref (g 233), .ref (g 234), .ref (g 235), .int 0, .int 0, .long 0])), ((g 199), .inl (cy 0, 12, .inl (fun _ => 0))), ((g 200), .inl (cy 0, 12, .inl (fun _ => 0))), ((g 201), .inl (cy 0, 12, .inl (fun _ => 0))), ((g 202), .inl (cy 0, 12, .inl (fun _ => 0))), ((g 203), .inl (cy 0, 12, .inl (fun _ => 0))), ((g 204), .inl (cy 0, 12, .inl (fun _ => 0))), ((g 205), .inl (cy 0, 12, .inl (fun _ => 0))), ((g 206), .inl (cy 8, 12, .inr (.inr (.inr (.inr (fun i => if i < 12 then some (q4 i) else none)))))), ((g 207), .inl (cy 1, 96, .inr (.inl (fun _ => 0)))), ((g 208), .inl (cy 1, 96, .inr (.inl (fun _ => 0)))), ((g 209), .inl (cy 1, 96, .inr (.inl (fun _ => 0)))), ((g 210), .inl (cy 1, 96, .inr (.inl (fun _ => 0)))), ((g 211), .inl (cy 1, 96, .inr (.inl (fun _ => 0)))), ((g 212), .inl (cy 1, 96, .inr (.inl (fun _ => 0)))), ((g 213), .inl (cy 1, 96, .inr (.inl (fun _ => 0)))), ((g 214), .inl (cy 1, 96, .inr (.inl (fun _ => 0)))), ((g 215), .inl (cy 1, 96, .inr (.inl (fun _ => 0)))), ((g 216), .inl (cy 1, 96, .inr (.inl (fun _ => 0)))), ((g 217), .inl (cy 1, 96, .inr (.inl (fun _ => 0)))), ((g 218), .inl (cy 1, 96, .inr (.inl (fun _ => 0)))), ((g 219), .inl (cy 8, 12, .inr (.inr (.inr (.inr (fun i => if i < 12 then some (q5 i) else none)))))), ((g 220), .inl (cy 1, 96, .inr (.inl (fun _ => 0)))), ((g 221), .inl (cy 1, 96, .inr (.inl (fun _ => 0)))), ((g 222), .inl (cy 1, 96, .inr (.inl (fun _ => 0)))), ((g 223), .inl (cy 1, 96, .inr (.inl (fun _ => 0)))), ((g 224), .inl (cy 1, 96, .inr (.inl (fun _ => 0)))), ((g 225), .inl (cy 1, 96, .inr (.inl (fun _ => 0)))), ((g 226), .inl (cy 1, 96, .inr (.inl (fun _ => 0)))), ((g 227), .inl (cy 1, 96, .inr (.inl (fun _ => 0)))), ((g 228), .inl (cy 1, 96, .inr (.inl (fun _ => 0)))), ((g 229), .inl (cy 1, 96, .inr (.inl (fun _ => 0)))), ((g 230), .inl (cy 1, 96, .inr (.inl (fun _ => 0)))), ((g 231), .inl (cy 1, 96, .inr (.inl (fun _ => 0)))), ((g 232), .inl (cy 1, 24, .inr (.inl (fun _ => 0)))), ((g 233), .inl (cy 0, 24, .inl (fun _ => 0))), ((g 234), .inl (cy 1, 96, .inr (.inl (fun _ => 0)))), ((g 235), .inl (cy 1, 96, .inr (.inl (fun _ => 0)))), ((g 236), .inl (cy 2, 2, .inl (fun _ => 0))), ((g 237), .inr (5, [.ref (g 238), .ref (g 239), .ref (g 240), .ref (g 241), .ref (g 242), .ref (g 243), .ref (g 244), .int 0, .int 0])), ((g 238), .inl (cy 2, 12, .inl (fun _ => 0))), ((g 239), .inl (cy 2, 12, .inl (fun _ => 0))), ((g 240), .inl (cy 2, 24, .inl (fun _ => 0))), ((g 241), .inl (cy 2, 24, .inl (fun _ => 0))), ((g 242), .inl (cy 0, 24, .inl (fun _ => 0))), ((g 243), .inl (cy 1, 16224, .inr (.inl (fun _ => 0)))), ((g 244), .inl (cy 1, 96, .inr (.inl (fun _ => 0)))), ((g 245), .inr (11, [.ref (g 246), .ref (g 247), .int 0, .int 0, .int 0, .ref (g 248), .int 0, .int 0, .ref (g 249), .ref (g 250), .ref (g 251), .ref (g 252), .ref (g 253), .ref (g 254), .ref (g 255), .long 0, .ref (g 256), .ref (g 257), .ref (g 258), .int 0, .long 0, .ref (g 259), .ref (g 260), .int 0, .ref (g 261), .ref (g 262), .ref (g 263), .ref (g 264)])), ((g 246), .inl (cy 0, 392, .inl zz)), ((g 247), .inl (cy 0, 80, .inl (fun _ => 0))), ((g 248), .inl (cy 0, 66, .inl (fun _ => 0))), ((g 249), .inl (cy 0, 12, .inl (fun _ => 0))), ((g 250), .inl (cy 0, 12, .inl (fun _ => 0))), ((g 251), .inl (cy 0, 12, .inl (fun _ => 0))), ((g 252), .inl (cy 0, 12, .inl (fun _ => 0))), ((g 253), .inl (cy 0, 12, .inl (fun _ => 0))), ((g 254), .inl (cy 1, 1440, .inr (.inl (fun _ => 0)))), ((g 255), .inl (cy 1, 1440, .inr (.inl (fun _ => 0)))), ((g 256), .inl (cy 1, 24, .inr (.inl (fun _ => 0)))), ((g 257), .inl (cy 1, 288, .inr (.inl (fun _ => 0)))), ((g 258), .inl (cy 0, 12, .inl (fun _ => 0))), ((g 259), .inl (cy 1, 20280, .inr (.inl (fun _ => 0)))), ((g 260), .inl (cy 1, 20280, .inr (.inl (fun _ => 0)))), ((g 261), .inl (cy 0, 392, .inl (fun _ => 0))), ((g 262), .inl (cy 0, 4, .inl ll)), ((g 263), .inl (cy 0, 4, .inl (fun _ => 0))), ((g 264), .inl (cy 0, 96, .inl (fun _ => 0)))]
def CVP (dC : Nat → ClassId) (dI : Nat → Nat → Nat) (cy : Nat → ClassId) (g : Nat → Nat) (ws : va_W) (H : Heap) (k : Nat) : Prop := va_at (dC, dI) vwCl (g k, EK cy g k) H ∧ ∃ e, ws[k]? = some (g k, e)
theorem cv_s {P : Nat → Prop} {n : Nat} (h : ∀ k, k < n → P k) (p : P n) : ∀ k, k < n + 1 → P k := fun k hk => (Nat.lt_or_eq_of_le (Nat.le_of_lt_succ hk)).elim (h k) (fun e => by rw [e]; exact p)
theorem cv_all {dC : Nat → ClassId} {dI : Nat → Nat → Nat} {cy : Nat → ClassId} {g q0 q1 q2 q3 q4 q5 : Nat → Nat} {H : Heap} (h0 : ∀ i, i < 3 → q0 i = g (cvR 3 i)) (h1 : ∀ i, i < 3 → q1 i = g (cvR 70 i)) (h2 : ∀ i, i < 12 → q2 i = g (cvR 168 i)) (h3 : ∀ i, i < 12 → q3 i = g (cvR 181 i)) (h4 : ∀ i, i < 12 → q4 i = g (cvR 206 i)) (h5 : ∀ i, i < 12 → q5 i = g (cvR 219 i)) (hP : va_P (dC, dI) vwCl (WS0 cy g q0 q1 q2 q3 q4 q5) H) : ∀ k, k < 265 → CVP dC dI cy g (WS0 cy g q0 q1 q2 q3 q4 q5) H k := by
  have a0 : ∀ k, k < 0 → CVP dC dI cy g (WS0 cy g q0 q1 q2 q3 q4 q5) H k := fun k hk => absurd hk (Nat.not_lt_zero k)
  have a1 := cv_s a0 ⟨by rw [ek_0]; exact hP 0 _ rfl, _, rfl⟩
  have a2 := cv_s a1 ⟨by rw [ek_1]; exact hP 1 _ rfl, _, rfl⟩
  have a3 := cv_s a2 ⟨by rw [ek_2]; exact hP 2 _ rfl, _, rfl⟩
  have a4 := cv_s a3 ⟨by rw [ek_3 h0]; exact hP 3 _ rfl, _, rfl⟩
  have a5 := cv_s a4 ⟨by rw [ek_4]; exact hP 4 _ rfl, _, rfl⟩
  have a6 := cv_s a5 ⟨by rw [ek_5]; exact hP 5 _ rfl, _, rfl⟩
  have a7 := cv_s a6 ⟨by rw [ek_6]; exact hP 6 _ rfl, _, rfl⟩
  have a8 := cv_s a7 ⟨by rw [ek_7]; exact hP 7 _ rfl, _, rfl⟩
  have a9 := cv_s a8 ⟨by rw [ek_8]; exact hP 8 _ rfl, _, rfl⟩
  have a10 := cv_s a9 ⟨by rw [ek_9]; exact hP 9 _ rfl, _, rfl⟩
  have a11 := cv_s a10 ⟨by rw [ek_10]; exact hP 10 _ rfl, _, rfl⟩
  have a12 := cv_s a11 ⟨by rw [ek_11]; exact hP 11 _ rfl, _, rfl⟩
  have a13 := cv_s a12 ⟨by rw [ek_12]; exact hP 12 _ rfl, _, rfl⟩
  have a14 := cv_s a13 ⟨by rw [ek_13]; exact hP 13 _ rfl, _, rfl⟩
  have a15 := cv_s a14 ⟨by rw [ek_14]; exact hP 14 _ rfl, _, rfl⟩
  have a16 := cv_s a15 ⟨by rw [ek_15]; exact hP 15 _ rfl, _, rfl⟩
  have a17 := cv_s a16 ⟨by rw [ek_16]; exact hP 16 _ rfl, _, rfl⟩
  have a18 := cv_s a17 ⟨by rw [ek_17]; exact hP 17 _ rfl, _, rfl⟩
  have a19 := cv_s a18 ⟨by rw [ek_18]; exact hP 18 _ rfl, _, rfl⟩
  have a20 := cv_s a19 ⟨by rw [ek_19]; exact hP 19 _ rfl, _, rfl⟩
  have a21 := cv_s a20 ⟨by rw [ek_20]; exact hP 20 _ rfl, _, rfl⟩
  have a22 := cv_s a21 ⟨by rw [ek_21]; exact hP 21 _ rfl, _, rfl⟩
  have a23 := cv_s a22 ⟨by rw [ek_22]; exact hP 22 _ rfl, _, rfl⟩
  have a24 := cv_s a23 ⟨by rw [ek_23]; exact hP 23 _ rfl, _, rfl⟩
  have a25 := cv_s a24 ⟨by rw [ek_24]; exact hP 24 _ rfl, _, rfl⟩
  have a26 := cv_s a25 ⟨by rw [ek_25]; exact hP 25 _ rfl, _, rfl⟩
  have a27 := cv_s a26 ⟨by rw [ek_26]; exact hP 26 _ rfl, _, rfl⟩
  have a28 := cv_s a27 ⟨by rw [ek_27]; exact hP 27 _ rfl, _, rfl⟩
  have a29 := cv_s a28 ⟨by rw [ek_28]; exact hP 28 _ rfl, _, rfl⟩
  have a30 := cv_s a29 ⟨by rw [ek_29]; exact hP 29 _ rfl, _, rfl⟩
  have a31 := cv_s a30 ⟨by rw [ek_30]; exact hP 30 _ rfl, _, rfl⟩
  have a32 := cv_s a31 ⟨by rw [ek_31]; exact hP 31 _ rfl, _, rfl⟩
  have a33 := cv_s a32 ⟨by rw [ek_32]; exact hP 32 _ rfl, _, rfl⟩
  have a34 := cv_s a33 ⟨by rw [ek_33]; exact hP 33 _ rfl, _, rfl⟩
  have a35 := cv_s a34 ⟨by rw [ek_34]; exact hP 34 _ rfl, _, rfl⟩
  have a36 := cv_s a35 ⟨by rw [ek_35]; exact hP 35 _ rfl, _, rfl⟩
  have a37 := cv_s a36 ⟨by rw [ek_36]; exact hP 36 _ rfl, _, rfl⟩
  have a38 := cv_s a37 ⟨by rw [ek_37]; exact hP 37 _ rfl, _, rfl⟩
  have a39 := cv_s a38 ⟨by rw [ek_38]; exact hP 38 _ rfl, _, rfl⟩
  have a40 := cv_s a39 ⟨by rw [ek_39]; exact hP 39 _ rfl, _, rfl⟩
  have a41 := cv_s a40 ⟨by rw [ek_40]; exact hP 40 _ rfl, _, rfl⟩
  have a42 := cv_s a41 ⟨by rw [ek_41]; exact hP 41 _ rfl, _, rfl⟩
  have a43 := cv_s a42 ⟨by rw [ek_42]; exact hP 42 _ rfl, _, rfl⟩
  have a44 := cv_s a43 ⟨by rw [ek_43]; exact hP 43 _ rfl, _, rfl⟩
  have a45 := cv_s a44 ⟨by rw [ek_44]; exact hP 44 _ rfl, _, rfl⟩
  have a46 := cv_s a45 ⟨by rw [ek_45]; exact hP 45 _ rfl, _, rfl⟩
  have a47 := cv_s a46 ⟨by rw [ek_46]; exact hP 46 _ rfl, _, rfl⟩
  have a48 := cv_s a47 ⟨by rw [ek_47]; exact hP 47 _ rfl, _, rfl⟩
  have a49 := cv_s a48 ⟨by rw [ek_48]; exact hP 48 _ rfl, _, rfl⟩
  have a50 := cv_s a49 ⟨by rw [ek_49]; exact hP 49 _ rfl, _, rfl⟩
  have a51 := cv_s a50 ⟨by rw [ek_50]; exact hP 50 _ rfl, _, rfl⟩
  have a52 := cv_s a51 ⟨by rw [ek_51]; exact hP 51 _ rfl, _, rfl⟩
  have a53 := cv_s a52 ⟨by rw [ek_52]; exact hP 52 _ rfl, _, rfl⟩
  have a54 := cv_s a53 ⟨by rw [ek_53]; exact hP 53 _ rfl, _, rfl⟩
  have a55 := cv_s a54 ⟨by rw [ek_54]; exact hP 54 _ rfl, _, rfl⟩
  have a56 := cv_s a55 ⟨by rw [ek_55]; exact hP 55 _ rfl, _, rfl⟩
  have a57 := cv_s a56 ⟨by rw [ek_56]; exact hP 56 _ rfl, _, rfl⟩
  have a58 := cv_s a57 ⟨by rw [ek_57]; exact hP 57 _ rfl, _, rfl⟩
  have a59 := cv_s a58 ⟨by rw [ek_58]; exact hP 58 _ rfl, _, rfl⟩
  have a60 := cv_s a59 ⟨by rw [ek_59]; exact hP 59 _ rfl, _, rfl⟩
  have a61 := cv_s a60 ⟨by rw [ek_60]; exact hP 60 _ rfl, _, rfl⟩
  have a62 := cv_s a61 ⟨by rw [ek_61]; exact hP 61 _ rfl, _, rfl⟩
  have a63 := cv_s a62 ⟨by rw [ek_62]; exact hP 62 _ rfl, _, rfl⟩
  have a64 := cv_s a63 ⟨by rw [ek_63]; exact hP 63 _ rfl, _, rfl⟩
  have a65 := cv_s a64 ⟨by rw [ek_64]; exact hP 64 _ rfl, _, rfl⟩
  have a66 := cv_s a65 ⟨by rw [ek_65]; exact hP 65 _ rfl, _, rfl⟩
  have a67 := cv_s a66 ⟨by rw [ek_66]; exact hP 66 _ rfl, _, rfl⟩
  have a68 := cv_s a67 ⟨by rw [ek_67]; exact hP 67 _ rfl, _, rfl⟩
  have a69 := cv_s a68 ⟨by rw [ek_68]; exact hP 68 _ rfl, _, rfl⟩
  have a70 := cv_s a69 ⟨by rw [ek_69]; exact hP 69 _ rfl, _, rfl⟩
  have a71 := cv_s a70 ⟨by rw [ek_70 h1]; exact hP 70 _ rfl, _, rfl⟩
  have a72 := cv_s a71 ⟨by rw [ek_71]; exact hP 71 _ rfl, _, rfl⟩
  have a73 := cv_s a72 ⟨by rw [ek_72]; exact hP 72 _ rfl, _, rfl⟩
  have a74 := cv_s a73 ⟨by rw [ek_73]; exact hP 73 _ rfl, _, rfl⟩
  have a75 := cv_s a74 ⟨by rw [ek_74]; exact hP 74 _ rfl, _, rfl⟩
  have a76 := cv_s a75 ⟨by rw [ek_75]; exact hP 75 _ rfl, _, rfl⟩
  have a77 := cv_s a76 ⟨by rw [ek_76]; exact hP 76 _ rfl, _, rfl⟩
  have a78 := cv_s a77 ⟨by rw [ek_77]; exact hP 77 _ rfl, _, rfl⟩
  have a79 := cv_s a78 ⟨by rw [ek_78]; exact hP 78 _ rfl, _, rfl⟩
  have a80 := cv_s a79 ⟨by rw [ek_79]; exact hP 79 _ rfl, _, rfl⟩
  have a81 := cv_s a80 ⟨by rw [ek_80]; exact hP 80 _ rfl, _, rfl⟩
  have a82 := cv_s a81 ⟨by rw [ek_81]; exact hP 81 _ rfl, _, rfl⟩
  have a83 := cv_s a82 ⟨by rw [ek_82]; exact hP 82 _ rfl, _, rfl⟩
  have a84 := cv_s a83 ⟨by rw [ek_83]; exact hP 83 _ rfl, _, rfl⟩
  have a85 := cv_s a84 ⟨by rw [ek_84]; exact hP 84 _ rfl, _, rfl⟩
  have a86 := cv_s a85 ⟨by rw [ek_85]; exact hP 85 _ rfl, _, rfl⟩
  have a87 := cv_s a86 ⟨by rw [ek_86]; exact hP 86 _ rfl, _, rfl⟩
  have a88 := cv_s a87 ⟨by rw [ek_87]; exact hP 87 _ rfl, _, rfl⟩
  have a89 := cv_s a88 ⟨by rw [ek_88]; exact hP 88 _ rfl, _, rfl⟩
  have a90 := cv_s a89 ⟨by rw [ek_89]; exact hP 89 _ rfl, _, rfl⟩
  have a91 := cv_s a90 ⟨by rw [ek_90]; exact hP 90 _ rfl, _, rfl⟩
  have a92 := cv_s a91 ⟨by rw [ek_91]; exact hP 91 _ rfl, _, rfl⟩
  have a93 := cv_s a92 ⟨by rw [ek_92]; exact hP 92 _ rfl, _, rfl⟩
  have a94 := cv_s a93 ⟨by rw [ek_93]; exact hP 93 _ rfl, _, rfl⟩
  have a95 := cv_s a94 ⟨by rw [ek_94]; exact hP 94 _ rfl, _, rfl⟩
  have a96 := cv_s a95 ⟨by rw [ek_95]; exact hP 95 _ rfl, _, rfl⟩
  have a97 := cv_s a96 ⟨by rw [ek_96]; exact hP 96 _ rfl, _, rfl⟩
  have a98 := cv_s a97 ⟨by rw [ek_97]; exact hP 97 _ rfl, _, rfl⟩
  have a99 := cv_s a98 ⟨by rw [ek_98]; exact hP 98 _ rfl, _, rfl⟩
  have a100 := cv_s a99 ⟨by rw [ek_99]; exact hP 99 _ rfl, _, rfl⟩
  have a101 := cv_s a100 ⟨by rw [ek_100]; exact hP 100 _ rfl, _, rfl⟩
  have a102 := cv_s a101 ⟨by rw [ek_101]; exact hP 101 _ rfl, _, rfl⟩
  have a103 := cv_s a102 ⟨by rw [ek_102]; exact hP 102 _ rfl, _, rfl⟩
  have a104 := cv_s a103 ⟨by rw [ek_103]; exact hP 103 _ rfl, _, rfl⟩
  have a105 := cv_s a104 ⟨by rw [ek_104]; exact hP 104 _ rfl, _, rfl⟩
  have a106 := cv_s a105 ⟨by rw [ek_105]; exact hP 105 _ rfl, _, rfl⟩
  have a107 := cv_s a106 ⟨by rw [ek_106]; exact hP 106 _ rfl, _, rfl⟩
  have a108 := cv_s a107 ⟨by rw [ek_107]; exact hP 107 _ rfl, _, rfl⟩
  have a109 := cv_s a108 ⟨by rw [ek_108]; exact hP 108 _ rfl, _, rfl⟩
  have a110 := cv_s a109 ⟨by rw [ek_109]; exact hP 109 _ rfl, _, rfl⟩
  have a111 := cv_s a110 ⟨by rw [ek_110]; exact hP 110 _ rfl, _, rfl⟩
  have a112 := cv_s a111 ⟨by rw [ek_111]; exact hP 111 _ rfl, _, rfl⟩
  have a113 := cv_s a112 ⟨by rw [ek_112]; exact hP 112 _ rfl, _, rfl⟩
  have a114 := cv_s a113 ⟨by rw [ek_113]; exact hP 113 _ rfl, _, rfl⟩
  have a115 := cv_s a114 ⟨by rw [ek_114]; exact hP 114 _ rfl, _, rfl⟩
  have a116 := cv_s a115 ⟨by rw [ek_115]; exact hP 115 _ rfl, _, rfl⟩
  have a117 := cv_s a116 ⟨by rw [ek_116]; exact hP 116 _ rfl, _, rfl⟩
  have a118 := cv_s a117 ⟨by rw [ek_117]; exact hP 117 _ rfl, _, rfl⟩
  have a119 := cv_s a118 ⟨by rw [ek_118]; exact hP 118 _ rfl, _, rfl⟩
  have a120 := cv_s a119 ⟨by rw [ek_119]; exact hP 119 _ rfl, _, rfl⟩
  have a121 := cv_s a120 ⟨by rw [ek_120]; exact hP 120 _ rfl, _, rfl⟩
  have a122 := cv_s a121 ⟨by rw [ek_121]; exact hP 121 _ rfl, _, rfl⟩
  have a123 := cv_s a122 ⟨by rw [ek_122]; exact hP 122 _ rfl, _, rfl⟩
  have a124 := cv_s a123 ⟨by rw [ek_123]; exact hP 123 _ rfl, _, rfl⟩
  have a125 := cv_s a124 ⟨by rw [ek_124]; exact hP 124 _ rfl, _, rfl⟩
  have a126 := cv_s a125 ⟨by rw [ek_125]; exact hP 125 _ rfl, _, rfl⟩
  have a127 := cv_s a126 ⟨by rw [ek_126]; exact hP 126 _ rfl, _, rfl⟩
  have a128 := cv_s a127 ⟨by rw [ek_127]; exact hP 127 _ rfl, _, rfl⟩
  have a129 := cv_s a128 ⟨by rw [ek_128]; exact hP 128 _ rfl, _, rfl⟩
  have a130 := cv_s a129 ⟨by rw [ek_129]; exact hP 129 _ rfl, _, rfl⟩
  have a131 := cv_s a130 ⟨by rw [ek_130]; exact hP 130 _ rfl, _, rfl⟩
  have a132 := cv_s a131 ⟨by rw [ek_131]; exact hP 131 _ rfl, _, rfl⟩
  have a133 := cv_s a132 ⟨by rw [ek_132]; exact hP 132 _ rfl, _, rfl⟩
  have a134 := cv_s a133 ⟨by rw [ek_133]; exact hP 133 _ rfl, _, rfl⟩
  have a135 := cv_s a134 ⟨by rw [ek_134]; exact hP 134 _ rfl, _, rfl⟩
  have a136 := cv_s a135 ⟨by rw [ek_135]; exact hP 135 _ rfl, _, rfl⟩
  have a137 := cv_s a136 ⟨by rw [ek_136]; exact hP 136 _ rfl, _, rfl⟩
  have a138 := cv_s a137 ⟨by rw [ek_137]; exact hP 137 _ rfl, _, rfl⟩
  have a139 := cv_s a138 ⟨by rw [ek_138]; exact hP 138 _ rfl, _, rfl⟩
  have a140 := cv_s a139 ⟨by rw [ek_139]; exact hP 139 _ rfl, _, rfl⟩
  have a141 := cv_s a140 ⟨by rw [ek_140]; exact hP 140 _ rfl, _, rfl⟩
  have a142 := cv_s a141 ⟨by rw [ek_141]; exact hP 141 _ rfl, _, rfl⟩
  have a143 := cv_s a142 ⟨by rw [ek_142]; exact hP 142 _ rfl, _, rfl⟩
  have a144 := cv_s a143 ⟨by rw [ek_143]; exact hP 143 _ rfl, _, rfl⟩
  have a145 := cv_s a144 ⟨by rw [ek_144]; exact hP 144 _ rfl, _, rfl⟩
  have a146 := cv_s a145 ⟨by rw [ek_145]; exact hP 145 _ rfl, _, rfl⟩
  have a147 := cv_s a146 ⟨by rw [ek_146]; exact hP 146 _ rfl, _, rfl⟩
  have a148 := cv_s a147 ⟨by rw [ek_147]; exact hP 147 _ rfl, _, rfl⟩
  have a149 := cv_s a148 ⟨by rw [ek_148]; exact hP 148 _ rfl, _, rfl⟩
  have a150 := cv_s a149 ⟨by rw [ek_149]; exact hP 149 _ rfl, _, rfl⟩
  have a151 := cv_s a150 ⟨by rw [ek_150]; exact hP 150 _ rfl, _, rfl⟩
  have a152 := cv_s a151 ⟨by rw [ek_151]; exact hP 151 _ rfl, _, rfl⟩
  have a153 := cv_s a152 ⟨by rw [ek_152]; exact hP 152 _ rfl, _, rfl⟩
  have a154 := cv_s a153 ⟨by rw [ek_153]; exact hP 153 _ rfl, _, rfl⟩
  have a155 := cv_s a154 ⟨by rw [ek_154]; exact hP 154 _ rfl, _, rfl⟩
  have a156 := cv_s a155 ⟨by rw [ek_155]; exact hP 155 _ rfl, _, rfl⟩
  have a157 := cv_s a156 ⟨by rw [ek_156]; exact hP 156 _ rfl, _, rfl⟩
  have a158 := cv_s a157 ⟨by rw [ek_157]; exact hP 157 _ rfl, _, rfl⟩
  have a159 := cv_s a158 ⟨by rw [ek_158]; exact hP 158 _ rfl, _, rfl⟩
  have a160 := cv_s a159 ⟨by rw [ek_159]; exact hP 159 _ rfl, _, rfl⟩
  have a161 := cv_s a160 ⟨by rw [ek_160]; exact hP 160 _ rfl, _, rfl⟩
  have a162 := cv_s a161 ⟨by rw [ek_161]; exact hP 161 _ rfl, _, rfl⟩
  have a163 := cv_s a162 ⟨by rw [ek_162]; exact hP 162 _ rfl, _, rfl⟩
  have a164 := cv_s a163 ⟨by rw [ek_163]; exact hP 163 _ rfl, _, rfl⟩
  have a165 := cv_s a164 ⟨by rw [ek_164]; exact hP 164 _ rfl, _, rfl⟩
  have a166 := cv_s a165 ⟨by rw [ek_165]; exact hP 165 _ rfl, _, rfl⟩
  have a167 := cv_s a166 ⟨by rw [ek_166]; exact hP 166 _ rfl, _, rfl⟩
  have a168 := cv_s a167 ⟨by rw [ek_167]; exact hP 167 _ rfl, _, rfl⟩
  have a169 := cv_s a168 ⟨by rw [ek_168 h2]; exact hP 168 _ rfl, _, rfl⟩
  have a170 := cv_s a169 ⟨by rw [ek_169]; exact hP 169 _ rfl, _, rfl⟩
  have a171 := cv_s a170 ⟨by rw [ek_170]; exact hP 170 _ rfl, _, rfl⟩
  have a172 := cv_s a171 ⟨by rw [ek_171]; exact hP 171 _ rfl, _, rfl⟩
  have a173 := cv_s a172 ⟨by rw [ek_172]; exact hP 172 _ rfl, _, rfl⟩
  have a174 := cv_s a173 ⟨by rw [ek_173]; exact hP 173 _ rfl, _, rfl⟩
  have a175 := cv_s a174 ⟨by rw [ek_174]; exact hP 174 _ rfl, _, rfl⟩
  have a176 := cv_s a175 ⟨by rw [ek_175]; exact hP 175 _ rfl, _, rfl⟩
  have a177 := cv_s a176 ⟨by rw [ek_176]; exact hP 176 _ rfl, _, rfl⟩
  have a178 := cv_s a177 ⟨by rw [ek_177]; exact hP 177 _ rfl, _, rfl⟩
  have a179 := cv_s a178 ⟨by rw [ek_178]; exact hP 178 _ rfl, _, rfl⟩
  have a180 := cv_s a179 ⟨by rw [ek_179]; exact hP 179 _ rfl, _, rfl⟩
  have a181 := cv_s a180 ⟨by rw [ek_180]; exact hP 180 _ rfl, _, rfl⟩
  have a182 := cv_s a181 ⟨by rw [ek_181 h3]; exact hP 181 _ rfl, _, rfl⟩
  have a183 := cv_s a182 ⟨by rw [ek_182]; exact hP 182 _ rfl, _, rfl⟩
  have a184 := cv_s a183 ⟨by rw [ek_183]; exact hP 183 _ rfl, _, rfl⟩
  have a185 := cv_s a184 ⟨by rw [ek_184]; exact hP 184 _ rfl, _, rfl⟩
  have a186 := cv_s a185 ⟨by rw [ek_185]; exact hP 185 _ rfl, _, rfl⟩
  have a187 := cv_s a186 ⟨by rw [ek_186]; exact hP 186 _ rfl, _, rfl⟩
  have a188 := cv_s a187 ⟨by rw [ek_187]; exact hP 187 _ rfl, _, rfl⟩
  have a189 := cv_s a188 ⟨by rw [ek_188]; exact hP 188 _ rfl, _, rfl⟩
  have a190 := cv_s a189 ⟨by rw [ek_189]; exact hP 189 _ rfl, _, rfl⟩
  have a191 := cv_s a190 ⟨by rw [ek_190]; exact hP 190 _ rfl, _, rfl⟩
  have a192 := cv_s a191 ⟨by rw [ek_191]; exact hP 191 _ rfl, _, rfl⟩
  have a193 := cv_s a192 ⟨by rw [ek_192]; exact hP 192 _ rfl, _, rfl⟩
  have a194 := cv_s a193 ⟨by rw [ek_193]; exact hP 193 _ rfl, _, rfl⟩
  have a195 := cv_s a194 ⟨by rw [ek_194]; exact hP 194 _ rfl, _, rfl⟩
  have a196 := cv_s a195 ⟨by rw [ek_195]; exact hP 195 _ rfl, _, rfl⟩
  have a197 := cv_s a196 ⟨by rw [ek_196]; exact hP 196 _ rfl, _, rfl⟩
  have a198 := cv_s a197 ⟨by rw [ek_197]; exact hP 197 _ rfl, _, rfl⟩
  have a199 := cv_s a198 ⟨by rw [ek_198]; exact hP 198 _ rfl, _, rfl⟩
  have a200 := cv_s a199 ⟨by rw [ek_199]; exact hP 199 _ rfl, _, rfl⟩
  have a201 := cv_s a200 ⟨by rw [ek_200]; exact hP 200 _ rfl, _, rfl⟩
  have a202 := cv_s a201 ⟨by rw [ek_201]; exact hP 201 _ rfl, _, rfl⟩
  have a203 := cv_s a202 ⟨by rw [ek_202]; exact hP 202 _ rfl, _, rfl⟩
  have a204 := cv_s a203 ⟨by rw [ek_203]; exact hP 203 _ rfl, _, rfl⟩
  have a205 := cv_s a204 ⟨by rw [ek_204]; exact hP 204 _ rfl, _, rfl⟩
  have a206 := cv_s a205 ⟨by rw [ek_205]; exact hP 205 _ rfl, _, rfl⟩
  have a207 := cv_s a206 ⟨by rw [ek_206 h4]; exact hP 206 _ rfl, _, rfl⟩
  have a208 := cv_s a207 ⟨by rw [ek_207]; exact hP 207 _ rfl, _, rfl⟩
  have a209 := cv_s a208 ⟨by rw [ek_208]; exact hP 208 _ rfl, _, rfl⟩
  have a210 := cv_s a209 ⟨by rw [ek_209]; exact hP 209 _ rfl, _, rfl⟩
  have a211 := cv_s a210 ⟨by rw [ek_210]; exact hP 210 _ rfl, _, rfl⟩
  have a212 := cv_s a211 ⟨by rw [ek_211]; exact hP 211 _ rfl, _, rfl⟩
  have a213 := cv_s a212 ⟨by rw [ek_212]; exact hP 212 _ rfl, _, rfl⟩
  have a214 := cv_s a213 ⟨by rw [ek_213]; exact hP 213 _ rfl, _, rfl⟩
  have a215 := cv_s a214 ⟨by rw [ek_214]; exact hP 214 _ rfl, _, rfl⟩
  have a216 := cv_s a215 ⟨by rw [ek_215]; exact hP 215 _ rfl, _, rfl⟩
  have a217 := cv_s a216 ⟨by rw [ek_216]; exact hP 216 _ rfl, _, rfl⟩
  have a218 := cv_s a217 ⟨by rw [ek_217]; exact hP 217 _ rfl, _, rfl⟩
  have a219 := cv_s a218 ⟨by rw [ek_218]; exact hP 218 _ rfl, _, rfl⟩
  have a220 := cv_s a219 ⟨by rw [ek_219 h5]; exact hP 219 _ rfl, _, rfl⟩
  have a221 := cv_s a220 ⟨by rw [ek_220]; exact hP 220 _ rfl, _, rfl⟩
  have a222 := cv_s a221 ⟨by rw [ek_221]; exact hP 221 _ rfl, _, rfl⟩
  have a223 := cv_s a222 ⟨by rw [ek_222]; exact hP 222 _ rfl, _, rfl⟩
  have a224 := cv_s a223 ⟨by rw [ek_223]; exact hP 223 _ rfl, _, rfl⟩
  have a225 := cv_s a224 ⟨by rw [ek_224]; exact hP 224 _ rfl, _, rfl⟩
  have a226 := cv_s a225 ⟨by rw [ek_225]; exact hP 225 _ rfl, _, rfl⟩
  have a227 := cv_s a226 ⟨by rw [ek_226]; exact hP 226 _ rfl, _, rfl⟩
  have a228 := cv_s a227 ⟨by rw [ek_227]; exact hP 227 _ rfl, _, rfl⟩
  have a229 := cv_s a228 ⟨by rw [ek_228]; exact hP 228 _ rfl, _, rfl⟩
  have a230 := cv_s a229 ⟨by rw [ek_229]; exact hP 229 _ rfl, _, rfl⟩
  have a231 := cv_s a230 ⟨by rw [ek_230]; exact hP 230 _ rfl, _, rfl⟩
  have a232 := cv_s a231 ⟨by rw [ek_231]; exact hP 231 _ rfl, _, rfl⟩
  have a233 := cv_s a232 ⟨by rw [ek_232]; exact hP 232 _ rfl, _, rfl⟩
  have a234 := cv_s a233 ⟨by rw [ek_233]; exact hP 233 _ rfl, _, rfl⟩
  have a235 := cv_s a234 ⟨by rw [ek_234]; exact hP 234 _ rfl, _, rfl⟩
  have a236 := cv_s a235 ⟨by rw [ek_235]; exact hP 235 _ rfl, _, rfl⟩
  have a237 := cv_s a236 ⟨by rw [ek_236]; exact hP 236 _ rfl, _, rfl⟩
  have a238 := cv_s a237 ⟨by rw [ek_237]; exact hP 237 _ rfl, _, rfl⟩
  have a239 := cv_s a238 ⟨by rw [ek_238]; exact hP 238 _ rfl, _, rfl⟩
  have a240 := cv_s a239 ⟨by rw [ek_239]; exact hP 239 _ rfl, _, rfl⟩
  have a241 := cv_s a240 ⟨by rw [ek_240]; exact hP 240 _ rfl, _, rfl⟩
  have a242 := cv_s a241 ⟨by rw [ek_241]; exact hP 241 _ rfl, _, rfl⟩
  have a243 := cv_s a242 ⟨by rw [ek_242]; exact hP 242 _ rfl, _, rfl⟩
  have a244 := cv_s a243 ⟨by rw [ek_243]; exact hP 243 _ rfl, _, rfl⟩
  have a245 := cv_s a244 ⟨by rw [ek_244]; exact hP 244 _ rfl, _, rfl⟩
  have a246 := cv_s a245 ⟨by rw [ek_245]; exact hP 245 _ rfl, _, rfl⟩
  have a247 := cv_s a246 ⟨by rw [ek_246]; exact hP 246 _ rfl, _, rfl⟩
  have a248 := cv_s a247 ⟨by rw [ek_247]; exact hP 247 _ rfl, _, rfl⟩
  have a249 := cv_s a248 ⟨by rw [ek_248]; exact hP 248 _ rfl, _, rfl⟩
  have a250 := cv_s a249 ⟨by rw [ek_249]; exact hP 249 _ rfl, _, rfl⟩
  have a251 := cv_s a250 ⟨by rw [ek_250]; exact hP 250 _ rfl, _, rfl⟩
  have a252 := cv_s a251 ⟨by rw [ek_251]; exact hP 251 _ rfl, _, rfl⟩
  have a253 := cv_s a252 ⟨by rw [ek_252]; exact hP 252 _ rfl, _, rfl⟩
  have a254 := cv_s a253 ⟨by rw [ek_253]; exact hP 253 _ rfl, _, rfl⟩
  have a255 := cv_s a254 ⟨by rw [ek_254]; exact hP 254 _ rfl, _, rfl⟩
  have a256 := cv_s a255 ⟨by rw [ek_255]; exact hP 255 _ rfl, _, rfl⟩
  have a257 := cv_s a256 ⟨by rw [ek_256]; exact hP 256 _ rfl, _, rfl⟩
  have a258 := cv_s a257 ⟨by rw [ek_257]; exact hP 257 _ rfl, _, rfl⟩
  have a259 := cv_s a258 ⟨by rw [ek_258]; exact hP 258 _ rfl, _, rfl⟩
  have a260 := cv_s a259 ⟨by rw [ek_259]; exact hP 259 _ rfl, _, rfl⟩
  have a261 := cv_s a260 ⟨by rw [ek_260]; exact hP 260 _ rfl, _, rfl⟩
  have a262 := cv_s a261 ⟨by rw [ek_261]; exact hP 261 _ rfl, _, rfl⟩
  have a263 := cv_s a262 ⟨by rw [ek_262]; exact hP 262 _ rfl, _, rfl⟩
  have a264 := cv_s a263 ⟨by rw [ek_263]; exact hP 263 _ rfl, _, rfl⟩
  have a265 := cv_s a264 ⟨by rw [ek_264]; exact hP 264 _ rfl, _, rfl⟩
  exact a265
theorem cR_lt : ∀ k : Nat, k < 265 → ∀ i : Nat, i < 30 → cvR k i < 265 := by decide +kernel
theorem cT_lt : ∀ k : Nat, k < 265 → cvT k ≠ 0 ∧ cvT k < 120 := by decide +kernel
/-- the references of an object -/
theorem cRoB : (List.range 265).all (fun k => (List.range 30).all (fun i => (!decide (cvT k < 19)) || (RF (cvT k) i == 0) || ((cvT (cvR k i) == RF (cvT k) i) && ((cPAR.getD (cvR k i) (0, 0)).1 == k) && ((cPAR.getD (cvR k i) (0, 0)).2 == i)))) = true := by decide +kernel
theorem cRo (k : Nat) (hk : k < 265) (i : Nat) (hi : i < 30) (h1 : cvT k < 19) (h2 : RF (cvT k) i ≠ 0) : cvT (cvR k i) = RF (cvT k) i ∧ cPAR.getD (cvR k i) (0, 0) = (k, i) := by
  have q := List.all_eq_true.mp (List.all_eq_true.mp cRoB k (List.mem_range.mpr hk)) i (List.mem_range.mpr hi)
  have d : decide (cvT k < 19) = true := decide_eq_true h1
  have n : (RF (cvT k) i == 0) = false := by
    cases w : (RF (cvT k) i == 0) with
    | false => rfl
    | true => exact absurd (eq_of_beq w) h2
  rw [d, n] at q
  simp only [Bool.not_true, Bool.false_or, Bool.and_eq_true, beq_iff_eq] at q
  exact ⟨q.1.1, Prod.ext q.1.2 q.2⟩
/-- the references of a row -/
def aN (t : Nat) : Nat := match DT t with
  | .inl _ => 0
  | .inr q => q.2.1
theorem cRaB : (List.range 265).all (fun k => (RF (cvT k) 0 == 0) || (!decide (19 ≤ cvT k)) || (decide (aN (cvT k) ≤ 12) && (List.range 12).all (fun i => (!decide (i < aN (cvT k))) || ((cvT (cvR k i) == RF (cvT k) 0) && ((cPAR.getD (cvR k i) (0, 0)).1 == k) && ((cPAR.getD (cvR k i) (0, 0)).2 == i))))) = true := by decide +kernel
theorem cRa (k : Nat) (hk : k < 265) (h2 : RF (cvT k) 0 ≠ 0) (h1 : 19 ≤ cvT k) : aN (cvT k) ≤ 12 ∧ ∀ i : Nat, i < 12 → i < aN (cvT k) → cvT (cvR k i) = RF (cvT k) 0 ∧ cPAR.getD (cvR k i) (0, 0) = (k, i) := by
  have q := List.all_eq_true.mp cRaB k (List.mem_range.mpr hk)
  have d : decide (19 ≤ cvT k) = true := decide_eq_true h1
  have n : (RF (cvT k) 0 == 0) = false := by
    cases w : (RF (cvT k) 0 == 0) with
    | false => rfl
    | true => exact absurd (eq_of_beq w) h2
  rw [d, n] at q
  simp only [Bool.not_true, Bool.false_or, Bool.and_eq_true] at q
  refine ⟨of_decide_eq_true q.1, fun i hi hn => ?_⟩
  have z := List.all_eq_true.mp q.2 i (List.mem_range.mpr hi)
  have d2 : decide (i < aN (cvT k)) = true := decide_eq_true hn
  rw [d2] at z
  simp only [Bool.not_true, Bool.false_or, Bool.and_eq_true, beq_iff_eq] at z
  exact ⟨z.1.1, Prod.ext z.1.2 z.2⟩
theorem rf_30 : ∀ t : Nat, t < 120 → (RFL.getD t []).length ≤ 30 := by decide +kernel
theorem rf_lt {t i : Nat} (ht : t < 19) (h : RF t i ≠ 0) : i < 30 := by
  have q := rf_30 t (by omega)
  unfold RF at h
  rw [if_pos ht] at h
  refine Nat.lt_of_not_le (fun c => h ?_)
  have e : (RFL.getD t [])[i]? = none := List.getElem?_eq_none (by omega)
  show ((RFL.getD t [])[i]?).getD 0 = 0
  rw [e]; rfl
theorem cT_no : cvT 265 = 0 := by decide +kernel
theorem cI_no : ∀ i : Nat, cvI 265 i = 0 := fun _ => rfl
theorem cI_rg : ∀ k : Nat, k < 265 → k ≠ 246 → k ≠ 262 → ∀ i : Nat, i < 30 → (RT (cvT k) i).1 ≤ (cvI k i).toInt ∧ (cvI k i).toInt ≤ (RT (cvT k) i).2 := by decide +kernel
theorem cIV_30 : ∀ k : Nat, k < 265 → (cIV.getD k []).length ≤ 30 := by decide +kernel
theorem rt_30 : ∀ t : Nat, t < 120 → (RTL.getD t []).length ≤ 30 := by decide +kernel
theorem rt_fz : ∀ t : Nat, t < 120 → t < 19 ∨ ((RT t 0).1 ≤ 0 ∧ 0 ≤ (RT t 0).2) := by decide +kernel
/-- the start, as a typed store -/
theorem cv_start {dC : Nat → ClassId} {dI : Nat → Nat → Nat} {cy : Nat → ClassId} {g q0 q1 q2 q3 q4 q5 : Nat → Nat} {A : Nat → Prop} {H : Heap} (h0 : ∀ i, i < 3 → q0 i = g (cvR 3 i)) (h1 : ∀ i, i < 3 → q1 i = g (cvR 70 i)) (h2 : ∀ i, i < 12 → q2 i = g (cvR 168 i)) (h3 : ∀ i, i < 12 → q3 i = g (cvR 181 i)) (h4 : ∀ i, i < 12 → q4 i = g (cvR 206 i)) (h5 : ∀ i, i < 12 → q5 i = g (cvR 219 i)) (hP : va_P (dC, dI) vwCl (WS0 cy g q0 q1 q2 q3 q4 q5) H) (hD : va_D A (WS0 cy g q0 q1 q2 q3 q4 q5)) : ∃ (zL : List Nat) (zT : Nat → Nat) (zR : Nat → Nat → Nat) (zI : Nat → Nat → Int32) (zJ : Nat → Nat → Int64), SKP zL zT zR ∧ WT zT zR zI ∧ zT (g 0) = 11 ∧ zT (g 245) = 18 ∧ JX zR zI (g 0) ∧ ZI (zI (zR (g 245) 0)) ∧ (zI (g 245) 23).toInt = 0 ∧ (zI (g 0) 9).toInt = 0 ∧ RSH zR zI (g 0) (g 245) ∧ R3 zR zI (g 0) (g 245) ∧ RRn zR zI (g 0) (g 245) ∧ RIT zR zI (g 0) (g 245) ∧ RGn zR zI (g 245) ∧ va_P (dC, dI) vwCl (WL cy zL zT zR zI zJ) H ∧ va_D A (WL cy zL zT zR zI zJ) := by
  have al := cv_all h0 h1 h2 h3 h4 h5 hP
  have inj : ∀ i j : Nat, i < 265 → j < 265 → g i = g j → i = j := fun i j hi hj e => by
    obtain ⟨-, e1, h1⟩ := al i hi
    obtain ⟨-, e2, h2⟩ := al j hj
    exact hD.1 i j _ _ h1 h2 e
  have at_ : ∀ k : Nat, k < 265 → cx g (g k) = k := fun k hk => cx_at inj hk
  have cs : ∀ a : Nat, (∃ k : Nat, k < 265 ∧ a = g k) ∨ cx g a = 265 := fun a => by
    by_cases c : ∃ k : Nat, k < 265 ∧ a = g k
    · exact Or.inl c
    · exact Or.inr (cx_no (fun k hk e => c ⟨k, hk, e.symm⟩))
  have tk : ∀ k : Nat, k < 265 → oT g (g k) = cvT k := fun k hk => by unfold oT; rw [at_ k hk]
  have rk : ∀ k i : Nat, k < 265 → oR g (g k) i = g (cvR k i) := fun k i hk => by unfold oR; rw [at_ k hk]
  have ik : ∀ k i : Nat, k < 265 → oI g (g k) i = cvI k i := fun k i hk => by unfold oI; rw [at_ k hk]
  have ty0 : ∀ a : Nat, oT g a ≠ 0 → ∃ k : Nat, k < 265 ∧ a = g k := fun a h => (cs a).resolve_right (fun c => h (by unfold oT; rw [c]; exact cT_no))
  have LE : ∀ k : Nat, (oL g)[k]? = if k < 265 then some (g k) else none := fun k => by
    unfold oL
    rw [List.getElem?_map]
    by_cases c : k < 265
    · rw [if_pos c, List.getElem?_range c]; rfl
    · rw [if_neg c, List.getElem?_eq_none (by rw [List.length_range]; omega)]; rfl
  have refs : ∀ k i : Nat, k < 265 → VR (oT g) (g k) i → oR g (g k) i = g (cvR k i) ∧ cvR k i < 265 ∧ cPAR.getD (cvR k i) (0, 0) = (k, i) := fun k i hk hv => by
    obtain ⟨h1, h2⟩ := hv
    rw [tk k hk] at h1 h2
    refine ⟨rk k i hk, ?_⟩
    by_cases c : cvT k < 19
    · have i30 := rf_lt c h1
      exact ⟨cR_lt k hk i i30, (cRo k hk i i30 c h1).2⟩
    · obtain ⟨q, n, e, hd, hi⟩ := h2.resolve_left c
      have h3 : RF (cvT k) 0 ≠ 0 := by
        have e9 : RF (cvT k) i = RF (cvT k) 0 := by unfold RF; rw [if_neg c, if_neg c]
        rw [← e9]; exact h1
      obtain ⟨a1, a2⟩ := cRa k hk h3 (by omega)
      have an : aN (cvT k) = n := by unfold aN; rw [hd]
      exact ⟨cR_lt k hk i (by omega), (a2 i (by omega) (by omega)).2⟩
  refine ⟨oL g, oT g, oR g, oI g, oJ, ⟨fun a h => ?_, fun i j a hi hj => ?_, fun a k h1 h2 => ?_, fun a k q n e hd h1 hk => ?_, fun a b i j h1 h2 e => ?_⟩, ⟨fun a k => ?_, fun w hw q hq => ?_⟩, ?_, ?_, fun c hc => Or.inl ?_, ?_, ?_, ?_, fun s hs4 => ?_, ⟨⟨?_, ⟨?_, ?_⟩, fun c hc => ?_⟩, ?_, Or.inl ?_⟩, ⟨fun w y hw hy => ?_, Or.inl ?_⟩, fun s i hs4 hi => ?_, ⟨fun j j0 j1 => ?_, Or.inl ?_⟩, fun k x hx => ?_, ⟨fun i j p q hi hj e => ?_, fun k x hx => ?_⟩⟩
  · obtain ⟨k, hk, rfl⟩ := ty0 a h
    exact List.mem_of_getElem? ((LE k).trans (if_pos hk))
  · rw [LE] at hi hj
    by_cases ci : i < 265
    · by_cases cj : j < 265
      · rw [if_pos ci] at hi
        rw [if_pos cj] at hj
        exact inj i j ci cj ((Option.some.inj hi).trans (Option.some.inj hj).symm)
      · rw [if_neg cj] at hj; cases hj
    · rw [if_neg ci] at hi; cases hi
  · have h0 : oT g a ≠ 0 := fun e => by rw [e] at h2; exact h2 (by
      have q : ∀ j : Nat, RF 0 j = 0 := fun j => by unfold RF; rw [if_pos (by decide)]; rfl
      exact q k)
    obtain ⟨i, hi, rfl⟩ := ty0 a h0
    rw [tk i hi] at h1 h2 ⊢
    rw [rk i k hi, tk _ (cR_lt i hi k (rf_lt h1 h2))]
    exact (cRo i hi k (rf_lt h1 h2) h1 h2).1
  · have h0 : oT g a ≠ 0 := fun e9 => by rw [e9] at h1; exact h1 (by decide)
    obtain ⟨i, hi, rfl⟩ := ty0 a h0
    rw [tk i hi] at hd h1 ⊢
    by_cases c : cvT i < 19
    · exfalso
      have q9 : ∀ t : Nat, t < 19 → t ≠ 0 → ∃ o, DT t = .inl o := fun t ht h9 => by
        have w : ∀ t : Fin 19, t.val ≠ 0 → (match DT t.val with | .inl _ => true | .inr _ => false) = true := by decide +kernel
        have w2 := w ⟨t, ht⟩ h9
        cases hh : DT t with
        | inl o => exact ⟨o, rfl⟩
        | inr q => simp only [hh] at w2; cases w2
      obtain ⟨o, ho⟩ := q9 _ c (cT_lt i hi).1
      rw [ho] at hd; cases hd
    · have an : aN (cvT i) = n := by unfold aN; rw [hd]
      obtain ⟨a1, a2⟩ := cRa i hi h1 (by omega)
      rw [rk i k hi, tk _ (cR_lt i hi k (by omega))]
      exact (a2 k (by omega) (by omega)).1
  · have ha : oT g a ≠ 0 := fun e9 => by
      have z := h1.1; rw [e9] at z; exact z (by unfold RF; rw [if_pos (by decide)]; rfl)
    have hb : oT g b ≠ 0 := fun e9 => by
      have z := h2.1; rw [e9] at z; exact z (by unfold RF; rw [if_pos (by decide)]; rfl)
    obtain ⟨ka, hka, rfl⟩ := ty0 a ha
    obtain ⟨kb, hkb, rfl⟩ := ty0 b hb
    obtain ⟨r1, r2, r3⟩ := refs ka i hka h1
    obtain ⟨s1, s2, s3⟩ := refs kb j hkb h2
    rw [r1, s1] at e
    have e9 := inj _ _ r2 s2 e
    rw [e9, s3] at r3
    obtain ⟨rfl, rfl⟩ := Prod.mk.inj r3
    exact ⟨rfl, rfl⟩
  · rcases cs a with ⟨i, hi, rfl⟩ | c
    · rw [tk i hi, ik i k hi]
      by_cases cz : i = 246
      · have e9 : cvT i = 100 := by rw [cz]; decide +kernel
        rw [e9]
        exact rgF _
      · by_cases cl : i = 262
        · have e9 : cvT i = 110 := by rw [cl]; decide +kernel
          have e8 : cvI i k = ll k := by rw [cl]; rfl
          rw [e9, e8]
          show (-1 : Int) ≤ (ll k).toInt ∧ (ll k).toInt ≤ 2
          match k with
          | 0 => decide
          | 1 => decide
          | 2 => decide
          | 3 => decide
          | k + 4 =>
            have e7 : ll (k + 4) = 0 := by
              unfold ll
              rw [cw_n (by omega), cw_n (by omega), cw_n (by omega), cw_n (by omega)]
            rw [e7]; decide
        · by_cases c30 : k < 30
          · exact cI_rg i hi cz cl k c30
          · have e0 : cvI i k = 0 := by
              unfold cvI
              rw [if_neg cz, if_neg cl]
              have e6 : (cIV.getD i [])[k]? = none := List.getElem?_eq_none (by have := cIV_30 i hi; omega)
              show ((cIV.getD i [])[k]?).getD 0 = 0
              rw [e6]; rfl
            rw [e0]
            have z0 : (0 : Int32).toInt = 0 := by decide
            rw [z0]
            by_cases c19 : cvT i < 19
            · have e5 : RT (cvT i) k = (-2147483648, 2147483647) := by
                unfold RT
                rw [if_pos c19]
                have e4 : (RTL.getD (cvT i) [])[k]? = none := List.getElem?_eq_none (by have := rt_30 (cvT i) (by omega); omega)
                show ((RTL.getD (cvT i) [])[k]?).getD _ = _
                rw [e4]; rfl
              rw [e5]; decide
            · have e5 : RT (cvT i) k = RT (cvT i) 0 := by unfold RT; rw [if_neg c19, if_neg c19]
              rw [e5]
              exact (rt_fz (cvT i) (cT_lt i hi).2).resolve_left c19
    · have e1 : oT g a = 0 := by unfold oT; rw [c]; exact cT_no
      have e2 : oI g a k = 0 := by unfold oI; rw [c]; exact cI_no k
      rw [e1, e2]
      have e3 : RT 0 k = (-2147483648, 2147483647) := by unfold RT; rw [if_pos (by decide)]; rfl
      rw [e3]; decide
  · exfalso
    have h0 : oT g w ≠ 0 := fun e9 => by rw [e9] at hw; cases hw
    obtain ⟨i, hi, rfl⟩ := ty0 w h0
    rw [tk i hi] at hw
    rw [ik i 14 hi] at hq
    have q9 : ∀ i : Nat, i < 265 → cvT i = 10 → cvI i 14 = 0 := by decide +kernel
    rw [q9 i hi hw] at hq
    have z0 : (0 : Int32).toInt = 0 := by decide
    omega
  · rw [tk 0 (by decide)]; decide +kernel
  · rw [tk 245 (by decide)]; decide +kernel
  · rw [rk 0 7 (by decide), ik _ c (by decide +kernel)]
    have q9 : ∀ c : Nat, c < 2 → (cvI (cvR 0 7) c).toInt = 0 := by decide +kernel
    exact q9 c hc
  · rw [rk 245 0 (by decide)]
    have e1 : oI g (g (cvR 245 0)) = zz := funext fun j => by rw [ik _ j (by decide +kernel), show cvR 245 0 = 246 by decide +kernel]; rfl
    rw [e1]
    refine ⟨by unfold ZR; decide, fun c c0 c1 => ?_, fun d d0 d1 => ?_, fun k k0 k1 => ?_⟩
    · have z : zA zz 2 = 0 := by decide
      omega
    · have z : zA zz 11 = 0 := by decide
      omega
    · have z : zA zz 12 = 0 := by decide
      omega
  · rw [ik 245 23 (by decide)]; decide +kernel
  · rw [ik 0 9 (by decide)]; decide +kernel
  · have e25 := cRo 245 (by decide) 25 (by decide) (by decide +kernel) (by decide +kernel)
    rw [rk 245 25 (by decide), rk 245 26 (by decide), rk 0 5 (by decide), rk (cvR 0 5) s (by decide +kernel), ik _ s (by decide +kernel), ik _ s (by decide +kernel)]
    have q9 : ∀ s : Nat, s < 4 → cvR (cvR 0 5) s < 265 ∧ (cvI (cvR 245 25) s).toInt < 0 ∧ (cvI (cvR (cvR 0 5) s) 3).toInt = 0 ∧ (cvI (cvR 245 26) s).toInt = (cvI (cvR (cvR 0 5) s) 2).toInt := by decide +kernel
    obtain ⟨z0, z1, z2, z3⟩ := q9 s hs4
    rw [ik _ 3 z0, ik _ 1 z0, ik _ 2 z0]
    exact ⟨Or.inl ⟨z1, z2⟩, z3⟩
  · have r0 : oR g (g 0) 0 = g (cvR 0 0) := rk 0 0 (by decide)
    have rh : oR g (g (cvR 0 0)) 0 = g (cvR (cvR 0 0) 0) := rk _ 0 (by decide +kernel)
    have rc : oR g (g (cvR 0 0)) 2 = g (cvR (cvR 0 0) 2) := rk _ 2 (by decide +kernel)
    have e1 : oI g (oR g (g 245) 0) = zz := by
      rw [rk 245 0 (by decide)]
      exact funext fun j => by rw [ik _ j (by decide +kernel), show cvR 245 0 = 246 by decide +kernel]; rfl
    rw [r0, e1, ik _ 8 (by decide +kernel)]; decide +kernel
  · have r0 : oR g (g 0) 0 = g (cvR 0 0) := rk 0 0 (by decide)
    have rh : oR g (g (cvR 0 0)) 0 = g (cvR (cvR 0 0) 0) := rk _ 0 (by decide +kernel)
    have rc : oR g (g (cvR 0 0)) 2 = g (cvR (cvR 0 0) 2) := rk _ 2 (by decide +kernel)
    have e1 : oI g (oR g (g 245) 0) = zz := by
      rw [rk 245 0 (by decide)]
      exact funext fun j => by rw [ik _ j (by decide +kernel), show cvR 245 0 = 246 by decide +kernel]; rfl
    rw [r0, rh, e1, ik _ 1 (by decide +kernel)]; decide +kernel
  · have r0 : oR g (g 0) 0 = g (cvR 0 0) := rk 0 0 (by decide)
    have rh : oR g (g (cvR 0 0)) 0 = g (cvR (cvR 0 0) 0) := rk _ 0 (by decide +kernel)
    have rc : oR g (g (cvR 0 0)) 2 = g (cvR (cvR 0 0) 2) := rk _ 2 (by decide +kernel)
    have e1 : oI g (oR g (g 245) 0) = zz := by
      rw [rk 245 0 (by decide)]
      exact funext fun j => by rw [ik _ j (by decide +kernel), show cvR 245 0 = 246 by decide +kernel]; rfl
    rw [r0, rh, e1, ik _ 2 (by decide +kernel)]; decide +kernel
  · have r0 : oR g (g 0) 0 = g (cvR 0 0) := rk 0 0 (by decide)
    have rh : oR g (g (cvR 0 0)) 0 = g (cvR (cvR 0 0) 0) := rk _ 0 (by decide +kernel)
    have rc : oR g (g (cvR 0 0)) 2 = g (cvR (cvR 0 0) 2) := rk _ 2 (by decide +kernel)
    have e1 : oI g (oR g (g 245) 0) = zz := by
      rw [rk 245 0 (by decide)]
      exact funext fun j => by rw [ik _ j (by decide +kernel), show cvR 245 0 = 246 by decide +kernel]; rfl
    have q9 : ∀ c : Nat, c < 2 → cvR (cvR (cvR 0 0) 2) c < 265 ∧ (cvI (cvR (cvR (cvR 0 0) 2) c) 9).toInt = zA zz (3 + (c : Int)) := by decide +kernel
    rw [r0, rc, e1, rk _ c (by decide +kernel), ik _ 9 (q9 c hc).1]; exact (q9 c hc).2
  · rw [ik 0 9 (by decide), ik 245 23 (by decide)]; decide +kernel
  · rw [ik 245 23 (by decide)]; decide +kernel
  · have r0 : oR g (g 0) 0 = g (cvR 0 0) := rk 0 0 (by decide)
    have rh : oR g (g (cvR 0 0)) 0 = g (cvR (cvR 0 0) 0) := rk _ 0 (by decide +kernel)
    have rc : oR g (g (cvR 0 0)) 2 = g (cvR (cvR 0 0) 2) := rk _ 2 (by decide +kernel)
    have e1 : oI g (oR g (g 245) 0) = zz := by
      rw [rk 245 0 (by decide)]
      exact funext fun j => by rw [ik _ j (by decide +kernel), show cvR 245 0 = 246 by decide +kernel]; rfl
    have rr : oR g (g (cvR (cvR 0 0) 0)) 0 = g (cvR (cvR (cvR 0 0) 0) 0) := rk _ 0 (by decide +kernel)
    have q9 : ∀ w : Nat, w < 3 → cvR (cvR (cvR (cvR 0 0) 0) 0) w < 265 := by decide +kernel
    have q8 : ∀ w : Nat, w < 3 → ∀ y : Nat, y < 24 → (cvI (cvR (cvR (cvR (cvR 0 0) 0) 0) w) y).toInt = zA zz (20 + 3 * (y : Int) + (w : Int)) := by decide +kernel
    rw [r0, rh, rr, e1, rk _ w (by decide +kernel), ik _ y (q9 w hw)]; exact q8 w hw y hy
  · rw [ik 245 23 (by decide)]; decide +kernel
  · have q9 : ∀ s : Nat, s < 4 → cvR (cvR 0 5) s < 265 ∧ cvR (cvR (cvR 0 5) s) 0 < 265 := by decide +kernel
    have q8 : ∀ s : Nat, s < 4 → ∀ i : Nat, i < 24 → cvI (cvR (cvR (cvR 0 5) s) 0) i = 0 := by decide +kernel
    have q7 : ∀ i : Nat, cvI (cvR 245 27) i = 0 := by
      intro i
      rw [show cvR 245 27 = 264 by decide +kernel]; rfl
    have z0 : (0 : Int32).toInt = 0 := by decide
    rw [rk 0 5 (by decide), rk _ s (by decide +kernel), rk _ 0 (q9 s hs4).1, rk 245 27 (by decide), ik _ i (q9 s hs4).2, q8 s hs4 i hi]
    show _ = (oI g (g (cvR 245 27)) (24 * (s : Int) + (i : Int)).toNat).toInt
    rw [ik _ _ (by decide +kernel), q7]
  · have r0 : oR g (g 0) 0 = g (cvR 0 0) := rk 0 0 (by decide)
    have rh : oR g (g (cvR 0 0)) 0 = g (cvR (cvR 0 0) 0) := rk _ 0 (by decide +kernel)
    have rc : oR g (g (cvR 0 0)) 2 = g (cvR (cvR 0 0) 2) := rk _ 2 (by decide +kernel)
    have e1 : oI g (oR g (g 245) 0) = zz := by
      rw [rk 245 0 (by decide)]
      exact funext fun j => by rw [ik _ j (by decide +kernel), show cvR 245 0 = 246 by decide +kernel]; rfl
    have q8 : ∀ j : Nat, j < 24 → (0 ≤ zA zz (20 + 3 * (j : Int)) ∧ zA zz (20 + 3 * (j : Int)) ≤ 9) ∧ (-20 ≤ zA zz (20 + 3 * (j : Int) + 1) ∧ zA zz (20 + 3 * (j : Int) + 1) ≤ 20) := by decide +kernel
    have q := q8 j.toNat (by omega)
    rw [show ((j.toNat : Nat) : Int) = j by omega] at q
    rw [e1]; exact q
  · rw [ik 245 23 (by decide)]; decide +kernel
  · unfold WL at hx
    rw [List.getElem?_map, LE] at hx
    by_cases c : k < 265
    · rw [if_pos c] at hx
      obtain rfl := Option.some.inj hx
      show va_at (dC, dI) vwCl (g k, EN cy (oT g) (oR g) (oI g) oJ (g k)) H
      rw [EK_at (at_ k c)]
      exact (al k c).1
    · rw [if_neg c] at hx; cases hx
  · unfold WL at hi hj
    rw [List.getElem?_map, LE] at hi hj
    by_cases ci : i < 265
    · by_cases cj : j < 265
      · rw [if_pos ci] at hi
        rw [if_pos cj] at hj
        obtain rfl := Option.some.inj hi
        obtain rfl := Option.some.inj hj
        exact inj i j ci cj e
      · rw [if_neg cj] at hj; cases hj
    · rw [if_neg ci] at hi; cases hi
  · unfold WL at hx
    rw [List.getElem?_map, LE] at hx
    by_cases c : k < 265
    · rw [if_pos c] at hx
      obtain rfl := Option.some.inj hx
      obtain ⟨-, e, h9⟩ := al k c
      exact hD.2 k (g k, e) h9
    · rw [if_neg c] at hx; cases hx
