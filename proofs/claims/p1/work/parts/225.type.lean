abbrev okb (w : Int64) (k : Nat) : Prop := 32 ≤ by8 w k ∧ by8 w k ≤ 126
theorem an_type_1 (w : Int64) : an_type w 1 = if okb w 0 then 1 else -1 := by
  have e : (1 : Int32).toInt = 1 := by decide
  unfold an_type
  by_cases h : okb w 0
  · rw [if_pos h, if_pos ⟨e, h⟩]
  · rw [if_neg h, if_neg (fun q => h q.2), if_neg (by rw [e]; omega), if_neg (by rw [e]; omega), if_neg (by rw [e]; omega), if_neg (by rw [e]; omega), if_neg (by rw [e]; omega), if_neg (by rw [e]; omega), if_neg (by rw [e]; omega)]
theorem an_type_2 (w : Int64) : an_type w 2 = if okb w 0 ∧ okb w 1 then 2 else -1 := by
  have e : (2 : Int32).toInt = 2 := by decide
  unfold an_type
  rw [if_neg (by rw [e]; omega)]
  by_cases h : okb w 0 ∧ okb w 1
  · rw [if_pos h, if_pos ⟨e, h⟩]
  · rw [if_neg h, if_neg (fun q => h q.2), if_neg (by rw [e]; omega), if_neg (by rw [e]; omega), if_neg (by rw [e]; omega), if_neg (by rw [e]; omega), if_neg (by rw [e]; omega), if_neg (by rw [e]; omega)]
theorem an_type_3 (w : Int64) : an_type w 3 = if okb w 0 ∧ okb w 1 ∧ okb w 2 then 3 else -1 := by
  have e : (3 : Int32).toInt = 3 := by decide
  unfold an_type
  rw [if_neg (by rw [e]; omega), if_neg (by rw [e]; omega)]
  by_cases h : okb w 0 ∧ okb w 1 ∧ okb w 2
  · rw [if_pos h, if_pos ⟨e, h⟩]
  · rw [if_neg h, if_neg (fun q => h q.2), if_neg (by rw [e]; omega), if_neg (by rw [e]; omega), if_neg (by rw [e]; omega), if_neg (by rw [e]; omega), if_neg (by rw [e]; omega)]
theorem an_type_4 (w : Int64) : an_type w 4 = if okb w 0 ∧ okb w 1 ∧ okb w 2 ∧ okb w 3 then 4 else -1 := by
  have e : (4 : Int32).toInt = 4 := by decide
  unfold an_type
  rw [if_neg (by rw [e]; omega), if_neg (by rw [e]; omega), if_neg (by rw [e]; omega)]
  by_cases h : okb w 0 ∧ okb w 1 ∧ okb w 2 ∧ okb w 3
  · rw [if_pos h, if_pos ⟨e, h⟩]
  · rw [if_neg h, if_neg (fun q => h q.2), if_neg (by rw [e]; omega), if_neg (by rw [e]; omega), if_neg (by rw [e]; omega), if_neg (by rw [e]; omega)]
theorem an_type_5 (w : Int64) : an_type w 5 = if okb w 0 ∧ okb w 1 ∧ okb w 2 ∧ okb w 3 ∧ okb w 4 then 5 else -1 := by
  have e : (5 : Int32).toInt = 5 := by decide
  unfold an_type
  rw [if_neg (by rw [e]; omega), if_neg (by rw [e]; omega), if_neg (by rw [e]; omega), if_neg (by rw [e]; omega)]
  by_cases h : okb w 0 ∧ okb w 1 ∧ okb w 2 ∧ okb w 3 ∧ okb w 4
  · rw [if_pos h, if_pos ⟨e, h⟩]
  · rw [if_neg h, if_neg (fun q => h q.2), if_neg (by rw [e]; omega), if_neg (by rw [e]; omega), if_neg (by rw [e]; omega)]
theorem an_type_6 (w : Int64) : an_type w 6 = if okb w 0 ∧ okb w 1 ∧ okb w 2 ∧ okb w 3 ∧ okb w 4 ∧ okb w 5 then 6 else -1 := by
  have e : (6 : Int32).toInt = 6 := by decide
  unfold an_type
  rw [if_neg (by rw [e]; omega), if_neg (by rw [e]; omega), if_neg (by rw [e]; omega), if_neg (by rw [e]; omega), if_neg (by rw [e]; omega)]
  by_cases h : okb w 0 ∧ okb w 1 ∧ okb w 2 ∧ okb w 3 ∧ okb w 4 ∧ okb w 5
  · rw [if_pos h, if_pos ⟨e, h⟩]
  · rw [if_neg h, if_neg (fun q => h q.2), if_neg (by rw [e]; omega), if_neg (by rw [e]; omega)]
theorem an_type_7 (w : Int64) : an_type w 7 = if okb w 0 ∧ okb w 1 ∧ okb w 2 ∧ okb w 3 ∧ okb w 4 ∧ okb w 5 ∧ okb w 6 then 7 else -1 := by
  have e : (7 : Int32).toInt = 7 := by decide
  unfold an_type
  rw [if_neg (by rw [e]; omega), if_neg (by rw [e]; omega), if_neg (by rw [e]; omega), if_neg (by rw [e]; omega), if_neg (by rw [e]; omega), if_neg (by rw [e]; omega)]
  by_cases h : okb w 0 ∧ okb w 1 ∧ okb w 2 ∧ okb w 3 ∧ okb w 4 ∧ okb w 5 ∧ okb w 6
  · rw [if_pos h, if_pos ⟨e, h⟩]
  · rw [if_neg h, if_neg (fun q => h q.2), if_neg (by rw [e]; omega)]
theorem an_type_8 (w : Int64) : an_type w 8 = if okb w 0 ∧ okb w 1 ∧ okb w 2 ∧ okb w 3 ∧ okb w 4 ∧ okb w 5 ∧ okb w 6 ∧ okb w 7 then 8 else -1 := by
  have e : (8 : Int32).toInt = 8 := by decide
  unfold an_type
  rw [if_neg (by rw [e]; omega), if_neg (by rw [e]; omega), if_neg (by rw [e]; omega), if_neg (by rw [e]; omega), if_neg (by rw [e]; omega), if_neg (by rw [e]; omega), if_neg (by rw [e]; omega)]
  by_cases h : okb w 0 ∧ okb w 1 ∧ okb w 2 ∧ okb w 3 ∧ okb w 4 ∧ okb w 5 ∧ okb w 6 ∧ okb w 7
  · rw [if_pos h, if_pos ⟨e, h⟩]
  · rw [if_neg h, if_neg (fun q => h q.2)]
theorem an_type_out {w : Int64} {n : Int32} (h : ¬ (1 ≤ n.toInt ∧ n.toInt ≤ 8)) : an_type w n = -1 := by
  unfold an_type
  rw [if_neg (by omega), if_neg (by omega), if_neg (by omega), if_neg (by omega), if_neg (by omega), if_neg (by omega), if_neg (by omega), if_neg (by omega)]

