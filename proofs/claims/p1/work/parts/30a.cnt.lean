/-- what count answers of a new object -/
def cnt_ (a r : Int32) : Prop := r = (if a.toInt = 1 then 200 else if a.toInt = 6 then 400 else if a.toInt = 7 then 3 else if a.toInt = 8 then 2 else if 0 ≤ a.toInt ∧ a.toInt ≤ 9 then 0 else if 10 ≤ a.toInt ∧ a.toInt < 34 then 10 else (-1))
theorem cnt_0 {a : Int32} (h : a.toInt = 0) : cnt_ a 0 := by simp [cnt_, h]
theorem cnt_1 {a : Int32} (h : a.toInt = 1) : cnt_ a 200 := by simp [cnt_, h]
theorem cnt_2 {a : Int32} (h : a.toInt = 2) : cnt_ a 0 := by simp [cnt_, h]
theorem cnt_3 {a : Int32} (h : a.toInt = 3) : cnt_ a 0 := by simp [cnt_, h]
theorem cnt_4 {a : Int32} (h : a.toInt = 4) : cnt_ a 0 := by simp [cnt_, h]
theorem cnt_5 {a : Int32} (h : a.toInt = 5) : cnt_ a 0 := by simp [cnt_, h]
theorem cnt_6 {a : Int32} (h : a.toInt = 6) : cnt_ a 400 := by simp [cnt_, h]
theorem cnt_7 {a : Int32} (h : a.toInt = 7) : cnt_ a 3 := by simp [cnt_, h]
theorem cnt_8 {a : Int32} (h : a.toInt = 8) : cnt_ a 2 := by simp [cnt_, h]
theorem cnt_9 {a : Int32} (h : a.toInt = 9) : cnt_ a 0 := by simp [cnt_, h]
theorem cnt_10 {a : Int32} (h : 10 ≤ a.toInt) (h2 : a.toInt < 34) : cnt_ a 10 := by
  unfold cnt_
  rw [if_neg (by omega), if_neg (by omega), if_neg (by omega), if_neg (by omega), if_neg (by omega), if_pos ⟨h, h2⟩]
theorem cnt_n {a : Int32} (h : ¬ (0 ≤ a.toInt ∧ a.toInt < 34)) : cnt_ a (-1) := by
  unfold cnt_
  rw [if_neg (by omega), if_neg (by omega), if_neg (by omega), if_neg (by omega), if_neg (by omega), if_neg (by omega)]
