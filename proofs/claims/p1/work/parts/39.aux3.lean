theorem th_2 {T : St} {a : Nat} {v : Int32} : ∀ j, j < 2 → sI (stI (stI T a (Int32.toNatClampNeg 0) v) a (Int32.toNatClampNeg 1) v) a j = v := by
  intro j hj
  have h0 : Int32.toNatClampNeg 0 = 0 := by decide
  have h1 : Int32.toNatClampNeg 1 = 1 := by decide
  rw [h0, h1]
  have h7 : j = 0 ∨ j = 1 := by omega
  rcases h7 with rfl | rfl
  · rw [iI_k (by decide), iI_s]
  · rw [iI_s]
