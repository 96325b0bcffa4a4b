theorem e24 {x : Int32} (h0 : 0 ≤ x.toInt) (h1 : x.toInt < 24) : ((16777215 : Int32) >>> (x &&& 31)) &&& 1 = 1 := by
  obtain ⟨j, hj, rfl⟩ := nn_of h0
  have h2 : j < 24 := by rw [nI_toInt hj] at h1; omega
  have hd : ∀ k, k < 24 → ((16777215 : Int32) >>> (nI k &&& 31)) &&& 1 = 1 := by decide +kernel
  exact hd j h2
theorem e7 {x : Int32} (h0 : 0 ≤ x.toInt) (h1 : x.toInt < 7) : ((127 : Int32) >>> (x &&& 31)) &&& 1 = 1 := by
  obtain ⟨j, hj, rfl⟩ := nn_of h0
  have h2 : j < 7 := by rw [nI_toInt hj] at h1; omega
  have hd : ∀ k, k < 7 → ((127 : Int32) >>> (nI k &&& 31)) &&& 1 = 1 := by decide +kernel
  exact hd j h2
theorem e4 {x : Int32} (h0 : 0 ≤ x.toInt) (h1 : x.toInt < 4) : ((15 : Int32) >>> (x &&& 31)) &&& 1 = 1 := by
  obtain ⟨j, hj, rfl⟩ := nn_of h0
  have h2 : j < 4 := by rw [nI_toInt hj] at h1; omega
  have hd : ∀ k, k < 4 → ((15 : Int32) >>> (nI k &&& 31)) &&& 1 = 1 := by decide +kernel
  exact hd j h2
