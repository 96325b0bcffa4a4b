/-! small facts, second part -/
theorem isb_1 {a b v : Int32} (p : (v.toInt = 1 ∧ 0 ≤ a.toInt ∧ a.toInt < b.toInt) ∨ (v.toInt = 0 ∧ ¬ (0 ≤ a.toInt ∧ a.toInt < b.toInt))) (h : 0 ≤ a.toInt ∧ a.toInt < b.toInt) : v = 1 := (i3_eq _ _).mpr (by rcases p with p | p; exact p.1; exact absurd h p.2)
theorem r_in {a : Int32} {n : Nat} (h : 0 ≤ a.toInt ∧ a.toInt < n) : vp_in a n := vp_in_iff.mpr h
theorem cl_lt {a : Int32} {n : Nat} (h0 : 0 ≤ a.toInt) (h1 : a.toInt < n) : a.toNatClampNeg < n := by
  show a.toInt.toNat < n
  omega
/-- all bits of a mask of k ones, at a place below k -/
theorem in_24 {x : Int32} (h0 : 0 ≤ x.toInt) (h1 : x.toInt < 24) : ¬ ((16777215 : Int32) >>> (x &&& 31)) &&& 1 = 0 := by
  obtain ⟨j, hj, rfl⟩ := nI_of (x := x) (by rw [i3_lt]; show ¬ x.toInt < 0; omega)
  have h2 : j < 24 := by rw [nI_toInt hj] at h1; omega
  have hd : ∀ k, k < 24 → ¬ ((16777215 : Int32) >>> (nI k &&& 31)) &&& 1 = 0 := by decide +kernel
  exact hd j h2
theorem in_7 {x : Int32} (h0 : 0 ≤ x.toInt) (h1 : x.toInt < 7) : ¬ ((127 : Int32) >>> (x &&& 31)) &&& 1 = 0 := by
  obtain ⟨j, hj, rfl⟩ := nI_of (x := x) (by rw [i3_lt]; show ¬ x.toInt < 0; omega)
  have h2 : j < 7 := by rw [nI_toInt hj] at h1; omega
  have hd : ∀ k, k < 7 → ¬ ((127 : Int32) >>> (nI k &&& 31)) &&& 1 = 0 := by decide +kernel
  exact hd j h2
theorem in_4 {x : Int32} (h0 : 0 ≤ x.toInt) (h1 : x.toInt < 4) : ¬ ((15 : Int32) >>> (x &&& 31)) &&& 1 = 0 := by
  obtain ⟨j, hj, rfl⟩ := nI_of (x := x) (by rw [i3_lt]; show ¬ x.toInt < 0; omega)
  have h2 : j < 4 := by rw [nI_toInt hj] at h1; omega
  have hd : ∀ k, k < 4 → ¬ ((15 : Int32) >>> (nI k &&& 31)) &&& 1 = 0 := by decide +kernel
  exact hd j h2
theorem nn_of {x : Int32} (h : 0 ≤ x.toInt) : ∃ j : Nat, j < 2 ^ 31 ∧ x = nI j := nI_of (by rw [i3_lt]; show ¬ x.toInt < 0; omega)
theorem rem_t {x : Int32} (h : 0 ≤ x.toInt) {n : Nat} (h0 : 0 < n) (hn : n < 2 ^ 31) : 0 ≤ (x - x / nI n * nI n).toInt ∧ (x - x / nI n * nI n).toInt < n := by
  obtain ⟨j, hj, rfl⟩ := nn_of h
  have h1 := Nat.mod_lt j h0
  rw [pk_rem hj h0 hn, nI_toInt (by omega)]
  omega
theorem div_t {x : Int32} (h : 0 ≤ x.toInt) {n : Nat} (h0 : 0 < n) (hn : n < 2 ^ 31) : 0 ≤ (x / nI n).toInt := by
  obtain ⟨j, hj, rfl⟩ := nn_of h
  have h1 := Nat.div_le_self j n
  rw [pk_div hj h0 hn, nI_toInt (by omega)]
  exact Int.natCast_nonneg _
theorem rem24 {x : Int32} (h : 0 ≤ x.toInt) : 0 ≤ (x - x / 24 * 24).toInt ∧ (x - x / 24 * 24).toInt < 24 := rem_t h (n := 24) (by decide) (by decide)
theorem rem7 {x : Int32} (h : 0 ≤ x.toInt) : 0 ≤ (x - x / 7 * 7).toInt ∧ (x - x / 7 * 7).toInt < 7 := rem_t h (n := 7) (by decide) (by decide)
theorem div24 {x : Int32} (h : 0 ≤ x.toInt) : 0 ≤ (x / 24).toInt := div_t h (n := 24) (by decide) (by decide)
theorem isb_lit {a b v : Int32} {n : Int} (hn : b.toInt = n) (p : (v.toInt = 1 ∧ 0 ≤ a.toInt ∧ a.toInt < b.toInt) ∨ (v.toInt = 0 ∧ ¬ (0 ≤ a.toInt ∧ a.toInt < b.toInt))) : (v.toInt = 1 ∧ 0 ≤ a.toInt ∧ a.toInt < n) ∨ (v.toInt = 0 ∧ ¬ (0 ≤ a.toInt ∧ a.toInt < n)) := by
  rw [hn] at p; exact p
