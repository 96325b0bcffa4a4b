/-! small facts for the walks -/
theorem fk_N {S T : St} {q kd n a k : Nat} (e : T = stN S q kd n) (h : sK S a = k) (hk : k < 16) (hq : 16 ≤ sK S q) : sK T a = k ∧ a ≠ q := by
  have hne : a ≠ q := fun e2 => by subst e2; omega
  exact ⟨by rw [e, kN, if_neg hne]; exact h, hne⟩
theorem fk_ne {S : St} {a b x y : Nat} (h1 : sK S a = x) (h2 : sK S b = y) (h : x ≠ y) : a ≠ b := fun e => h (by rw [← h1, ← h2, e])
theorem lv_cast {ls : Array Slot} {n : Nat} {l l' : List (Nat × Value)} (h : lv_has ls n l) (e : l = l') : lv_has ls n l' := e ▸ h
theorem i3_lt (a b : Int32) : a < b ↔ a.toInt < b.toInt := Int32.lt_iff_toInt_lt
theorem i3_le (a b : Int32) : a ≤ b ↔ a.toInt ≤ b.toInt := Int32.le_iff_toInt_le
theorem i3_eq (a b : Int32) : a = b ↔ a.toInt = b.toInt := Int32.toInt_inj.symm
theorem i3_bd (a : Int32) : -2147483648 ≤ a.toInt ∧ a.toInt ≤ 2147483647 := ⟨Int32.le_toInt a, by have := Int32.toInt_lt a; omega⟩
theorem i3_add {a b : Int32} {x y : Int} (ha : a.toInt = x) (hb : b.toInt = y) (h1 : -2147483648 ≤ x + y) (h2 : x + y ≤ 2147483647) : (a + b).toInt = x + y := by
  rw [Int32.toInt_add, ha, hb]
  exact Int.bmod_eq_of_le (by omega) (by omega)
theorem i3_sub {a b : Int32} {x y : Int} (ha : a.toInt = x) (hb : b.toInt = y) (h1 : -2147483648 ≤ x - y) (h2 : x - y ≤ 2147483647) : (a - b).toInt = x - y := by
  rw [Int32.toInt_sub, ha, hb]
  exact Int.bmod_eq_of_le (by omega) (by omega)
theorem i3_mul {a b : Int32} {x y : Int} (ha : a.toInt = x) (hb : b.toInt = y) (h1 : -2147483648 ≤ x * y) (h2 : x * y ≤ 2147483647) : (a * b).toInt = x * y := by
  rw [Int32.toInt_mul, ha, hb]
  exact Int.bmod_eq_of_le (by omega) (by omega)
theorem i3_in {x : Int32} {n : Nat} (h1 : 0 ≤ x.toInt) (h2 : x.toInt < n) : vp_in x n := vp_in_iff.mpr ⟨h1, h2⟩
theorem i3_cl {x : Int32} {n : Nat} (h : x.toInt = n) : x.toNatClampNeg = n := by
  show x.toInt.toNat = n
  rw [h]; rfl
theorem df_0 : ∀ j, j < 1 → defaultValue (tyX0 j) = vp_V (fv (tb 0) (fun _ => 0) (fun _ => none)) j := by decide +kernel
theorem df_1 : ∀ j, j < 10 → defaultValue (tyX1 j) = vp_V (fv (tb 1) (fun _ => 0) (fun _ => none)) j := by decide +kernel
theorem df_2 : ∀ j, j < 10 → defaultValue (tyX2 j) = vp_V (fv (tb 2) (fun _ => 0) (fun _ => none)) j := by decide +kernel
theorem df_3 : ∀ j, j < 9 → defaultValue (tyX3 j) = vp_V (fv (tb 3) (fun _ => 0) (fun _ => none)) j := by decide +kernel
theorem df_4 : ∀ j, j < 6 → defaultValue (tyX4 j) = vp_V (fv (tb 4) (fun _ => 0) (fun _ => none)) j := by decide +kernel
theorem df_5 : ∀ j, j < 4 → defaultValue (tyX5 j) = vp_V (fv (tb 5) (fun _ => 0) (fun _ => none)) j := by decide +kernel
theorem df_6 : ∀ j, j < 10 → defaultValue (tyX6 j) = vp_V (fv (tb 6) (fun _ => 0) (fun _ => none)) j := by decide +kernel
theorem df_7 : ∀ j, j < 2 → defaultValue (tyX7 j) = vp_V (fv (tb 7) (fun _ => 0) (fun _ => none)) j := by decide +kernel
theorem df_8 : ∀ j, j < 18 → defaultValue (tyX8 j) = vp_V (fv (tb 8) (fun _ => 0) (fun _ => none)) j := by decide +kernel
theorem df_9 : ∀ j, j < 63 → defaultValue (tyX9 j) = vp_V (fv (tb 9) (fun _ => 0) (fun _ => none)) j := by decide +kernel
