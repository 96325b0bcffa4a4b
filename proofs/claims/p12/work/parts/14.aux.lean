/-! small facts for the walks -/
/-- two addresses apart (a word of its own, that arithmetic passes over) -/
def Ap (a b : Nat) : Prop := a ≠ b
theorem ap_s {a b : Nat} (h : Ap a b) : Ap b a := fun e => h e.symm
theorem ap_k {S : St} {a q k : Nat} (h : sK S a = k) (hq : 20 ≤ sK S q) (hk : k < 20) : Ap a q := fun e => by subst e; omega
theorem fk_N {S T : St} {q kd n a k : Nat} (e : T = stN S q kd n) (h : sK S a = k) (hk : k < 20) (hq : 20 ≤ sK S q) : sK T a = k ∧ Ap a q := by
  have hne : a ≠ q := fun e2 => by subst e2; omega
  exact ⟨by rw [e, kN, if_neg hne]; exact h, hne⟩
theorem fk_ne {S : St} {a b x y : Nat} (h1 : sK S a = x) (h2 : sK S b = y) (h : x ≠ y) : a ≠ b := fun e => h (by rw [← h1, ← h2, e])
theorem lv_cast {ls : Array Slot} {n : Nat} {l l' : List (Nat × Value)} (h : lv_has ls n l) (e : l = l') : lv_has ls n l' := e ▸ h
theorem i3_lt (a b : Int32) : a < b ↔ a.toInt < b.toInt := Int32.lt_iff_toInt_lt
theorem i3_le (a b : Int32) : a ≤ b ↔ a.toInt ≤ b.toInt := Int32.le_iff_toInt_le
theorem i3_eq (a b : Int32) : a = b ↔ a.toInt = b.toInt := Int32.toInt_inj.symm
theorem i3_bd (a : Int32) : -2147483648 ≤ a.toInt ∧ a.toInt ≤ 2147483647 := ⟨Int32.le_toInt a, by have := Int32.toInt_lt a; omega⟩
theorem i3_add {a b : Int32} {x y : Int} (ha : a.toInt = x) (hb : b.toInt = y) (h1 : -2147483648 ≤ x + y) (h2 : x + y ≤ 2147483647) : (a + b).toInt = x + y := by
  rw [Int32.toInt_add, ha, hb]
  exact Int.bmod_eq_of_le (by omega) (by omega)
theorem i3_sub {a b : Int32} {x y : Int} (ha : a.toInt = x) (hb : b.toInt = y) (h1 : -2147483648 ≤ x - y) (h2 : x - y ≤ 2147483647) : (a - b).toInt = x - y := by
  rw [Int32.toInt_sub, ha, hb]
  exact Int.bmod_eq_of_le (by omega) (by omega)
theorem i3_mul {a b : Int32} {x y : Int} (ha : a.toInt = x) (hb : b.toInt = y) (h1 : -2147483648 ≤ x * y) (h2 : x * y ≤ 2147483647) : (a * b).toInt = x * y := by
  rw [Int32.toInt_mul, ha, hb]
  exact Int.bmod_eq_of_le (by omega) (by omega)
theorem i3_in {x : Int32} {n : Nat} (h1 : 0 ≤ x.toInt) (h2 : x.toInt < n) : vp_in x n := vp_in_iff.mpr ⟨h1, h2⟩
theorem i3_cl {x : Int32} {n : Nat} (h : x.toInt = n) : x.toNatClampNeg = n := by
  show x.toInt.toNat = n
  rw [h]; rfl
theorem df_0 : ∀ j, j < 1 → defaultValue (tyX0 j) = vp_V (fv (tb 0) (fun _ => 0) (fun _ => none)) j := by decide +kernel
theorem df_1 : ∀ j, j < 10 → defaultValue (tyX1 j) = vp_V (fv (tb 1) (fun _ => 0) (fun _ => none)) j := by decide +kernel
theorem df_2 : ∀ j, j < 10 → defaultValue (tyX2 j) = vp_V (fv (tb 2) (fun _ => 0) (fun _ => none)) j := by decide +kernel
theorem df_3 : ∀ j, j < 9 → defaultValue (tyX3 j) = vp_V (fv (tb 3) (fun _ => 0) (fun _ => none)) j := by decide +kernel
theorem df_4 : ∀ j, j < 6 → defaultValue (tyX4 j) = vp_V (fv (tb 4) (fun _ => 0) (fun _ => none)) j := by decide +kernel
theorem df_5 : ∀ j, j < 4 → defaultValue (tyX5 j) = vp_V (fv (tb 5) (fun _ => 0) (fun _ => none)) j := by decide +kernel
theorem df_6 : ∀ j, j < 10 → defaultValue (tyX6 j) = vp_V (fv (tb 6) (fun _ => 0) (fun _ => none)) j := by decide +kernel
theorem df_7 : ∀ j, j < 2 → defaultValue (tyX7 j) = vp_V (fv (tb 7) (fun _ => 0) (fun _ => none)) j := by decide +kernel
theorem df_8 : ∀ j, j < 18 → defaultValue (tyX8 j) = vp_V (fv (tb 8) (fun _ => 0) (fun _ => none)) j := by decide +kernel
theorem df_9 : ∀ j, j < 63 → defaultValue (tyX9 j) = vp_V (fv (tb 9) (fun _ => 0) (fun _ => none)) j := by decide +kernel
theorem iI_k {S : St} {a k b j : Nat} {v : Int32} (h : j ≠ k) : sI (stI S a k v) b j = sI S b j := by rw [iI, if_neg h]; simp
theorem iI_a {S : St} {a k b j : Nat} {v : Int32} (h : b ≠ a) : sI (stI S a k v) b j = sI S b j := by rw [iI, if_neg h]
theorem iI_s {S : St} {a k : Nat} {v : Int32} : sI (stI S a k v) a k = v := by rw [iI, if_pos rfl, if_pos rfl]
/-- all old cells but those of hs are as they were -/
def Kx (hs : List Nat) (S T : St) : Prop := ∀ a, a ∉ hs → sK S a < 20 → sK T a = sK S a ∧ sI T a = sI S a ∧ sR T a = sR S a ∧ sJ T a = sJ S a ∧ sL T a = sL S a
theorem ni_0 {a : Nat} : a ∉ ([] : List Nat) := List.not_mem_nil
theorem ni_c {a x : Nat} {l : List Nat} (h : a ≠ x) (t : a ∉ l) : a ∉ x :: l := fun m => (List.mem_cons.mp m).elim h t
theorem Kx.rf (hs : List Nat) (S : St) : Kx hs S S := fun _ _ _ => ⟨rfl, rfl, rfl, rfl, rfl⟩
theorem Kx.N {hs : List Nat} {S T : St} (H : Kx hs S T) {q kd n : Nat} (hq : 20 ≤ sK T q) : Kx hs S (stN T q kd n) := by
  intro a ha hk
  obtain ⟨h1, h2, h3, h4, h5⟩ := H a ha hk
  have hne : a ≠ q := fun e => by subst e; omega
  refine ⟨?_, ?_, ?_, ?_, ?_⟩
  · rw [kN, if_neg hne]; exact h1
  · rw [← h2]; funext j; rw [iN, if_neg hne]
  · rw [← h3]; funext j; rw [rN, if_neg hne]
  · rw [← h4]; funext j; rw [jN, if_neg hne]
  · rw [lNw, if_neg hne]; exact h5
theorem Kx.Ih {hs : List Nat} {S T : St} (H : Kx hs S T) {h k : Nat} {v : Int32} (hm : h ∈ hs) : Kx hs S (stI T h k v) := by
  intro a ha hk
  obtain ⟨h1, h2, h3, h4, h5⟩ := H a ha hk
  refine ⟨h1, ?_, h3, h4, h5⟩
  rw [← h2]; funext j; rw [iI, if_neg (fun e => ha (by rw [e]; exact hm))]
theorem Kx.Rh {hs : List Nat} {S T : St} (H : Kx hs S T) {h k : Nat} {v : Option Nat} (hm : h ∈ hs) : Kx hs S (stR T h k v) := by
  intro a ha hk
  obtain ⟨h1, h2, h3, h4, h5⟩ := H a ha hk
  refine ⟨h1, h2, ?_, h4, h5⟩
  rw [← h3]; funext j; rw [rR, if_neg (fun e => ha (by rw [e]; exact hm))]
/-- a cell that is new since S -/
theorem Kx.In {hs : List Nat} {S T : St} (H : Kx hs S T) {q k : Nat} {v : Int32} (hq : 20 ≤ sK S q) : Kx hs S (stI T q k v) := by
  intro a ha hk
  obtain ⟨h1, h2, h3, h4, h5⟩ := H a ha hk
  have hne : a ≠ q := fun e => by subst e; omega
  refine ⟨h1, ?_, h3, h4, h5⟩
  rw [← h2]; funext j; rw [iI, if_neg hne]
theorem Kx.Rn {hs : List Nat} {S T : St} (H : Kx hs S T) {q k : Nat} {v : Option Nat} (hq : 20 ≤ sK S q) : Kx hs S (stR T q k v) := by
  intro a ha hk
  obtain ⟨h1, h2, h3, h4, h5⟩ := H a ha hk
  have hne : a ≠ q := fun e => by subst e; omega
  refine ⟨h1, h2, ?_, h4, h5⟩
  rw [← h3]; funext j; rw [rR, if_neg hne]
theorem Kx.tr {hs qs : List Nat} {S T U : St} (H : Kx hs S T) (H2 : Kx qs T U) (hq : ∀ q ∈ qs, 20 ≤ sK S q ∨ q ∈ hs) : Kx hs S U := by
  intro a ha hk
  obtain ⟨h1, h2, h3, h4, h5⟩ := H a ha hk
  have hne : a ∉ qs := fun e => (hq a e).elim (fun h => by omega) ha
  obtain ⟨g1, g2, g3, g4, g5⟩ := H2 a hne (by rw [h1]; exact hk)
  exact ⟨g1.trans h1, g2.trans h2, g3.trans h3, g4.trans h4, g5.trans h5⟩
theorem q1_ {P : Nat → Prop} {x : Nat} (h : P x) : ∀ q ∈ [x], P q := fun q m => by rw [List.mem_singleton.mp m]; exact h
theorem qc_ {P : Nat → Prop} {x : Nat} {l : List Nat} (h : P x) (t : ∀ q ∈ l, P q) : ∀ q ∈ x :: l, P q := fun q m => (List.mem_cons.mp m).elim (fun e => by rw [e]; exact h) (t q)
/-- new in a later state, and not of hs: it was no cell before -/
theorem Kx.old {hs : List Nat} {S T : St} (H : Kx hs S T) {q : Nat} (hq : 20 ≤ sK T q) (hne : q ∉ hs) : 20 ≤ sK S q := by
  rcases Nat.lt_or_ge (sK S q) 20 with h1 | h1
  · have h2 := (H q hne h1).1
    omega
  · exact h1
theorem ite_up {α : Type} {c : Prop} {d : Decidable c} {x y z : α} (h1 : c → x = z) (h2 : ¬ c → y = z) : (if c then x else y) = z := by
  by_cases h : c
  · rw [if_pos h]; exact h1 h
  · rw [if_neg h]; exact h2 h
theorem hs_in {a : Int32} (h1 : ¬ a < 0) (h2 : ¬ 2048 ≤ a) : vp_in (a / 64) 32 := by
  obtain ⟨j, hj, rfl⟩ := nI_of h1
  have h3 : j < 2048 := by
    rcases Nat.lt_or_ge j 2048 with h | h
    · exact h
    · exact absurd (nI_le (a := 2048) (b := j) h hj) h2
  rw [show (64 : Int32) = nI 64 from rfl, pk_div hj (by decide) (by decide)]
  exact vp_in_nI (by omega) (by decide)
theorem hs_0 {z : Int64} (h : z = 0) (y : UInt64) : lg_cmp (((z.toUInt64 >>> y).toInt64) &&& 1) 0 = 0 := by
  subst h
  have h1 : ((0 : Int64).toUInt64 >>> y) = 0 := by
    show (0 : UInt64) >>> y = 0
    simp
  rw [h1]
  decide
theorem lt20 {S : St} {a k : Nat} (h : sK S a = k) (hk : k < 20) : sK S a < 20 := by omega
