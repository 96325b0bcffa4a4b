/-! the pool: a picture of all cells of class and reference: kinds, ints, references, longs, lengths, by address and place -/
abbrev St : Type := (Nat → Nat) × (Nat → Nat → Int32) × (Nat → Nat → Option Nat) × (Nat → Nat → Int64) × (Nat → Nat)
def sK (S : St) : Nat → Nat := S.1
def sI (S : St) : Nat → Nat → Int32 := S.2.1
def sR (S : St) : Nat → Nat → Option Nat := S.2.2.1
def sJ (S : St) : Nat → Nat → Int64 := S.2.2.2.1
def sL (S : St) : Nat → Nat := S.2.2.2.2
def up2 {α : Type} (g : Nat → Nat → α) (a k : Nat) (v : α) : Nat → Nat → α := fun b j => if b = a then (if j = k then v else g b j) else g b j
def stI (S : St) (a k : Nat) (v : Int32) : St := (S.1, up2 S.2.1 a k v, S.2.2.1, S.2.2.2.1, S.2.2.2.2)
def stR (S : St) (a k : Nat) (v : Option Nat) : St := (S.1, S.2.1, up2 S.2.2.1 a k v, S.2.2.2.1, S.2.2.2.2)
def stJ (S : St) (a k : Nat) (v : Int64) : St := (S.1, S.2.1, S.2.2.1, up2 S.2.2.2.1 a k v, S.2.2.2.2)
def stW (S : St) (a : Nat) (f : Nat → Int32) : St := (S.1, va_up S.2.1 a f, S.2.2.1, S.2.2.2.1, S.2.2.2.2)
def stN (S : St) (a kd n : Nat) : St := (va_up S.1 a kd, va_up S.2.1 a (fun _ => 0), va_up S.2.2.1 a (fun _ => none), va_up S.2.2.2.1 a (fun _ => 0), va_up S.2.2.2.2 a n)
theorem kI (S : St) (a k : Nat) (v : Int32) : sK (stI S a k v) = sK S := rfl
theorem kR (S : St) (a k : Nat) (v : Option Nat) : sK (stR S a k v) = sK S := rfl
theorem kJ (S : St) (a k : Nat) (v : Int64) : sK (stJ S a k v) = sK S := rfl
theorem kW (S : St) (a : Nat) (v : Nat → Int32) : sK (stW S a v) = sK S := rfl
theorem kN (S : St) (a kd n b : Nat) : sK (stN S a kd n) b = if b = a then kd else sK S b := rfl
theorem lI (S : St) (a k : Nat) (v : Int32) : sL (stI S a k v) = sL S := rfl
theorem lR (S : St) (a k : Nat) (v : Option Nat) : sL (stR S a k v) = sL S := rfl
theorem lJ (S : St) (a k : Nat) (v : Int64) : sL (stJ S a k v) = sL S := rfl
theorem lW (S : St) (a : Nat) (v : Nat → Int32) : sL (stW S a v) = sL S := rfl
theorem lNw (S : St) (a kd n b : Nat) : sL (stN S a kd n) b = if b = a then n else sL S b := rfl
theorem iI (S : St) (a k : Nat) (v : Int32) (b j : Nat) : sI (stI S a k v) b j = if b = a then (if j = k then v else sI S b j) else sI S b j := rfl
theorem iR (S : St) (a k : Nat) (v : Option Nat) : sI (stR S a k v) = sI S := rfl
theorem iJ (S : St) (a k : Nat) (v : Int64) : sI (stJ S a k v) = sI S := rfl
theorem iW (S : St) (a : Nat) (v : Nat → Int32) (b j : Nat) : sI (stW S a v) b j = if b = a then v j else sI S b j := by
  show va_up S.2.1 a v b j = _
  by_cases h : b = a <;> simp [va_up, h, sI]
theorem iN (S : St) (a kd n b j : Nat) : sI (stN S a kd n) b j = if b = a then 0 else sI S b j := by
  show va_up S.2.1 a (fun _ => 0) b j = _
  by_cases h : b = a <;> simp [va_up, h, sI]
theorem rI (S : St) (a k : Nat) (v : Int32) : sR (stI S a k v) = sR S := rfl
theorem rR (S : St) (a k : Nat) (v : Option Nat) (b j : Nat) : sR (stR S a k v) b j = if b = a then (if j = k then v else sR S b j) else sR S b j := rfl
theorem rJ (S : St) (a k : Nat) (v : Int64) : sR (stJ S a k v) = sR S := rfl
theorem rW (S : St) (a : Nat) (v : Nat → Int32) : sR (stW S a v) = sR S := rfl
theorem rN (S : St) (a kd n b j : Nat) : sR (stN S a kd n) b j = if b = a then none else sR S b j := by
  show va_up S.2.2.1 a (fun _ => none) b j = _
  by_cases h : b = a <;> simp [va_up, h, sR]
theorem jI (S : St) (a k : Nat) (v : Int32) : sJ (stI S a k v) = sJ S := rfl
theorem jR (S : St) (a k : Nat) (v : Option Nat) : sJ (stR S a k v) = sJ S := rfl
theorem jJ (S : St) (a k : Nat) (v : Int64) (b j : Nat) : sJ (stJ S a k v) b j = if b = a then (if j = k then v else sJ S b j) else sJ S b j := rfl
theorem jW (S : St) (a : Nat) (v : Nat → Int32) : sJ (stW S a v) = sJ S := rfl
theorem jN (S : St) (a kd n b j : Nat) : sJ (stN S a kd n) b j = if b = a then 0 else sJ S b j := by
  show va_up S.2.2.2.1 a (fun _ => 0) b j = _
  by_cases h : b = a <;> simp [va_up, h, sJ]
/-- which fields of a class are references -/
def tb : Nat → List Bool
  | 0 => [true]
  | 1 => [true, true, false, false, false, false, false, false, false, false]
  | 2 => [true, true, true, true, true, true, false, false, false, false]
  | 3 => [true, true, true, true, false, false, false, false, false]
  | 4 => [false, false, false, false, false, false]
  | 5 => [true, false, false, false]
  | 6 => [false, false, false, false, false, false, false, false, false, false]
  | 7 => [true, false]
  | 8 => [true, true, true, true, true, true, true, true, true, false, false, false, false, false, false, false, false, false]
  | 9 => [true, false, false, false, false, true, true, true, true, true, true, false, false, false, false, false, false, false, false, false, false, false, false, false, false, false, true, true, true, true, true, true, true, true, true, false, false, true, true, true, true, true, true, true, true, true, true, true, true, true, true, true, true, false, false, false, true, true, true, true, false, true, true]
  | _ => []
def fv (t : List Bool) (f : Nat → Int32) (g : Nat → Option Nat) : List Value := (List.range t.length).map (fun k => if t[k]? = some true then va_rf (g k) else .int (f k))
theorem fv_len (t : List Bool) (f : Nat → Int32) (g : Nat → Option Nat) : (fv t f g).length = t.length := by simp [fv]
theorem fv_i {t : List Bool} {f : Nat → Int32} {g : Nat → Option Nat} {k : Nat} (h : t[k]? = some false) : (fv t f g)[k]? = some (.int (f k)) := by
  have hl : k < t.length := (List.getElem?_eq_some_iff.mp h).1
  simp [fv, List.getElem?_map, List.getElem?_range hl, h]
theorem fv_r {t : List Bool} {f : Nat → Int32} {g : Nat → Option Nat} {k : Nat} (h : t[k]? = some true) : (fv t f g)[k]? = some (va_rf (g k)) := by
  have hl : k < t.length := (List.getElem?_eq_some_iff.mp h).1
  simp [fv, List.getElem?_map, List.getElem?_range hl, h]
theorem fv_si {t : List Bool} {f : Nat → Int32} {g : Nat → Option Nat} {k : Nat} (v : Int32) (h : t[k]? = some false) : (fv t f g).set k (.int v) = fv t (fun j => if j = k then v else f j) g := by
  have hl : k < t.length := (List.getElem?_eq_some_iff.mp h).1
  apply List.ext_getElem?
  intro i
  by_cases hi : i < t.length
  · by_cases hk : k = i
    · subst hk
      rw [List.getElem?_set_self (by rw [fv_len]; exact hl), fv_i h]
      simp
    · rw [List.getElem?_set_ne hk]
      have hk2 : ¬ i = k := fun e => hk e.symm
      simp [fv, List.getElem?_map, List.getElem?_range hi, hk2]
  · rw [List.getElem?_eq_none (by rw [List.length_set, fv_len]; omega), List.getElem?_eq_none (by rw [fv_len]; omega)]
theorem fv_sr {t : List Bool} {f : Nat → Int32} {g : Nat → Option Nat} {k : Nat} (v : Option Nat) (h : t[k]? = some true) : (fv t f g).set k (va_rf v) = fv t f (fun j => if j = k then v else g j) := by
  have hl : k < t.length := (List.getElem?_eq_some_iff.mp h).1
  apply List.ext_getElem?
  intro i
  by_cases hi : i < t.length
  · by_cases hk : k = i
    · subst hk
      rw [List.getElem?_set_self (by rw [fv_len]; exact hl), fv_r h]
      simp
    · rw [List.getElem?_set_ne hk]
      have hk2 : ¬ i = k := fun e => hk e.symm
      simp [fv, List.getElem?_map, List.getElem?_range hi, hk2]
  · rw [List.getElem?_eq_none (by rw [List.length_set, fv_len]; omega), List.getElem?_eq_none (by rw [fv_len]; omega)]
/-- the array class of a kind -/
def ak (k : Nat) : Nat := if k = 16 ∨ k = 17 ∨ k = 18 ∨ k = 19 then 11 else k
/-- what stands at an address -/
def ct (cy : Nat → ClassId) (S : St) (a : Nat) : va_E :=
  if sK S a < 10 then .inr (sK S a, fv (tb (sK S a)) (sI S a) (sR S a))
  else if sK S a = 12 then .inl (cy 12, sL S a, .inr (.inl (sJ S a)))
  else if sK S a = 14 ∨ sK S a = 15 then .inl (cy (sK S a), sL S a, .inr (.inr (.inr (.inr (sR S a)))))
  else .inl (cy (ak (sK S a)), sL S a, .inl (sI S a))
theorem ct_congr {cy : Nat → ClassId} {S T : St} {b : Nat} (h1 : sK T b = sK S b) (h2 : sI T b = sI S b) (h3 : sR T b = sR S b) (h4 : sJ T b = sJ S b) (h5 : sL T b = sL S b) : ct cy S b = ct cy T b := by
  simp only [ct, h1, h2, h3, h4, h5]
abbrev tysC (cy : Nat → ClassId) : List (ClassId × FieldType) := [(cy 10, .byte), (cy 11, .int), (cy 12, .long), (cy 13, .boolean), (cy 14, .object "IceHall$Rights"), (cy 15, .object "IceHall$Session")]
def PW (D : va_G) (cy : Nat → ClassId) (A : Nat → Prop) (S : St) (H : Heap) : Prop := ∃ L : List Nat, (∀ a, a ∈ L ↔ sK S a < 20) ∧ va_P D vwCl (va_pl L (ct cy S)) H ∧ va_D A (va_pl L (ct cy S))
theorem ct_obj {cy : Nat → ClassId} {S : St} {a ci : Nat} (hk : sK S a = ci) (hci : ci < 10) : ct cy S a = .inr (ci, fv (tb ci) (sI S a) (sR S a)) := by
  simp only [ct, hk, if_pos hci]
theorem ct_int {cy : Nat → ClassId} {S : St} {a ci : Nat} (hk : sK S a = ci) (hci : ci = 10 ∨ ci = 11 ∨ ci = 13 ∨ ci = 16 ∨ ci = 17 ∨ ci = 18 ∨ ci = 19) : ct cy S a = .inl (cy (ak ci), sL S a, .inl (sI S a)) := by
  rcases hci with rfl | rfl | rfl | rfl | rfl | rfl | rfl <;> simp [ct, hk, ak]
theorem ct_long {cy : Nat → ClassId} {S : St} {a : Nat} (hk : sK S a = 12) : ct cy S a = .inl (cy 12, sL S a, .inr (.inl (sJ S a))) := by
  simp [ct, hk]
theorem ct_ref {cy : Nat → ClassId} {S : St} {a ci : Nat} (hk : sK S a = ci) (hci : ci = 14 ∨ ci = 15) : ct cy S a = .inl (cy ci, sL S a, .inr (.inr (.inr (.inr (sR S a))))) := by
  rcases hci with rfl | rfl <;> simp [ct, hk]
theorem PW.place {D : va_G} {cy : Nat → ClassId} {A : Nat → Prop} {S : St} {H : Heap} (h : PW D cy A S H) {a : Nat} (hk : sK S a < 20) : ∃ (L : List Nat) (q : Nat), (∀ a, a ∈ L ↔ sK S a < 20) ∧ va_P D vwCl (va_pl L (ct cy S)) H ∧ va_D A (va_pl L (ct cy S)) ∧ a ∈ L ∧ (va_pl L (ct cy S))[q]? = some (a, ct cy S a) := by
  obtain ⟨L, hL, hP, hD⟩ := h
  obtain ⟨q, hq⟩ := va_pl_get (X := []) (f := ct cy S) ((hL a).mpr hk)
  exact ⟨L, q, hL, hP, hD, (hL a).mpr hk, hq⟩
/-- a cell's contents changed: the list changed at its place is the new pool's list -/
theorem pw_set {cy : Nat → ClassId} {A : Nat → Prop} {S T : St} {L : List Nat} {a q : Nat} {e : va_E} (hD : va_D A (va_pl L (ct cy S))) (ha : a ∈ L) (hq : (va_pl L (ct cy S))[q]? = some (a, ct cy S a)) (he : ct cy T a = e) (ho : ∀ b, b ≠ a → ct cy T b = ct cy S b) : (va_pl L (ct cy S)).set q (a, e) = va_pl L (ct cy T) := by
  have h1 := va_pl_set (X := []) (e := e) hD ha hq
  have h2 : va_pl L (va_up (ct cy S) a e) = va_pl L (ct cy T) := va_pl_congr (fun b => by
    by_cases hb : b = a
    · subst hb; rw [va_up_self, he]
    · rw [va_up_ne _ _ hb, ho b hb])
  rw [← h2]
  exact h1
theorem PW.fresh {D : va_G} {cy : Nat → ClassId} {A : Nat → Prop} {S : St} {H : Heap} (h : PW D cy A S H) {q : Nat} (hq : H.size ≤ q) : 20 ≤ sK S q := by
  obtain ⟨L, hL, hP, -⟩ := h
  have h1 : q ∉ L := va_pl_fresh (X := []) hP hq
  exact Nat.le_of_not_lt (fun h2 => h1 ((hL q).mpr h2))
theorem pw_push {D : va_G} {cy : Nat → ClassId} {A : Nat → Prop} {S : St} {H1 : Heap} {L : List Nat} {q kd n : Nat} {e : va_E} (hkd : kd < 20) (hL : ∀ a, a ∈ L ↔ sK S a < 20) (hP : va_P D vwCl (va_pl L (ct cy S) ++ [(q, e)]) H1) (hD : va_D A (va_pl L (ct cy S) ++ [(q, e)])) (he : ct cy (stN S q kd n) q = e) : PW D cy A (stN S q kd n) H1 ∧ 20 ≤ sK S q := by
  have hq : q ∉ L := va_pl_fresh2 (X := []) hD
  have h1 : va_pl L (ct cy S) ++ [(q, e)] = va_pl (L ++ [q]) (ct cy (stN S q kd n)) := by
    rw [va_pl_push hq]
    refine va_pl_congr (fun b => ?_)
    by_cases hb : b = q
    · subst hb; rw [va_up_self, he]
    · rw [va_up_ne _ _ hb]
      refine ct_congr ?_ ?_ ?_ ?_ ?_
      · show va_up S.1 q kd b = S.1 b; rw [va_up_ne _ _ hb]
      · show va_up S.2.1 q _ b = S.2.1 b; rw [va_up_ne _ _ hb]
      · show va_up S.2.2.1 q _ b = S.2.2.1 b; rw [va_up_ne _ _ hb]
      · show va_up S.2.2.2.1 q _ b = S.2.2.2.1 b; rw [va_up_ne _ _ hb]
      · show va_up S.2.2.2.2 q _ b = S.2.2.2.2 b; rw [va_up_ne _ _ hb]
  refine ⟨⟨L ++ [q], fun a => ?_, h1 ▸ hP, h1 ▸ hD⟩, Nat.le_of_not_lt (fun h2 => hq ((hL q).mpr h2))⟩
  rw [List.mem_append, List.mem_singleton, hL a, kN]
  by_cases ha : a = q
  · simp [ha, hkd]
  · simp [ha]
