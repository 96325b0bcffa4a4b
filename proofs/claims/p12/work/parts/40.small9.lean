theorem bh_neg {a : Int32} (h0 : 0 ≤ a.toInt) (h7 : a.toInt ≤ 7) : -4 ≤ ((-(a + 1)) / 2).toInt ∧ ((-(a + 1)) / 2).toInt ≤ 3 := by
  obtain ⟨j, hj, rfl⟩ := nn_of h0
  have h2 : j < 8 := by rw [nI_toInt hj] at h7; omega
  have hd : ∀ k, k < 8 → -4 ≤ ((-(nI k + 1)) / 2).toInt ∧ ((-(nI k + 1)) / 2).toInt ≤ 3 := by decide +kernel
  exact hd j h2
theorem bh_pos {a : Int32} (h0 : 0 ≤ a.toInt) (h7 : a.toInt ≤ 7) : -4 ≤ (a / 2).toInt ∧ (a / 2).toInt ≤ 3 := by
  obtain ⟨j, hj, rfl⟩ := nn_of h0
  have h2 : j < 8 := by rw [nI_toInt hj] at h7; omega
  have hd : ∀ k, k < 8 → -4 ≤ (nI k / 2).toInt ∧ (nI k / 2).toInt ≤ 3 := by decide +kernel
  exact hd j h2
theorem hf_7 {a : Int32} (h0 : 0 ≤ a.toInt) (h7 : a.toInt ≤ 14) : 0 ≤ (a / 2).toInt ∧ (a / 2).toInt ≤ 7 := by
  obtain ⟨j, hj, rfl⟩ := nn_of h0
  have h2 : j < 15 := by rw [nI_toInt hj] at h7; omega
  have hd : ∀ k, k < 15 → 0 ≤ (nI k / 2).toInt ∧ (nI k / 2).toInt ≤ 7 := by decide +kernel
  exact hd j h2
theorem rem15 {x : Int32} (h : 0 ≤ x.toInt) : 0 ≤ (x - x / 15 * 15).toInt ∧ (x - x / 15 * 15).toInt < 15 := rem_t h (n := 15) (by decide) (by decide)
theorem div15 {x : Int32} (h : 0 ≤ x.toInt) : 0 ≤ (x / 15).toInt := div_t h (n := 15) (by decide) (by decide)
theorem and255 (x : Int32) : 0 ≤ (x &&& 255).toInt ∧ (x &&& 255).toInt ≤ 255 := by
  rw [pk_and x (m := 255) 8 (by decide), nI_toInt (by have := Nat.mod_lt (x.toBitVec.toNat) (show 0 < 2 ^ 8 by decide); omega)]
  have := Nat.mod_lt (x.toBitVec.toNat) (show 0 < 2 ^ 8 by decide)
  omega
theorem i64_ne {x : Int32} (h : ¬ x.toInt = 0) : ¬ x.toInt64 = 0 := fun e => h (by
  have h1 : x.toInt64.toInt = (0 : Int64).toInt := by rw [e]
  rw [Int32.toInt_toInt64] at h1
  exact h1)
set_option maxHeartbeats 4000000 in
set_option maxRecDepth 100000 in
theorem b_X9_isClub (l : Launch) (D : va_G) (cy : Nat → ClassId) (A : Nat → Prop) (S : St) (a : Int32)  : MI l yX9_isClub wsX9_isClub ({ frames := 0, cells := 0, slots := 0, locals := 0 } : Room) 0 0 D cy A [.int a] S (fun r S1 => S1 = S ∧ ((r.toInt = 1 ∧ 0 ≤ a.toInt ∧ a.toInt < 6) ∨ (r.toInt = 0 ∧ ¬ (0 ≤ a.toInt ∧ a.toInt < 6)))) := by
  refine mt_start (cc := cX9_isClub) (maxL := 1) (ret := (some .boolean)) (by decide) rfl (Nat.le_of_ble_eq_true rfl) ?_
  intro p e s m args below meth c hx hb hr hlk hml hown hnm hts hK hZ hA hW hS ls hl
  have hl : lv_has ls 1 [(0, .int a)] := hl
  have hown : s.vm.findClass RX9 = some m.cls := hown
  have F : CallFix p m c cX9_isClub 1 s args wsX9_isClub RX9 := ⟨hx, hb, hml, hown, hts⟩
  refine lv_iload_n hx hb dX9_isClub_0 rfl (lv_at hl 0 rfl) ?_
  refine lv_if_lt (tgt := 14) hx hb dX9_isClub_1 (by decide) (fun c1 => ?_) (fun c1 => ?_)
  · have c1i : Int32.toInt a < (0 : Int) := (i3_lt _ _).mp c1
    refine lv_iconst (v := 0) hx hb dX9_isClub_14 (by decide) ?_
    exact pc_zret (v := 0) (S := S) hx hb hr hlk hK hZ hA hW hS (by decide) (⟨rfl, Or.inr ⟨rfl, by omega⟩⟩) dX9_isClub_15
  · have c1i : ¬ (Int32.toInt a < (0 : Int)) := fun h9 => c1 ((i3_lt _ _).mpr h9)
    refine lv_iload_n hx hb dX9_isClub_4 rfl (lv_at hl 0 rfl) ?_
    refine lv_bipush (v := 6) hx hb dX9_isClub_5 (by decide) ?_
    refine lv_icmp_ge (tgt := 14) hx hb dX9_isClub_7 (by decide) (fun c2 => ?_) (fun c2 => ?_)
    · have c2i : (6 : Int) ≤ Int32.toInt a := (i3_le _ _).mp c2
      refine lv_iconst (v := 0) hx hb dX9_isClub_14 (by decide) ?_
      exact pc_zret (v := 0) (S := S) hx hb hr hlk hK hZ hA hW hS (by decide) (⟨rfl, Or.inr ⟨rfl, by omega⟩⟩) dX9_isClub_15
    · have c2i : ¬ ((6 : Int) ≤ Int32.toInt a) := fun h9 => c2 ((i3_le _ _).mpr h9)
      refine lv_iconst (v := 1) hx hb dX9_isClub_10 (by decide) ?_
      refine lv_goto (tgt := 15) hx hb dX9_isClub_11 (by decide) ?_
      exact pc_zret (v := 1) (S := S) hx hb hr hlk hK hZ hA hW hS (by decide) (⟨rfl, Or.inl ⟨rfl, by omega⟩⟩) dX9_isClub_15
set_option maxHeartbeats 4000000 in
set_option maxRecDepth 100000 in
theorem b_X9_isSheet (l : Launch) (D : va_G) (cy : Nat → ClassId) (A : Nat → Prop) (S : St) (a : Int32)  : MI l yX9_isSheet wsX9_isSheet ({ frames := 0, cells := 0, slots := 0, locals := 0 } : Room) 0 0 D cy A [.int a] S (fun r S1 => S1 = S ∧ ((r.toInt = 1 ∧ 0 ≤ a.toInt ∧ a.toInt < 2) ∨ (r.toInt = 0 ∧ ¬ (0 ≤ a.toInt ∧ a.toInt < 2)))) := by
  refine mt_start (cc := cX9_isSheet) (maxL := 1) (ret := (some .boolean)) (by decide) rfl (Nat.le_of_ble_eq_true rfl) ?_
  intro p e s m args below meth c hx hb hr hlk hml hown hnm hts hK hZ hA hW hS ls hl
  have hl : lv_has ls 1 [(0, .int a)] := hl
  have hown : s.vm.findClass RX9 = some m.cls := hown
  have F : CallFix p m c cX9_isSheet 1 s args wsX9_isSheet RX9 := ⟨hx, hb, hml, hown, hts⟩
  refine lv_iload_n hx hb dX9_isSheet_0 rfl (lv_at hl 0 rfl) ?_
  refine lv_if_lt (tgt := 13) hx hb dX9_isSheet_1 (by decide) (fun c1 => ?_) (fun c1 => ?_)
  · have c1i : Int32.toInt a < (0 : Int) := (i3_lt _ _).mp c1
    refine lv_iconst (v := 0) hx hb dX9_isSheet_13 (by decide) ?_
    exact pc_zret (v := 0) (S := S) hx hb hr hlk hK hZ hA hW hS (by decide) (⟨rfl, Or.inr ⟨rfl, by omega⟩⟩) dX9_isSheet_14
  · have c1i : ¬ (Int32.toInt a < (0 : Int)) := fun h9 => c1 ((i3_lt _ _).mpr h9)
    refine lv_iload_n hx hb dX9_isSheet_4 rfl (lv_at hl 0 rfl) ?_
    refine lv_iconst (v := 2) hx hb dX9_isSheet_5 (by decide) ?_
    refine lv_icmp_ge (tgt := 13) hx hb dX9_isSheet_6 (by decide) (fun c2 => ?_) (fun c2 => ?_)
    · have c2i : (2 : Int) ≤ Int32.toInt a := (i3_le _ _).mp c2
      refine lv_iconst (v := 0) hx hb dX9_isSheet_13 (by decide) ?_
      exact pc_zret (v := 0) (S := S) hx hb hr hlk hK hZ hA hW hS (by decide) (⟨rfl, Or.inr ⟨rfl, by omega⟩⟩) dX9_isSheet_14
    · have c2i : ¬ ((2 : Int) ≤ Int32.toInt a) := fun h9 => c2 ((i3_le _ _).mpr h9)
      refine lv_iconst (v := 1) hx hb dX9_isSheet_9 (by decide) ?_
      refine lv_goto (tgt := 14) hx hb dX9_isSheet_10 (by decide) ?_
      exact pc_zret (v := 1) (S := S) hx hb hr hlk hK hZ hA hW hS (by decide) (⟨rfl, Or.inl ⟨rfl, by omega⟩⟩) dX9_isSheet_14
set_option maxHeartbeats 4000000 in
set_option maxRecDepth 100000 in
theorem b_X9_rutsOf (l : Launch) (D : va_G) (cy : Nat → ClassId) (A : Nat → Prop) (S : St) (a : Int32)  : MI l yX9_rutsOf wsX9_rutsOf ({ frames := 0, cells := 0, slots := 0, locals := 0 } : Room) 0 0 D cy A [.int a] S (fun r S1 => S1 = S ∧ True) := by
  refine mt_start (cc := cX9_rutsOf) (maxL := 1) (ret := (some .int)) (by decide) rfl (Nat.le_of_ble_eq_true rfl) ?_
  intro p e s m args below meth c hx hb hr hlk hml hown hnm hts hK hZ hA hW hS ls hl
  have hl : lv_has ls 1 [(0, .int a)] := hl
  have hown : s.vm.findClass RX9 = some m.cls := hown
  have F : CallFix p m c cX9_rutsOf 1 s args wsX9_rutsOf RX9 := ⟨hx, hb, hml, hown, hts⟩
  refine lv_iload_n hx hb dX9_rutsOf_0 rfl (lv_at hl 0 rfl) ?_
  refine lv_if_ne (tgt := 9) hx hb dX9_rutsOf_1 (by decide) (fun c1 => ?_) (fun c1 => ?_)
  · have c1i : ¬ (Int32.toInt a = (0 : Int)) := fun h9 => c1 ((i3_eq _ _).mpr h9)
    refine lv_iload_n hx hb dX9_rutsOf_9 rfl (lv_at hl 0 rfl) ?_
    refine lv_iconst (v := 1) hx hb dX9_rutsOf_10 (by decide) ?_
    refine lv_icmp_ne (tgt := 19) hx hb dX9_rutsOf_11 (by decide) (fun c2 => ?_) (fun c2 => ?_)
    · have c2i : ¬ (Int32.toInt a = (1 : Int)) := fun h9 => c2 ((i3_eq _ _).mpr h9)
      refine lv_iload_n hx hb dX9_rutsOf_19 rfl (lv_at hl 0 rfl) ?_
      refine lv_iconst (v := 2) hx hb dX9_rutsOf_20 (by decide) ?_
      refine lv_icmp_ne (tgt := 29) hx hb dX9_rutsOf_21 (by decide) (fun c3 => ?_) (fun c3 => ?_)
      · have c3i : ¬ (Int32.toInt a = (2 : Int)) := fun h9 => c3 ((i3_eq _ _).mpr h9)
        refine lv_iconst (v := 5) hx hb dX9_rutsOf_29 (by decide) ?_
        exact pc_iret (v := 5) (S := S) hx hb hr hlk hK hZ hA hW hS (⟨rfl, trivial⟩) dX9_rutsOf_30
      · have c3i : Int32.toInt a = (2 : Int) := (i3_eq _ _).mp c3
        refine lv_bipush (v := 20) hx hb dX9_rutsOf_24 (by decide) ?_
        refine lv_goto (tgt := 30) hx hb dX9_rutsOf_26 (by decide) ?_
        exact pc_iret (v := 20) (S := S) hx hb hr hlk hK hZ hA hW hS (⟨rfl, trivial⟩) dX9_rutsOf_30
    · have c2i : Int32.toInt a = (1 : Int) := (i3_eq _ _).mp c2
      refine lv_bipush (v := 30) hx hb dX9_rutsOf_14 (by decide) ?_
      refine lv_goto (tgt := 30) hx hb dX9_rutsOf_16 (by decide) ?_
      exact pc_iret (v := 30) (S := S) hx hb hr hlk hK hZ hA hW hS (⟨rfl, trivial⟩) dX9_rutsOf_30
  · have c1i : Int32.toInt a = (0 : Int) := (i3_eq _ _).mp c1
    refine lv_bipush (v := 10) hx hb dX9_rutsOf_4 (by decide) ?_
    refine lv_goto (tgt := 30) hx hb dX9_rutsOf_6 (by decide) ?_
    exact pc_iret (v := 10) (S := S) hx hb hr hlk hK hZ hA hW hS (⟨rfl, trivial⟩) dX9_rutsOf_30
set_option maxHeartbeats 4000000 in
set_option maxRecDepth 100000 in
theorem b_X9_heatOf (l : Launch) (D : va_G) (cy : Nat → ClassId) (A : Nat → Prop) (S : St) (a : Int32)  : MI l yX9_heatOf wsX9_heatOf ({ frames := 0, cells := 0, slots := 0, locals := 0 } : Room) 0 0 D cy A [.int a] S (fun r S1 => S1 = S ∧ True) := by
  refine mt_start (cc := cX9_heatOf) (maxL := 1) (ret := (some .int)) (by decide) rfl (Nat.le_of_ble_eq_true rfl) ?_
  intro p e s m args below meth c hx hb hr hlk hml hown hnm hts hK hZ hA hW hS ls hl
  have hl : lv_has ls 1 [(0, .int a)] := hl
  have hown : s.vm.findClass RX9 = some m.cls := hown
  have F : CallFix p m c cX9_heatOf 1 s args wsX9_heatOf RX9 := ⟨hx, hb, hml, hown, hts⟩
  refine lv_iload_n hx hb dX9_heatOf_0 rfl (lv_at hl 0 rfl) ?_
  refine lv_if_ne (tgt := 8) hx hb dX9_heatOf_1 (by decide) (fun c1 => ?_) (fun c1 => ?_)
  · have c1i : ¬ (Int32.toInt a = (0 : Int)) := fun h9 => c1 ((i3_eq _ _).mpr h9)
    refine lv_iload_n hx hb dX9_heatOf_8 rfl (lv_at hl 0 rfl) ?_
    refine lv_iconst (v := 1) hx hb dX9_heatOf_9 (by decide) ?_
    refine lv_icmp_ne (tgt := 18) hx hb dX9_heatOf_10 (by decide) (fun c2 => ?_) (fun c2 => ?_)
    · have c2i : ¬ (Int32.toInt a = (1 : Int)) := fun h9 => c2 ((i3_eq _ _).mpr h9)
      refine lv_iload_n hx hb dX9_heatOf_18 rfl (lv_at hl 0 rfl) ?_
      refine lv_iconst (v := 2) hx hb dX9_heatOf_19 (by decide) ?_
      refine lv_icmp_ne (tgt := 28) hx hb dX9_heatOf_20 (by decide) (fun c3 => ?_) (fun c3 => ?_)
      · have c3i : ¬ (Int32.toInt a = (2 : Int)) := fun h9 => c3 ((i3_eq _ _).mpr h9)
        refine lv_iconst (v := 2) hx hb dX9_heatOf_28 (by decide) ?_
        exact pc_iret (v := 2) (S := S) hx hb hr hlk hK hZ hA hW hS (⟨rfl, trivial⟩) dX9_heatOf_29
      · have c3i : Int32.toInt a = (2 : Int) := (i3_eq _ _).mp c3
        refine lv_bipush (v := 6) hx hb dX9_heatOf_23 (by decide) ?_
        refine lv_goto (tgt := 29) hx hb dX9_heatOf_25 (by decide) ?_
        exact pc_iret (v := 6) (S := S) hx hb hr hlk hK hZ hA hW hS (⟨rfl, trivial⟩) dX9_heatOf_29
    · have c2i : Int32.toInt a = (1 : Int) := (i3_eq _ _).mp c2
      refine lv_bipush (v := 9) hx hb dX9_heatOf_13 (by decide) ?_
      refine lv_goto (tgt := 29) hx hb dX9_heatOf_15 (by decide) ?_
      exact pc_iret (v := 9) (S := S) hx hb hr hlk hK hZ hA hW hS (⟨rfl, trivial⟩) dX9_heatOf_29
  · have c1i : Int32.toInt a = (0 : Int) := (i3_eq _ _).mp c1
    refine lv_iconst (v := 4) hx hb dX9_heatOf_4 (by decide) ?_
    refine lv_goto (tgt := 29) hx hb dX9_heatOf_5 (by decide) ?_
    exact pc_iret (v := 4) (S := S) hx hb hr hlk hK hZ hA hW hS (⟨rfl, trivial⟩) dX9_heatOf_29
set_option maxHeartbeats 4000000 in
set_option maxRecDepth 100000 in
theorem b_X9_halfOf (l : Launch) (D : va_G) (cy : Nat → ClassId) (A : Nat → Prop) (S : St) (a : Int32)  : MI l yX9_halfOf wsX9_halfOf ({ frames := 0, cells := 0, slots := 0, locals := 0 } : Room) 0 0 D cy A [.int a] S (fun r S1 => S1 = S ∧ True) := by
  refine mt_start (cc := cX9_halfOf) (maxL := 1) (ret := (some .int)) (by decide) rfl (Nat.le_of_ble_eq_true rfl) ?_
  intro p e s m args below meth c hx hb hr hlk hml hown hnm hts hK hZ hA hW hS ls hl
  have hl : lv_has ls 1 [(0, .int a)] := hl
  have hown : s.vm.findClass RX9 = some m.cls := hown
  have F : CallFix p m c cX9_halfOf 1 s args wsX9_halfOf RX9 := ⟨hx, hb, hml, hown, hts⟩
  refine lv_iload_n hx hb dX9_halfOf_0 rfl (lv_at hl 0 rfl) ?_
  refine lv_if_ge (tgt := 8) hx hb dX9_halfOf_1 (by decide) (fun c1 => ?_) (fun c1 => ?_)
  · have c1i : (0 : Int) ≤ Int32.toInt a := (i3_le _ _).mp c1
    refine lv_iload_n hx hb dX9_halfOf_8 rfl (lv_at hl 0 rfl) ?_
    refine lv_iconst (v := 2) hx hb dX9_halfOf_9 (by decide) ?_
    refine lv_idiv hx hb dX9_halfOf_10 (by decide) ?_
    exact pc_iret (v := a / 2) (S := S) hx hb hr hlk hK hZ hA hW hS (⟨rfl, trivial⟩) dX9_halfOf_11
  · have c1i : ¬ ((0 : Int) ≤ Int32.toInt a) := fun h9 => c1 ((i3_le _ _).mpr h9)
    refine lv_iconst (v := 0) hx hb dX9_halfOf_4 (by decide) ?_
    refine lv_goto (tgt := 11) hx hb dX9_halfOf_5 (by decide) ?_
    exact pc_iret (v := 0) (S := S) hx hb hr hlk hK hZ hA hW hS (⟨rfl, trivial⟩) dX9_halfOf_11
set_option maxHeartbeats 4000000 in
set_option maxRecDepth 100000 in
theorem b_X9_behind (l : Launch) (D : va_G) (cy : Nat → ClassId) (A : Nat → Prop) (S : St) (a : Int32) (h0 : 0 ≤ a.toInt) (h7 : a.toInt ≤ 7) : MI l yX9_behind wsX9_behind ({ frames := 0, cells := 0, slots := 0, locals := 0 } : Room) 0 0 D cy A [.int a] S (fun r S1 => S1 = S ∧ (-4 ≤ r.toInt ∧ r.toInt ≤ 3)) := by
  refine mt_start (cc := cX9_behind) (maxL := 1) (ret := (some .int)) (by decide) rfl (Nat.le_of_ble_eq_true rfl) ?_
  intro p e s m args below meth c hx hb hr hlk hml hown hnm hts hK hZ hA hW hS ls hl
  have hl : lv_has ls 1 [(0, .int a)] := hl
  have hown : s.vm.findClass RX9 = some m.cls := hown
  have F : CallFix p m c cX9_behind 1 s args wsX9_behind RX9 := ⟨hx, hb, hml, hown, hts⟩
  refine lv_iload_n hx hb dX9_behind_0 rfl (lv_at hl 0 rfl) ?_
  refine lv_if_ne (tgt := 8) hx hb dX9_behind_1 (by decide) (fun c1 => ?_) (fun c1 => ?_)
  · have c1i : ¬ (Int32.toInt a = (0 : Int)) := fun h9 => c1 ((i3_eq _ _).mpr h9)
    refine lv_iload_n hx hb dX9_behind_8 rfl (lv_at hl 0 rfl) ?_
    refine lv_iconst (v := 2) hx hb dX9_behind_9 (by decide) ?_
    refine lv_irem hx hb dX9_behind_10 (by decide) ?_
    refine lv_iconst (v := 1) hx hb dX9_behind_11 (by decide) ?_
    refine lv_icmp_ne (tgt := 24) hx hb dX9_behind_12 (by decide) (fun c2 => ?_) (fun c2 => ?_)
    · have c2i : ¬ (Int32.toInt (a - a / 2 * 2) = (1 : Int)) := fun h9 => c2 ((i3_eq _ _).mpr h9)
      refine lv_iload_n hx hb dX9_behind_24 rfl (lv_at hl 0 rfl) ?_
      refine lv_iconst (v := 2) hx hb dX9_behind_25 (by decide) ?_
      refine lv_idiv hx hb dX9_behind_26 (by decide) ?_
      exact pc_iret (v := a / 2) (S := S) hx hb hr hlk hK hZ hA hW hS (⟨rfl, bh_pos h0 h7⟩) dX9_behind_27
    · have c2i : Int32.toInt (a - a / 2 * 2) = (1 : Int) := (i3_eq _ _).mp c2
      refine lv_iload_n hx hb dX9_behind_15 rfl (lv_at hl 0 rfl) ?_
      refine lv_iconst (v := 1) hx hb dX9_behind_16 (by decide) ?_
      refine lv_iadd hx hb dX9_behind_17 ?_
      refine lv_ineg hx hb dX9_behind_18 ?_
      refine lv_iconst (v := 2) hx hb dX9_behind_19 (by decide) ?_
      refine lv_idiv hx hb dX9_behind_20 (by decide) ?_
      refine lv_goto (tgt := 27) hx hb dX9_behind_21 (by decide) ?_
      exact pc_iret (v := (-(a + 1)) / 2) (S := S) hx hb hr hlk hK hZ hA hW hS (⟨rfl, bh_neg h0 h7⟩) dX9_behind_27
  · have c1i : Int32.toInt a = (0 : Int) := (i3_eq _ _).mp c1
    refine lv_iconst (v := 0) hx hb dX9_behind_4 (by decide) ?_
    refine lv_goto (tgt := 27) hx hb dX9_behind_5 (by decide) ?_
    exact pc_iret (v := 0) (S := S) hx hb hr hlk hK hZ hA hW hS (⟨rfl, by decide⟩) dX9_behind_27
set_option maxHeartbeats 4000000 in
set_option maxRecDepth 100000 in
theorem b_X9_types (l : Launch) (D : va_G) (cy : Nat → ClassId) (A : Nat → Prop) (S : St) (h : Nat) (a : Int32) (hG0 : G S) (hk : sK S h = 9) (hs : (sI S h 1).toInt ≤ 76) : MV l yX9_types wsX9_types ({ frames := 0, cells := 0, slots := 0, locals := 0 } : Room) 0 0 D cy A [.ref h, .int a] S (fun S1 => G S1 ∧ Fr [] [901, 1000] S S1 ∧ ((sI S1 h 1).toInt = (sI S h 1).toInt + 4)) := by
  refine mt_start (cc := cX9_types) (maxL := 3) (ret := none) (by decide) rfl (Nat.le_of_ble_eq_true rfl) ?_
  intro p e s m args below meth c hx hb hr hlk hml hown hnm hts hK hZ hA hW hS ls hl
  have hl : lv_has ls 3 [(0, .ref h), (1, .int a)] := hl
  have hown : s.vm.findClass RX9 = some m.cls := hown
  have F : CallFix p m c cX9_types 3 s args wsX9_types RX9 := ⟨hx, hb, hml, hown, hts⟩
  have wi9 : ∀ w ∈ u_ws RX9 TX9 63, w ∈ wsX9_types := by decide +kernel
  have hG := hG0
  have hF : Fr [] [901, 1000] S S := Fr.rf _ _ _
  have g1 : (0 : Int) ≤ (sI S h 1).toInt ∧ (sI S h 1).toInt ≤ 80 := hG0.i hk (by decide) 1 (by decide)
  refine lv_iconst (v := 3) hx hb dX9_types_0 (by decide) ?_
  refine lv_istore_n (lv' := [(2, .int 3), (0, .ref h), (1, .int a)]) hx hb dX9_types_1 rfl hl (by decide) rfl (fun ls hl => ?_)
  refine lv_iload_n hx hb dX9_types_2 rfl (lv_at hl 0 rfl) ?_
  refine lv_if_lt (tgt := 38) hx hb dX9_types_3 (by decide) (fun c2 => absurd c2 (by decide)) (fun c2 => ?_)
  refine lv_aload_n hx hb dX9_types_6 rfl (lv_at hl 1 rfl) ?_
  obtain ⟨b3, rb3, kb3, nb3⟩ := hG0.r hk List.not_mem_nil 0 (show rty 9 0 = some (10, 80) from rfl)
  refine pg_gr (b := b3) (ci := 9) (C := RX9) (T := TX9) (N := 63) hx hb hts wi9 hown hK hW hk (by decide) rfl 0 (by decide) (hts (.fieldLink RX9 7 "IceHallModel" "tape" "[B") (by decide +kernel)) (fun _ h9 => h9) rfl rb3 dX9_types_7 ?_
  refine lv_aload_n hx hb dX9_types_10 rfl (lv_at hl 1 rfl) ?_
  refine pg_gi (ci := 9) (C := RX9) (T := TX9) (N := 63) hx hb hts wi9 hown hK hW hk (by decide) rfl 1 (by decide) (hts (.fieldLink RX9 141 "IceHallModel" "taped" "I") (by decide +kernel)) (fun _ h9 => h9) rfl dX9_types_11 ?_
  rw [show sI S h 1 = sI S h 1 from rfl]
  refine lv_iload_n hx hb dX9_types_14 rfl (lv_at hl 2 rfl) ?_
  refine lv_bipush (v := 8) hx hb dX9_types_15 (by decide) ?_
  refine lv_iload_n hx hb dX9_types_17 rfl (lv_at hl 0 rfl) ?_
  refine lv_imul hx hb dX9_types_18 ?_
  rw [show (8 * 3 : Int32) = 24 from by decide]
  refine lv_ishr hx hb dX9_types_19 ?_
  refine lv_i2b (v := Int8.toInt32 (Int32.toInt8 (a >>> (24 &&& 31)))) hx hb dX9_types_20 rfl ?_
  refine pg_bast hx hb hK hW hS kb3 (by rw [show sL S b3 = 80 from nb3]; exact r_in (by omega)) dX9_types_21 (fun H locs hW hS => ?_)
  obtain ⟨S4, eS4⟩ : ∃ T : St, T = stI S b3 (Int32.toNatClampNeg (sI S h 1)) (vp_nar .byte (Int8.toInt32 (Int32.toInt8 (a >>> (24 &&& 31))))) := ⟨_, rfl⟩
  rw [← eS4] at hW
  have hG : G S4 := by rw [eS4]; exact hG.I kb3 (ok_frA (by decide) (by decide))
  have w5 : sI S4 h 1 = sI S h 1 := by rw [eS4]; exact (iI_a (fk_ne hk kb3 (by decide))).trans rfl
  have hF : Fr [] [901, 1000] S S4 := by rw [eS4]; exact hF.IA kb3 (by decide) (by decide)
  clear eS4
  refine lv_aload_n hx hb dX9_types_22 rfl (lv_at hl 1 rfl) ?_
  refine lv_aload_n hx hb dX9_types_23 rfl (lv_at hl 1 rfl) ?_
  refine pg_gi (ci := 9) (C := RX9) (T := TX9) (N := 63) hx hb hts wi9 hown hK hW (hF.k hk (by decide)) (by decide) rfl 1 (by decide) (hts (.fieldLink RX9 141 "IceHallModel" "taped" "I") (by decide +kernel)) (fun _ h9 => h9) rfl dX9_types_24 ?_
  rw [show sI S4 h 1 = sI S h 1 from w5]
  refine lv_iconst (v := 1) hx hb dX9_types_27 (by decide) ?_
  refine lv_iadd hx hb dX9_types_28 ?_
  have l6 : ((sI S h 1) + 1).toInt = Int32.toInt (sI S h 1) + (1 : Int) := i3_add rfl rfl (by omega) (by omega)
  refine pg_pi (ci := 9) (C := RX9) (T := TX9) (N := 63) hx hb hts wi9 tyX9 tyX9_ok nmX9 hown hK hW hS (hF.k hk (by decide)) (by decide) rfl 1 (by decide) (hts (.fieldLink RX9 141 "IceHallModel" "taped" "I") (by decide +kernel)) (fun _ h9 => h9) rfl rfl rfl dX9_types_29 (fun H locs hW hS => ?_)
  have kq7 : sK S4 h = 9 := (hF.k hk (by decide))
  obtain ⟨S8, eS8⟩ : ∃ T : St, T = stI S4 h 1 ((sI S h 1) + 1) := ⟨_, rfl⟩
  rw [← eS8] at hW
  have hG : G S8 := by rw [eS8]; exact hG.I kq7 (ok_in 0 80 (by decide) (⟨by omega, by omega⟩))
  have hF : Fr [] [901, 1000] S S8 := by rw [eS8]; exact hF.I kq7 (by decide)
  have w9 : sI S8 h 1 = (sI S h 1) + 1 := by rw [eS8]; exact iI_s
  clear eS8
  refine lv_iinc (v := 2) (lv' := [(2, .int 2), (0, .ref h), (1, .int a)]) hx hb dX9_types_32 hl (k := 0) rfl (by decide) (by decide) rfl (fun ls hl => ?_)
  refine lv_goto (tgt := 2) hx hb dX9_types_35 (by decide) ?_
  refine lv_iload_n hx hb dX9_types_2 rfl (lv_at hl 0 rfl) ?_
  refine lv_if_lt (tgt := 38) hx hb dX9_types_3 (by decide) (fun c10 => absurd c10 (by decide)) (fun c10 => ?_)
  refine lv_aload_n hx hb dX9_types_6 rfl (lv_at hl 1 rfl) ?_
  refine pg_gr (b := b3) (ci := 9) (C := RX9) (T := TX9) (N := 63) hx hb hts wi9 hown hK hW (hF.k hk (by decide)) (by decide) rfl 0 (by decide) (hts (.fieldLink RX9 7 "IceHallModel" "tape" "[B") (by decide +kernel)) (fun _ h9 => h9) rfl (hF.r hk (by decide) rb3) dX9_types_7 ?_
  refine lv_aload_n hx hb dX9_types_10 rfl (lv_at hl 1 rfl) ?_
  refine pg_gi (ci := 9) (C := RX9) (T := TX9) (N := 63) hx hb hts wi9 hown hK hW (hF.k hk (by decide)) (by decide) rfl 1 (by decide) (hts (.fieldLink RX9 141 "IceHallModel" "taped" "I") (by decide +kernel)) (fun _ h9 => h9) rfl dX9_types_11 ?_
  rw [show sI S8 h 1 = (sI S h 1) + 1 from w9]
  refine lv_iload_n hx hb dX9_types_14 rfl (lv_at hl 2 rfl) ?_
  refine lv_bipush (v := 8) hx hb dX9_types_15 (by decide) ?_
  refine lv_iload_n hx hb dX9_types_17 rfl (lv_at hl 0 rfl) ?_
  refine lv_imul hx hb dX9_types_18 ?_
  rw [show (8 * 2 : Int32) = 16 from by decide]
  refine lv_ishr hx hb dX9_types_19 ?_
  refine lv_i2b (v := Int8.toInt32 (Int32.toInt8 (a >>> (16 &&& 31)))) hx hb dX9_types_20 rfl ?_
  refine pg_bast hx hb hK hW hS (hF.k kb3 (by decide)) (by rw [show sL S8 b3 = 80 from (hF.n kb3 (by decide) nb3)]; exact r_in (by omega)) dX9_types_21 (fun H locs hW hS => ?_)
  have kq11 : sK S8 b3 = 10 := (hF.k kb3 (by decide))
  obtain ⟨S12, eS12⟩ : ∃ T : St, T = stI S8 b3 (Int32.toNatClampNeg ((sI S h 1) + 1)) (vp_nar .byte (Int8.toInt32 (Int32.toInt8 (a >>> (16 &&& 31))))) := ⟨_, rfl⟩
  rw [← eS12] at hW
  have hG : G S12 := by rw [eS12]; exact hG.I kq11 (ok_frA (by decide) (by decide))
  have w13 : sI S12 h 1 = (sI S h 1) + 1 := by rw [eS12]; exact (iI_a (fk_ne (hF.k hk (by decide)) kq11 (by decide))).trans w9
  have hF : Fr [] [901, 1000] S S12 := by rw [eS12]; exact hF.IA kq11 (by decide) (by decide)
  clear eS12
  refine lv_aload_n hx hb dX9_types_22 rfl (lv_at hl 1 rfl) ?_
  refine lv_aload_n hx hb dX9_types_23 rfl (lv_at hl 1 rfl) ?_
  refine pg_gi (ci := 9) (C := RX9) (T := TX9) (N := 63) hx hb hts wi9 hown hK hW (hF.k hk (by decide)) (by decide) rfl 1 (by decide) (hts (.fieldLink RX9 141 "IceHallModel" "taped" "I") (by decide +kernel)) (fun _ h9 => h9) rfl dX9_types_24 ?_
  rw [show sI S12 h 1 = (sI S h 1) + 1 from w13]
  refine lv_iconst (v := 1) hx hb dX9_types_27 (by decide) ?_
  refine lv_iadd hx hb dX9_types_28 ?_
  have l14 : (((sI S h 1) + 1) + 1).toInt = Int32.toInt ((sI S h 1) + 1) + (1 : Int) := i3_add rfl rfl (by omega) (by omega)
  refine pg_pi (ci := 9) (C := RX9) (T := TX9) (N := 63) hx hb hts wi9 tyX9 tyX9_ok nmX9 hown hK hW hS (hF.k hk (by decide)) (by decide) rfl 1 (by decide) (hts (.fieldLink RX9 141 "IceHallModel" "taped" "I") (by decide +kernel)) (fun _ h9 => h9) rfl rfl rfl dX9_types_29 (fun H locs hW hS => ?_)
  have kq15 : sK S12 h = 9 := (hF.k hk (by decide))
  obtain ⟨S16, eS16⟩ : ∃ T : St, T = stI S12 h 1 (((sI S h 1) + 1) + 1) := ⟨_, rfl⟩
  rw [← eS16] at hW
  have hG : G S16 := by rw [eS16]; exact hG.I kq15 (ok_in 0 80 (by decide) (⟨by omega, by omega⟩))
  have hF : Fr [] [901, 1000] S S16 := by rw [eS16]; exact hF.I kq15 (by decide)
  have w17 : sI S16 h 1 = ((sI S h 1) + 1) + 1 := by rw [eS16]; exact iI_s
  clear eS16
  refine lv_iinc (v := 1) (lv' := [(2, .int 1), (0, .ref h), (1, .int a)]) hx hb dX9_types_32 hl (k := 0) rfl (by decide) (by decide) rfl (fun ls hl => ?_)
  refine lv_goto (tgt := 2) hx hb dX9_types_35 (by decide) ?_
  refine lv_iload_n hx hb dX9_types_2 rfl (lv_at hl 0 rfl) ?_
  refine lv_if_lt (tgt := 38) hx hb dX9_types_3 (by decide) (fun c18 => absurd c18 (by decide)) (fun c18 => ?_)
  refine lv_aload_n hx hb dX9_types_6 rfl (lv_at hl 1 rfl) ?_
  refine pg_gr (b := b3) (ci := 9) (C := RX9) (T := TX9) (N := 63) hx hb hts wi9 hown hK hW (hF.k hk (by decide)) (by decide) rfl 0 (by decide) (hts (.fieldLink RX9 7 "IceHallModel" "tape" "[B") (by decide +kernel)) (fun _ h9 => h9) rfl (hF.r hk (by decide) rb3) dX9_types_7 ?_
  refine lv_aload_n hx hb dX9_types_10 rfl (lv_at hl 1 rfl) ?_
  refine pg_gi (ci := 9) (C := RX9) (T := TX9) (N := 63) hx hb hts wi9 hown hK hW (hF.k hk (by decide)) (by decide) rfl 1 (by decide) (hts (.fieldLink RX9 141 "IceHallModel" "taped" "I") (by decide +kernel)) (fun _ h9 => h9) rfl dX9_types_11 ?_
  rw [show sI S16 h 1 = ((sI S h 1) + 1) + 1 from w17]
  refine lv_iload_n hx hb dX9_types_14 rfl (lv_at hl 2 rfl) ?_
  refine lv_bipush (v := 8) hx hb dX9_types_15 (by decide) ?_
  refine lv_iload_n hx hb dX9_types_17 rfl (lv_at hl 0 rfl) ?_
  refine lv_imul hx hb dX9_types_18 ?_
  rw [show (8 * 1 : Int32) = 8 from by decide]
  refine lv_ishr hx hb dX9_types_19 ?_
  refine lv_i2b (v := Int8.toInt32 (Int32.toInt8 (a >>> (8 &&& 31)))) hx hb dX9_types_20 rfl ?_
  refine pg_bast hx hb hK hW hS (hF.k kb3 (by decide)) (by rw [show sL S16 b3 = 80 from (hF.n kb3 (by decide) nb3)]; exact r_in (by omega)) dX9_types_21 (fun H locs hW hS => ?_)
  have kq19 : sK S16 b3 = 10 := (hF.k kb3 (by decide))
  obtain ⟨S20, eS20⟩ : ∃ T : St, T = stI S16 b3 (Int32.toNatClampNeg (((sI S h 1) + 1) + 1)) (vp_nar .byte (Int8.toInt32 (Int32.toInt8 (a >>> (8 &&& 31))))) := ⟨_, rfl⟩
  rw [← eS20] at hW
  have hG : G S20 := by rw [eS20]; exact hG.I kq19 (ok_frA (by decide) (by decide))
  have w21 : sI S20 h 1 = ((sI S h 1) + 1) + 1 := by rw [eS20]; exact (iI_a (fk_ne (hF.k hk (by decide)) kq19 (by decide))).trans w17
  have hF : Fr [] [901, 1000] S S20 := by rw [eS20]; exact hF.IA kq19 (by decide) (by decide)
  clear eS20
  refine lv_aload_n hx hb dX9_types_22 rfl (lv_at hl 1 rfl) ?_
  refine lv_aload_n hx hb dX9_types_23 rfl (lv_at hl 1 rfl) ?_
  refine pg_gi (ci := 9) (C := RX9) (T := TX9) (N := 63) hx hb hts wi9 hown hK hW (hF.k hk (by decide)) (by decide) rfl 1 (by decide) (hts (.fieldLink RX9 141 "IceHallModel" "taped" "I") (by decide +kernel)) (fun _ h9 => h9) rfl dX9_types_24 ?_
  rw [show sI S20 h 1 = ((sI S h 1) + 1) + 1 from w21]
  refine lv_iconst (v := 1) hx hb dX9_types_27 (by decide) ?_
  refine lv_iadd hx hb dX9_types_28 ?_
  have l22 : ((((sI S h 1) + 1) + 1) + 1).toInt = Int32.toInt (((sI S h 1) + 1) + 1) + (1 : Int) := i3_add rfl rfl (by omega) (by omega)
  refine pg_pi (ci := 9) (C := RX9) (T := TX9) (N := 63) hx hb hts wi9 tyX9 tyX9_ok nmX9 hown hK hW hS (hF.k hk (by decide)) (by decide) rfl 1 (by decide) (hts (.fieldLink RX9 141 "IceHallModel" "taped" "I") (by decide +kernel)) (fun _ h9 => h9) rfl rfl rfl dX9_types_29 (fun H locs hW hS => ?_)
  have kq23 : sK S20 h = 9 := (hF.k hk (by decide))
  obtain ⟨S24, eS24⟩ : ∃ T : St, T = stI S20 h 1 ((((sI S h 1) + 1) + 1) + 1) := ⟨_, rfl⟩
  rw [← eS24] at hW
  have hG : G S24 := by rw [eS24]; exact hG.I kq23 (ok_in 0 80 (by decide) (⟨by omega, by omega⟩))
  have hF : Fr [] [901, 1000] S S24 := by rw [eS24]; exact hF.I kq23 (by decide)
  have w25 : sI S24 h 1 = (((sI S h 1) + 1) + 1) + 1 := by rw [eS24]; exact iI_s
  clear eS24
  refine lv_iinc (v := 0) (lv' := [(2, .int 0), (0, .ref h), (1, .int a)]) hx hb dX9_types_32 hl (k := 0) rfl (by decide) (by decide) rfl (fun ls hl => ?_)
  refine lv_goto (tgt := 2) hx hb dX9_types_35 (by decide) ?_
  refine lv_iload_n hx hb dX9_types_2 rfl (lv_at hl 0 rfl) ?_
  refine lv_if_lt (tgt := 38) hx hb dX9_types_3 (by decide) (fun c26 => absurd c26 (by decide)) (fun c26 => ?_)
  refine lv_aload_n hx hb dX9_types_6 rfl (lv_at hl 1 rfl) ?_
  refine pg_gr (b := b3) (ci := 9) (C := RX9) (T := TX9) (N := 63) hx hb hts wi9 hown hK hW (hF.k hk (by decide)) (by decide) rfl 0 (by decide) (hts (.fieldLink RX9 7 "IceHallModel" "tape" "[B") (by decide +kernel)) (fun _ h9 => h9) rfl (hF.r hk (by decide) rb3) dX9_types_7 ?_
  refine lv_aload_n hx hb dX9_types_10 rfl (lv_at hl 1 rfl) ?_
  refine pg_gi (ci := 9) (C := RX9) (T := TX9) (N := 63) hx hb hts wi9 hown hK hW (hF.k hk (by decide)) (by decide) rfl 1 (by decide) (hts (.fieldLink RX9 141 "IceHallModel" "taped" "I") (by decide +kernel)) (fun _ h9 => h9) rfl dX9_types_11 ?_
  rw [show sI S24 h 1 = (((sI S h 1) + 1) + 1) + 1 from w25]
  refine lv_iload_n hx hb dX9_types_14 rfl (lv_at hl 2 rfl) ?_
  refine lv_bipush (v := 8) hx hb dX9_types_15 (by decide) ?_
  refine lv_iload_n hx hb dX9_types_17 rfl (lv_at hl 0 rfl) ?_
  refine lv_imul hx hb dX9_types_18 ?_
  rw [show (8 * 0 : Int32) = 0 from by decide]
  refine lv_ishr hx hb dX9_types_19 ?_
  refine lv_i2b (v := Int8.toInt32 (Int32.toInt8 (a >>> (0 &&& 31)))) hx hb dX9_types_20 rfl ?_
  refine pg_bast hx hb hK hW hS (hF.k kb3 (by decide)) (by rw [show sL S24 b3 = 80 from (hF.n kb3 (by decide) nb3)]; exact r_in (by omega)) dX9_types_21 (fun H locs hW hS => ?_)
  have kq27 : sK S24 b3 = 10 := (hF.k kb3 (by decide))
  obtain ⟨S28, eS28⟩ : ∃ T : St, T = stI S24 b3 (Int32.toNatClampNeg ((((sI S h 1) + 1) + 1) + 1)) (vp_nar .byte (Int8.toInt32 (Int32.toInt8 (a >>> (0 &&& 31))))) := ⟨_, rfl⟩
  rw [← eS28] at hW
  have hG : G S28 := by rw [eS28]; exact hG.I kq27 (ok_frA (by decide) (by decide))
  have w29 : sI S28 h 1 = (((sI S h 1) + 1) + 1) + 1 := by rw [eS28]; exact (iI_a (fk_ne (hF.k hk (by decide)) kq27 (by decide))).trans w25
  have hF : Fr [] [901, 1000] S S28 := by rw [eS28]; exact hF.IA kq27 (by decide) (by decide)
  clear eS28
  refine lv_aload_n hx hb dX9_types_22 rfl (lv_at hl 1 rfl) ?_
  refine lv_aload_n hx hb dX9_types_23 rfl (lv_at hl 1 rfl) ?_
  refine pg_gi (ci := 9) (C := RX9) (T := TX9) (N := 63) hx hb hts wi9 hown hK hW (hF.k hk (by decide)) (by decide) rfl 1 (by decide) (hts (.fieldLink RX9 141 "IceHallModel" "taped" "I") (by decide +kernel)) (fun _ h9 => h9) rfl dX9_types_24 ?_
  rw [show sI S28 h 1 = (((sI S h 1) + 1) + 1) + 1 from w29]
  refine lv_iconst (v := 1) hx hb dX9_types_27 (by decide) ?_
  refine lv_iadd hx hb dX9_types_28 ?_
  have l30 : (((((sI S h 1) + 1) + 1) + 1) + 1).toInt = Int32.toInt ((((sI S h 1) + 1) + 1) + 1) + (1 : Int) := i3_add rfl rfl (by omega) (by omega)
  refine pg_pi (ci := 9) (C := RX9) (T := TX9) (N := 63) hx hb hts wi9 tyX9 tyX9_ok nmX9 hown hK hW hS (hF.k hk (by decide)) (by decide) rfl 1 (by decide) (hts (.fieldLink RX9 141 "IceHallModel" "taped" "I") (by decide +kernel)) (fun _ h9 => h9) rfl rfl rfl dX9_types_29 (fun H locs hW hS => ?_)
  have kq31 : sK S28 h = 9 := (hF.k hk (by decide))
  obtain ⟨S32, eS32⟩ : ∃ T : St, T = stI S28 h 1 (((((sI S h 1) + 1) + 1) + 1) + 1) := ⟨_, rfl⟩
  rw [← eS32] at hW
  have hG : G S32 := by rw [eS32]; exact hG.I kq31 (ok_in 0 80 (by decide) (⟨by omega, by omega⟩))
  have hF : Fr [] [901, 1000] S S32 := by rw [eS32]; exact hF.I kq31 (by decide)
  have w33 : sI S32 h 1 = ((((sI S h 1) + 1) + 1) + 1) + 1 := by rw [eS32]; exact iI_s
  clear eS32
  refine lv_iinc (v := (-1)) (lv' := [(2, .int ((-1))), (0, .ref h), (1, .int a)]) hx hb dX9_types_32 hl (k := 0) rfl (by decide) (by decide) rfl (fun ls hl => ?_)
  refine lv_goto (tgt := 2) hx hb dX9_types_35 (by decide) ?_
  refine lv_iload_n hx hb dX9_types_2 rfl (lv_at hl 0 rfl) ?_
  refine lv_if_lt (tgt := 38) hx hb dX9_types_3 (by decide) (fun c34 => ?_) (fun c34 => absurd (by decide) c34)
  have lk35 : (sI S32 h 1).toInt = (((((sI S h 1) + 1) + 1) + 1) + 1).toInt := by rw [show sI S32 h 1 = ((((sI S h 1) + 1) + 1) + 1) + 1 from w33]
  exact pc_vret (S := S32) hx hb hr hlk hK hZ hA hW hS (⟨hG, hF, by omega⟩) dX9_types_38
set_option maxHeartbeats 4000000 in
set_option maxRecDepth 100000 in
theorem b_X9_feed (l : Launch) (D : va_G) (cy : Nat → ClassId) (A : Nat → Prop) (S : St) (h : Nat) (a b d e2 f : Int32) (hG0 : G S) (hk : sK S h = 9) : MI l yX9_feed wsX9_feed ({ frames := 1, cells := 0, slots := 0, locals := 22 } : Room) 0 0 D cy A [.ref h, .int a, .int b, .int d, .int e2, .int f] S (fun r S1 => G S1 ∧ Fr [] [901, 1000] S S1 ∧ (((sI S h 1).toInt ≤ 60 → r = sI S1 h 1 ∧ (sI S1 h 1).toInt = (sI S h 1).toInt + 20) ∧ (60 < (sI S h 1).toInt → r = (-1) ∧ sI S1 h 1 = sI S h 1))) := by
  refine mt_start (cc := cX9_feed) (maxL := 6) (ret := (some .int)) (by decide) rfl (Nat.le_of_ble_eq_true rfl) ?_
  intro p e s m args below meth c hx hb hr hlk hml hown hnm hts hK hZ hA hW hS ls hl
  have hl : lv_has ls 6 [(0, .ref h), (1, .int a), (2, .int b), (3, .int d), (4, .int e2), (5, .int f)] := hl
  have hown : s.vm.findClass RX9 = some m.cls := hown
  have F : CallFix p m c cX9_feed 6 s args wsX9_feed RX9 := ⟨hx, hb, hml, hown, hts⟩
  have wi9 : ∀ w ∈ u_ws RX9 TX9 63, w ∈ wsX9_feed := by decide +kernel
  have hG := hG0
  have hF : Fr [] [901, 1000] S S := Fr.rf _ _ _
  refine lv_aload_n hx hb dX9_feed_0 rfl (lv_at hl 0 rfl) ?_
  refine pg_gi (ci := 9) (C := RX9) (T := TX9) (N := 63) hx hb hts wi9 hown hK hW hk (by decide) rfl 1 (by decide) (hts (.fieldLink RX9 141 "IceHallModel" "taped" "I") (by decide +kernel)) (fun _ h9 => h9) rfl dX9_feed_1 ?_
  have g1 : (0 : Int) ≤ (sI S h 1).toInt ∧ (sI S h 1).toInt ≤ 80 := hG.i hk (by decide) 1 (by decide)
  refine lv_bipush (v := 20) hx hb dX9_feed_4 (by decide) ?_
  refine lv_iadd hx hb dX9_feed_6 ?_
  have l2 : ((sI S h 1) + 20).toInt = Int32.toInt (sI S h 1) + (20 : Int) := i3_add rfl rfl (by omega) (by omega)
  refine lv_bipush (v := 80) hx hb dX9_feed_7 (by decide) ?_
  refine lv_icmp_le (tgt := 14) hx hb dX9_feed_9 (by decide) (fun c3 => ?_) (fun c3 => ?_)
  · have c3i : Int32.toInt ((sI S h 1) + 20) ≤ (80 : Int) := (i3_le _ _).mp c3
    refine lv_aload_n hx hb dX9_feed_14 rfl (lv_at hl 0 rfl) ?_
    refine lv_iload_n hx hb dX9_feed_15 rfl (lv_at hl 1 rfl) ?_
    refine pc_Vv (As := [.int a]) (rest := []) F (b_X9_types l D cy A S h a hG hk (by omega)) (cwV 1 hts gX9_feed_X9_types rfl rfl rfl (by decide +kernel) ⟨Nat.le_of_ble_eq_true rfl, Nat.le_of_ble_eq_true rfl⟩) hK hZ hA hW hS hk (by decide) rfl rfl hl.1 rfl (Nat.le_of_ble_eq_true rfl) dX9_feed_16 ⟨Nat.le_of_ble_eq_true rfl, Nat.le_of_ble_eq_true rfl⟩ (fun T5 H locs p6 hW hS => ?_)
    obtain ⟨hG, hFc, p6⟩ := p6
    have hF : Fr [] [901, 1000] S T5 := hF.tr (hFc.mono (by decide))
    refine lv_aload_n hx hb dX9_feed_19 rfl (lv_at hl 0 rfl) ?_
    refine lv_iload_n hx hb dX9_feed_20 rfl (lv_at hl 2 rfl) ?_
    refine pc_Vv (As := [.int b]) (rest := []) F (b_X9_types l D cy A T5 h b hG (hF.k hk (by decide)) (by omega)) (cwV 1 hts gX9_feed_X9_types rfl rfl rfl (by decide +kernel) ⟨Nat.le_of_ble_eq_true rfl, Nat.le_of_ble_eq_true rfl⟩) hK hZ hA hW hS (hF.k hk (by decide)) (by decide) rfl rfl hl.1 rfl (Nat.le_of_ble_eq_true rfl) dX9_feed_21 ⟨Nat.le_of_ble_eq_true rfl, Nat.le_of_ble_eq_true rfl⟩ (fun T8 H locs p9 hW hS => ?_)
    obtain ⟨hG, hFc, p9⟩ := p9
    have hF : Fr [] [901, 1000] S T8 := hF.tr (hFc.mono (by decide))
    refine lv_aload_n hx hb dX9_feed_24 rfl (lv_at hl 0 rfl) ?_
    refine lv_iload_n hx hb dX9_feed_25 rfl (lv_at hl 3 rfl) ?_
    refine pc_Vv (As := [.int d]) (rest := []) F (b_X9_types l D cy A T8 h d hG (hF.k hk (by decide)) (by omega)) (cwV 1 hts gX9_feed_X9_types rfl rfl rfl (by decide +kernel) ⟨Nat.le_of_ble_eq_true rfl, Nat.le_of_ble_eq_true rfl⟩) hK hZ hA hW hS (hF.k hk (by decide)) (by decide) rfl rfl hl.1 rfl (Nat.le_of_ble_eq_true rfl) dX9_feed_26 ⟨Nat.le_of_ble_eq_true rfl, Nat.le_of_ble_eq_true rfl⟩ (fun T11 H locs p12 hW hS => ?_)
    obtain ⟨hG, hFc, p12⟩ := p12
    have hF : Fr [] [901, 1000] S T11 := hF.tr (hFc.mono (by decide))
    refine lv_aload_n hx hb dX9_feed_29 rfl (lv_at hl 0 rfl) ?_
    refine lv_iload hx hb dX9_feed_30 (lv_at hl 4 rfl) ?_
    refine pc_Vv (As := [.int e2]) (rest := []) F (b_X9_types l D cy A T11 h e2 hG (hF.k hk (by decide)) (by omega)) (cwV 1 hts gX9_feed_X9_types rfl rfl rfl (by decide +kernel) ⟨Nat.le_of_ble_eq_true rfl, Nat.le_of_ble_eq_true rfl⟩) hK hZ hA hW hS (hF.k hk (by decide)) (by decide) rfl rfl hl.1 rfl (Nat.le_of_ble_eq_true rfl) dX9_feed_32 ⟨Nat.le_of_ble_eq_true rfl, Nat.le_of_ble_eq_true rfl⟩ (fun T14 H locs p15 hW hS => ?_)
    obtain ⟨hG, hFc, p15⟩ := p15
    have hF : Fr [] [901, 1000] S T14 := hF.tr (hFc.mono (by decide))
    refine lv_aload_n hx hb dX9_feed_35 rfl (lv_at hl 0 rfl) ?_
    refine lv_iload hx hb dX9_feed_36 (lv_at hl 5 rfl) ?_
    refine pc_Vv (As := [.int f]) (rest := []) F (b_X9_types l D cy A T14 h f hG (hF.k hk (by decide)) (by omega)) (cwV 1 hts gX9_feed_X9_types rfl rfl rfl (by decide +kernel) ⟨Nat.le_of_ble_eq_true rfl, Nat.le_of_ble_eq_true rfl⟩) hK hZ hA hW hS (hF.k hk (by decide)) (by decide) rfl rfl hl.1 rfl (Nat.le_of_ble_eq_true rfl) dX9_feed_38 ⟨Nat.le_of_ble_eq_true rfl, Nat.le_of_ble_eq_true rfl⟩ (fun T17 H locs p18 hW hS => ?_)
    obtain ⟨hG, hFc, p18⟩ := p18
    have hF : Fr [] [901, 1000] S T17 := hF.tr (hFc.mono (by decide))
    refine lv_aload_n hx hb dX9_feed_41 rfl (lv_at hl 0 rfl) ?_
    refine pg_gi (ci := 9) (C := RX9) (T := TX9) (N := 63) hx hb hts wi9 hown hK hW (hF.k hk (by decide)) (by decide) rfl 1 (by decide) (hts (.fieldLink RX9 141 "IceHallModel" "taped" "I") (by decide +kernel)) (fun _ h9 => h9) rfl dX9_feed_42 ?_
    have g19 : (0 : Int) ≤ (sI T17 h 1).toInt ∧ (sI T17 h 1).toInt ≤ 80 := hG.i (hF.k hk (by decide)) (by decide) 1 (by decide)
    exact pc_iret (v := sI T17 h 1) (S := T17) hx hb hr hlk hK hZ hA hW hS (⟨hG, hF, ⟨fun _ => ⟨rfl, by omega⟩, fun h9 => absurd h9 (by omega)⟩⟩) dX9_feed_45
  · have c3i : ¬ (Int32.toInt ((sI S h 1) + 20) ≤ (80 : Int)) := fun h9 => c3 ((i3_le _ _).mpr h9)
    refine lv_iconst (v := (-1)) hx hb dX9_feed_12 (by decide) ?_
    exact pc_iret (v := (-1)) (S := S) hx hb hr hlk hK hZ hA hW hS (⟨hG, hF, ⟨fun h9 => absurd h9 (by omega), fun _ => ⟨rfl, rfl⟩⟩⟩) dX9_feed_13
set_option maxHeartbeats 4000000 in
set_option maxRecDepth 100000 in
theorem b_X9_here (l : Launch) (D : va_G) (cy : Nat → ClassId) (A : Nat → Prop) (S : St) (h : Nat) (hG0 : G S) (hk : sK S h = 9) : MI l yX9_here wsX9_here ({ frames := 0, cells := 0, slots := 0, locals := 0 } : Room) 0 0 D cy A [.ref h] S (fun r S1 => S1 = S ∧ (0 ≤ r.toInt ∧ (¬ r.toInt = 0 → (sI S h 2).toInt < (sI S h 3).toInt))) := by
  refine mt_start (cc := cX9_here) (maxL := 1) (ret := (some .int)) (by decide) rfl (Nat.le_of_ble_eq_true rfl) ?_
  intro p e s m args below meth c hx hb hr hlk hml hown hnm hts hK hZ hA hW hS ls hl
  have hl : lv_has ls 1 [(0, .ref h)] := hl
  have hown : s.vm.findClass RX9 = some m.cls := hown
  have F : CallFix p m c cX9_here 1 s args wsX9_here RX9 := ⟨hx, hb, hml, hown, hts⟩
  have wi9 : ∀ w ∈ u_ws RX9 TX9 63, w ∈ wsX9_here := by decide +kernel
  have hG := hG0
  refine lv_aload_n hx hb dX9_here_0 rfl (lv_at hl 0 rfl) ?_
  refine pg_gi (ci := 9) (C := RX9) (T := TX9) (N := 63) hx hb hts wi9 hown hK hW hk (by decide) rfl 2 (by decide) (hts (.fieldLink RX9 148 "IceHallModel" "place" "I") (by decide +kernel)) (fun _ h9 => h9) rfl dX9_here_1 ?_
  have g1 : (0 : Int) ≤ (sI S h 2).toInt ∧ (sI S h 2).toInt ≤ 100 := hG.i hk (by decide) 2 (by decide)
  refine lv_aload_n hx hb dX9_here_4 rfl (lv_at hl 0 rfl) ?_
  refine pg_gi (ci := 9) (C := RX9) (T := TX9) (N := 63) hx hb hts wi9 hown hK hW hk (by decide) rfl 3 (by decide) (hts (.fieldLink RX9 151 "IceHallModel" "size" "I") (by decide +kernel)) (fun _ h9 => h9) rfl dX9_here_5 ?_
  have g2 : (0 : Int) ≤ (sI S h 3).toInt ∧ (sI S h 3).toInt ≤ 80 := hG.i hk (by decide) 3 (by decide)
  refine lv_icmp_ge (tgt := 27) hx hb dX9_here_8 (by decide) (fun c3 => ?_) (fun c3 => ?_)
  · have c3i : Int32.toInt (sI S h 3) ≤ Int32.toInt (sI S h 2) := (i3_le _ _).mp c3
    refine lv_iconst (v := 0) hx hb dX9_here_27 (by decide) ?_
    exact pc_iret (v := 0) (S := S) hx hb hr hlk hK hZ hA hW hS (⟨rfl, ⟨by decide, fun h9 => absurd rfl h9⟩⟩) dX9_here_28
  · have c3i : ¬ (Int32.toInt (sI S h 3) ≤ Int32.toInt (sI S h 2)) := fun h9 => c3 ((i3_le _ _).mpr h9)
    refine lv_aload_n hx hb dX9_here_11 rfl (lv_at hl 0 rfl) ?_
    obtain ⟨b4, rb4, kb4, nb4⟩ := hG0.r hk List.not_mem_nil 0 (show rty 9 0 = some (10, 80) from rfl)
    refine pg_gr (b := b4) (ci := 9) (C := RX9) (T := TX9) (N := 63) hx hb hts wi9 hown hK hW hk (by decide) rfl 0 (by decide) (hts (.fieldLink RX9 7 "IceHallModel" "tape" "[B") (by decide +kernel)) (fun _ h9 => h9) rfl rb4 dX9_here_12 ?_
    refine lv_aload_n hx hb dX9_here_15 rfl (lv_at hl 0 rfl) ?_
    refine pg_gi (ci := 9) (C := RX9) (T := TX9) (N := 63) hx hb hts wi9 hown hK hW hk (by decide) rfl 2 (by decide) (hts (.fieldLink RX9 148 "IceHallModel" "place" "I") (by decide +kernel)) (fun _ h9 => h9) rfl dX9_here_16 ?_
    have g5 : (0 : Int) ≤ (sI S h 2).toInt ∧ (sI S h 2).toInt ≤ 100 := hG.i hk (by decide) 2 (by decide)
    refine pg_bald hx hb hK hW kb4 (by rw [show sL S b4 = 80 from nb4]; exact r_in (by omega)) dX9_here_19 ?_
    refine lv_sipush (v := 255) hx hb dX9_here_20 (by decide) ?_
    refine lv_iand hx hb dX9_here_23 ?_
    have ha255 := and255 (sI S b4 (Int32.toNatClampNeg (sI S h 2)))
    refine lv_goto (tgt := 28) hx hb dX9_here_24 (by decide) ?_
    exact pc_iret (v := (sI S b4 (Int32.toNatClampNeg (sI S h 2))) &&& 255) (S := S) hx hb hr hlk hK hZ hA hW hS (⟨rfl, ⟨ha255.1, fun _ => by omega⟩⟩) dX9_here_28
set_option maxHeartbeats 4000000 in
set_option maxRecDepth 100000 in
theorem b_X9_isDigit (l : Launch) (D : va_G) (cy : Nat → ClassId) (A : Nat → Prop) (S : St) (h : Nat) (hG0 : G S) (hk : sK S h = 9) : MI l yX9_isDigit wsX9_isDigit ({ frames := 1, cells := 0, slots := 0, locals := 20 } : Room) 0 0 D cy A [.ref h] S (fun r S1 => S1 = S ∧ (¬ r.toInt = 0 → (sI S h 2).toInt < (sI S h 3).toInt)) := by
  refine mt_start (cc := cX9_isDigit) (maxL := 1) (ret := (some .boolean)) (by decide) rfl (Nat.le_of_ble_eq_true rfl) ?_
  intro p e s m args below meth c hx hb hr hlk hml hown hnm hts hK hZ hA hW hS ls hl
  have hl : lv_has ls 1 [(0, .ref h)] := hl
  have hown : s.vm.findClass RX9 = some m.cls := hown
  have F : CallFix p m c cX9_isDigit 1 s args wsX9_isDigit RX9 := ⟨hx, hb, hml, hown, hts⟩
  have hG := hG0
  refine lv_aload_n hx hb dX9_isDigit_0 rfl (lv_at hl 0 rfl) ?_
  refine pc_Vi (As := []) (rest := []) F (b_X9_here l D cy A S h hG hk) (cwV 0 hts gX9_isDigit_X9_here rfl rfl rfl (by decide +kernel) ⟨Nat.le_of_ble_eq_true rfl, Nat.le_of_ble_eq_true rfl⟩) hK hZ hA hW hS hk (by decide) rfl rfl hl.1 rfl (Nat.le_of_ble_eq_true rfl) dX9_isDigit_1 ⟨Nat.le_of_ble_eq_true rfl, Nat.le_of_ble_eq_true rfl⟩ (fun v1 T2 H locs p3 hW hS => ?_)
  obtain ⟨eT2, p3⟩ := p3
  rw [eT2] at hW
  clear eT2
  refine lv_bipush (v := 48) hx hb dX9_isDigit_4 (by decide) ?_
  refine lv_icmp_lt (tgt := 22) hx hb dX9_isDigit_6 (by decide) (fun c4 => ?_) (fun c4 => ?_)
  · have c4i : Int32.toInt v1 < (48 : Int) := (i3_lt _ _).mp c4
    refine lv_iconst (v := 0) hx hb dX9_isDigit_22 (by decide) ?_
    exact pc_zret (v := 0) (S := S) hx hb hr hlk hK hZ hA hW hS (by decide) (⟨rfl, fun h9 => absurd rfl h9⟩) dX9_isDigit_23
  · have c4i : ¬ (Int32.toInt v1 < (48 : Int)) := fun h9 => c4 ((i3_lt _ _).mpr h9)
    refine lv_aload_n hx hb dX9_isDigit_9 rfl (lv_at hl 0 rfl) ?_
    refine pc_Vi (As := []) (rest := []) F (b_X9_here l D cy A S h hG hk) (cwV 0 hts gX9_isDigit_X9_here rfl rfl rfl (by decide +kernel) ⟨Nat.le_of_ble_eq_true rfl, Nat.le_of_ble_eq_true rfl⟩) hK hZ hA hW hS hk (by decide) rfl rfl hl.1 rfl (Nat.le_of_ble_eq_true rfl) dX9_isDigit_10 ⟨Nat.le_of_ble_eq_true rfl, Nat.le_of_ble_eq_true rfl⟩ (fun v5 T6 H locs p7 hW hS => ?_)
    obtain ⟨eT6, p7⟩ := p7
    rw [eT6] at hW
    clear eT6
    refine lv_bipush (v := 57) hx hb dX9_isDigit_13 (by decide) ?_
    refine lv_icmp_gt (tgt := 22) hx hb dX9_isDigit_15 (by decide) (fun c8 => ?_) (fun c8 => ?_)
    · have c8i : (57 : Int) < Int32.toInt v5 := (i3_lt _ _).mp c8
      refine lv_iconst (v := 0) hx hb dX9_isDigit_22 (by decide) ?_
      exact pc_zret (v := 0) (S := S) hx hb hr hlk hK hZ hA hW hS (by decide) (⟨rfl, fun h9 => absurd rfl h9⟩) dX9_isDigit_23
    · have c8i : ¬ ((57 : Int) < Int32.toInt v5) := fun h9 => c8 ((i3_lt _ _).mpr h9)
      refine lv_iconst (v := 1) hx hb dX9_isDigit_18 (by decide) ?_
      refine lv_goto (tgt := 23) hx hb dX9_isDigit_19 (by decide) ?_
      exact pc_zret (v := 1) (S := S) hx hb hr hlk hK hZ hA hW hS (by decide) (⟨rfl, fun _ => by omega⟩) dX9_isDigit_23
set_option maxHeartbeats 4000000 in
set_option maxRecDepth 100000 in
theorem b_X9_wrong (l : Launch) (D : va_G) (cy : Nat → ClassId) (A : Nat → Prop) (S : St) (h : Nat) (a b : Int32) (hG0 : G S) (hk : sK S h = 9) : MI l yX9_wrong wsX9_wrong ({ frames := 0, cells := 0, slots := 0, locals := 0 } : Room) 0 0 D cy A [.ref h, .int a, .int b] S (fun r S1 => G S1 ∧ Fr [] [904] S S1 ∧ (r = 0)) := by
  refine mt_start (cc := cX9_wrong) (maxL := 3) (ret := (some .boolean)) (by decide) rfl (Nat.le_of_ble_eq_true rfl) ?_
  intro p e s m args below meth c hx hb hr hlk hml hown hnm hts hK hZ hA hW hS ls hl
  have hl : lv_has ls 3 [(0, .ref h), (1, .int a), (2, .int b)] := hl
  have hown : s.vm.findClass RX9 = some m.cls := hown
  have F : CallFix p m c cX9_wrong 3 s args wsX9_wrong RX9 := ⟨hx, hb, hml, hown, hts⟩
  have wi9 : ∀ w ∈ u_ws RX9 TX9 63, w ∈ wsX9_wrong := by decide +kernel
  have hG := hG0
  have hF : Fr [] [904] S S := Fr.rf _ _ _
  refine lv_aload_n hx hb dX9_wrong_0 rfl (lv_at hl 0 rfl) ?_
  refine lv_bipush (v := 100) hx hb dX9_wrong_1 (by decide) ?_
  refine lv_iload_n hx hb dX9_wrong_3 rfl (lv_at hl 1 rfl) ?_
  refine lv_imul hx hb dX9_wrong_4 ?_
  refine lv_iload_n hx hb dX9_wrong_5 rfl (lv_at hl 2 rfl) ?_
  refine lv_iadd hx hb dX9_wrong_6 ?_
  refine pg_pi (ci := 9) (C := RX9) (T := TX9) (N := 63) hx hb hts wi9 tyX9 tyX9_ok nmX9 hown hK hW hS hk (by decide) rfl 4 (by decide) (hts (.fieldLink RX9 158 "IceHallModel" "fault" "I") (by decide +kernel)) (fun _ h9 => h9) rfl rfl rfl dX9_wrong_7 (fun H locs hW hS => ?_)
  obtain ⟨S1, eS1⟩ : ∃ T : St, T = stI S h 4 ((100 * a) + b) := ⟨_, rfl⟩
  rw [← eS1] at hW
  have hG : G S1 := by rw [eS1]; exact hG.I hk (ok_fr (by decide))
  have hF : Fr [] [904] S S1 := by rw [eS1]; exact hF.I hk (by decide)
  clear eS1
  refine lv_iconst (v := 0) hx hb dX9_wrong_10 (by decide) ?_
  exact pc_zret (v := 0) (S := S1) hx hb hr hlk hK hZ hA hW hS (by decide) (⟨hG, hF, rfl⟩) dX9_wrong_11
