theorem bh_neg {a : Int32} (h0 : 0 ≤ a.toInt) (h7 : a.toInt ≤ 7) : -4 ≤ ((-(a + 1)) / 2).toInt ∧ ((-(a + 1)) / 2).toInt ≤ 3 := by
  obtain ⟨j, hj, rfl⟩ := nn_of h0
  have h2 : j < 8 := by rw [nI_toInt hj] at h7; omega
  have hd : ∀ k, k < 8 → -4 ≤ ((-(nI k + 1)) / 2).toInt ∧ ((-(nI k + 1)) / 2).toInt ≤ 3 := by decide +kernel
  exact hd j h2
theorem bh_pos {a : Int32} (h0 : 0 ≤ a.toInt) (h7 : a.toInt ≤ 7) : -4 ≤ (a / 2).toInt ∧ (a / 2).toInt ≤ 3 := by
  obtain ⟨j, hj, rfl⟩ := nn_of h0
  have h2 : j < 8 := by rw [nI_toInt hj] at h7; omega
  have hd : ∀ k, k < 8 → -4 ≤ (nI k / 2).toInt ∧ (nI k / 2).toInt ≤ 3 := by decide +kernel
  exact hd j h2
theorem hf_7 {a : Int32} (h0 : 0 ≤ a.toInt) (h7 : a.toInt ≤ 14) : 0 ≤ (a / 2).toInt ∧ (a / 2).toInt ≤ 7 := by
  obtain ⟨j, hj, rfl⟩ := nn_of h0
  have h2 : j < 15 := by rw [nI_toInt hj] at h7; omega
  have hd : ∀ k, k < 15 → 0 ≤ (nI k / 2).toInt ∧ (nI k / 2).toInt ≤ 7 := by decide +kernel
  exact hd j h2
theorem rem15 {x : Int32} (h : 0 ≤ x.toInt) : 0 ≤ (x - x / 15 * 15).toInt ∧ (x - x / 15 * 15).toInt < 15 := rem_t h (n := 15) (by decide) (by decide)
theorem div15 {x : Int32} (h : 0 ≤ x.toInt) : 0 ≤ (x / 15).toInt := div_t h (n := 15) (by decide) (by decide)
theorem and255 (x : Int32) : 0 ≤ (x &&& 255).toInt ∧ (x &&& 255).toInt ≤ 255 := by
  rw [pk_and x (m := 255) 8 (by decide), nI_toInt (by have := Nat.mod_lt (x.toBitVec.toNat) (show 0 < 2 ^ 8 by decide); omega)]
  have := Nat.mod_lt (x.toBitVec.toNat) (show 0 < 2 ^ 8 by decide)
  omega
theorem i64_ne {x : Int32} (h : ¬ x.toInt = 0) : ¬ x.toInt64 = 0 := fun e => h (by
  have h1 : x.toInt64.toInt = (0 : Int64).toInt := by rw [e]
  rw [Int32.toInt_toInt64] at h1
  exact h1)
set_option maxHeartbeats 4000000 in
set_option maxRecDepth 100000 in
theorem b_X9_isClub (l : Launch) (D : va_G) (cy : Nat → ClassId) (A : Nat → Prop) (S : St) (a : Int32)  : MI l yX9_isClub wsX9_isClub ({ frames := 0, cells := 0, slots := 0, locals := 0 } : Room) 0 0 D cy A [.int a] S (fun r S1 => S1 = S ∧ ((r.toInt = 1 ∧ 0 ≤ a.toInt ∧ a.toInt < 6) ∨ (r.toInt = 0 ∧ ¬ (0 ≤ a.toInt ∧ a.toInt < 6)))) := by
  refine mt_start (cc := cX9_isClub) (maxL := 1) (ret := (some .boolean)) (by decide) rfl (Nat.le_of_ble_eq_true rfl) ?_
  intro p e s m args below meth c hx hb hr hlk hml hown hnm hts hK hZ hA hW hS ls hl
  have hl : lv_has ls 1 [(0, .int a)] := hl
  have hown : s.vm.findClass RX9 = some m.cls := hown
  have F : CallFix p m c cX9_isClub 1 s args wsX9_isClub RX9 := ⟨hx, hb, hml, hown, hts⟩
  refine lv_iload_n hx hb dX9_isClub_0 rfl (lv_at hl 0 rfl) ?_
  refine lv_if_lt (tgt := 14) hx hb dX9_isClub_1 (by decide) (fun c1 => ?_) (fun c1 => ?_)
  · have c1i : Int32.toInt a < (0 : Int) := (i3_lt _ _).mp c1
    refine lv_iconst (v := 0) hx hb dX9_isClub_14 (by decide) ?_
    exact pc_zret (v := 0) (S := S) hx hb hr hlk hK hZ hA hW hS (by decide) (⟨rfl, Or.inr ⟨rfl, by omega⟩⟩) dX9_isClub_15
  · have c1i : ¬ (Int32.toInt a < (0 : Int)) := fun h9 => c1 ((i3_lt _ _).mpr h9)
    refine lv_iload_n hx hb dX9_isClub_4 rfl (lv_at hl 0 rfl) ?_
    refine lv_bipush (v := 6) hx hb dX9_isClub_5 (by decide) ?_
    refine lv_icmp_ge (tgt := 14) hx hb dX9_isClub_7 (by decide) (fun c2 => ?_) (fun c2 => ?_)
    · have c2i : (6 : Int) ≤ Int32.toInt a := (i3_le _ _).mp c2
      refine lv_iconst (v := 0) hx hb dX9_isClub_14 (by decide) ?_
      exact pc_zret (v := 0) (S := S) hx hb hr hlk hK hZ hA hW hS (by decide) (⟨rfl, Or.inr ⟨rfl, by omega⟩⟩) dX9_isClub_15
    · have c2i : ¬ ((6 : Int) ≤ Int32.toInt a) := fun h9 => c2 ((i3_le _ _).mpr h9)
      refine lv_iconst (v := 1) hx hb dX9_isClub_10 (by decide) ?_
      refine lv_goto (tgt := 15) hx hb dX9_isClub_11 (by decide) ?_
      exact pc_zret (v := 1) (S := S) hx hb hr hlk hK hZ hA hW hS (by decide) (⟨rfl, Or.inl ⟨rfl, by omega⟩⟩) dX9_isClub_15
set_option maxHeartbeats 4000000 in
set_option maxRecDepth 100000 in
theorem b_X9_isSheet (l : Launch) (D : va_G) (cy : Nat → ClassId) (A : Nat → Prop) (S : St) (a : Int32)  : MI l yX9_isSheet wsX9_isSheet ({ frames := 0, cells := 0, slots := 0, locals := 0 } : Room) 0 0 D cy A [.int a] S (fun r S1 => S1 = S ∧ ((r.toInt = 1 ∧ 0 ≤ a.toInt ∧ a.toInt < 2) ∨ (r.toInt = 0 ∧ ¬ (0 ≤ a.toInt ∧ a.toInt < 2)))) := by
  refine mt_start (cc := cX9_isSheet) (maxL := 1) (ret := (some .boolean)) (by decide) rfl (Nat.le_of_ble_eq_true rfl) ?_
  intro p e s m args below meth c hx hb hr hlk hml hown hnm hts hK hZ hA hW hS ls hl
  have hl : lv_has ls 1 [(0, .int a)] := hl
  have hown : s.vm.findClass RX9 = some m.cls := hown
  have F : CallFix p m c cX9_isSheet 1 s args wsX9_isSheet RX9 := ⟨hx, hb, hml, hown, hts⟩
  refine lv_iload_n hx hb dX9_isSheet_0 rfl (lv_at hl 0 rfl) ?_
  refine lv_if_lt (tgt := 13) hx hb dX9_isSheet_1 (by decide) (fun c1 => ?_) (fun c1 => ?_)
  · have c1i : Int32.toInt a < (0 : Int) := (i3_lt _ _).mp c1
    refine lv_iconst (v := 0) hx hb dX9_isSheet_13 (by decide) ?_
    exact pc_zret (v := 0) (S := S) hx hb hr hlk hK hZ hA hW hS (by decide) (⟨rfl, Or.inr ⟨rfl, by omega⟩⟩) dX9_isSheet_14
  · have c1i : ¬ (Int32.toInt a < (0 : Int)) := fun h9 => c1 ((i3_lt _ _).mpr h9)
    refine lv_iload_n hx hb dX9_isSheet_4 rfl (lv_at hl 0 rfl) ?_
    refine lv_iconst (v := 2) hx hb dX9_isSheet_5 (by decide) ?_
    refine lv_icmp_ge (tgt := 13) hx hb dX9_isSheet_6 (by decide) (fun c2 => ?_) (fun c2 => ?_)
    · have c2i : (2 : Int) ≤ Int32.toInt a := (i3_le _ _).mp c2
      refine lv_iconst (v := 0) hx hb dX9_isSheet_13 (by decide) ?_
      exact pc_zret (v := 0) (S := S) hx hb hr hlk hK hZ hA hW hS (by decide) (⟨rfl, Or.inr ⟨rfl, by omega⟩⟩) dX9_isSheet_14
    · have c2i : ¬ ((2 : Int) ≤ Int32.toInt a) := fun h9 => c2 ((i3_le _ _).mpr h9)
      refine lv_iconst (v := 1) hx hb dX9_isSheet_9 (by decide) ?_
      refine lv_goto (tgt := 14) hx hb dX9_isSheet_10 (by decide) ?_
      exact pc_zret (v := 1) (S := S) hx hb hr hlk hK hZ hA hW hS (by decide) (⟨rfl, Or.inl ⟨rfl, by omega⟩⟩) dX9_isSheet_14
set_option maxHeartbeats 4000000 in
set_option maxRecDepth 100000 in
theorem b_X9_rutsOf (l : Launch) (D : va_G) (cy : Nat → ClassId) (A : Nat → Prop) (S : St) (a : Int32)  : MI l yX9_rutsOf wsX9_rutsOf ({ frames := 0, cells := 0, slots := 0, locals := 0 } : Room) 0 0 D cy A [.int a] S (fun r S1 => S1 = S ∧ True) := by
  refine mt_start (cc := cX9_rutsOf) (maxL := 1) (ret := (some .int)) (by decide) rfl (Nat.le_of_ble_eq_true rfl) ?_
  intro p e s m args below meth c hx hb hr hlk hml hown hnm hts hK hZ hA hW hS ls hl
  have hl : lv_has ls 1 [(0, .int a)] := hl
  have hown : s.vm.findClass RX9 = some m.cls := hown
  have F : CallFix p m c cX9_rutsOf 1 s args wsX9_rutsOf RX9 := ⟨hx, hb, hml, hown, hts⟩
  refine lv_iload_n hx hb dX9_rutsOf_0 rfl (lv_at hl 0 rfl) ?_
  refine lv_if_ne (tgt := 9) hx hb dX9_rutsOf_1 (by decide) (fun c1 => ?_) (fun c1 => ?_)
  · have c1i : ¬ (Int32.toInt a = (0 : Int)) := fun h9 => c1 ((i3_eq _ _).mpr h9)
    refine lv_iload_n hx hb dX9_rutsOf_9 rfl (lv_at hl 0 rfl) ?_
    refine lv_iconst (v := 1) hx hb dX9_rutsOf_10 (by decide) ?_
    refine lv_icmp_ne (tgt := 19) hx hb dX9_rutsOf_11 (by decide) (fun c2 => ?_) (fun c2 => ?_)
    · have c2i : ¬ (Int32.toInt a = (1 : Int)) := fun h9 => c2 ((i3_eq _ _).mpr h9)
      refine lv_iload_n hx hb dX9_rutsOf_19 rfl (lv_at hl 0 rfl) ?_
      refine lv_iconst (v := 2) hx hb dX9_rutsOf_20 (by decide) ?_
      refine lv_icmp_ne (tgt := 29) hx hb dX9_rutsOf_21 (by decide) (fun c3 => ?_) (fun c3 => ?_)
      · have c3i : ¬ (Int32.toInt a = (2 : Int)) := fun h9 => c3 ((i3_eq _ _).mpr h9)
        refine lv_iconst (v := 5) hx hb dX9_rutsOf_29 (by decide) ?_
        exact pc_iret (v := 5) (S := S) hx hb hr hlk hK hZ hA hW hS (⟨rfl, trivial⟩) dX9_rutsOf_30
      · have c3i : Int32.toInt a = (2 : Int) := (i3_eq _ _).mp c3
        refine lv_bipush (v := 20) hx hb dX9_rutsOf_24 (by decide) ?_
        refine lv_goto (tgt := 30) hx hb dX9_rutsOf_26 (by decide) ?_
        exact pc_iret (v := 20) (S := S) hx hb hr hlk hK hZ hA hW hS (⟨rfl, trivial⟩) dX9_rutsOf_30
    · have c2i : Int32.toInt a = (1 : Int) := (i3_eq _ _).mp c2
      refine lv_bipush (v := 30) hx hb dX9_rutsOf_14 (by decide) ?_
      refine lv_goto (tgt := 30) hx hb dX9_rutsOf_16 (by decide) ?_
      exact pc_iret (v := 30) (S := S) hx hb hr hlk hK hZ hA hW hS (⟨rfl, trivial⟩) dX9_rutsOf_30
  · have c1i : Int32.toInt a = (0 : Int) := (i3_eq _ _).mp c1
    refine lv_bipush (v := 10) hx hb dX9_rutsOf_4 (by decide) ?_
    refine lv_goto (tgt := 30) hx hb dX9_rutsOf_6 (by decide) ?_
    exact pc_iret (v := 10) (S := S) hx hb hr hlk hK hZ hA hW hS (⟨rfl, trivial⟩) dX9_rutsOf_30
set_option maxHeartbeats 4000000 in
set_option maxRecDepth 100000 in
theorem b_X9_heatOf (l : Launch) (D : va_G) (cy : Nat → ClassId) (A : Nat → Prop) (S : St) (a : Int32)  : MI l yX9_heatOf wsX9_heatOf ({ frames := 0, cells := 0, slots := 0, locals := 0 } : Room) 0 0 D cy A [.int a] S (fun r S1 => S1 = S ∧ True) := by
  refine mt_start (cc := cX9_heatOf) (maxL := 1) (ret := (some .int)) (by decide) rfl (Nat.le_of_ble_eq_true rfl) ?_
  intro p e s m args below meth c hx hb hr hlk hml hown hnm hts hK hZ hA hW hS ls hl
  have hl : lv_has ls 1 [(0, .int a)] := hl
  have hown : s.vm.findClass RX9 = some m.cls := hown
  have F : CallFix p m c cX9_heatOf 1 s args wsX9_heatOf RX9 := ⟨hx, hb, hml, hown, hts⟩
  refine lv_iload_n hx hb dX9_heatOf_0 rfl (lv_at hl 0 rfl) ?_
  refine lv_if_ne (tgt := 8) hx hb dX9_heatOf_1 (by decide) (fun c1 => ?_) (fun c1 => ?_)
  · have c1i : ¬ (Int32.toInt a = (0 : Int)) := fun h9 => c1 ((i3_eq _ _).mpr h9)
    refine lv_iload_n hx hb dX9_heatOf_8 rfl (lv_at hl 0 rfl) ?_
    refine lv_iconst (v := 1) hx hb dX9_heatOf_9 (by decide) ?_
    refine lv_icmp_ne (tgt := 18) hx hb dX9_heatOf_10 (by decide) (fun c2 => ?_) (fun c2 => ?_)
    · have c2i : ¬ (Int32.toInt a = (1 : Int)) := fun h9 => c2 ((i3_eq _ _).mpr h9)
      refine lv_iload_n hx hb dX9_heatOf_18 rfl (lv_at hl 0 rfl) ?_
      refine lv_iconst (v := 2) hx hb dX9_heatOf_19 (by decide) ?_
      refine lv_icmp_ne (tgt := 28) hx hb dX9_heatOf_20 (by decide) (fun c3 => ?_) (fun c3 => ?_)
      · have c3i : ¬ (Int32.toInt a = (2 : Int)) := fun h9 => c3 ((i3_eq _ _).mpr h9)
        refine lv_iconst (v := 2) hx hb dX9_heatOf_28 (by decide) ?_
        exact pc_iret (v := 2) (S := S) hx hb hr hlk hK hZ hA hW hS (⟨rfl, trivial⟩) dX9_heatOf_29
      · have c3i : Int32.toInt a = (2 : Int) := (i3_eq _ _).mp c3
        refine lv_bipush (v := 6) hx hb dX9_heatOf_23 (by decide) ?_
        refine lv_goto (tgt := 29) hx hb dX9_heatOf_25 (by decide) ?_
        exact pc_iret (v := 6) (S := S) hx hb hr hlk hK hZ hA hW hS (⟨rfl, trivial⟩) dX9_heatOf_29
    · have c2i : Int32.toInt a = (1 : Int) := (i3_eq _ _).mp c2
      refine lv_bipush (v := 9) hx hb dX9_heatOf_13 (by decide) ?_
      refine lv_goto (tgt := 29) hx hb dX9_heatOf_15 (by decide) ?_
      exact pc_iret (v := 9) (S := S) hx hb hr hlk hK hZ hA hW hS (⟨rfl, trivial⟩) dX9_heatOf_29
  · have c1i : Int32.toInt a = (0 : Int) := (i3_eq _ _).mp c1
    refine lv_iconst (v := 4) hx hb dX9_heatOf_4 (by decide) ?_
    refine lv_goto (tgt := 29) hx hb dX9_heatOf_5 (by decide) ?_
    exact pc_iret (v := 4) (S := S) hx hb hr hlk hK hZ hA hW hS (⟨rfl, trivial⟩) dX9_heatOf_29
set_option maxHeartbeats 4000000 in
set_option maxRecDepth 100000 in
theorem b_X9_halfOf (l : Launch) (D : va_G) (cy : Nat → ClassId) (A : Nat → Prop) (S : St) (a : Int32)  : MI l yX9_halfOf wsX9_halfOf ({ frames := 0, cells := 0, slots := 0, locals := 0 } : Room) 0 0 D cy A [.int a] S (fun r S1 => S1 = S ∧ True) := by
  refine mt_start (cc := cX9_halfOf) (maxL := 1) (ret := (some .int)) (by decide) rfl (Nat.le_of_ble_eq_true rfl) ?_
  intro p e s m args below meth c hx hb hr hlk hml hown hnm hts hK hZ hA hW hS ls hl
  have hl : lv_has ls 1 [(0, .int a)] := hl
  have hown : s.vm.findClass RX9 = some m.cls := hown
  have F : CallFix p m c cX9_halfOf 1 s args wsX9_halfOf RX9 := ⟨hx, hb, hml, hown, hts⟩
  refine lv_iload_n hx hb dX9_halfOf_0 rfl (lv_at hl 0 rfl) ?_
  refine lv_if_ge (tgt := 8) hx hb dX9_halfOf_1 (by decide) (fun c1 => ?_) (fun c1 => ?_)
  · have c1i : (0 : Int) ≤ Int32.toInt a := (i3_le _ _).mp c1
    refine lv_iload_n hx hb dX9_halfOf_8 rfl (lv_at hl 0 rfl) ?_
    refine lv_iconst (v := 2) hx hb dX9_halfOf_9 (by decide) ?_
    refine lv_idiv hx hb dX9_halfOf_10 (by decide) ?_
    exact pc_iret (v := a / 2) (S := S) hx hb hr hlk hK hZ hA hW hS (⟨rfl, trivial⟩) dX9_halfOf_11
  · have c1i : ¬ ((0 : Int) ≤ Int32.toInt a) := fun h9 => c1 ((i3_le _ _).mpr h9)
    refine lv_iconst (v := 0) hx hb dX9_halfOf_4 (by decide) ?_
    refine lv_goto (tgt := 11) hx hb dX9_halfOf_5 (by decide) ?_
    exact pc_iret (v := 0) (S := S) hx hb hr hlk hK hZ hA hW hS (⟨rfl, trivial⟩) dX9_halfOf_11
set_option maxHeartbeats 4000000 in
set_option maxRecDepth 100000 in
theorem b_X9_behind (l : Launch) (D : va_G) (cy : Nat → ClassId) (A : Nat → Prop) (S : St) (a : Int32) (h0 : 0 ≤ a.toInt) (h7 : a.toInt ≤ 7) : MI l yX9_behind wsX9_behind ({ frames := 0, cells := 0, slots := 0, locals := 0 } : Room) 0 0 D cy A [.int a] S (fun r S1 => S1 = S ∧ (-4 ≤ r.toInt ∧ r.toInt ≤ 3)) := by
  refine mt_start (cc := cX9_behind) (maxL := 1) (ret := (some .int)) (by decide) rfl (Nat.le_of_ble_eq_true rfl) ?_
  intro p e s m args below meth c hx hb hr hlk hml hown hnm hts hK hZ hA hW hS ls hl
  have hl : lv_has ls 1 [(0, .int a)] := hl
  have hown : s.vm.findClass RX9 = some m.cls := hown
  have F : CallFix p m c cX9_behind 1 s args wsX9_behind RX9 := ⟨hx, hb, hml, hown, hts⟩
  refine lv_iload_n hx hb dX9_behind_0 rfl (lv_at hl 0 rfl) ?_
  refine lv_if_ne (tgt := 8) hx hb dX9_behind_1 (by decide) (fun c1 => ?_) (fun c1 => ?_)
  · have c1i : ¬ (Int32.toInt a = (0 : Int)) := fun h9 => c1 ((i3_eq _ _).mpr h9)
    refine lv_iload_n hx hb dX9_behind_8 rfl (lv_at hl 0 rfl) ?_
    refine lv_iconst (v := 2) hx hb dX9_behind_9 (by decide) ?_
    refine lv_irem hx hb dX9_behind_10 (by decide) ?_
    refine lv_iconst (v := 1) hx hb dX9_behind_11 (by decide) ?_
    refine lv_icmp_ne (tgt := 24) hx hb dX9_behind_12 (by decide) (fun c2 => ?_) (fun c2 => ?_)
    · have c2i : ¬ (Int32.toInt (a - a / 2 * 2) = (1 : Int)) := fun h9 => c2 ((i3_eq _ _).mpr h9)
      refine lv_iload_n hx hb dX9_behind_24 rfl (lv_at hl 0 rfl) ?_
      refine lv_iconst (v := 2) hx hb dX9_behind_25 (by decide) ?_
      refine lv_idiv hx hb dX9_behind_26 (by decide) ?_
      exact pc_iret (v := a / 2) (S := S) hx hb hr hlk hK hZ hA hW hS (⟨rfl, bh_pos h0 h7⟩) dX9_behind_27
    · have c2i : Int32.toInt (a - a / 2 * 2) = (1 : Int) := (i3_eq _ _).mp c2
      refine lv_iload_n hx hb dX9_behind_15 rfl (lv_at hl 0 rfl) ?_
      refine lv_iconst (v := 1) hx hb dX9_behind_16 (by decide) ?_
      refine lv_iadd hx hb dX9_behind_17 ?_
      refine lv_ineg hx hb dX9_behind_18 ?_
      refine lv_iconst (v := 2) hx hb dX9_behind_19 (by decide) ?_
      refine lv_idiv hx hb dX9_behind_20 (by decide) ?_
      refine lv_goto (tgt := 27) hx hb dX9_behind_21 (by decide) ?_
      exact pc_iret (v := (-(a + 1)) / 2) (S := S) hx hb hr hlk hK hZ hA hW hS (⟨rfl, bh_neg h0 h7⟩) dX9_behind_27
  · have c1i : Int32.toInt a = (0 : Int) := (i3_eq _ _).mp c1
    refine lv_iconst (v := 0) hx hb dX9_behind_4 (by decide) ?_
    refine lv_goto (tgt := 27) hx hb dX9_behind_5 (by decide) ?_
    exact pc_iret (v := 0) (S := S) hx hb hr hlk hK hZ hA hW hS (⟨rfl, by decide⟩) dX9_behind_27
set_option maxHeartbeats 4000000 in
set_option maxRecDepth 100000 in
theorem b_X9_types (l : Launch) (D : va_G) (cy : Nat → ClassId) (A : Nat → Prop) (S : St) (h bt : Nat) (a : Int32) (hG0 : G S) (hk : sK S h = 9) (hr0 : sR S h 0 = some bt) (hkb : sK S bt = 10) (hlb : sL S bt = 80) (hs : (sI S h 1).toInt ≤ 76) : MV l yX9_types wsX9_types ({ frames := 0, cells := 0, slots := 0, locals := 0 } : Room) 0 0 D cy A [.ref h, .int a] S (fun S1 => G S1 ∧ Fr [] [901, 1000] S S1 ∧ ((sI S1 h 1).toInt = (sI S h 1).toInt + 4 ∧ sI S1 bt = pw4 (sI S bt) (sI S h 1).toInt.toNat a)) := by
  refine mt_start (cc := cX9_types) (maxL := 3) (ret := none) (by decide) rfl (Nat.le_of_ble_eq_true rfl) ?_
  intro p e s m args below meth c hx hb hr hlk hml hown hnm hts hK hZ hA hW hS ls hl
  have hl : lv_has ls 3 [(0, .ref h), (1, .int a)] := hl
  have hown : s.vm.findClass RX9 = some m.cls := hown
  have F : CallFix p m c cX9_types 3 s args wsX9_types RX9 := ⟨hx, hb, hml, hown, hts⟩
  have wi9 : ∀ w ∈ u_ws RX9 TX9 63, w ∈ wsX9_types := by decide +kernel
  have hG := hG0
  have hF : Fr [] [901, 1000] S S := Fr.rf _ _ _
  have hC : sI S bt = sI S bt := rfl
  have g1 : (0 : Int) ≤ (sI S h 1).toInt ∧ (sI S h 1).toInt ≤ 80 := hG0.i hk (by decide) 1 (by decide)
  refine lv_iconst (v := 3) hx hb dX9_types_0 (by decide) ?_
  refine lv_istore_n (lv' := [(2, .int 3), (0, .ref h), (1, .int a)]) hx hb dX9_types_1 rfl hl (by decide) rfl (fun ls hl => ?_)
  refine lv_iload_n hx hb dX9_types_2 rfl (lv_at hl 0 rfl) ?_
  refine lv_if_lt (tgt := 38) hx hb dX9_types_3 (by decide) (fun c2 => absurd c2 (by decide)) (fun c2 => ?_)
  refine lv_aload_n hx hb dX9_types_6 rfl (lv_at hl 1 rfl) ?_
  refine pg_gr (b := bt) (ci := 9) (C := RX9) (T := TX9) (N := 63) hx hb hts wi9 hown hK hW hk (by decide) rfl 0 (by decide) (hts (.fieldLink RX9 7 "IceHallModel" "tape" "[B") (by decide +kernel)) (fun _ h9 => h9) rfl hr0 dX9_types_7 ?_
  refine lv_aload_n hx hb dX9_types_10 rfl (lv_at hl 1 rfl) ?_
  refine pg_gi (ci := 9) (C := RX9) (T := TX9) (N := 63) hx hb hts wi9 hown hK hW hk (by decide) rfl 1 (by decide) (hts (.fieldLink RX9 141 "IceHallModel" "taped" "I") (by decide +kernel)) (fun _ h9 => h9) rfl dX9_types_11 ?_
  rw [show sI S h 1 = sI S h 1 from rfl]
  refine lv_iload_n hx hb dX9_types_14 rfl (lv_at hl 2 rfl) ?_
  refine lv_bipush (v := 8) hx hb dX9_types_15 (by decide) ?_
  refine lv_iload_n hx hb dX9_types_17 rfl (lv_at hl 0 rfl) ?_
  refine lv_imul hx hb dX9_types_18 ?_
  rw [show (8 * 3 : Int32) = 24 from by decide]
  refine lv_ishr hx hb dX9_types_19 ?_
  refine lv_i2b (v := Int8.toInt32 (Int32.toInt8 (a >>> (24 &&& 31)))) hx hb dX9_types_20 rfl ?_
  refine pg_bast hx hb hK hW hS hkb (by rw [show sL S bt = 80 from hlb]; exact r_in (by omega)) dX9_types_21 (fun H locs hW hS => ?_)
  obtain ⟨S3, eS3⟩ : ∃ T : St, T = stI S bt (Int32.toNatClampNeg (sI S h 1)) (vp_nar .byte (Int8.toInt32 (Int32.toInt8 (a >>> (24 &&& 31))))) := ⟨_, rfl⟩
  rw [← eS3] at hW
  have hG : G S3 := by rw [eS3]; exact hG.I hkb (ok_frA (by decide) (by decide))
  have w4 : sI S3 h 1 = sI S h 1 := by rw [eS3]; exact (iI_a (fk_ne hk hkb (by decide))).trans rfl
  have hC : sI S3 bt = up (sI S bt) (Int32.toNatClampNeg (sI S h 1)) (vp_nar .byte (Int8.toInt32 (Int32.toInt8 (a >>> (24 &&& 31))))) := by rw [eS3, cI_s, hC]
  have hF : Fr [] [901, 1000] S S3 := by rw [eS3]; exact hF.IA hkb (by decide) (by decide)
  clear eS3
  refine lv_aload_n hx hb dX9_types_22 rfl (lv_at hl 1 rfl) ?_
  refine lv_aload_n hx hb dX9_types_23 rfl (lv_at hl 1 rfl) ?_
  refine pg_gi (ci := 9) (C := RX9) (T := TX9) (N := 63) hx hb hts wi9 hown hK hW (hF.k hk (by decide)) (by decide) rfl 1 (by decide) (hts (.fieldLink RX9 141 "IceHallModel" "taped" "I") (by decide +kernel)) (fun _ h9 => h9) rfl dX9_types_24 ?_
  rw [show sI S3 h 1 = sI S h 1 from w4]
  refine lv_iconst (v := 1) hx hb dX9_types_27 (by decide) ?_
  refine lv_iadd hx hb dX9_types_28 ?_
  have l5 : ((sI S h 1) + 1).toInt = Int32.toInt (sI S h 1) + (1 : Int) := i3_add rfl rfl (by omega) (by omega)
  refine pg_pi (ci := 9) (C := RX9) (T := TX9) (N := 63) hx hb hts wi9 tyX9 tyX9_ok nmX9 hown hK hW hS (hF.k hk (by decide)) (by decide) rfl 1 (by decide) (hts (.fieldLink RX9 141 "IceHallModel" "taped" "I") (by decide +kernel)) (fun _ h9 => h9) rfl rfl rfl dX9_types_29 (fun H locs hW hS => ?_)
  have kq6 : sK S3 h = 9 := (hF.k hk (by decide))
  obtain ⟨S7, eS7⟩ : ∃ T : St, T = stI S3 h 1 ((sI S h 1) + 1) := ⟨_, rfl⟩
  rw [← eS7] at hW
  have hG : G S7 := by rw [eS7]; exact hG.I kq6 (ok_in 0 80 (by decide) (⟨by omega, by omega⟩))
  have hC : sI S7 bt = up (sI S bt) (Int32.toNatClampNeg (sI S h 1)) (vp_nar .byte (Int8.toInt32 (Int32.toInt8 (a >>> (24 &&& 31))))) := by rw [eS7]; exact (cI_a (fk_ne (hF.k hkb (by decide)) (hF.k hk (by decide)) (by decide))).trans hC
  have hF : Fr [] [901, 1000] S S7 := by rw [eS7]; exact hF.I kq6 (by decide)
  have w8 : sI S7 h 1 = (sI S h 1) + 1 := by rw [eS7]; exact iI_s
  clear eS7
  refine lv_iinc (v := 2) (lv' := [(2, .int 2), (0, .ref h), (1, .int a)]) hx hb dX9_types_32 hl (k := 0) rfl (by decide) (by decide) rfl (fun ls hl => ?_)
  refine lv_goto (tgt := 2) hx hb dX9_types_35 (by decide) ?_
  refine lv_iload_n hx hb dX9_types_2 rfl (lv_at hl 0 rfl) ?_
  refine lv_if_lt (tgt := 38) hx hb dX9_types_3 (by decide) (fun c9 => absurd c9 (by decide)) (fun c9 => ?_)
  refine lv_aload_n hx hb dX9_types_6 rfl (lv_at hl 1 rfl) ?_
  refine pg_gr (b := bt) (ci := 9) (C := RX9) (T := TX9) (N := 63) hx hb hts wi9 hown hK hW (hF.k hk (by decide)) (by decide) rfl 0 (by decide) (hts (.fieldLink RX9 7 "IceHallModel" "tape" "[B") (by decide +kernel)) (fun _ h9 => h9) rfl (hF.r hk (by decide) hr0) dX9_types_7 ?_
  refine lv_aload_n hx hb dX9_types_10 rfl (lv_at hl 1 rfl) ?_
  refine pg_gi (ci := 9) (C := RX9) (T := TX9) (N := 63) hx hb hts wi9 hown hK hW (hF.k hk (by decide)) (by decide) rfl 1 (by decide) (hts (.fieldLink RX9 141 "IceHallModel" "taped" "I") (by decide +kernel)) (fun _ h9 => h9) rfl dX9_types_11 ?_
  rw [show sI S7 h 1 = (sI S h 1) + 1 from w8]
  refine lv_iload_n hx hb dX9_types_14 rfl (lv_at hl 2 rfl) ?_
  refine lv_bipush (v := 8) hx hb dX9_types_15 (by decide) ?_
  refine lv_iload_n hx hb dX9_types_17 rfl (lv_at hl 0 rfl) ?_
  refine lv_imul hx hb dX9_types_18 ?_
  rw [show (8 * 2 : Int32) = 16 from by decide]
  refine lv_ishr hx hb dX9_types_19 ?_
  refine lv_i2b (v := Int8.toInt32 (Int32.toInt8 (a >>> (16 &&& 31)))) hx hb dX9_types_20 rfl ?_
  refine pg_bast hx hb hK hW hS (hF.k hkb (by decide)) (by rw [show sL S7 bt = 80 from (hF.n hkb (by decide) hlb)]; exact r_in (by omega)) dX9_types_21 (fun H locs hW hS => ?_)
  have kq10 : sK S7 bt = 10 := (hF.k hkb (by decide))
  obtain ⟨S11, eS11⟩ : ∃ T : St, T = stI S7 bt (Int32.toNatClampNeg ((sI S h 1) + 1)) (vp_nar .byte (Int8.toInt32 (Int32.toInt8 (a >>> (16 &&& 31))))) := ⟨_, rfl⟩
  rw [← eS11] at hW
  have hG : G S11 := by rw [eS11]; exact hG.I kq10 (ok_frA (by decide) (by decide))
  have w12 : sI S11 h 1 = (sI S h 1) + 1 := by rw [eS11]; exact (iI_a (fk_ne (hF.k hk (by decide)) kq10 (by decide))).trans w8
  have hC : sI S11 bt = up (up (sI S bt) (Int32.toNatClampNeg (sI S h 1)) (vp_nar .byte (Int8.toInt32 (Int32.toInt8 (a >>> (24 &&& 31)))))) (Int32.toNatClampNeg ((sI S h 1) + 1)) (vp_nar .byte (Int8.toInt32 (Int32.toInt8 (a >>> (16 &&& 31))))) := by rw [eS11, cI_s, hC]
  have hF : Fr [] [901, 1000] S S11 := by rw [eS11]; exact hF.IA kq10 (by decide) (by decide)
  clear eS11
  refine lv_aload_n hx hb dX9_types_22 rfl (lv_at hl 1 rfl) ?_
  refine lv_aload_n hx hb dX9_types_23 rfl (lv_at hl 1 rfl) ?_
  refine pg_gi (ci := 9) (C := RX9) (T := TX9) (N := 63) hx hb hts wi9 hown hK hW (hF.k hk (by decide)) (by decide) rfl 1 (by decide) (hts (.fieldLink RX9 141 "IceHallModel" "taped" "I") (by decide +kernel)) (fun _ h9 => h9) rfl dX9_types_24 ?_
  rw [show sI S11 h 1 = (sI S h 1) + 1 from w12]
  refine lv_iconst (v := 1) hx hb dX9_types_27 (by decide) ?_
  refine lv_iadd hx hb dX9_types_28 ?_
  have l13 : (((sI S h 1) + 1) + 1).toInt = Int32.toInt ((sI S h 1) + 1) + (1 : Int) := i3_add rfl rfl (by omega) (by omega)
  refine pg_pi (ci := 9) (C := RX9) (T := TX9) (N := 63) hx hb hts wi9 tyX9 tyX9_ok nmX9 hown hK hW hS (hF.k hk (by decide)) (by decide) rfl 1 (by decide) (hts (.fieldLink RX9 141 "IceHallModel" "taped" "I") (by decide +kernel)) (fun _ h9 => h9) rfl rfl rfl dX9_types_29 (fun H locs hW hS => ?_)
  have kq14 : sK S11 h = 9 := (hF.k hk (by decide))
  obtain ⟨S15, eS15⟩ : ∃ T : St, T = stI S11 h 1 (((sI S h 1) + 1) + 1) := ⟨_, rfl⟩
  rw [← eS15] at hW
  have hG : G S15 := by rw [eS15]; exact hG.I kq14 (ok_in 0 80 (by decide) (⟨by omega, by omega⟩))
  have hC : sI S15 bt = up (up (sI S bt) (Int32.toNatClampNeg (sI S h 1)) (vp_nar .byte (Int8.toInt32 (Int32.toInt8 (a >>> (24 &&& 31)))))) (Int32.toNatClampNeg ((sI S h 1) + 1)) (vp_nar .byte (Int8.toInt32 (Int32.toInt8 (a >>> (16 &&& 31))))) := by rw [eS15]; exact (cI_a (fk_ne (hF.k hkb (by decide)) (hF.k hk (by decide)) (by decide))).trans hC
  have hF : Fr [] [901, 1000] S S15 := by rw [eS15]; exact hF.I kq14 (by decide)
  have w16 : sI S15 h 1 = ((sI S h 1) + 1) + 1 := by rw [eS15]; exact iI_s
  clear eS15
  refine lv_iinc (v := 1) (lv' := [(2, .int 1), (0, .ref h), (1, .int a)]) hx hb dX9_types_32 hl (k := 0) rfl (by decide) (by decide) rfl (fun ls hl => ?_)
  refine lv_goto (tgt := 2) hx hb dX9_types_35 (by decide) ?_
  refine lv_iload_n hx hb dX9_types_2 rfl (lv_at hl 0 rfl) ?_
  refine lv_if_lt (tgt := 38) hx hb dX9_types_3 (by decide) (fun c17 => absurd c17 (by decide)) (fun c17 => ?_)
  refine lv_aload_n hx hb dX9_types_6 rfl (lv_at hl 1 rfl) ?_
  refine pg_gr (b := bt) (ci := 9) (C := RX9) (T := TX9) (N := 63) hx hb hts wi9 hown hK hW (hF.k hk (by decide)) (by decide) rfl 0 (by decide) (hts (.fieldLink RX9 7 "IceHallModel" "tape" "[B") (by decide +kernel)) (fun _ h9 => h9) rfl (hF.r hk (by decide) hr0) dX9_types_7 ?_
  refine lv_aload_n hx hb dX9_types_10 rfl (lv_at hl 1 rfl) ?_
  refine pg_gi (ci := 9) (C := RX9) (T := TX9) (N := 63) hx hb hts wi9 hown hK hW (hF.k hk (by decide)) (by decide) rfl 1 (by decide) (hts (.fieldLink RX9 141 "IceHallModel" "taped" "I") (by decide +kernel)) (fun _ h9 => h9) rfl dX9_types_11 ?_
  rw [show sI S15 h 1 = ((sI S h 1) + 1) + 1 from w16]
  refine lv_iload_n hx hb dX9_types_14 rfl (lv_at hl 2 rfl) ?_
  refine lv_bipush (v := 8) hx hb dX9_types_15 (by decide) ?_
  refine lv_iload_n hx hb dX9_types_17 rfl (lv_at hl 0 rfl) ?_
  refine lv_imul hx hb dX9_types_18 ?_
  rw [show (8 * 1 : Int32) = 8 from by decide]
  refine lv_ishr hx hb dX9_types_19 ?_
  refine lv_i2b (v := Int8.toInt32 (Int32.toInt8 (a >>> (8 &&& 31)))) hx hb dX9_types_20 rfl ?_
  refine pg_bast hx hb hK hW hS (hF.k hkb (by decide)) (by rw [show sL S15 bt = 80 from (hF.n hkb (by decide) hlb)]; exact r_in (by omega)) dX9_types_21 (fun H locs hW hS => ?_)
  have kq18 : sK S15 bt = 10 := (hF.k hkb (by decide))
  obtain ⟨S19, eS19⟩ : ∃ T : St, T = stI S15 bt (Int32.toNatClampNeg (((sI S h 1) + 1) + 1)) (vp_nar .byte (Int8.toInt32 (Int32.toInt8 (a >>> (8 &&& 31))))) := ⟨_, rfl⟩
  rw [← eS19] at hW
  have hG : G S19 := by rw [eS19]; exact hG.I kq18 (ok_frA (by decide) (by decide))
  have w20 : sI S19 h 1 = ((sI S h 1) + 1) + 1 := by rw [eS19]; exact (iI_a (fk_ne (hF.k hk (by decide)) kq18 (by decide))).trans w16
  have hC : sI S19 bt = up (up (up (sI S bt) (Int32.toNatClampNeg (sI S h 1)) (vp_nar .byte (Int8.toInt32 (Int32.toInt8 (a >>> (24 &&& 31)))))) (Int32.toNatClampNeg ((sI S h 1) + 1)) (vp_nar .byte (Int8.toInt32 (Int32.toInt8 (a >>> (16 &&& 31)))))) (Int32.toNatClampNeg (((sI S h 1) + 1) + 1)) (vp_nar .byte (Int8.toInt32 (Int32.toInt8 (a >>> (8 &&& 31))))) := by rw [eS19, cI_s, hC]
  have hF : Fr [] [901, 1000] S S19 := by rw [eS19]; exact hF.IA kq18 (by decide) (by decide)
  clear eS19
  refine lv_aload_n hx hb dX9_types_22 rfl (lv_at hl 1 rfl) ?_
  refine lv_aload_n hx hb dX9_types_23 rfl (lv_at hl 1 rfl) ?_
  refine pg_gi (ci := 9) (C := RX9) (T := TX9) (N := 63) hx hb hts wi9 hown hK hW (hF.k hk (by decide)) (by decide) rfl 1 (by decide) (hts (.fieldLink RX9 141 "IceHallModel" "taped" "I") (by decide +kernel)) (fun _ h9 => h9) rfl dX9_types_24 ?_
  rw [show sI S19 h 1 = ((sI S h 1) + 1) + 1 from w20]
  refine lv_iconst (v := 1) hx hb dX9_types_27 (by decide) ?_
  refine lv_iadd hx hb dX9_types_28 ?_
  have l21 : ((((sI S h 1) + 1) + 1) + 1).toInt = Int32.toInt (((sI S h 1) + 1) + 1) + (1 : Int) := i3_add rfl rfl (by omega) (by omega)
  refine pg_pi (ci := 9) (C := RX9) (T := TX9) (N := 63) hx hb hts wi9 tyX9 tyX9_ok nmX9 hown hK hW hS (hF.k hk (by decide)) (by decide) rfl 1 (by decide) (hts (.fieldLink RX9 141 "IceHallModel" "taped" "I") (by decide +kernel)) (fun _ h9 => h9) rfl rfl rfl dX9_types_29 (fun H locs hW hS => ?_)
  have kq22 : sK S19 h = 9 := (hF.k hk (by decide))
  obtain ⟨S23, eS23⟩ : ∃ T : St, T = stI S19 h 1 ((((sI S h 1) + 1) + 1) + 1) := ⟨_, rfl⟩
  rw [← eS23] at hW
  have hG : G S23 := by rw [eS23]; exact hG.I kq22 (ok_in 0 80 (by decide) (⟨by omega, by omega⟩))
  have hC : sI S23 bt = up (up (up (sI S bt) (Int32.toNatClampNeg (sI S h 1)) (vp_nar .byte (Int8.toInt32 (Int32.toInt8 (a >>> (24 &&& 31)))))) (Int32.toNatClampNeg ((sI S h 1) + 1)) (vp_nar .byte (Int8.toInt32 (Int32.toInt8 (a >>> (16 &&& 31)))))) (Int32.toNatClampNeg (((sI S h 1) + 1) + 1)) (vp_nar .byte (Int8.toInt32 (Int32.toInt8 (a >>> (8 &&& 31))))) := by rw [eS23]; exact (cI_a (fk_ne (hF.k hkb (by decide)) (hF.k hk (by decide)) (by decide))).trans hC
  have hF : Fr [] [901, 1000] S S23 := by rw [eS23]; exact hF.I kq22 (by decide)
  have w24 : sI S23 h 1 = (((sI S h 1) + 1) + 1) + 1 := by rw [eS23]; exact iI_s
  clear eS23
  refine lv_iinc (v := 0) (lv' := [(2, .int 0), (0, .ref h), (1, .int a)]) hx hb dX9_types_32 hl (k := 0) rfl (by decide) (by decide) rfl (fun ls hl => ?_)
  refine lv_goto (tgt := 2) hx hb dX9_types_35 (by decide) ?_
  refine lv_iload_n hx hb dX9_types_2 rfl (lv_at hl 0 rfl) ?_
  refine lv_if_lt (tgt := 38) hx hb dX9_types_3 (by decide) (fun c25 => absurd c25 (by decide)) (fun c25 => ?_)
  refine lv_aload_n hx hb dX9_types_6 rfl (lv_at hl 1 rfl) ?_
  refine pg_gr (b := bt) (ci := 9) (C := RX9) (T := TX9) (N := 63) hx hb hts wi9 hown hK hW (hF.k hk (by decide)) (by decide) rfl 0 (by decide) (hts (.fieldLink RX9 7 "IceHallModel" "tape" "[B") (by decide +kernel)) (fun _ h9 => h9) rfl (hF.r hk (by decide) hr0) dX9_types_7 ?_
  refine lv_aload_n hx hb dX9_types_10 rfl (lv_at hl 1 rfl) ?_
  refine pg_gi (ci := 9) (C := RX9) (T := TX9) (N := 63) hx hb hts wi9 hown hK hW (hF.k hk (by decide)) (by decide) rfl 1 (by decide) (hts (.fieldLink RX9 141 "IceHallModel" "taped" "I") (by decide +kernel)) (fun _ h9 => h9) rfl dX9_types_11 ?_
  rw [show sI S23 h 1 = (((sI S h 1) + 1) + 1) + 1 from w24]
  refine lv_iload_n hx hb dX9_types_14 rfl (lv_at hl 2 rfl) ?_
  refine lv_bipush (v := 8) hx hb dX9_types_15 (by decide) ?_
  refine lv_iload_n hx hb dX9_types_17 rfl (lv_at hl 0 rfl) ?_
  refine lv_imul hx hb dX9_types_18 ?_
  rw [show (8 * 0 : Int32) = 0 from by decide]
  refine lv_ishr hx hb dX9_types_19 ?_
  refine lv_i2b (v := Int8.toInt32 (Int32.toInt8 (a >>> (0 &&& 31)))) hx hb dX9_types_20 rfl ?_
  refine pg_bast hx hb hK hW hS (hF.k hkb (by decide)) (by rw [show sL S23 bt = 80 from (hF.n hkb (by decide) hlb)]; exact r_in (by omega)) dX9_types_21 (fun H locs hW hS => ?_)
  have kq26 : sK S23 bt = 10 := (hF.k hkb (by decide))
  obtain ⟨S27, eS27⟩ : ∃ T : St, T = stI S23 bt (Int32.toNatClampNeg ((((sI S h 1) + 1) + 1) + 1)) (vp_nar .byte (Int8.toInt32 (Int32.toInt8 (a >>> (0 &&& 31))))) := ⟨_, rfl⟩
  rw [← eS27] at hW
  have hG : G S27 := by rw [eS27]; exact hG.I kq26 (ok_frA (by decide) (by decide))
  have w28 : sI S27 h 1 = (((sI S h 1) + 1) + 1) + 1 := by rw [eS27]; exact (iI_a (fk_ne (hF.k hk (by decide)) kq26 (by decide))).trans w24
  have hC : sI S27 bt = up (up (up (up (sI S bt) (Int32.toNatClampNeg (sI S h 1)) (vp_nar .byte (Int8.toInt32 (Int32.toInt8 (a >>> (24 &&& 31)))))) (Int32.toNatClampNeg ((sI S h 1) + 1)) (vp_nar .byte (Int8.toInt32 (Int32.toInt8 (a >>> (16 &&& 31)))))) (Int32.toNatClampNeg (((sI S h 1) + 1) + 1)) (vp_nar .byte (Int8.toInt32 (Int32.toInt8 (a >>> (8 &&& 31)))))) (Int32.toNatClampNeg ((((sI S h 1) + 1) + 1) + 1)) (vp_nar .byte (Int8.toInt32 (Int32.toInt8 (a >>> (0 &&& 31))))) := by rw [eS27, cI_s, hC]
  have hF : Fr [] [901, 1000] S S27 := by rw [eS27]; exact hF.IA kq26 (by decide) (by decide)
  clear eS27
  refine lv_aload_n hx hb dX9_types_22 rfl (lv_at hl 1 rfl) ?_
  refine lv_aload_n hx hb dX9_types_23 rfl (lv_at hl 1 rfl) ?_
  refine pg_gi (ci := 9) (C := RX9) (T := TX9) (N := 63) hx hb hts wi9 hown hK hW (hF.k hk (by decide)) (by decide) rfl 1 (by decide) (hts (.fieldLink RX9 141 "IceHallModel" "taped" "I") (by decide +kernel)) (fun _ h9 => h9) rfl dX9_types_24 ?_
  rw [show sI S27 h 1 = (((sI S h 1) + 1) + 1) + 1 from w28]
  refine lv_iconst (v := 1) hx hb dX9_types_27 (by decide) ?_
  refine lv_iadd hx hb dX9_types_28 ?_
  have l29 : (((((sI S h 1) + 1) + 1) + 1) + 1).toInt = Int32.toInt ((((sI S h 1) + 1) + 1) + 1) + (1 : Int) := i3_add rfl rfl (by omega) (by omega)
  refine pg_pi (ci := 9) (C := RX9) (T := TX9) (N := 63) hx hb hts wi9 tyX9 tyX9_ok nmX9 hown hK hW hS (hF.k hk (by decide)) (by decide) rfl 1 (by decide) (hts (.fieldLink RX9 141 "IceHallModel" "taped" "I") (by decide +kernel)) (fun _ h9 => h9) rfl rfl rfl dX9_types_29 (fun H locs hW hS => ?_)
  have kq30 : sK S27 h = 9 := (hF.k hk (by decide))
  obtain ⟨S31, eS31⟩ : ∃ T : St, T = stI S27 h 1 (((((sI S h 1) + 1) + 1) + 1) + 1) := ⟨_, rfl⟩
  rw [← eS31] at hW
  have hG : G S31 := by rw [eS31]; exact hG.I kq30 (ok_in 0 80 (by decide) (⟨by omega, by omega⟩))
  have hC : sI S31 bt = up (up (up (up (sI S bt) (Int32.toNatClampNeg (sI S h 1)) (vp_nar .byte (Int8.toInt32 (Int32.toInt8 (a >>> (24 &&& 31)))))) (Int32.toNatClampNeg ((sI S h 1) + 1)) (vp_nar .byte (Int8.toInt32 (Int32.toInt8 (a >>> (16 &&& 31)))))) (Int32.toNatClampNeg (((sI S h 1) + 1) + 1)) (vp_nar .byte (Int8.toInt32 (Int32.toInt8 (a >>> (8 &&& 31)))))) (Int32.toNatClampNeg ((((sI S h 1) + 1) + 1) + 1)) (vp_nar .byte (Int8.toInt32 (Int32.toInt8 (a >>> (0 &&& 31))))) := by rw [eS31]; exact (cI_a (fk_ne (hF.k hkb (by decide)) (hF.k hk (by decide)) (by decide))).trans hC
  have hF : Fr [] [901, 1000] S S31 := by rw [eS31]; exact hF.I kq30 (by decide)
  have w32 : sI S31 h 1 = ((((sI S h 1) + 1) + 1) + 1) + 1 := by rw [eS31]; exact iI_s
  clear eS31
  refine lv_iinc (v := (-1)) (lv' := [(2, .int ((-1))), (0, .ref h), (1, .int a)]) hx hb dX9_types_32 hl (k := 0) rfl (by decide) (by decide) rfl (fun ls hl => ?_)
  refine lv_goto (tgt := 2) hx hb dX9_types_35 (by decide) ?_
  refine lv_iload_n hx hb dX9_types_2 rfl (lv_at hl 0 rfl) ?_
  refine lv_if_lt (tgt := 38) hx hb dX9_types_3 (by decide) (fun c33 => ?_) (fun c33 => absurd (by decide) c33)
  have lk34 : (sI S31 h 1).toInt = (((((sI S h 1) + 1) + 1) + 1) + 1).toInt := by rw [show sI S31 h 1 = ((((sI S h 1) + 1) + 1) + 1) + 1 from w32]
  exact pc_vret (S := S31) hx hb hr hlk hK hZ hA hW hS (⟨hG, hF, ⟨by omega, by rw [hC]; exact pw4_of (i3_cl (by omega)) (i3_cl (by omega)) (i3_cl (by omega)) (i3_cl (by omega))⟩⟩) dX9_types_38
set_option maxHeartbeats 4000000 in
set_option maxRecDepth 100000 in
theorem b_X9_feed (l : Launch) (D : va_G) (cy : Nat → ClassId) (A : Nat → Prop) (S : St) (h bt : Nat) (a b d e2 f : Int32) (hG0 : G S) (hk : sK S h = 9) (hr0 : sR S h 0 = some bt) (hkb : sK S bt = 10) (hlb : sL S bt = 80) : MI l yX9_feed wsX9_feed ({ frames := 1, cells := 0, slots := 0, locals := 22 } : Room) 0 0 D cy A [.ref h, .int a, .int b, .int d, .int e2, .int f] S (fun r S1 => G S1 ∧ Fr [] [901, 1000] S S1 ∧ ((((sI S h 1).toInt ≤ 60 → r = sI S1 h 1 ∧ (sI S1 h 1).toInt = (sI S h 1).toInt + 20) ∧ (60 < (sI S h 1).toInt → r = (-1) ∧ sI S1 h 1 = sI S h 1)) ∧ ((sI S h 1).toInt ≤ 60 → sI S1 bt = pw20 (sI S bt) (sI S h 1).toInt.toNat a b d e2 f) ∧ (60 < (sI S h 1).toInt → sI S1 bt = sI S bt))) := by
  refine mt_start (cc := cX9_feed) (maxL := 6) (ret := (some .int)) (by decide) rfl (Nat.le_of_ble_eq_true rfl) ?_
  intro p e s m args below meth c hx hb hr hlk hml hown hnm hts hK hZ hA hW hS ls hl
  have hl : lv_has ls 6 [(0, .ref h), (1, .int a), (2, .int b), (3, .int d), (4, .int e2), (5, .int f)] := hl
  have hown : s.vm.findClass RX9 = some m.cls := hown
  have F : CallFix p m c cX9_feed 6 s args wsX9_feed RX9 := ⟨hx, hb, hml, hown, hts⟩
  have wi9 : ∀ w ∈ u_ws RX9 TX9 63, w ∈ wsX9_feed := by decide +kernel
  have hG := hG0
  have hF : Fr [] [901, 1000] S S := Fr.rf _ _ _
  have hC : sI S bt = sI S bt := rfl
  refine lv_aload_n hx hb dX9_feed_0 rfl (lv_at hl 0 rfl) ?_
  refine pg_gi (ci := 9) (C := RX9) (T := TX9) (N := 63) hx hb hts wi9 hown hK hW hk (by decide) rfl 1 (by decide) (hts (.fieldLink RX9 141 "IceHallModel" "taped" "I") (by decide +kernel)) (fun _ h9 => h9) rfl dX9_feed_1 ?_
  have g1 : (0 : Int) ≤ (sI S h 1).toInt ∧ (sI S h 1).toInt ≤ 80 := hG.i hk (by decide) 1 (by decide)
  refine lv_bipush (v := 20) hx hb dX9_feed_4 (by decide) ?_
  refine lv_iadd hx hb dX9_feed_6 ?_
  have l2 : ((sI S h 1) + 20).toInt = Int32.toInt (sI S h 1) + (20 : Int) := i3_add rfl rfl (by omega) (by omega)
  refine lv_bipush (v := 80) hx hb dX9_feed_7 (by decide) ?_
  refine lv_icmp_le (tgt := 14) hx hb dX9_feed_9 (by decide) (fun c3 => ?_) (fun c3 => ?_)
  · have c3i : Int32.toInt ((sI S h 1) + 20) ≤ (80 : Int) := (i3_le _ _).mp c3
    refine lv_aload_n hx hb dX9_feed_14 rfl (lv_at hl 0 rfl) ?_
    refine lv_iload_n hx hb dX9_feed_15 rfl (lv_at hl 1 rfl) ?_
    refine pc_Vv (As := [.int a]) (rest := []) F (b_X9_types l D cy A S h bt a hG hk hr0 hkb hlb (by omega)) (cwV 1 hts gX9_feed_X9_types rfl rfl rfl (by decide +kernel) ⟨Nat.le_of_ble_eq_true rfl, Nat.le_of_ble_eq_true rfl⟩) hK hZ hA hW hS hk (by decide) rfl rfl hl.1 rfl (Nat.le_of_ble_eq_true rfl) dX9_feed_16 ⟨Nat.le_of_ble_eq_true rfl, Nat.le_of_ble_eq_true rfl⟩ (fun T5 H locs p6 hW hS => ?_)
    obtain ⟨hG, hFc, p6⟩ := p6
    have hC : sI T5 bt = pw4 (sI S bt) (sI S h 1).toInt.toNat a := by rw [← hC]; exact p6.2
    have hF : Fr [] [901, 1000] S T5 := hF.tr (hFc.mono (by decide))
    refine lv_aload_n hx hb dX9_feed_19 rfl (lv_at hl 0 rfl) ?_
    refine lv_iload_n hx hb dX9_feed_20 rfl (lv_at hl 2 rfl) ?_
    refine pc_Vv (As := [.int b]) (rest := []) F (b_X9_types l D cy A T5 h bt b hG (hF.k hk (by decide)) (hF.r hk (by decide) hr0) (hF.k hkb (by decide)) (hF.n hkb (by decide) hlb) (by omega)) (cwV 1 hts gX9_feed_X9_types rfl rfl rfl (by decide +kernel) ⟨Nat.le_of_ble_eq_true rfl, Nat.le_of_ble_eq_true rfl⟩) hK hZ hA hW hS (hF.k hk (by decide)) (by decide) rfl rfl hl.1 rfl (Nat.le_of_ble_eq_true rfl) dX9_feed_21 ⟨Nat.le_of_ble_eq_true rfl, Nat.le_of_ble_eq_true rfl⟩ (fun T8 H locs p9 hW hS => ?_)
    obtain ⟨hG, hFc, p9⟩ := p9
    have hC : sI T8 bt = pw4 (pw4 (sI S bt) (sI S h 1).toInt.toNat a) (sI T5 h 1).toInt.toNat b := by rw [← hC]; exact p9.2
    have hF : Fr [] [901, 1000] S T8 := hF.tr (hFc.mono (by decide))
    refine lv_aload_n hx hb dX9_feed_24 rfl (lv_at hl 0 rfl) ?_
    refine lv_iload_n hx hb dX9_feed_25 rfl (lv_at hl 3 rfl) ?_
    refine pc_Vv (As := [.int d]) (rest := []) F (b_X9_types l D cy A T8 h bt d hG (hF.k hk (by decide)) (hF.r hk (by decide) hr0) (hF.k hkb (by decide)) (hF.n hkb (by decide) hlb) (by omega)) (cwV 1 hts gX9_feed_X9_types rfl rfl rfl (by decide +kernel) ⟨Nat.le_of_ble_eq_true rfl, Nat.le_of_ble_eq_true rfl⟩) hK hZ hA hW hS (hF.k hk (by decide)) (by decide) rfl rfl hl.1 rfl (Nat.le_of_ble_eq_true rfl) dX9_feed_26 ⟨Nat.le_of_ble_eq_true rfl, Nat.le_of_ble_eq_true rfl⟩ (fun T11 H locs p12 hW hS => ?_)
    obtain ⟨hG, hFc, p12⟩ := p12
    have hC : sI T11 bt = pw4 (pw4 (pw4 (sI S bt) (sI S h 1).toInt.toNat a) (sI T5 h 1).toInt.toNat b) (sI T8 h 1).toInt.toNat d := by rw [← hC]; exact p12.2
    have hF : Fr [] [901, 1000] S T11 := hF.tr (hFc.mono (by decide))
    refine lv_aload_n hx hb dX9_feed_29 rfl (lv_at hl 0 rfl) ?_
    refine lv_iload hx hb dX9_feed_30 (lv_at hl 4 rfl) ?_
    refine pc_Vv (As := [.int e2]) (rest := []) F (b_X9_types l D cy A T11 h bt e2 hG (hF.k hk (by decide)) (hF.r hk (by decide) hr0) (hF.k hkb (by decide)) (hF.n hkb (by decide) hlb) (by omega)) (cwV 1 hts gX9_feed_X9_types rfl rfl rfl (by decide +kernel) ⟨Nat.le_of_ble_eq_true rfl, Nat.le_of_ble_eq_true rfl⟩) hK hZ hA hW hS (hF.k hk (by decide)) (by decide) rfl rfl hl.1 rfl (Nat.le_of_ble_eq_true rfl) dX9_feed_32 ⟨Nat.le_of_ble_eq_true rfl, Nat.le_of_ble_eq_true rfl⟩ (fun T14 H locs p15 hW hS => ?_)
    obtain ⟨hG, hFc, p15⟩ := p15
    have hC : sI T14 bt = pw4 (pw4 (pw4 (pw4 (sI S bt) (sI S h 1).toInt.toNat a) (sI T5 h 1).toInt.toNat b) (sI T8 h 1).toInt.toNat d) (sI T11 h 1).toInt.toNat e2 := by rw [← hC]; exact p15.2
    have hF : Fr [] [901, 1000] S T14 := hF.tr (hFc.mono (by decide))
    refine lv_aload_n hx hb dX9_feed_35 rfl (lv_at hl 0 rfl) ?_
    refine lv_iload hx hb dX9_feed_36 (lv_at hl 5 rfl) ?_
    refine pc_Vv (As := [.int f]) (rest := []) F (b_X9_types l D cy A T14 h bt f hG (hF.k hk (by decide)) (hF.r hk (by decide) hr0) (hF.k hkb (by decide)) (hF.n hkb (by decide) hlb) (by omega)) (cwV 1 hts gX9_feed_X9_types rfl rfl rfl (by decide +kernel) ⟨Nat.le_of_ble_eq_true rfl, Nat.le_of_ble_eq_true rfl⟩) hK hZ hA hW hS (hF.k hk (by decide)) (by decide) rfl rfl hl.1 rfl (Nat.le_of_ble_eq_true rfl) dX9_feed_38 ⟨Nat.le_of_ble_eq_true rfl, Nat.le_of_ble_eq_true rfl⟩ (fun T17 H locs p18 hW hS => ?_)
    obtain ⟨hG, hFc, p18⟩ := p18
    have hC : sI T17 bt = pw4 (pw4 (pw4 (pw4 (pw4 (sI S bt) (sI S h 1).toInt.toNat a) (sI T5 h 1).toInt.toNat b) (sI T8 h 1).toInt.toNat d) (sI T11 h 1).toInt.toNat e2) (sI T14 h 1).toInt.toNat f := by rw [← hC]; exact p18.2
    have hF : Fr [] [901, 1000] S T17 := hF.tr (hFc.mono (by decide))
    refine lv_aload_n hx hb dX9_feed_41 rfl (lv_at hl 0 rfl) ?_
    refine pg_gi (ci := 9) (C := RX9) (T := TX9) (N := 63) hx hb hts wi9 hown hK hW (hF.k hk (by decide)) (by decide) rfl 1 (by decide) (hts (.fieldLink RX9 141 "IceHallModel" "taped" "I") (by decide +kernel)) (fun _ h9 => h9) rfl dX9_feed_42 ?_
    have g19 : (0 : Int) ≤ (sI T17 h 1).toInt ∧ (sI T17 h 1).toInt ≤ 80 := hG.i (hF.k hk (by decide)) (by decide) 1 (by decide)
    exact pc_iret (v := sI T17 h 1) (S := T17) hx hb hr hlk hK hZ hA hW hS (⟨hG, hF, ⟨⟨fun _ => ⟨rfl, by omega⟩, fun h9 => absurd h9 (by omega)⟩, fun _ => by rw [hC]; exact pw20_of rfl (by omega) (by omega) (by omega) (by omega), fun h9 => absurd h9 (by omega)⟩⟩) dX9_feed_45
  · have c3i : ¬ (Int32.toInt ((sI S h 1) + 20) ≤ (80 : Int)) := fun h9 => c3 ((i3_le _ _).mpr h9)
    refine lv_iconst (v := (-1)) hx hb dX9_feed_12 (by decide) ?_
    exact pc_iret (v := (-1)) (S := S) hx hb hr hlk hK hZ hA hW hS (⟨hG, hF, ⟨⟨fun h9 => absurd h9 (by omega), fun _ => ⟨rfl, rfl⟩⟩, fun h9 => absurd h9 (by omega), fun _ => rfl⟩⟩) dX9_feed_13
set_option maxHeartbeats 4000000 in
set_option maxRecDepth 100000 in
theorem b_X9_here (l : Launch) (D : va_G) (cy : Nat → ClassId) (A : Nat → Prop) (S : St) (h bt : Nat) (f : Nat → Int32) (n : Int) (hG0 : G S) (hk : sK S h = 9) (hr0 : sR S h 0 = some bt) (hkb : sK S bt = 10) (hlb : sL S bt = 80) (hn : (sI S h 3).toInt = n) (hf : ∀ j : Nat, (j : Int) < n → sI S bt j = f j) : MI l yX9_here wsX9_here ({ frames := 0, cells := 0, slots := 0, locals := 0 } : Room) 0 0 D cy A [.ref h] S (fun r S1 => S1 = S ∧ ((((sI S h 2).toInt < n ∧ r.toInt = ch f ((sI S h 2).toInt) ∧ 0 ≤ r.toInt) ∨ (¬ (sI S h 2).toInt < n ∧ r.toInt = 0)) ∧ 0 ≤ r.toInt ∧ r.toInt ≤ 255)) := by
  refine mt_start (cc := cX9_here) (maxL := 1) (ret := (some .int)) (by decide) rfl (Nat.le_of_ble_eq_true rfl) ?_
  intro p e s m args below meth c hx hb hr hlk hml hown hnm hts hK hZ hA hW hS ls hl
  have hl : lv_has ls 1 [(0, .ref h)] := hl
  have hown : s.vm.findClass RX9 = some m.cls := hown
  have F : CallFix p m c cX9_here 1 s args wsX9_here RX9 := ⟨hx, hb, hml, hown, hts⟩
  have wi9 : ∀ w ∈ u_ws RX9 TX9 63, w ∈ wsX9_here := by decide +kernel
  have hG := hG0
  have h0_ : (0 : Int32).toInt = 0 := rfl
  have h1_ : (1 : Int32).toInt = 1 := rfl
  have h2_ : (2 : Int32).toInt = 2 := rfl
  refine lv_aload_n hx hb dX9_here_0 rfl (lv_at hl 0 rfl) ?_
  refine pg_gi (ci := 9) (C := RX9) (T := TX9) (N := 63) hx hb hts wi9 hown hK hW hk (by decide) rfl 2 (by decide) (hts (.fieldLink RX9 148 "IceHallModel" "place" "I") (by decide +kernel)) (fun _ h9 => h9) rfl dX9_here_1 ?_
  have g1 : (0 : Int) ≤ (sI S h 2).toInt ∧ (sI S h 2).toInt ≤ 100 := hG.i hk (by decide) 2 (by decide)
  refine lv_aload_n hx hb dX9_here_4 rfl (lv_at hl 0 rfl) ?_
  refine pg_gi (ci := 9) (C := RX9) (T := TX9) (N := 63) hx hb hts wi9 hown hK hW hk (by decide) rfl 3 (by decide) (hts (.fieldLink RX9 151 "IceHallModel" "size" "I") (by decide +kernel)) (fun _ h9 => h9) rfl dX9_here_5 ?_
  have g2 : (0 : Int) ≤ (sI S h 3).toInt ∧ (sI S h 3).toInt ≤ 80 := hG.i hk (by decide) 3 (by decide)
  refine lv_icmp_ge (tgt := 27) hx hb dX9_here_8 (by decide) (fun c3 => ?_) (fun c3 => ?_)
  · have c3i : Int32.toInt (sI S h 3) ≤ Int32.toInt (sI S h 2) := (i3_le _ _).mp c3
    refine lv_iconst (v := 0) hx hb dX9_here_27 (by decide) ?_
    exact pc_iret (v := 0) (S := S) hx hb hr hlk hK hZ hA hW hS (⟨rfl, ⟨Or.inr ⟨by omega, rfl⟩, by decide, by decide⟩⟩) dX9_here_28
  · have c3i : ¬ (Int32.toInt (sI S h 3) ≤ Int32.toInt (sI S h 2)) := fun h9 => c3 ((i3_le _ _).mpr h9)
    refine lv_aload_n hx hb dX9_here_11 rfl (lv_at hl 0 rfl) ?_
    refine pg_gr (b := bt) (ci := 9) (C := RX9) (T := TX9) (N := 63) hx hb hts wi9 hown hK hW hk (by decide) rfl 0 (by decide) (hts (.fieldLink RX9 7 "IceHallModel" "tape" "[B") (by decide +kernel)) (fun _ h9 => h9) rfl hr0 dX9_here_12 ?_
    refine lv_aload_n hx hb dX9_here_15 rfl (lv_at hl 0 rfl) ?_
    refine pg_gi (ci := 9) (C := RX9) (T := TX9) (N := 63) hx hb hts wi9 hown hK hW hk (by decide) rfl 2 (by decide) (hts (.fieldLink RX9 148 "IceHallModel" "place" "I") (by decide +kernel)) (fun _ h9 => h9) rfl dX9_here_16 ?_
    have g4 : (0 : Int) ≤ (sI S h 2).toInt ∧ (sI S h 2).toInt ≤ 100 := hG.i hk (by decide) 2 (by decide)
    refine pg_bald hx hb hK hW hkb (by rw [show sL S bt = 80 from hlb]; exact r_in (by omega)) dX9_here_19 ?_
    refine lv_sipush (v := 255) hx hb dX9_here_20 (by decide) ?_
    refine lv_iand hx hb dX9_here_23 ?_
    refine lv_goto (tgt := 28) hx hb dX9_here_24 (by decide) ?_
    exact pc_iret (v := (sI S bt (Int32.toNatClampNeg (sI S h 2))) &&& 255) (S := S) hx hb hr hlk hK hZ hA hW hS (⟨rfl, ⟨Or.inl ⟨by omega, pk_E hf (by omega) (by omega), (a255 _).1⟩, (a255 _).1, (a255 _).2⟩⟩) dX9_here_28
set_option maxHeartbeats 4000000 in
set_option maxRecDepth 100000 in
theorem b_X9_isDigit (l : Launch) (D : va_G) (cy : Nat → ClassId) (A : Nat → Prop) (S : St) (h bt : Nat) (f : Nat → Int32) (n : Int) (hG0 : G S) (hk : sK S h = 9) (hr0 : sR S h 0 = some bt) (hkb : sK S bt = 10) (hlb : sL S bt = 80) (hn : (sI S h 3).toInt = n) (hf : ∀ j : Nat, (j : Int) < n → sI S bt j = f j) : MI l yX9_isDigit wsX9_isDigit ({ frames := 1, cells := 0, slots := 0, locals := 20 } : Room) 0 0 D cy A [.ref h] S (fun r S1 => S1 = S ∧ ((r.toInt = 1 ∧ ((sI S h 2).toInt < n ∧ 48 ≤ ch f ((sI S h 2).toInt) ∧ ch f ((sI S h 2).toInt) ≤ 57)) ∨ (r.toInt = 0 ∧ ¬ ((sI S h 2).toInt < n ∧ 48 ≤ ch f ((sI S h 2).toInt) ∧ ch f ((sI S h 2).toInt) ≤ 57)))) := by
  refine mt_start (cc := cX9_isDigit) (maxL := 1) (ret := (some .boolean)) (by decide) rfl (Nat.le_of_ble_eq_true rfl) ?_
  intro p e s m args below meth c hx hb hr hlk hml hown hnm hts hK hZ hA hW hS ls hl
  have hl : lv_has ls 1 [(0, .ref h)] := hl
  have hown : s.vm.findClass RX9 = some m.cls := hown
  have F : CallFix p m c cX9_isDigit 1 s args wsX9_isDigit RX9 := ⟨hx, hb, hml, hown, hts⟩
  have hG := hG0
  have h0_ : (0 : Int32).toInt = 0 := rfl
  have h1_ : (1 : Int32).toInt = 1 := rfl
  have h2_ : (2 : Int32).toInt = 2 := rfl
  refine lv_aload_n hx hb dX9_isDigit_0 rfl (lv_at hl 0 rfl) ?_
  refine pc_Vi (As := []) (rest := []) F (b_X9_here l D cy A S h bt f n hG hk hr0 hkb hlb (by omega) hf) (cwV 0 hts gX9_isDigit_X9_here rfl rfl rfl (by decide +kernel) ⟨Nat.le_of_ble_eq_true rfl, Nat.le_of_ble_eq_true rfl⟩) hK hZ hA hW hS hk (by decide) rfl rfl hl.1 rfl (Nat.le_of_ble_eq_true rfl) dX9_isDigit_1 ⟨Nat.le_of_ble_eq_true rfl, Nat.le_of_ble_eq_true rfl⟩ (fun v1 T2 H locs p3 hW hS => ?_)
  obtain ⟨eT2, p3⟩ := p3
  rw [eT2] at hW
  clear eT2
  refine lv_bipush (v := 48) hx hb dX9_isDigit_4 (by decide) ?_
  refine lv_icmp_lt (tgt := 22) hx hb dX9_isDigit_6 (by decide) (fun c4 => ?_) (fun c4 => ?_)
  · have c4i : Int32.toInt v1 < (48 : Int) := (i3_lt _ _).mp c4
    refine lv_iconst (v := 0) hx hb dX9_isDigit_22 (by decide) ?_
    exact pc_zret (v := 0) (S := S) hx hb hr hlk hK hZ hA hW hS (by decide) (⟨rfl, Or.inr ⟨rfl, by omega⟩⟩) dX9_isDigit_23
  · have c4i : ¬ (Int32.toInt v1 < (48 : Int)) := fun h9 => c4 ((i3_lt _ _).mpr h9)
    refine lv_aload_n hx hb dX9_isDigit_9 rfl (lv_at hl 0 rfl) ?_
    refine pc_Vi (As := []) (rest := []) F (b_X9_here l D cy A S h bt f n hG hk hr0 hkb hlb (by omega) hf) (cwV 0 hts gX9_isDigit_X9_here rfl rfl rfl (by decide +kernel) ⟨Nat.le_of_ble_eq_true rfl, Nat.le_of_ble_eq_true rfl⟩) hK hZ hA hW hS hk (by decide) rfl rfl hl.1 rfl (Nat.le_of_ble_eq_true rfl) dX9_isDigit_10 ⟨Nat.le_of_ble_eq_true rfl, Nat.le_of_ble_eq_true rfl⟩ (fun v5 T6 H locs p7 hW hS => ?_)
    obtain ⟨eT6, p7⟩ := p7
    rw [eT6] at hW
    clear eT6
    refine lv_bipush (v := 57) hx hb dX9_isDigit_13 (by decide) ?_
    refine lv_icmp_gt (tgt := 22) hx hb dX9_isDigit_15 (by decide) (fun c8 => ?_) (fun c8 => ?_)
    · have c8i : (57 : Int) < Int32.toInt v5 := (i3_lt _ _).mp c8
      refine lv_iconst (v := 0) hx hb dX9_isDigit_22 (by decide) ?_
      exact pc_zret (v := 0) (S := S) hx hb hr hlk hK hZ hA hW hS (by decide) (⟨rfl, Or.inr ⟨rfl, by omega⟩⟩) dX9_isDigit_23
    · have c8i : ¬ ((57 : Int) < Int32.toInt v5) := fun h9 => c8 ((i3_lt _ _).mpr h9)
      refine lv_iconst (v := 1) hx hb dX9_isDigit_18 (by decide) ?_
      refine lv_goto (tgt := 23) hx hb dX9_isDigit_19 (by decide) ?_
      exact pc_zret (v := 1) (S := S) hx hb hr hlk hK hZ hA hW hS (by decide) (⟨rfl, Or.inl ⟨rfl, by omega⟩⟩) dX9_isDigit_23
set_option maxHeartbeats 4000000 in
set_option maxRecDepth 100000 in
theorem b_X9_wrong (l : Launch) (D : va_G) (cy : Nat → ClassId) (A : Nat → Prop) (S : St) (h : Nat) (a b : Int32) (hG0 : G S) (hk : sK S h = 9) (ha1 : 1 ≤ a.toInt) (ha2 : a.toInt ≤ 2) (hb0 : 0 ≤ b.toInt) (hb1 : b.toInt ≤ 100) : MI l yX9_wrong wsX9_wrong ({ frames := 0, cells := 0, slots := 0, locals := 0 } : Room) 0 0 D cy A [.ref h, .int a, .int b] S (fun r S1 => G S1 ∧ Fr [] [904] S S1 ∧ (r = 0 ∧ (sI S1 h 4).toInt = 100 * a.toInt + b.toInt)) := by
  refine mt_start (cc := cX9_wrong) (maxL := 3) (ret := (some .boolean)) (by decide) rfl (Nat.le_of_ble_eq_true rfl) ?_
  intro p e s m args below meth c hx hb hr hlk hml hown hnm hts hK hZ hA hW hS ls hl
  have hl : lv_has ls 3 [(0, .ref h), (1, .int a), (2, .int b)] := hl
  have hown : s.vm.findClass RX9 = some m.cls := hown
  have F : CallFix p m c cX9_wrong 3 s args wsX9_wrong RX9 := ⟨hx, hb, hml, hown, hts⟩
  have wi9 : ∀ w ∈ u_ws RX9 TX9 63, w ∈ wsX9_wrong := by decide +kernel
  have hG := hG0
  have hF : Fr [] [904] S S := Fr.rf _ _ _
  refine lv_aload_n hx hb dX9_wrong_0 rfl (lv_at hl 0 rfl) ?_
  refine lv_bipush (v := 100) hx hb dX9_wrong_1 (by decide) ?_
  refine lv_iload_n hx hb dX9_wrong_3 rfl (lv_at hl 1 rfl) ?_
  refine lv_imul hx hb dX9_wrong_4 ?_
  have l1 : (100 * a).toInt = (100 : Int) * Int32.toInt a := i3_mul rfl rfl (by omega) (by omega)
  refine lv_iload_n hx hb dX9_wrong_5 rfl (lv_at hl 2 rfl) ?_
  refine lv_iadd hx hb dX9_wrong_6 ?_
  have l2 : ((100 * a) + b).toInt = Int32.toInt (100 * a) + Int32.toInt b := i3_add rfl rfl (by omega) (by omega)
  refine pg_pi (ci := 9) (C := RX9) (T := TX9) (N := 63) hx hb hts wi9 tyX9 tyX9_ok nmX9 hown hK hW hS hk (by decide) rfl 4 (by decide) (hts (.fieldLink RX9 158 "IceHallModel" "fault" "I") (by decide +kernel)) (fun _ h9 => h9) rfl rfl rfl dX9_wrong_7 (fun H locs hW hS => ?_)
  obtain ⟨S3, eS3⟩ : ∃ T : St, T = stI S h 4 ((100 * a) + b) := ⟨_, rfl⟩
  rw [← eS3] at hW
  have hG : G S3 := by rw [eS3]; exact hG.I hk (ok_fr (by decide))
  have hF : Fr [] [904] S S3 := by rw [eS3]; exact hF.I hk (by decide)
  have w4 : sI S3 h 4 = (100 * a) + b := by rw [eS3]; exact iI_s
  clear eS3
  refine lv_iconst (v := 0) hx hb dX9_wrong_10 (by decide) ?_
  have lk5 : (sI S3 h 4).toInt = ((100 * a) + b).toInt := by rw [show sI S3 h 4 = (100 * a) + b from w4]
  exact pc_zret (v := 0) (S := S3) hx hb hr hlk hK hZ hA hW hS (by decide) (⟨hG, hF, ⟨rfl, by omega⟩⟩) dX9_wrong_11
