set_option maxHeartbeats 4000000 in
set_option maxRecDepth 100000 in
theorem c_X8_isBelow (l : Launch) (D : va_G) (cy : Nat → ClassId) (A : Nat → Prop) (S : St) (a b : Int32)  : MI l yX8_isBelow wsX8_isBelow ({ frames := 0, cells := 0, slots := 0, locals := 0 } : Room) 0 0 D cy A [.int a, .int b] S (fun r S1 => S1 = S ∧ ((r.toInt = 1 ∧ 0 ≤ a.toInt ∧ a.toInt < b.toInt) ∨ (r.toInt = 0 ∧ ¬ (0 ≤ a.toInt ∧ a.toInt < b.toInt)))) := by
  refine mt_start (cc := cX8_isBelow) (maxL := 2) (ret := (some .boolean)) (by decide) rfl (Nat.le_of_ble_eq_true rfl) ?_
  intro p e s m args below meth c hx hb hr hlk hml hown hnm hts hK hZ hA hW hS ls hl
  have hl : lv_has ls 2 [(0, .int a), (1, .int b)] := hl
  have hown : s.vm.findClass RX8 = some m.cls := hown
  have F : CallFix p m c cX8_isBelow 2 s args wsX8_isBelow RX8 := ⟨hx, hb, hml, hown, hts⟩
  refine lv_iload_n hx hb dX8_isBelow_0 rfl (lv_at hl 0 rfl) ?_
  refine lv_if_lt (tgt := 13) hx hb dX8_isBelow_1 (by decide) (fun c1 => ?_) (fun c1 => ?_)
  · have c1i : Int32.toInt a < (0 : Int) := (i3_lt _ _).mp c1
    refine lv_iconst (v := 0) hx hb dX8_isBelow_13 (by decide) ?_
    exact pc_zret (v := 0) (S := S) hx hb hr hlk hK hZ hA hW hS (by decide) (⟨rfl, Or.inr ⟨rfl, by omega⟩⟩) dX8_isBelow_14
  · have c1i : ¬ (Int32.toInt a < (0 : Int)) := fun h9 => c1 ((i3_lt _ _).mpr h9)
    refine lv_iload_n hx hb dX8_isBelow_4 rfl (lv_at hl 0 rfl) ?_
    refine lv_iload_n hx hb dX8_isBelow_5 rfl (lv_at hl 1 rfl) ?_
    refine lv_icmp_ge (tgt := 13) hx hb dX8_isBelow_6 (by decide) (fun c2 => ?_) (fun c2 => ?_)
    · have c2i : Int32.toInt b ≤ Int32.toInt a := (i3_le _ _).mp c2
      refine lv_iconst (v := 0) hx hb dX8_isBelow_13 (by decide) ?_
      exact pc_zret (v := 0) (S := S) hx hb hr hlk hK hZ hA hW hS (by decide) (⟨rfl, Or.inr ⟨rfl, by omega⟩⟩) dX8_isBelow_14
    · have c2i : ¬ (Int32.toInt b ≤ Int32.toInt a) := fun h9 => c2 ((i3_le _ _).mpr h9)
      refine lv_iconst (v := 1) hx hb dX8_isBelow_9 (by decide) ?_
      refine lv_goto (tgt := 14) hx hb dX8_isBelow_10 (by decide) ?_
      exact pc_zret (v := 1) (S := S) hx hb hr hlk hK hZ hA hW hS (by decide) (⟨rfl, Or.inl ⟨rfl, by omega⟩⟩) dX8_isBelow_14
set_option maxHeartbeats 4000000 in
set_option maxRecDepth 100000 in
theorem c_X8_isTenths (l : Launch) (D : va_G) (cy : Nat → ClassId) (A : Nat → Prop) (S : St) (a : Int32)  : MI l yX8_isTenths wsX8_isTenths ({ frames := 0, cells := 0, slots := 0, locals := 0 } : Room) 0 0 D cy A [.int a] S (fun r S1 => S1 = S ∧ ((r.toInt = 1 ∧ 0 ≤ a.toInt ∧ a.toInt ≤ 20) ∨ (r.toInt = 0 ∧ ¬ (0 ≤ a.toInt ∧ a.toInt ≤ 20)))) := by
  refine mt_start (cc := cX8_isTenths) (maxL := 1) (ret := (some .boolean)) (by decide) rfl (Nat.le_of_ble_eq_true rfl) ?_
  intro p e s m args below meth c hx hb hr hlk hml hown hnm hts hK hZ hA hW hS ls hl
  have hl : lv_has ls 1 [(0, .int a)] := hl
  have hown : s.vm.findClass RX8 = some m.cls := hown
  have F : CallFix p m c cX8_isTenths 1 s args wsX8_isTenths RX8 := ⟨hx, hb, hml, hown, hts⟩
  refine lv_iload_n hx hb dX8_isTenths_0 rfl (lv_at hl 0 rfl) ?_
  refine lv_if_lt (tgt := 14) hx hb dX8_isTenths_1 (by decide) (fun c1 => ?_) (fun c1 => ?_)
  · have c1i : Int32.toInt a < (0 : Int) := (i3_lt _ _).mp c1
    refine lv_iconst (v := 0) hx hb dX8_isTenths_14 (by decide) ?_
    exact pc_zret (v := 0) (S := S) hx hb hr hlk hK hZ hA hW hS (by decide) (⟨rfl, Or.inr ⟨rfl, by omega⟩⟩) dX8_isTenths_15
  · have c1i : ¬ (Int32.toInt a < (0 : Int)) := fun h9 => c1 ((i3_lt _ _).mpr h9)
    refine lv_iload_n hx hb dX8_isTenths_4 rfl (lv_at hl 0 rfl) ?_
    refine lv_bipush (v := 20) hx hb dX8_isTenths_5 (by decide) ?_
    refine lv_icmp_gt (tgt := 14) hx hb dX8_isTenths_7 (by decide) (fun c2 => ?_) (fun c2 => ?_)
    · have c2i : (20 : Int) < Int32.toInt a := (i3_lt _ _).mp c2
      refine lv_iconst (v := 0) hx hb dX8_isTenths_14 (by decide) ?_
      exact pc_zret (v := 0) (S := S) hx hb hr hlk hK hZ hA hW hS (by decide) (⟨rfl, Or.inr ⟨rfl, by omega⟩⟩) dX8_isTenths_15
    · have c2i : ¬ ((20 : Int) < Int32.toInt a) := fun h9 => c2 ((i3_lt _ _).mpr h9)
      refine lv_iconst (v := 1) hx hb dX8_isTenths_10 (by decide) ?_
      refine lv_goto (tgt := 15) hx hb dX8_isTenths_11 (by decide) ?_
      exact pc_zret (v := 1) (S := S) hx hb hr hlk hK hZ hA hW hS (by decide) (⟨rfl, Or.inl ⟨rfl, by omega⟩⟩) dX8_isTenths_15
set_option maxHeartbeats 4000000 in
set_option maxRecDepth 100000 in
theorem c_X8_isWarmth (l : Launch) (D : va_G) (cy : Nat → ClassId) (A : Nat → Prop) (S : St) (a : Int32)  : MI l yX8_isWarmth wsX8_isWarmth ({ frames := 0, cells := 0, slots := 0, locals := 0 } : Room) 0 0 D cy A [.int a] S (fun r S1 => S1 = S ∧ ((r.toInt = 1 ∧ -20 ≤ a.toInt ∧ a.toInt ≤ 40) ∨ (r.toInt = 0 ∧ ¬ (-20 ≤ a.toInt ∧ a.toInt ≤ 40)))) := by
  refine mt_start (cc := cX8_isWarmth) (maxL := 1) (ret := (some .boolean)) (by decide) rfl (Nat.le_of_ble_eq_true rfl) ?_
  intro p e s m args below meth c hx hb hr hlk hml hown hnm hts hK hZ hA hW hS ls hl
  have hl : lv_has ls 1 [(0, .int a)] := hl
  have hown : s.vm.findClass RX8 = some m.cls := hown
  have F : CallFix p m c cX8_isWarmth 1 s args wsX8_isWarmth RX8 := ⟨hx, hb, hml, hown, hts⟩
  refine lv_iload_n hx hb dX8_isWarmth_0 rfl (lv_at hl 0 rfl) ?_
  refine lv_bipush (v := (-20)) hx hb dX8_isWarmth_1 (by decide) ?_
  refine lv_icmp_lt (tgt := 16) hx hb dX8_isWarmth_3 (by decide) (fun c1 => ?_) (fun c1 => ?_)
  · have c1i : Int32.toInt a < (-20 : Int) := (i3_lt _ _).mp c1
    refine lv_iconst (v := 0) hx hb dX8_isWarmth_16 (by decide) ?_
    exact pc_zret (v := 0) (S := S) hx hb hr hlk hK hZ hA hW hS (by decide) (⟨rfl, Or.inr ⟨rfl, by omega⟩⟩) dX8_isWarmth_17
  · have c1i : ¬ (Int32.toInt a < (-20 : Int)) := fun h9 => c1 ((i3_lt _ _).mpr h9)
    refine lv_iload_n hx hb dX8_isWarmth_6 rfl (lv_at hl 0 rfl) ?_
    refine lv_bipush (v := 40) hx hb dX8_isWarmth_7 (by decide) ?_
    refine lv_icmp_gt (tgt := 16) hx hb dX8_isWarmth_9 (by decide) (fun c2 => ?_) (fun c2 => ?_)
    · have c2i : (40 : Int) < Int32.toInt a := (i3_lt _ _).mp c2
      refine lv_iconst (v := 0) hx hb dX8_isWarmth_16 (by decide) ?_
      exact pc_zret (v := 0) (S := S) hx hb hr hlk hK hZ hA hW hS (by decide) (⟨rfl, Or.inr ⟨rfl, by omega⟩⟩) dX8_isWarmth_17
    · have c2i : ¬ ((40 : Int) < Int32.toInt a) := fun h9 => c2 ((i3_lt _ _).mpr h9)
      refine lv_iconst (v := 1) hx hb dX8_isWarmth_12 (by decide) ?_
      refine lv_goto (tgt := 17) hx hb dX8_isWarmth_13 (by decide) ?_
      exact pc_zret (v := 1) (S := S) hx hb hr hlk hK hZ hA hW hS (by decide) (⟨rfl, Or.inl ⟨rfl, by omega⟩⟩) dX8_isWarmth_17
set_option maxHeartbeats 4000000 in
set_option maxRecDepth 100000 in
theorem c_X9_isClub (l : Launch) (D : va_G) (cy : Nat → ClassId) (A : Nat → Prop) (S : St) (a : Int32)  : MI l yX9_isClub wsX9_isClub ({ frames := 0, cells := 0, slots := 0, locals := 0 } : Room) 0 0 D cy A [.int a] S (fun r S1 => S1 = S ∧ ((r.toInt = 1 ∧ 0 ≤ a.toInt ∧ a.toInt < 6) ∨ (r.toInt = 0 ∧ ¬ (0 ≤ a.toInt ∧ a.toInt < 6)))) := by
  refine mt_start (cc := cX9_isClub) (maxL := 1) (ret := (some .boolean)) (by decide) rfl (Nat.le_of_ble_eq_true rfl) ?_
  intro p e s m args below meth c hx hb hr hlk hml hown hnm hts hK hZ hA hW hS ls hl
  have hl : lv_has ls 1 [(0, .int a)] := hl
  have hown : s.vm.findClass RX9 = some m.cls := hown
  have F : CallFix p m c cX9_isClub 1 s args wsX9_isClub RX9 := ⟨hx, hb, hml, hown, hts⟩
  refine lv_iload_n hx hb dX9_isClub_0 rfl (lv_at hl 0 rfl) ?_
  refine lv_if_lt (tgt := 14) hx hb dX9_isClub_1 (by decide) (fun c1 => ?_) (fun c1 => ?_)
  · have c1i : Int32.toInt a < (0 : Int) := (i3_lt _ _).mp c1
    refine lv_iconst (v := 0) hx hb dX9_isClub_14 (by decide) ?_
    exact pc_zret (v := 0) (S := S) hx hb hr hlk hK hZ hA hW hS (by decide) (⟨rfl, Or.inr ⟨rfl, by omega⟩⟩) dX9_isClub_15
  · have c1i : ¬ (Int32.toInt a < (0 : Int)) := fun h9 => c1 ((i3_lt _ _).mpr h9)
    refine lv_iload_n hx hb dX9_isClub_4 rfl (lv_at hl 0 rfl) ?_
    refine lv_bipush (v := 6) hx hb dX9_isClub_5 (by decide) ?_
    refine lv_icmp_ge (tgt := 14) hx hb dX9_isClub_7 (by decide) (fun c2 => ?_) (fun c2 => ?_)
    · have c2i : (6 : Int) ≤ Int32.toInt a := (i3_le _ _).mp c2
      refine lv_iconst (v := 0) hx hb dX9_isClub_14 (by decide) ?_
      exact pc_zret (v := 0) (S := S) hx hb hr hlk hK hZ hA hW hS (by decide) (⟨rfl, Or.inr ⟨rfl, by omega⟩⟩) dX9_isClub_15
    · have c2i : ¬ ((6 : Int) ≤ Int32.toInt a) := fun h9 => c2 ((i3_le _ _).mpr h9)
      refine lv_iconst (v := 1) hx hb dX9_isClub_10 (by decide) ?_
      refine lv_goto (tgt := 15) hx hb dX9_isClub_11 (by decide) ?_
      exact pc_zret (v := 1) (S := S) hx hb hr hlk hK hZ hA hW hS (by decide) (⟨rfl, Or.inl ⟨rfl, by omega⟩⟩) dX9_isClub_15
set_option maxHeartbeats 4000000 in
set_option maxRecDepth 100000 in
theorem c_X9_isSheet (l : Launch) (D : va_G) (cy : Nat → ClassId) (A : Nat → Prop) (S : St) (a : Int32)  : MI l yX9_isSheet wsX9_isSheet ({ frames := 0, cells := 0, slots := 0, locals := 0 } : Room) 0 0 D cy A [.int a] S (fun r S1 => S1 = S ∧ ((r.toInt = 1 ∧ 0 ≤ a.toInt ∧ a.toInt < 2) ∨ (r.toInt = 0 ∧ ¬ (0 ≤ a.toInt ∧ a.toInt < 2)))) := by
  refine mt_start (cc := cX9_isSheet) (maxL := 1) (ret := (some .boolean)) (by decide) rfl (Nat.le_of_ble_eq_true rfl) ?_
  intro p e s m args below meth c hx hb hr hlk hml hown hnm hts hK hZ hA hW hS ls hl
  have hl : lv_has ls 1 [(0, .int a)] := hl
  have hown : s.vm.findClass RX9 = some m.cls := hown
  have F : CallFix p m c cX9_isSheet 1 s args wsX9_isSheet RX9 := ⟨hx, hb, hml, hown, hts⟩
  refine lv_iload_n hx hb dX9_isSheet_0 rfl (lv_at hl 0 rfl) ?_
  refine lv_if_lt (tgt := 13) hx hb dX9_isSheet_1 (by decide) (fun c1 => ?_) (fun c1 => ?_)
  · have c1i : Int32.toInt a < (0 : Int) := (i3_lt _ _).mp c1
    refine lv_iconst (v := 0) hx hb dX9_isSheet_13 (by decide) ?_
    exact pc_zret (v := 0) (S := S) hx hb hr hlk hK hZ hA hW hS (by decide) (⟨rfl, Or.inr ⟨rfl, by omega⟩⟩) dX9_isSheet_14
  · have c1i : ¬ (Int32.toInt a < (0 : Int)) := fun h9 => c1 ((i3_lt _ _).mpr h9)
    refine lv_iload_n hx hb dX9_isSheet_4 rfl (lv_at hl 0 rfl) ?_
    refine lv_iconst (v := 2) hx hb dX9_isSheet_5 (by decide) ?_
    refine lv_icmp_ge (tgt := 13) hx hb dX9_isSheet_6 (by decide) (fun c2 => ?_) (fun c2 => ?_)
    · have c2i : (2 : Int) ≤ Int32.toInt a := (i3_le _ _).mp c2
      refine lv_iconst (v := 0) hx hb dX9_isSheet_13 (by decide) ?_
      exact pc_zret (v := 0) (S := S) hx hb hr hlk hK hZ hA hW hS (by decide) (⟨rfl, Or.inr ⟨rfl, by omega⟩⟩) dX9_isSheet_14
    · have c2i : ¬ ((2 : Int) ≤ Int32.toInt a) := fun h9 => c2 ((i3_le _ _).mpr h9)
      refine lv_iconst (v := 1) hx hb dX9_isSheet_9 (by decide) ?_
      refine lv_goto (tgt := 14) hx hb dX9_isSheet_10 (by decide) ?_
      exact pc_zret (v := 1) (S := S) hx hb hr hlk hK hZ hA hW hS (by decide) (⟨rfl, Or.inl ⟨rfl, by omega⟩⟩) dX9_isSheet_14
