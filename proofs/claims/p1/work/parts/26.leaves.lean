set_option maxHeartbeats 4000000 in
set_option maxRecDepth 100000 in
theorem c_X8_wantOfWarmth (l : Launch) (D : va_G) (cy : Nat → ClassId) (A : Nat → Prop) (S : St) (a : Int32)  : MI l yX8_wantOfWarmth wsX8_wantOfWarmth ({ frames := 0, cells := 0, slots := 0, locals := 0 } : Room) 0 0 D cy A [.int a] S (fun r S1 => S1 = S ∧ r = (if a ≤ 0 then 0 else a / 2)) := by
  refine mt_start (cc := cX8_wantOfWarmth) (maxL := 1) (ret := (some .int)) (by decide) rfl (Nat.le_of_ble_eq_true rfl) ?_
  intro p e s m args below meth c hx hb hr hlk hml hown hnm hts hK hZ hA hW hS ls hl
  have hl : lv_has ls 1 [(0, .int a)] := hl
  have hown : s.vm.findClass RX8 = some m.cls := hown
  have F : CallFix p m c cX8_wantOfWarmth 1 s args wsX8_wantOfWarmth RX8 := ⟨hx, hb, hml, hown, hts⟩
  refine lv_iload_n hx hb dX8_wantOfWarmth_0 rfl (lv_at hl 0 rfl) ?_
  refine lv_if_le (tgt := 10) hx hb dX8_wantOfWarmth_1 (by decide) (fun c1 => ?_) (fun c1 => ?_)
  · have c1i : Int32.toInt a ≤ (0 : Int) := (i3_le _ _).mp c1
    refine lv_iconst (v := 0) hx hb dX8_wantOfWarmth_10 (by decide) ?_
    exact pc_iret (v := 0) (S := S) hx hb hr hlk hK hZ hA hW hS (⟨rfl, by first | (rw [if_pos (by assumption)]; done) | (rw [if_neg (by assumption)]; done)⟩) dX8_wantOfWarmth_11
  · have c1i : ¬ (Int32.toInt a ≤ (0 : Int)) := fun h9 => c1 ((i3_le _ _).mpr h9)
    refine lv_iload_n hx hb dX8_wantOfWarmth_4 rfl (lv_at hl 0 rfl) ?_
    refine lv_iconst (v := 2) hx hb dX8_wantOfWarmth_5 (by decide) ?_
    refine lv_idiv hx hb dX8_wantOfWarmth_6 (by decide) ?_
    refine lv_goto (tgt := 11) hx hb dX8_wantOfWarmth_7 (by decide) ?_
    exact pc_iret (v := a / 2) (S := S) hx hb hr hlk hK hZ hA hW hS (⟨rfl, by first | (rw [if_pos (by assumption)]; done) | (rw [if_neg (by assumption)]; done)⟩) dX8_wantOfWarmth_11
set_option maxHeartbeats 4000000 in
set_option maxRecDepth 100000 in
theorem c_X4_isIn (l : Launch) (D : va_G) (cy : Nat → ClassId) (A : Nat → Prop) (S : St) (a b : Int32) (hb1 : ¬ (a >>> (b &&& 31)) &&& 1 = 0) : MI l yX4_isIn wsX4_isIn ({ frames := 0, cells := 0, slots := 0, locals := 0 } : Room) 0 0 D cy A [.int a, .int b] S (fun r S1 => S1 = S ∧ r = 1) := by
  refine mt_start (cc := cX4_isIn) (maxL := 2) (ret := (some .boolean)) (by decide) rfl (Nat.le_of_ble_eq_true rfl) ?_
  intro p e s m args below meth c hx hb hr hlk hml hown hnm hts hK hZ hA hW hS ls hl
  have hl : lv_has ls 2 [(0, .int a), (1, .int b)] := hl
  have hown : s.vm.findClass RX4 = some m.cls := hown
  have F : CallFix p m c cX4_isIn 2 s args wsX4_isIn RX4 := ⟨hx, hb, hml, hown, hts⟩
  refine lv_iload_n hx hb dX4_isIn_0 rfl (lv_at hl 0 rfl) ?_
  refine lv_iload_n hx hb dX4_isIn_1 rfl (lv_at hl 1 rfl) ?_
  refine lv_ishr hx hb dX4_isIn_2 ?_
  refine lv_iconst (v := 1) hx hb dX4_isIn_3 (by decide) ?_
  refine lv_iand hx hb dX4_isIn_4 ?_
  refine lv_if_eq (tgt := 12) hx hb dX4_isIn_5 (by decide) (fun c1 => absurd c1 (hb1)) (fun c1 => ?_)
  refine lv_iconst (v := 1) hx hb dX4_isIn_8 (by decide) ?_
  refine lv_goto (tgt := 13) hx hb dX4_isIn_9 (by decide) ?_
  exact pc_zret (v := 1) (S := S) hx hb hr hlk hK hZ hA hW hS (by decide) (⟨rfl, rfl⟩) dX4_isIn_13
set_option maxHeartbeats 4000000 in
set_option maxRecDepth 100000 in
theorem c_X4_let (l : Launch) (D : va_G) (cy : Nat → ClassId) (A : Nat → Prop) (S : St) (g : Nat) (k a : Int32) (kr : sK S g = 4) (g0 : sI S g 0 = 16777215) (g1 : sI S g 1 = 127) (g2 : sI S g 2 = 15) (g3 : sI S g 3 = 168) (g4 : sI S g 4 = 100) (g5 : sI S g 5 = 50) (hk0 : 0 ≤ k.toInt) (hk4 : k.toInt < 4) (ha : 0 ≤ a.toInt) : MI l yX4_let wsX4_let ({ frames := 1, cells := 0, slots := 0, locals := 21 } : Room) 0 0 D cy A [.ref g, .int k, .int a] S (fun r S1 => S1 = S ∧ r = 1) := by
  refine mt_start (cc := cX4_let) (maxL := 3) (ret := (some .boolean)) (by decide) rfl (Nat.le_of_ble_eq_true rfl) ?_
  intro p e s m args below meth c hx hb hr hlk hml hown hnm hts hK hZ hA hW hS ls hl
  have hl : lv_has ls 3 [(0, .ref g), (1, .int k), (2, .int a)] := hl
  have hown : s.vm.findClass RX4 = some m.cls := hown
  have F : CallFix p m c cX4_let 3 s args wsX4_let RX4 := ⟨hx, hb, hml, hown, hts⟩
  have wi4 : ∀ w ∈ u_ws RX4 TX4 6, w ∈ wsX4_let := by decide +kernel
  refine lv_aload_n hx hb dX4_let_0 rfl (lv_at hl 0 rfl) ?_
  refine pg_gi (ci := 4) (C := RX4) (T := TX4) (N := 6) hx hb hts wi4 hown hK hW kr (by decide) rfl 0 (by decide) (hts (.fieldLink RX4 12 "IceHall$Rights" "clocks" "I") (by decide +kernel)) (fun _ h9 => h9) rfl dX4_let_1 ?_
  rw [show sI S g 0 = 16777215 from g0]
  refine lv_iload_n hx hb dX4_let_4 rfl (lv_at hl 2 rfl) ?_
  refine lv_bipush (v := 24) hx hb dX4_let_5 (by decide) ?_
  refine lv_irem hx hb dX4_let_7 (by decide) ?_
  refine pc_Si (As := [.int 16777215, .int (a - a / 24 * 24)]) (rest := []) F (c_X4_isIn l D cy A S 16777215 (a - a / 24 * 24) (in_24 (rem24 ha).1 (rem24 ha).2)) (va_cwS 2 hts gX4_let_X4_isIn rfl rfl rfl (by decide +kernel) ⟨Nat.le_of_ble_eq_true rfl, Nat.le_of_ble_eq_true rfl⟩) hK hZ hA hW hS rfl hl.1 rfl (Nat.le_of_ble_eq_true rfl) dX4_let_8 ⟨Nat.le_of_ble_eq_true rfl, Nat.le_of_ble_eq_true rfl⟩ (fun v1 T2 H locs p3 hW hS => ?_)
  obtain ⟨eT2, p3⟩ := p3
  rw [eT2] at hW
  rw [show v1 = 1 from p3]
  refine lv_if_eq (tgt := 46) hx hb dX4_let_11 (by decide) (fun c4 => absurd c4 (by decide)) (fun c4 => ?_)
  refine lv_aload_n hx hb dX4_let_14 rfl (lv_at hl 0 rfl) ?_
  refine pg_gi (ci := 4) (C := RX4) (T := TX4) (N := 6) hx hb hts wi4 hown hK hW kr (by decide) rfl 1 (by decide) (hts (.fieldLink RX4 16 "IceHall$Rights" "days" "I") (by decide +kernel)) (fun _ h9 => h9) rfl dX4_let_15 ?_
  rw [show sI S g 1 = 127 from g1]
  refine lv_iload_n hx hb dX4_let_18 rfl (lv_at hl 2 rfl) ?_
  refine lv_bipush (v := 24) hx hb dX4_let_19 (by decide) ?_
  refine lv_idiv hx hb dX4_let_21 (by decide) ?_
  refine lv_bipush (v := 7) hx hb dX4_let_22 (by decide) ?_
  refine lv_irem hx hb dX4_let_24 (by decide) ?_
  refine pc_Si (As := [.int 127, .int ((a / 24) - (a / 24) / 7 * 7)]) (rest := []) F (c_X4_isIn l D cy A S 127 ((a / 24) - (a / 24) / 7 * 7) (in_7 (rem7 (div24 ha)).1 (rem7 (div24 ha)).2)) (va_cwS 2 hts gX4_let_X4_isIn rfl rfl rfl (by decide +kernel) ⟨Nat.le_of_ble_eq_true rfl, Nat.le_of_ble_eq_true rfl⟩) hK hZ hA hW hS rfl hl.1 rfl (Nat.le_of_ble_eq_true rfl) dX4_let_25 ⟨Nat.le_of_ble_eq_true rfl, Nat.le_of_ble_eq_true rfl⟩ (fun v5 T6 H locs p7 hW hS => ?_)
  obtain ⟨eT6, p7⟩ := p7
  rw [eT6] at hW
  rw [show v5 = 1 from p7]
  refine lv_if_eq (tgt := 46) hx hb dX4_let_28 (by decide) (fun c8 => absurd c8 (by decide)) (fun c8 => ?_)
  refine lv_aload_n hx hb dX4_let_31 rfl (lv_at hl 0 rfl) ?_
  refine pg_gi (ci := 4) (C := RX4) (T := TX4) (N := 6) hx hb hts wi4 hown hK hW kr (by decide) rfl 2 (by decide) (hts (.fieldLink RX4 19 "IceHall$Rights" "kinds" "I") (by decide +kernel)) (fun _ h9 => h9) rfl dX4_let_32 ?_
  rw [show sI S g 2 = 15 from g2]
  refine lv_iload_n hx hb dX4_let_35 rfl (lv_at hl 1 rfl) ?_
  refine pc_Si (As := [.int 15, .int k]) (rest := []) F (c_X4_isIn l D cy A S 15 k (in_4 hk0 hk4)) (va_cwS 2 hts gX4_let_X4_isIn rfl rfl rfl (by decide +kernel) ⟨Nat.le_of_ble_eq_true rfl, Nat.le_of_ble_eq_true rfl⟩) hK hZ hA hW hS rfl hl.1 rfl (Nat.le_of_ble_eq_true rfl) dX4_let_36 ⟨Nat.le_of_ble_eq_true rfl, Nat.le_of_ble_eq_true rfl⟩ (fun v9 T10 H locs p11 hW hS => ?_)
  obtain ⟨eT10, p11⟩ := p11
  rw [eT10] at hW
  rw [show v9 = 1 from p11]
  refine lv_if_eq (tgt := 46) hx hb dX4_let_39 (by decide) (fun c12 => absurd c12 (by decide)) (fun c12 => ?_)
  refine lv_iconst (v := 1) hx hb dX4_let_42 (by decide) ?_
  refine lv_goto (tgt := 47) hx hb dX4_let_43 (by decide) ?_
  exact pc_zret (v := 1) (S := S) hx hb hr hlk hK hZ hA hW hS (by decide) (⟨rfl, rfl⟩) dX4_let_47
set_option maxHeartbeats 4000000 in
set_option maxRecDepth 100000 in
theorem c_X8_sessionOf (l : Launch) (D : va_G) (cy : Nat → ClassId) (A : Nat → Prop) (S : St) (h : Nat) (a : Int32) (hk : sK S h = 8) (h9 : sI S h 9 = 0) : MR l yX8_sessionOf wsX8_sessionOf ({ frames := 0, cells := 0, slots := 0, locals := 0 } : Room) 0 0 D cy A [.ref h, .int a] S (fun r S1 => S1 = S ∧ r = none) := by
  refine mt_start (cc := cX8_sessionOf) (maxL := 2) (ret := (some (.object "IceHall$Session"))) (by decide) rfl (Nat.le_of_ble_eq_true rfl) ?_
  intro p e s m args below meth c hx hb hr hlk hml hown hnm hts hK hZ hA hW hS ls hl
  have hl : lv_has ls 2 [(0, .ref h), (1, .int a)] := hl
  have hown : s.vm.findClass RX8 = some m.cls := hown
  have F : CallFix p m c cX8_sessionOf 2 s args wsX8_sessionOf RX8 := ⟨hx, hb, hml, hown, hts⟩
  have wi8 : ∀ w ∈ u_ws RX8 TX8 18, w ∈ wsX8_sessionOf := by decide +kernel
  refine lv_iload_n hx hb dX8_sessionOf_0 rfl (lv_at hl 1 rfl) ?_
  refine lv_if_lt (tgt := 28) hx hb dX8_sessionOf_1 (by decide) (fun c1 => ?_) (fun c1 => ?_)
  · have c1i : Int32.toInt a < (0 : Int) := (i3_lt _ _).mp c1
    refine lv_null hx hb dX8_sessionOf_28 ?_
    exact pc_aret (v := none) (S := S) hx hb hr hlk hK hZ hA hW hS (⟨rfl, rfl⟩) dX8_sessionOf_29
  · have c1i : ¬ (Int32.toInt a < (0 : Int)) := fun h9 => c1 ((i3_lt _ _).mpr h9)
    refine lv_iload_n hx hb dX8_sessionOf_4 rfl (lv_at hl 1 rfl) ?_
    refine lv_aload_n hx hb dX8_sessionOf_5 rfl (lv_at hl 0 rfl) ?_
    refine pg_gi (ci := 8) (C := RX8) (T := TX8) (N := 18) hx hb hts wi8 hown hK hW hk (by decide) rfl 9 (by decide) (hts (.fieldLink RX8 99 "IceHall" "everBooked" "I") (by decide +kernel)) (fun _ h9 => h9) rfl dX8_sessionOf_6 ?_
    rw [show sI S h 9 = 0 from h9]
    refine lv_icmp_ge (tgt := 28) hx hb dX8_sessionOf_9 (by decide) (fun c2 => ?_) (fun c2 => absurd ((i3_le _ _).mpr (by show (0 : Int) ≤ _; omega)) c2)
    refine lv_null hx hb dX8_sessionOf_28 ?_
    exact pc_aret (v := none) (S := S) hx hb hr hlk hK hZ hA hW hS (⟨rfl, rfl⟩) dX8_sessionOf_29
set_option maxHeartbeats 4000000 in
set_option maxRecDepth 100000 in
theorem c_X8_countInWeek (l : Launch) (D : va_G) (cy : Nat → ClassId) (A : Nat → Prop) (S : St) (h : Nat) (a b : Int32) (hk : sK S h = 8) (h9 : sI S h 9 = 0) : MI l yX8_countInWeek wsX8_countInWeek ({ frames := 1, cells := 0, slots := 0, locals := 21 } : Room) 0 0 D cy A [.ref h, .int a, .int b] S (fun r S1 => S1 = S ∧ r = 0) := by
  refine mt_start (cc := cX8_countInWeek) (maxL := 6) (ret := (some .int)) (by decide) rfl (Nat.le_of_ble_eq_true rfl) ?_
  intro p e s m args below meth c hx hb hr hlk hml hown hnm hts hK hZ hA hW hS ls hl
  have hl : lv_has ls 6 [(0, .ref h), (1, .int a), (2, .int b)] := hl
  have hown : s.vm.findClass RX8 = some m.cls := hown
  have F : CallFix p m c cX8_countInWeek 6 s args wsX8_countInWeek RX8 := ⟨hx, hb, hml, hown, hts⟩
  have wi8 : ∀ w ∈ u_ws RX8 TX8 18, w ∈ wsX8_countInWeek := by decide +kernel
  refine lv_iconst (v := 0) hx hb dX8_countInWeek_0 (by decide) ?_
  refine lv_istore_n (lv' := [(3, .int 0), (0, .ref h), (1, .int a), (2, .int b)]) hx hb dX8_countInWeek_1 rfl hl (by decide) rfl (fun ls hl => ?_)
  refine lv_iconst (v := 0) hx hb dX8_countInWeek_2 (by decide) ?_
  refine lv_istore (lv' := [(4, .int 0), (3, .int 0), (0, .ref h), (1, .int a), (2, .int b)]) hx hb dX8_countInWeek_3 hl (by decide) rfl (fun ls hl => ?_)
  refine lv_iload hx hb dX8_countInWeek_5 (lv_at hl 0 rfl) ?_
  refine lv_aload_n hx hb dX8_countInWeek_7 rfl (lv_at hl 2 rfl) ?_
  refine pg_gi (ci := 8) (C := RX8) (T := TX8) (N := 18) hx hb hts wi8 hown hK hW hk (by decide) rfl 9 (by decide) (hts (.fieldLink RX8 99 "IceHall" "everBooked" "I") (by decide +kernel)) (fun _ h9 => h9) rfl dX8_countInWeek_8 ?_
  rw [show sI S h 9 = 0 from h9]
  refine lv_icmp_ge (tgt := 66) hx hb dX8_countInWeek_11 (by decide) (fun c1 => ?_) (fun c1 => absurd (by decide) c1)
  refine lv_iload_n hx hb dX8_countInWeek_66 rfl (lv_at hl 1 rfl) ?_
  exact pc_iret (v := 0) (S := S) hx hb hr hlk hK hZ hA hW hS (⟨rfl, rfl⟩) dX8_countInWeek_67
set_option maxHeartbeats 4000000 in
set_option maxRecDepth 100000 in
theorem c_X8_countInState (l : Launch) (D : va_G) (cy : Nat → ClassId) (A : Nat → Prop) (S : St) (h : Nat) (a b : Int32) (hk : sK S h = 8) (h9 : sI S h 9 = 0) : MI l yX8_countInState wsX8_countInState ({ frames := 1, cells := 0, slots := 0, locals := 21 } : Room) 0 0 D cy A [.ref h, .int a, .int b] S (fun r S1 => S1 = S ∧ r = 0) := by
  refine mt_start (cc := cX8_countInState) (maxL := 6) (ret := (some .int)) (by decide) rfl (Nat.le_of_ble_eq_true rfl) ?_
  intro p e s m args below meth c hx hb hr hlk hml hown hnm hts hK hZ hA hW hS ls hl
  have hl : lv_has ls 6 [(0, .ref h), (1, .int a), (2, .int b)] := hl
  have hown : s.vm.findClass RX8 = some m.cls := hown
  have F : CallFix p m c cX8_countInState 6 s args wsX8_countInState RX8 := ⟨hx, hb, hml, hown, hts⟩
  have wi8 : ∀ w ∈ u_ws RX8 TX8 18, w ∈ wsX8_countInState := by decide +kernel
  refine lv_iconst (v := 0) hx hb dX8_countInState_0 (by decide) ?_
  refine lv_istore_n (lv' := [(3, .int 0), (0, .ref h), (1, .int a), (2, .int b)]) hx hb dX8_countInState_1 rfl hl (by decide) rfl (fun ls hl => ?_)
  refine lv_iconst (v := 0) hx hb dX8_countInState_2 (by decide) ?_
  refine lv_istore (lv' := [(4, .int 0), (3, .int 0), (0, .ref h), (1, .int a), (2, .int b)]) hx hb dX8_countInState_3 hl (by decide) rfl (fun ls hl => ?_)
  refine lv_iload hx hb dX8_countInState_5 (lv_at hl 0 rfl) ?_
  refine lv_aload_n hx hb dX8_countInState_7 rfl (lv_at hl 2 rfl) ?_
  refine pg_gi (ci := 8) (C := RX8) (T := TX8) (N := 18) hx hb hts wi8 hown hK hW hk (by decide) rfl 9 (by decide) (hts (.fieldLink RX8 99 "IceHall" "everBooked" "I") (by decide +kernel)) (fun _ h9 => h9) rfl dX8_countInState_8 ?_
  rw [show sI S h 9 = 0 from h9]
  refine lv_icmp_ge (tgt := 54) hx hb dX8_countInState_11 (by decide) (fun c1 => ?_) (fun c1 => absurd (by decide) c1)
  refine lv_iload_n hx hb dX8_countInState_54 rfl (lv_at hl 1 rfl) ?_
  exact pc_iret (v := 0) (S := S) hx hb hr hlk hK hZ hA hW hS (⟨rfl, rfl⟩) dX8_countInState_55
set_option maxHeartbeats 4000000 in
set_option maxRecDepth 100000 in
theorem c_X8_owedBy (l : Launch) (D : va_G) (cy : Nat → ClassId) (A : Nat → Prop) (S : St) (h : Nat) (a : Int32) (hk : sK S h = 8) (h9 : sI S h 9 = 0) : MI l yX8_owedBy wsX8_owedBy ({ frames := 1, cells := 0, slots := 0, locals := 21 } : Room) 0 0 D cy A [.ref h, .int a] S (fun r S1 => S1 = S ∧ r = 0) := by
  refine mt_start (cc := cX8_owedBy) (maxL := 5) (ret := (some .int)) (by decide) rfl (Nat.le_of_ble_eq_true rfl) ?_
  intro p e s m args below meth c hx hb hr hlk hml hown hnm hts hK hZ hA hW hS ls hl
  have hl : lv_has ls 5 [(0, .ref h), (1, .int a)] := hl
  have hown : s.vm.findClass RX8 = some m.cls := hown
  have F : CallFix p m c cX8_owedBy 5 s args wsX8_owedBy RX8 := ⟨hx, hb, hml, hown, hts⟩
  have wi8 : ∀ w ∈ u_ws RX8 TX8 18, w ∈ wsX8_owedBy := by decide +kernel
  refine lv_iconst (v := 0) hx hb dX8_owedBy_0 (by decide) ?_
  refine lv_istore_n (lv' := [(2, .int 0), (0, .ref h), (1, .int a)]) hx hb dX8_owedBy_1 rfl hl (by decide) rfl (fun ls hl => ?_)
  refine lv_iconst (v := 0) hx hb dX8_owedBy_2 (by decide) ?_
  refine lv_istore_n (lv' := [(3, .int 0), (2, .int 0), (0, .ref h), (1, .int a)]) hx hb dX8_owedBy_3 rfl hl (by decide) rfl (fun ls hl => ?_)
  refine lv_iload_n hx hb dX8_owedBy_4 rfl (lv_at hl 0 rfl) ?_
  refine lv_aload_n hx hb dX8_owedBy_5 rfl (lv_at hl 2 rfl) ?_
  refine pg_gi (ci := 8) (C := RX8) (T := TX8) (N := 18) hx hb hts wi8 hown hK hW hk (by decide) rfl 9 (by decide) (hts (.fieldLink RX8 99 "IceHall" "everBooked" "I") (by decide +kernel)) (fun _ h9 => h9) rfl dX8_owedBy_6 ?_
  rw [show sI S h 9 = 0 from h9]
  refine lv_icmp_ge (tgt := 47) hx hb dX8_owedBy_9 (by decide) (fun c1 => ?_) (fun c1 => absurd (by decide) c1)
  refine lv_iload_n hx hb dX8_owedBy_47 rfl (lv_at hl 1 rfl) ?_
  exact pc_iret (v := 0) (S := S) hx hb hr hlk hK hZ hA hW hS (⟨rfl, rfl⟩) dX8_owedBy_48
