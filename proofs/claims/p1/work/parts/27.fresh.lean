set_option maxHeartbeats 4000000 in
set_option maxRecDepth 100000 in
theorem c_X8_numberAt (l : Launch) (D : va_G) (cy : Nat → ClassId) (A : Nat → Prop) (S : St) (h i1 i2 q1 w1 q3 w3 : Nat) (a b : Int32) (a_0 : sK S h = 8) (a_1 : sR S h 0 = some i1) (a_2 : sR S h 1 = some i2) (a_10 : sK S i1 = 1) (a_11 : sR S i1 0 = some q1) (a_12 : sK S q1 = 0) (a_13 : sR S q1 0 = some w1) (a_14 : sK S w1 = 12) (a_15 : sL S w1 = 32) (a_16 : ∀ j, sJ S w1 j = 0) (a_31 : sK S i2 = 1) (a_32 : sR S i2 0 = some q3) (a_33 : sK S q3 = 0) (a_34 : sR S q3 0 = some w3) (a_35 : sK S w3 = 12) (a_36 : sL S w3 = 32) (a_37 : ∀ j, sJ S w3 j = 0) (a_113 : sI S h 9 = 0) : MI l yX8_numberAt wsX8_numberAt ({ frames := 1, cells := 0, slots := 0, locals := 21 } : Room) 0 0 D cy A [.ref h, .int a, .int b] S (fun r S1 => S1 = S ∧ r = (-1)) := by
  refine mt_start (cc := cX8_numberAt) (maxL := 5) (ret := (some .int)) (by decide) rfl (Nat.le_of_ble_eq_true rfl) ?_
  intro p e s m args below meth c hx hb hr hlk hml hown hnm hts hK hZ hA hW hS ls hl
  have hl : lv_has ls 5 [(0, .ref h), (1, .int a), (2, .int b)] := hl
  have hown : s.vm.findClass RX8 = some m.cls := hown
  have F : CallFix p m c cX8_numberAt 5 s args wsX8_numberAt RX8 := ⟨hx, hb, hml, hown, hts⟩
  have wi1 : ∀ w ∈ u_ws RX1 TX1 10, w ∈ wsX8_numberAt := by decide +kernel
  refine lv_aload_n hx hb dX8_numberAt_0 rfl (lv_at hl 0 rfl) ?_
  refine lv_iload_n hx hb dX8_numberAt_1 rfl (lv_at hl 1 rfl) ?_
  refine pc_Vq (As := [.int a]) (rest := []) F (c_X8_iceOf l D cy A S h i1 i2 a a_0 a_1 a_2) (cwV 1 hts gX8_numberAt_X8_iceOf rfl rfl rfl (by decide +kernel) ⟨Nat.le_of_ble_eq_true rfl, Nat.le_of_ble_eq_true rfl⟩) hK hZ hA hW hS a_0 (by decide) rfl rfl hl.1 rfl (Nat.le_of_ble_eq_true rfl) dX8_numberAt_2 ⟨Nat.le_of_ble_eq_true rfl, Nat.le_of_ble_eq_true rfl⟩ (fun v1 T2 H locs p3 hW hS => ?_)
  obtain ⟨eT2, p3⟩ := p3
  rw [eT2] at hW
  by_cases c4 : a = 0
  · rw [show v1 = some i1 from by rw [p3, if_pos c4]]
    refine pg_gr (b := q1) (ci := 1) (C := RX1) (T := TX1) (N := 10) hx hb hts wi1 hown hK hW a_10 (by decide) rfl 0 (by decide) (hts (.fieldLink RX8 119 "IceHall$Ice" "taken" "LIceHall$HourSet;") (by decide +kernel)) (fun _ h9 => h9) rfl a_11 dX8_numberAt_5 ?_
    refine lv_iload_n hx hb dX8_numberAt_8 rfl (lv_at hl 2 rfl) ?_
    refine pc_Vi (As := [.int b]) (rest := []) F (c_X0_has l D cy A S q1 w1 b a_12 a_13 a_14 a_15 a_16) (cwV 1 hts gX8_numberAt_X0_has rfl rfl rfl (by decide +kernel) ⟨Nat.le_of_ble_eq_true rfl, Nat.le_of_ble_eq_true rfl⟩) hK hZ hA hW hS a_12 (by decide) rfl rfl hl.1 rfl (Nat.le_of_ble_eq_true rfl) dX8_numberAt_9 ⟨Nat.le_of_ble_eq_true rfl, Nat.le_of_ble_eq_true rfl⟩ (fun v5 T6 H locs p7 hW hS => ?_)
    obtain ⟨eT6, p7⟩ := p7
    rw [eT6] at hW
    rw [show v5 = 0 from p7]
    refine lv_if_ne (tgt := 17) hx hb dX8_numberAt_12 (by decide) (fun c8 => absurd (by decide) c8) (fun c8 => ?_)
    refine lv_iconst (v := (-1)) hx hb dX8_numberAt_15 (by decide) ?_
    exact pc_iret (v := (-1)) (S := S) hx hb hr hlk hK hZ hA hW hS (⟨rfl, rfl⟩) dX8_numberAt_16
  · rw [show v1 = some i2 from by rw [p3, if_neg c4]]
    refine pg_gr (b := q3) (ci := 1) (C := RX1) (T := TX1) (N := 10) hx hb hts wi1 hown hK hW a_31 (by decide) rfl 0 (by decide) (hts (.fieldLink RX8 119 "IceHall$Ice" "taken" "LIceHall$HourSet;") (by decide +kernel)) (fun _ h9 => h9) rfl a_32 dX8_numberAt_5 ?_
    refine lv_iload_n hx hb dX8_numberAt_8 rfl (lv_at hl 2 rfl) ?_
    refine pc_Vi (As := [.int b]) (rest := []) F (c_X0_has l D cy A S q3 w3 b a_33 a_34 a_35 a_36 a_37) (cwV 1 hts gX8_numberAt_X0_has rfl rfl rfl (by decide +kernel) ⟨Nat.le_of_ble_eq_true rfl, Nat.le_of_ble_eq_true rfl⟩) hK hZ hA hW hS a_33 (by decide) rfl rfl hl.1 rfl (Nat.le_of_ble_eq_true rfl) dX8_numberAt_9 ⟨Nat.le_of_ble_eq_true rfl, Nat.le_of_ble_eq_true rfl⟩ (fun v9 T10 H locs p11 hW hS => ?_)
    obtain ⟨eT10, p11⟩ := p11
    rw [eT10] at hW
    rw [show v9 = 0 from p11]
    refine lv_if_ne (tgt := 17) hx hb dX8_numberAt_12 (by decide) (fun c12 => absurd (by decide) c12) (fun c12 => ?_)
    refine lv_iconst (v := (-1)) hx hb dX8_numberAt_15 (by decide) ?_
    exact pc_iret (v := (-1)) (S := S) hx hb hr hlk hK hZ hA hW hS (⟨rfl, rfl⟩) dX8_numberAt_16
set_option maxHeartbeats 4000000 in
set_option maxRecDepth 100000 in
theorem c_X8_standingAt (l : Launch) (D : va_G) (cy : Nat → ClassId) (A : Nat → Prop) (S : St) (h i1 i2 q1 w1 q3 w3 : Nat) (a b : Int32) (a_0 : sK S h = 8) (a_1 : sR S h 0 = some i1) (a_2 : sR S h 1 = some i2) (a_10 : sK S i1 = 1) (a_11 : sR S i1 0 = some q1) (a_12 : sK S q1 = 0) (a_13 : sR S q1 0 = some w1) (a_14 : sK S w1 = 12) (a_15 : sL S w1 = 32) (a_16 : ∀ j, sJ S w1 j = 0) (a_31 : sK S i2 = 1) (a_32 : sR S i2 0 = some q3) (a_33 : sK S q3 = 0) (a_34 : sR S q3 0 = some w3) (a_35 : sK S w3 = 12) (a_36 : sL S w3 = 32) (a_37 : ∀ j, sJ S w3 j = 0) (a_113 : sI S h 9 = 0) : MR l yX8_standingAt wsX8_standingAt ({ frames := 2, cells := 0, slots := 0, locals := 45 } : Room) 0 0 D cy A [.ref h, .int a, .int b] S (fun r S1 => S1 = S ∧ r = none) := by
  refine mt_start (cc := cX8_standingAt) (maxL := 3) (ret := (some (.object "IceHall$Session"))) (by decide) rfl (Nat.le_of_ble_eq_true rfl) ?_
  intro p e s m args below meth c hx hb hr hlk hml hown hnm hts hK hZ hA hW hS ls hl
  have hl : lv_has ls 3 [(0, .ref h), (1, .int a), (2, .int b)] := hl
  have hown : s.vm.findClass RX8 = some m.cls := hown
  have F : CallFix p m c cX8_standingAt 3 s args wsX8_standingAt RX8 := ⟨hx, hb, hml, hown, hts⟩
  refine lv_aload_n hx hb dX8_standingAt_0 rfl (lv_at hl 0 rfl) ?_
  refine lv_aload_n hx hb dX8_standingAt_1 rfl (lv_at hl 0 rfl) ?_
  refine lv_iload_n hx hb dX8_standingAt_2 rfl (lv_at hl 1 rfl) ?_
  refine lv_iload_n hx hb dX8_standingAt_3 rfl (lv_at hl 2 rfl) ?_
  refine pc_Vi (As := [.int a, .int b]) (rest := [.ref h]) F (c_X8_numberAt l D cy A S h i1 i2 q1 w1 q3 w3 a b a_0 a_1 a_2 a_10 a_11 a_12 a_13 a_14 a_15 a_16 a_31 a_32 a_33 a_34 a_35 a_36 a_37 a_113) (cwV 2 hts gX8_standingAt_X8_numberAt rfl rfl rfl (by decide +kernel) ⟨Nat.le_of_ble_eq_true rfl, Nat.le_of_ble_eq_true rfl⟩) hK hZ hA hW hS a_0 (by decide) rfl rfl hl.1 rfl (Nat.le_of_ble_eq_true rfl) dX8_standingAt_4 ⟨Nat.le_of_ble_eq_true rfl, Nat.le_of_ble_eq_true rfl⟩ (fun v1 T2 H locs p3 hW hS => ?_)
  obtain ⟨eT2, p3⟩ := p3
  rw [eT2] at hW
  rw [show v1 = (-1) from p3]
  refine pc_Vq (As := [.int ((-1))]) (rest := []) F (c_X8_sessionOf l D cy A S h ((-1)) a_0 a_113) (cwV 1 hts gX8_standingAt_X8_sessionOf rfl rfl rfl (by decide +kernel) ⟨Nat.le_of_ble_eq_true rfl, Nat.le_of_ble_eq_true rfl⟩) hK hZ hA hW hS a_0 (by decide) rfl rfl hl.1 rfl (Nat.le_of_ble_eq_true rfl) dX8_standingAt_7 ⟨Nat.le_of_ble_eq_true rfl, Nat.le_of_ble_eq_true rfl⟩ (fun v4 T5 H locs p6 hW hS => ?_)
  obtain ⟨eT5, p6⟩ := p6
  rw [eT5] at hW
  rw [show v4 = none from p6]
  exact pc_aret (v := none) (S := S) hx hb hr hlk hK hZ hA hW hS (⟨rfl, rfl⟩) dX8_standingAt_10
set_option maxHeartbeats 4000000 in
set_option maxRecDepth 100000 in
theorem c_X8_heatOf (l : Launch) (D : va_G) (cy : Nat → ClassId) (A : Nat → Prop) (S : St)   : MI l yX8_heatOf wsX8_heatOf ({ frames := 0, cells := 0, slots := 0, locals := 0 } : Room) 0 0 D cy A [.null] S (fun r S1 => S1 = S ∧ r = 0) := by
  refine mt_start (cc := cX8_heatOf) (maxL := 1) (ret := (some .int)) (by decide) rfl (Nat.le_of_ble_eq_true rfl) ?_
  intro p e s m args below meth c hx hb hr hlk hml hown hnm hts hK hZ hA hW hS ls hl
  have hl : lv_has ls 1 [(0, .null)] := hl
  have hown : s.vm.findClass RX8 = some m.cls := hown
  have F : CallFix p m c cX8_heatOf 1 s args wsX8_heatOf RX8 := ⟨hx, hb, hml, hown, hts⟩
  refine lv_aload_nN hx hb dX8_heatOf_0 rfl (lv_at hl 0 rfl) ?_
  refine lv_ifnonnullN hx hb dX8_heatOf_1 ?_
  refine lv_iconst (v := 0) hx hb dX8_heatOf_4 (by decide) ?_
  refine lv_goto (tgt := 18) hx hb dX8_heatOf_5 (by decide) ?_
  exact pc_iret (v := 0) (S := S) hx hb hr hlk hK hZ hA hW hS (⟨rfl, rfl⟩) dX8_heatOf_18
set_option maxHeartbeats 4000000 in
set_option maxRecDepth 100000 in
theorem c_X8_most (l : Launch) (D : va_G) (cy : Nat → ClassId) (A : Nat → Prop) (S : St) (h : Nat) (a : Int32) (a_0 : sK S h = 8) (a_113 : sI S h 9 = 0) (a_114 : sI S h 10 = 0) (a_115 : sI S h 11 = 200) (a_116 : sI S h 12 = 400) (a_117 : sI S h 13 = 3) (a_118 : sI S h 14 = 2) (a_119 : sI S h 15 = 0) (a_120 : sI S h 16 = 0) (a_121 : sI S h 17 = 0) : MI l yX8_most wsX8_most ({ frames := 0, cells := 0, slots := 0, locals := 0 } : Room) 0 0 D cy A [.ref h, .int a] S (fun r S1 => (r.toInt = 1 ∧ 1 ≤ a.toInt ∧ a.toInt ≤ 2000) ∨ (r.toInt = 0 ∧ ¬ (1 ≤ a.toInt ∧ a.toInt ≤ 2000))) := by
  refine mt_start (cc := cX8_most) (maxL := 2) (ret := (some .boolean)) (by decide) rfl (Nat.le_of_ble_eq_true rfl) ?_
  intro p e s m args below meth c hx hb hr hlk hml hown hnm hts hK hZ hA hW hS ls hl
  have hl : lv_has ls 2 [(0, .ref h), (1, .int a)] := hl
  have hown : s.vm.findClass RX8 = some m.cls := hown
  have F : CallFix p m c cX8_most 2 s args wsX8_most RX8 := ⟨hx, hb, hml, hown, hts⟩
  have wi8 : ∀ w ∈ u_ws RX8 TX8 18, w ∈ wsX8_most := by decide +kernel
  refine lv_iload_n hx hb dX8_most_0 rfl (lv_at hl 1 rfl) ?_
  refine lv_iconst (v := 1) hx hb dX8_most_1 (by decide) ?_
  refine lv_icmp_lt (tgt := 12) hx hb dX8_most_2 (by decide) (fun c1 => ?_) (fun c1 => ?_)
  · have c1i : Int32.toInt a < (1 : Int) := (i3_lt _ _).mp c1
    refine lv_iconst (v := 0) hx hb dX8_most_12 (by decide) ?_
    exact pc_zret (v := 0) (S := S) hx hb hr hlk hK hZ hA hW hS (by decide) (Or.inr ⟨rfl, by omega⟩) dX8_most_13
  · have c1i : ¬ (Int32.toInt a < (1 : Int)) := fun h9 => c1 ((i3_lt _ _).mpr h9)
    refine lv_iload_n hx hb dX8_most_5 rfl (lv_at hl 1 rfl) ?_
    refine lv_sipush (v := 2000) hx hb dX8_most_6 (by decide) ?_
    refine lv_icmp_le (tgt := 14) hx hb dX8_most_9 (by decide) (fun c2 => ?_) (fun c2 => ?_)
    · have c2i : Int32.toInt a ≤ (2000 : Int) := (i3_le _ _).mp c2
      refine lv_aload_n hx hb dX8_most_14 rfl (lv_at hl 0 rfl) ?_
      refine lv_iload_n hx hb dX8_most_15 rfl (lv_at hl 1 rfl) ?_
      refine pg_pi (ci := 8) (C := RX8) (T := TX8) (N := 18) hx hb hts wi8 tyX8 tyX8_ok nmX8 hown hK hW hS a_0 (by decide) rfl 12 (by decide) (hts (.fieldLink RX8 72 "IceHall" "storeMost" "I") (by decide +kernel)) (fun _ h9 => h9) rfl rfl rfl dX8_most_16 (fun H locs hW hS => ?_)
      have w3 : sI (stI S h 12 a) h 9 = 0 := (iI_k (by decide)).trans a_113
      have w4 : sI (stI S h 12 a) h 10 = 0 := (iI_k (by decide)).trans a_114
      have w5 : sI (stI S h 12 a) h 11 = 200 := (iI_k (by decide)).trans a_115
      have w6 : sI (stI S h 12 a) h 13 = 3 := (iI_k (by decide)).trans a_117
      have w7 : sI (stI S h 12 a) h 14 = 2 := (iI_k (by decide)).trans a_118
      have w8 : sI (stI S h 12 a) h 15 = 0 := (iI_k (by decide)).trans a_119
      have w9 : sI (stI S h 12 a) h 16 = 0 := (iI_k (by decide)).trans a_120
      have w10 : sI (stI S h 12 a) h 17 = 0 := (iI_k (by decide)).trans a_121
      have w11 : sI (stI S h 12 a) h 12 = a := iI_s
      refine lv_iconst (v := 1) hx hb dX8_most_19 (by decide) ?_
      exact pc_zret (v := 1) (S := stI S h 12 a) hx hb hr hlk hK hZ hA hW hS (by decide) (Or.inl ⟨rfl, by omega⟩) dX8_most_20
    · have c2i : ¬ (Int32.toInt a ≤ (2000 : Int)) := fun h9 => c2 ((i3_le _ _).mpr h9)
      refine lv_iconst (v := 0) hx hb dX8_most_12 (by decide) ?_
      exact pc_zret (v := 0) (S := S) hx hb hr hlk hK hZ hA hW hS (by decide) (Or.inr ⟨rfl, by omega⟩) dX8_most_13
set_option maxHeartbeats 4000000 in
set_option maxRecDepth 100000 in
theorem c_X8_compressors (l : Launch) (D : va_G) (cy : Nat → ClassId) (A : Nat → Prop) (S : St) (h : Nat) (a : Int32) (a_0 : sK S h = 8) (a_113 : sI S h 9 = 0) (a_114 : sI S h 10 = 0) (a_115 : sI S h 11 = 200) (a_116 : sI S h 12 = 400) (a_117 : sI S h 13 = 3) (a_118 : sI S h 14 = 2) (a_119 : sI S h 15 = 0) (a_120 : sI S h 16 = 0) (a_121 : sI S h 17 = 0) : MI l yX8_compressors wsX8_compressors ({ frames := 0, cells := 0, slots := 0, locals := 0 } : Room) 0 0 D cy A [.ref h, .int a] S (fun r S1 => (r.toInt = 1 ∧ 0 ≤ a.toInt ∧ a.toInt ≤ 3) ∨ (r.toInt = 0 ∧ ¬ (0 ≤ a.toInt ∧ a.toInt ≤ 3))) := by
  refine mt_start (cc := cX8_compressors) (maxL := 2) (ret := (some .boolean)) (by decide) rfl (Nat.le_of_ble_eq_true rfl) ?_
  intro p e s m args below meth c hx hb hr hlk hml hown hnm hts hK hZ hA hW hS ls hl
  have hl : lv_has ls 2 [(0, .ref h), (1, .int a)] := hl
  have hown : s.vm.findClass RX8 = some m.cls := hown
  have F : CallFix p m c cX8_compressors 2 s args wsX8_compressors RX8 := ⟨hx, hb, hml, hown, hts⟩
  have wi8 : ∀ w ∈ u_ws RX8 TX8 18, w ∈ wsX8_compressors := by decide +kernel
  refine lv_iload_n hx hb dX8_compressors_0 rfl (lv_at hl 1 rfl) ?_
  refine lv_if_lt (tgt := 9) hx hb dX8_compressors_1 (by decide) (fun c1 => ?_) (fun c1 => ?_)
  · have c1i : Int32.toInt a < (0 : Int) := (i3_lt _ _).mp c1
    refine lv_iconst (v := 0) hx hb dX8_compressors_9 (by decide) ?_
    exact pc_zret (v := 0) (S := S) hx hb hr hlk hK hZ hA hW hS (by decide) (Or.inr ⟨rfl, by omega⟩) dX8_compressors_10
  · have c1i : ¬ (Int32.toInt a < (0 : Int)) := fun h9 => c1 ((i3_lt _ _).mpr h9)
    refine lv_iload_n hx hb dX8_compressors_4 rfl (lv_at hl 1 rfl) ?_
    refine lv_iconst (v := 3) hx hb dX8_compressors_5 (by decide) ?_
    refine lv_icmp_le (tgt := 11) hx hb dX8_compressors_6 (by decide) (fun c2 => ?_) (fun c2 => ?_)
    · have c2i : Int32.toInt a ≤ (3 : Int) := (i3_le _ _).mp c2
      refine lv_aload_n hx hb dX8_compressors_11 rfl (lv_at hl 0 rfl) ?_
      refine lv_iload_n hx hb dX8_compressors_12 rfl (lv_at hl 1 rfl) ?_
      refine pg_pi (ci := 8) (C := RX8) (T := TX8) (N := 18) hx hb hts wi8 tyX8 tyX8_ok nmX8 hown hK hW hS a_0 (by decide) rfl 13 (by decide) (hts (.fieldLink RX8 75 "IceHall" "working" "I") (by decide +kernel)) (fun _ h9 => h9) rfl rfl rfl dX8_compressors_13 (fun H locs hW hS => ?_)
      have w3 : sI (stI S h 13 a) h 9 = 0 := (iI_k (by decide)).trans a_113
      have w4 : sI (stI S h 13 a) h 10 = 0 := (iI_k (by decide)).trans a_114
      have w5 : sI (stI S h 13 a) h 11 = 200 := (iI_k (by decide)).trans a_115
      have w6 : sI (stI S h 13 a) h 12 = 400 := (iI_k (by decide)).trans a_116
      have w7 : sI (stI S h 13 a) h 14 = 2 := (iI_k (by decide)).trans a_118
      have w8 : sI (stI S h 13 a) h 15 = 0 := (iI_k (by decide)).trans a_119
      have w9 : sI (stI S h 13 a) h 16 = 0 := (iI_k (by decide)).trans a_120
      have w10 : sI (stI S h 13 a) h 17 = 0 := (iI_k (by decide)).trans a_121
      have w11 : sI (stI S h 13 a) h 13 = a := iI_s
      refine lv_iconst (v := 1) hx hb dX8_compressors_16 (by decide) ?_
      exact pc_zret (v := 1) (S := stI S h 13 a) hx hb hr hlk hK hZ hA hW hS (by decide) (Or.inl ⟨rfl, by omega⟩) dX8_compressors_17
    · have c2i : ¬ (Int32.toInt a ≤ (3 : Int)) := fun h9 => c2 ((i3_le _ _).mpr h9)
      refine lv_iconst (v := 0) hx hb dX8_compressors_9 (by decide) ?_
      exact pc_zret (v := 0) (S := S) hx hb hr hlk hK hZ hA hW hS (by decide) (Or.inr ⟨rfl, by omega⟩) dX8_compressors_10
set_option maxHeartbeats 4000000 in
set_option maxRecDepth 100000 in
theorem c_X8_price (l : Launch) (D : va_G) (cy : Nat → ClassId) (A : Nat → Prop) (S : St) (h pr : Nat) (a b : Int32) (a_0 : sK S h = 8) (a_5 : sR S h 4 = some pr) (a_57 : sK S pr = 11) (a_58 : sL S pr = 24) (a_59 : ∀ j, j < 24 → sI S pr j = 10) (a_113 : sI S h 9 = 0) (a_114 : sI S h 10 = 0) (a_115 : sI S h 11 = 200) (a_116 : sI S h 12 = 400) (a_117 : sI S h 13 = 3) (a_118 : sI S h 14 = 2) (a_119 : sI S h 15 = 0) (a_120 : sI S h 16 = 0) (a_121 : sI S h 17 = 0) : MI l yX8_price wsX8_price ({ frames := 1, cells := 0, slots := 0, locals := 21 } : Room) 0 0 D cy A [.ref h, .int a, .int b] S (fun r S1 => (r.toInt = 1 ∧ 0 ≤ a.toInt ∧ a.toInt < 24 ∧ 0 ≤ b.toInt ∧ b.toInt ≤ 99) ∨ (r.toInt = 0 ∧ ¬ (0 ≤ a.toInt ∧ a.toInt < 24 ∧ 0 ≤ b.toInt ∧ b.toInt ≤ 99))) := by
  refine mt_start (cc := cX8_price) (maxL := 3) (ret := (some .boolean)) (by decide) rfl (Nat.le_of_ble_eq_true rfl) ?_
  intro p e s m args below meth c hx hb hr hlk hml hown hnm hts hK hZ hA hW hS ls hl
  have hl : lv_has ls 3 [(0, .ref h), (1, .int a), (2, .int b)] := hl
  have hown : s.vm.findClass RX8 = some m.cls := hown
  have F : CallFix p m c cX8_price 3 s args wsX8_price RX8 := ⟨hx, hb, hml, hown, hts⟩
  have wi8 : ∀ w ∈ u_ws RX8 TX8 18, w ∈ wsX8_price := by decide +kernel
  refine lv_iload_n hx hb dX8_price_0 rfl (lv_at hl 1 rfl) ?_
  refine lv_bipush (v := 24) hx hb dX8_price_1 (by decide) ?_
  refine pc_Si (As := [.int a, .int 24]) (rest := []) F (c_X8_isBelow l D cy A S a 24 ) (va_cwS 2 hts gX8_price_X8_isBelow rfl rfl rfl (by decide +kernel) ⟨Nat.le_of_ble_eq_true rfl, Nat.le_of_ble_eq_true rfl⟩) hK hZ hA hW hS rfl hl.1 rfl (Nat.le_of_ble_eq_true rfl) dX8_price_3 ⟨Nat.le_of_ble_eq_true rfl, Nat.le_of_ble_eq_true rfl⟩ (fun v1 T2 H locs p3 hW hS => ?_)
  obtain ⟨eT2, p3⟩ := p3
  rw [eT2] at hW
  have p3 := isb_lit (n := 24) rfl p3
  refine lv_if_eq (tgt := 19) hx hb dX8_price_6 (by decide) (fun c4 => ?_) (fun c4 => ?_)
  · have c4i : Int32.toInt v1 = (0 : Int) := (i3_eq _ _).mp c4
    refine lv_iconst (v := 0) hx hb dX8_price_19 (by decide) ?_
    exact pc_zret (v := 0) (S := S) hx hb hr hlk hK hZ hA hW hS (by decide) (Or.inr ⟨rfl, by omega⟩) dX8_price_20
  · have c4i : ¬ (Int32.toInt v1 = (0 : Int)) := fun h9 => c4 ((i3_eq _ _).mpr h9)
    refine lv_iload_n hx hb dX8_price_9 rfl (lv_at hl 2 rfl) ?_
    refine lv_if_lt (tgt := 19) hx hb dX8_price_10 (by decide) (fun c5 => ?_) (fun c5 => ?_)
    · have c5i : Int32.toInt b < (0 : Int) := (i3_lt _ _).mp c5
      refine lv_iconst (v := 0) hx hb dX8_price_19 (by decide) ?_
      exact pc_zret (v := 0) (S := S) hx hb hr hlk hK hZ hA hW hS (by decide) (Or.inr ⟨rfl, by omega⟩) dX8_price_20
    · have c5i : ¬ (Int32.toInt b < (0 : Int)) := fun h9 => c5 ((i3_lt _ _).mpr h9)
      refine lv_iload_n hx hb dX8_price_13 rfl (lv_at hl 2 rfl) ?_
      refine lv_bipush (v := 99) hx hb dX8_price_14 (by decide) ?_
      refine lv_icmp_le (tgt := 21) hx hb dX8_price_16 (by decide) (fun c6 => ?_) (fun c6 => ?_)
      · have c6i : Int32.toInt b ≤ (99 : Int) := (i3_le _ _).mp c6
        refine lv_aload_n hx hb dX8_price_21 rfl (lv_at hl 0 rfl) ?_
        refine pg_gr (b := pr) (ci := 8) (C := RX8) (T := TX8) (N := 18) hx hb hts wi8 hown hK hW a_0 (by decide) rfl 4 (by decide) (hts (.fieldLink RX8 32 "IceHall" "prices" "[I") (by decide +kernel)) (fun _ h9 => h9) rfl a_5 dX8_price_22 ?_
        refine lv_iload_n hx hb dX8_price_25 rfl (lv_at hl 1 rfl) ?_
        refine lv_iload_n hx hb dX8_price_26 rfl (lv_at hl 2 rfl) ?_
        refine pg_iast hx hb hK hW hS a_57 (by rw [show sL S pr = 24 from by assumption]; exact r_in (by omega)) dX8_price_27 (fun H locs hW hS => ?_)
        have w7 : sI (stI S pr (Int32.toNatClampNeg a) b) h 9 = 0 := (iI_a (fk_ne a_0 a_57 (by decide))).trans a_113
        have w8 : sI (stI S pr (Int32.toNatClampNeg a) b) h 10 = 0 := (iI_a (fk_ne a_0 a_57 (by decide))).trans a_114
        have w9 : sI (stI S pr (Int32.toNatClampNeg a) b) h 11 = 200 := (iI_a (fk_ne a_0 a_57 (by decide))).trans a_115
        have w10 : sI (stI S pr (Int32.toNatClampNeg a) b) h 12 = 400 := (iI_a (fk_ne a_0 a_57 (by decide))).trans a_116
        have w11 : sI (stI S pr (Int32.toNatClampNeg a) b) h 13 = 3 := (iI_a (fk_ne a_0 a_57 (by decide))).trans a_117
        have w12 : sI (stI S pr (Int32.toNatClampNeg a) b) h 14 = 2 := (iI_a (fk_ne a_0 a_57 (by decide))).trans a_118
        have w13 : sI (stI S pr (Int32.toNatClampNeg a) b) h 15 = 0 := (iI_a (fk_ne a_0 a_57 (by decide))).trans a_119
        have w14 : sI (stI S pr (Int32.toNatClampNeg a) b) h 16 = 0 := (iI_a (fk_ne a_0 a_57 (by decide))).trans a_120
        have w15 : sI (stI S pr (Int32.toNatClampNeg a) b) h 17 = 0 := (iI_a (fk_ne a_0 a_57 (by decide))).trans a_121
        refine lv_iconst (v := 1) hx hb dX8_price_28 (by decide) ?_
        exact pc_zret (v := 1) (S := stI S pr (Int32.toNatClampNeg a) b) hx hb hr hlk hK hZ hA hW hS (by decide) (Or.inl ⟨rfl, by omega⟩) dX8_price_29
      · have c6i : ¬ (Int32.toInt b ≤ (99 : Int)) := fun h9 => c6 ((i3_le _ _).mpr h9)
        refine lv_iconst (v := 0) hx hb dX8_price_19 (by decide) ?_
        exact pc_zret (v := 0) (S := S) hx hb hr hlk hK hZ hA hW hS (by decide) (Or.inr ⟨rfl, by omega⟩) dX8_price_20
set_option maxHeartbeats 4000000 in
set_option maxRecDepth 100000 in
theorem c_X8_rest (l : Launch) (D : va_G) (cy : Nat → ClassId) (A : Nat → Prop) (S : St) (h : Nat) (a : Int32) (a_0 : sK S h = 8) (a_113 : sI S h 9 = 0) (a_114 : sI S h 10 = 0) (a_115 : sI S h 11 = 200) (a_116 : sI S h 12 = 400) (a_117 : sI S h 13 = 3) (a_118 : sI S h 14 = 2) (a_119 : sI S h 15 = 0) (a_120 : sI S h 16 = 0) (a_121 : sI S h 17 = 0) : MI l yX8_rest wsX8_rest ({ frames := 0, cells := 0, slots := 0, locals := 0 } : Room) 0 0 D cy A [.ref h, .int a] S (fun r S1 => (r.toInt = 1 ∧ 1 ≤ a.toInt ∧ a.toInt ≤ 12) ∨ (r.toInt = 0 ∧ ¬ (1 ≤ a.toInt ∧ a.toInt ≤ 12))) := by
  refine mt_start (cc := cX8_rest) (maxL := 2) (ret := (some .boolean)) (by decide) rfl (Nat.le_of_ble_eq_true rfl) ?_
  intro p e s m args below meth c hx hb hr hlk hml hown hnm hts hK hZ hA hW hS ls hl
  have hl : lv_has ls 2 [(0, .ref h), (1, .int a)] := hl
  have hown : s.vm.findClass RX8 = some m.cls := hown
  have F : CallFix p m c cX8_rest 2 s args wsX8_rest RX8 := ⟨hx, hb, hml, hown, hts⟩
  have wi8 : ∀ w ∈ u_ws RX8 TX8 18, w ∈ wsX8_rest := by decide +kernel
  refine lv_iload_n hx hb dX8_rest_0 rfl (lv_at hl 1 rfl) ?_
  refine lv_iconst (v := 1) hx hb dX8_rest_1 (by decide) ?_
  refine lv_icmp_lt (tgt := 11) hx hb dX8_rest_2 (by decide) (fun c1 => ?_) (fun c1 => ?_)
  · have c1i : Int32.toInt a < (1 : Int) := (i3_lt _ _).mp c1
    refine lv_iconst (v := 0) hx hb dX8_rest_11 (by decide) ?_
    exact pc_zret (v := 0) (S := S) hx hb hr hlk hK hZ hA hW hS (by decide) (Or.inr ⟨rfl, by omega⟩) dX8_rest_12
  · have c1i : ¬ (Int32.toInt a < (1 : Int)) := fun h9 => c1 ((i3_lt _ _).mpr h9)
    refine lv_iload_n hx hb dX8_rest_5 rfl (lv_at hl 1 rfl) ?_
    refine lv_bipush (v := 12) hx hb dX8_rest_6 (by decide) ?_
    refine lv_icmp_le (tgt := 13) hx hb dX8_rest_8 (by decide) (fun c2 => ?_) (fun c2 => ?_)
    · have c2i : Int32.toInt a ≤ (12 : Int) := (i3_le _ _).mp c2
      refine lv_aload_n hx hb dX8_rest_13 rfl (lv_at hl 0 rfl) ?_
      refine lv_iload_n hx hb dX8_rest_14 rfl (lv_at hl 1 rfl) ?_
      refine pg_pi (ci := 8) (C := RX8) (T := TX8) (N := 18) hx hb hts wi8 tyX8 tyX8_ok nmX8 hown hK hW hS a_0 (by decide) rfl 14 (by decide) (hts (.fieldLink RX8 78 "IceHall" "restMost" "I") (by decide +kernel)) (fun _ h9 => h9) rfl rfl rfl dX8_rest_15 (fun H locs hW hS => ?_)
      have w3 : sI (stI S h 14 a) h 9 = 0 := (iI_k (by decide)).trans a_113
      have w4 : sI (stI S h 14 a) h 10 = 0 := (iI_k (by decide)).trans a_114
      have w5 : sI (stI S h 14 a) h 11 = 200 := (iI_k (by decide)).trans a_115
      have w6 : sI (stI S h 14 a) h 12 = 400 := (iI_k (by decide)).trans a_116
      have w7 : sI (stI S h 14 a) h 13 = 3 := (iI_k (by decide)).trans a_117
      have w8 : sI (stI S h 14 a) h 15 = 0 := (iI_k (by decide)).trans a_119
      have w9 : sI (stI S h 14 a) h 16 = 0 := (iI_k (by decide)).trans a_120
      have w10 : sI (stI S h 14 a) h 17 = 0 := (iI_k (by decide)).trans a_121
      have w11 : sI (stI S h 14 a) h 14 = a := iI_s
      refine lv_iconst (v := 1) hx hb dX8_rest_18 (by decide) ?_
      exact pc_zret (v := 1) (S := stI S h 14 a) hx hb hr hlk hK hZ hA hW hS (by decide) (Or.inl ⟨rfl, by omega⟩) dX8_rest_19
    · have c2i : ¬ (Int32.toInt a ≤ (12 : Int)) := fun h9 => c2 ((i3_le _ _).mpr h9)
      refine lv_iconst (v := 0) hx hb dX8_rest_11 (by decide) ?_
      exact pc_zret (v := 0) (S := S) hx hb hr hlk hK hZ hA hW hS (by decide) (Or.inr ⟨rfl, by omega⟩) dX8_rest_12
set_option maxHeartbeats 4000000 in
set_option maxRecDepth 100000 in
theorem c_X8_cut (l : Launch) (D : va_G) (cy : Nat → ClassId) (A : Nat → Prop) (S : St) (h i1 i2 : Nat) (a b d : Int32) (a_0 : sK S h = 8) (a_1 : sR S h 0 = some i1) (a_2 : sR S h 1 = some i2) (a_10 : sK S i1 = 1) (a_23 : sI S i1 2 = 0) (a_24 : sI S i1 3 = 300) (a_25 : sI S i1 4 = 0) (a_26 : sI S i1 5 = 0) (a_27 : sI S i1 6 = 0) (a_28 : sI S i1 7 = 0) (a_29 : sI S i1 8 = 0) (a_30 : sI S i1 9 = 0) (a_31 : sK S i2 = 1) (a_44 : sI S i2 2 = 0) (a_45 : sI S i2 3 = 300) (a_46 : sI S i2 4 = 0) (a_47 : sI S i2 5 = 0) (a_48 : sI S i2 6 = 0) (a_49 : sI S i2 7 = 0) (a_50 : sI S i2 8 = 0) (a_51 : sI S i2 9 = 0) (a_113 : sI S h 9 = 0) (a_114 : sI S h 10 = 0) (a_115 : sI S h 11 = 200) (a_116 : sI S h 12 = 400) (a_117 : sI S h 13 = 3) (a_118 : sI S h 14 = 2) (a_119 : sI S h 15 = 0) (a_120 : sI S h 16 = 0) (a_121 : sI S h 17 = 0) : MI l yX8_cut wsX8_cut ({ frames := 1, cells := 0, slots := 0, locals := 22 } : Room) 0 0 D cy A [.ref h, .int a, .int b, .int d] S (fun r S1 => (r.toInt = 1 ∧ 0 ≤ a.toInt ∧ a.toInt < 2 ∧ 0 ≤ b.toInt ∧ b.toInt ≤ 20 ∧ 0 ≤ d.toInt ∧ d.toInt ≤ 20) ∨ (r.toInt = 0 ∧ ¬ (0 ≤ a.toInt ∧ a.toInt < 2 ∧ 0 ≤ b.toInt ∧ b.toInt ≤ 20 ∧ 0 ≤ d.toInt ∧ d.toInt ≤ 20))) := by
  refine mt_start (cc := cX8_cut) (maxL := 4) (ret := (some .boolean)) (by decide) rfl (Nat.le_of_ble_eq_true rfl) ?_
  intro p e s m args below meth c hx hb hr hlk hml hown hnm hts hK hZ hA hW hS ls hl
  have hl : lv_has ls 4 [(0, .ref h), (1, .int a), (2, .int b), (3, .int d)] := hl
  have hown : s.vm.findClass RX8 = some m.cls := hown
  have F : CallFix p m c cX8_cut 4 s args wsX8_cut RX8 := ⟨hx, hb, hml, hown, hts⟩
  refine lv_iload_n hx hb dX8_cut_0 rfl (lv_at hl 1 rfl) ?_
  refine lv_iconst (v := 2) hx hb dX8_cut_1 (by decide) ?_
  refine pc_Si (As := [.int a, .int 2]) (rest := []) F (c_X8_isBelow l D cy A S a 2 ) (va_cwS 2 hts gX8_cut_X8_isBelow rfl rfl rfl (by decide +kernel) ⟨Nat.le_of_ble_eq_true rfl, Nat.le_of_ble_eq_true rfl⟩) hK hZ hA hW hS rfl hl.1 rfl (Nat.le_of_ble_eq_true rfl) dX8_cut_2 ⟨Nat.le_of_ble_eq_true rfl, Nat.le_of_ble_eq_true rfl⟩ (fun v1 T2 H locs p3 hW hS => ?_)
  obtain ⟨eT2, p3⟩ := p3
  rw [eT2] at hW
  have p3 := isb_lit (n := 2) rfl p3
  refine lv_if_eq (tgt := 22) hx hb dX8_cut_5 (by decide) (fun c4 => ?_) (fun c4 => ?_)
  · have c4i : Int32.toInt v1 = (0 : Int) := (i3_eq _ _).mp c4
    refine lv_iconst (v := 0) hx hb dX8_cut_22 (by decide) ?_
    exact pc_zret (v := 0) (S := S) hx hb hr hlk hK hZ hA hW hS (by decide) (Or.inr ⟨rfl, by omega⟩) dX8_cut_23
  · have c4i : ¬ (Int32.toInt v1 = (0 : Int)) := fun h9 => c4 ((i3_eq _ _).mpr h9)
    refine lv_iload_n hx hb dX8_cut_8 rfl (lv_at hl 2 rfl) ?_
    refine pc_Si (As := [.int b]) (rest := []) F (c_X8_isTenths l D cy A S b ) (va_cwS 1 hts gX8_cut_X8_isTenths rfl rfl rfl (by decide +kernel) ⟨Nat.le_of_ble_eq_true rfl, Nat.le_of_ble_eq_true rfl⟩) hK hZ hA hW hS rfl hl.1 rfl (Nat.le_of_ble_eq_true rfl) dX8_cut_9 ⟨Nat.le_of_ble_eq_true rfl, Nat.le_of_ble_eq_true rfl⟩ (fun v5 T6 H locs p7 hW hS => ?_)
    obtain ⟨eT6, p7⟩ := p7
    rw [eT6] at hW
    refine lv_if_eq (tgt := 22) hx hb dX8_cut_12 (by decide) (fun c8 => ?_) (fun c8 => ?_)
    · have c8i : Int32.toInt v5 = (0 : Int) := (i3_eq _ _).mp c8
      refine lv_iconst (v := 0) hx hb dX8_cut_22 (by decide) ?_
      exact pc_zret (v := 0) (S := S) hx hb hr hlk hK hZ hA hW hS (by decide) (Or.inr ⟨rfl, by omega⟩) dX8_cut_23
    · have c8i : ¬ (Int32.toInt v5 = (0 : Int)) := fun h9 => c8 ((i3_eq _ _).mpr h9)
      refine lv_iload_n hx hb dX8_cut_15 rfl (lv_at hl 3 rfl) ?_
      refine pc_Si (As := [.int d]) (rest := []) F (c_X8_isTenths l D cy A S d ) (va_cwS 1 hts gX8_cut_X8_isTenths rfl rfl rfl (by decide +kernel) ⟨Nat.le_of_ble_eq_true rfl, Nat.le_of_ble_eq_true rfl⟩) hK hZ hA hW hS rfl hl.1 rfl (Nat.le_of_ble_eq_true rfl) dX8_cut_16 ⟨Nat.le_of_ble_eq_true rfl, Nat.le_of_ble_eq_true rfl⟩ (fun v9 T10 H locs p11 hW hS => ?_)
      obtain ⟨eT10, p11⟩ := p11
      rw [eT10] at hW
      refine lv_if_ne (tgt := 24) hx hb dX8_cut_19 (by decide) (fun c12 => ?_) (fun c12 => ?_)
      · have c12i : ¬ (Int32.toInt v9 = (0 : Int)) := fun h9 => c12 ((i3_eq _ _).mpr h9)
        refine lv_aload_n hx hb dX8_cut_24 rfl (lv_at hl 0 rfl) ?_
        refine lv_iload_n hx hb dX8_cut_25 rfl (lv_at hl 1 rfl) ?_
        refine pc_Vq (As := [.int a]) (rest := []) F (c_X8_iceOf l D cy A S h i1 i2 a a_0 a_1 a_2) (cwV 1 hts gX8_cut_X8_iceOf rfl rfl rfl (by decide +kernel) ⟨Nat.le_of_ble_eq_true rfl, Nat.le_of_ble_eq_true rfl⟩) hK hZ hA hW hS a_0 (by decide) rfl rfl hl.1 rfl (Nat.le_of_ble_eq_true rfl) dX8_cut_26 ⟨Nat.le_of_ble_eq_true rfl, Nat.le_of_ble_eq_true rfl⟩ (fun v13 T14 H locs p15 hW hS => ?_)
        obtain ⟨eT14, p15⟩ := p15
        rw [eT14] at hW
        by_cases c16 : a = 0
        · rw [show v13 = some i1 from by rw [p15, if_pos c16]]
          refine lv_iload_n hx hb dX8_cut_29 rfl (lv_at hl 2 rfl) ?_
          refine lv_iload_n hx hb dX8_cut_30 rfl (lv_at hl 3 rfl) ?_
          refine pc_Vv (As := [.int b, .int d]) (rest := []) F (c_X1_tellCut l D cy A S i1 b d a_10) (cwV 2 hts gX8_cut_X1_tellCut rfl rfl rfl (by decide +kernel) ⟨Nat.le_of_ble_eq_true rfl, Nat.le_of_ble_eq_true rfl⟩) hK hZ hA hW hS a_10 (by decide) rfl rfl hl.1 rfl (Nat.le_of_ble_eq_true rfl) dX8_cut_31 ⟨Nat.le_of_ble_eq_true rfl, Nat.le_of_ble_eq_true rfl⟩ (fun T18 H locs p19 hW hS => ?_)
          rw [p19] at hW
          refine lv_iconst (v := 1) hx hb dX8_cut_34 (by decide) ?_
          exact pc_zret (v := 1) (S := stI (stI S i1 8 b) i1 9 d) hx hb hr hlk hK hZ hA hW hS (by decide) (Or.inl ⟨rfl, by omega⟩) dX8_cut_35
        · rw [show v13 = some i2 from by rw [p15, if_neg c16]]
          refine lv_iload_n hx hb dX8_cut_29 rfl (lv_at hl 2 rfl) ?_
          refine lv_iload_n hx hb dX8_cut_30 rfl (lv_at hl 3 rfl) ?_
          refine pc_Vv (As := [.int b, .int d]) (rest := []) F (c_X1_tellCut l D cy A S i2 b d a_31) (cwV 2 hts gX8_cut_X1_tellCut rfl rfl rfl (by decide +kernel) ⟨Nat.le_of_ble_eq_true rfl, Nat.le_of_ble_eq_true rfl⟩) hK hZ hA hW hS a_31 (by decide) rfl rfl hl.1 rfl (Nat.le_of_ble_eq_true rfl) dX8_cut_31 ⟨Nat.le_of_ble_eq_true rfl, Nat.le_of_ble_eq_true rfl⟩ (fun T21 H locs p22 hW hS => ?_)
          rw [p22] at hW
          refine lv_iconst (v := 1) hx hb dX8_cut_34 (by decide) ?_
          exact pc_zret (v := 1) (S := stI (stI S i2 8 b) i2 9 d) hx hb hr hlk hK hZ hA hW hS (by decide) (Or.inl ⟨rfl, by omega⟩) dX8_cut_35
      · have c12i : Int32.toInt v9 = (0 : Int) := (i3_eq _ _).mp c12
        refine lv_iconst (v := 0) hx hb dX8_cut_22 (by decide) ?_
        exact pc_zret (v := 0) (S := S) hx hb hr hlk hK hZ hA hW hS (by decide) (Or.inr ⟨rfl, by omega⟩) dX8_cut_23
set_option maxHeartbeats 4000000 in
set_option maxRecDepth 100000 in
theorem c_X8_cancel (l : Launch) (D : va_G) (cy : Nat → ClassId) (A : Nat → Prop) (S : St) (h : Nat) (a : Int32) (a_0 : sK S h = 8) (a_113 : sI S h 9 = 0) (a_114 : sI S h 10 = 0) (a_115 : sI S h 11 = 200) (a_116 : sI S h 12 = 400) (a_117 : sI S h 13 = 3) (a_118 : sI S h 14 = 2) (a_119 : sI S h 15 = 0) (a_120 : sI S h 16 = 0) (a_121 : sI S h 17 = 0) : MI l yX8_cancel wsX8_cancel ({ frames := 1, cells := 0, slots := 0, locals := 21 } : Room) 0 0 D cy A [.ref h, .int a] S (fun r S1 => r = 0) := by
  refine mt_start (cc := cX8_cancel) (maxL := 3) (ret := (some .boolean)) (by decide) rfl (Nat.le_of_ble_eq_true rfl) ?_
  intro p e s m args below meth c hx hb hr hlk hml hown hnm hts hK hZ hA hW hS ls hl
  have hl : lv_has ls 3 [(0, .ref h), (1, .int a)] := hl
  have hown : s.vm.findClass RX8 = some m.cls := hown
  have F : CallFix p m c cX8_cancel 3 s args wsX8_cancel RX8 := ⟨hx, hb, hml, hown, hts⟩
  refine lv_aload_n hx hb dX8_cancel_0 rfl (lv_at hl 0 rfl) ?_
  refine lv_iload_n hx hb dX8_cancel_1 rfl (lv_at hl 1 rfl) ?_
  refine pc_Vq (As := [.int a]) (rest := []) F (c_X8_sessionOf l D cy A S h a a_0 a_113) (cwV 1 hts gX8_cancel_X8_sessionOf rfl rfl rfl (by decide +kernel) ⟨Nat.le_of_ble_eq_true rfl, Nat.le_of_ble_eq_true rfl⟩) hK hZ hA hW hS a_0 (by decide) rfl rfl hl.1 rfl (Nat.le_of_ble_eq_true rfl) dX8_cancel_2 ⟨Nat.le_of_ble_eq_true rfl, Nat.le_of_ble_eq_true rfl⟩ (fun v1 T2 H locs p3 hW hS => ?_)
  obtain ⟨eT2, p3⟩ := p3
  rw [eT2] at hW
  rw [show v1 = none from p3]
  refine lv_astore_nN (lv' := [(2, .null), (0, .ref h), (1, .int a)]) hx hb dX8_cancel_5 rfl hl (by decide) rfl (fun ls hl => ?_)
  refine lv_aload_nN hx hb dX8_cancel_6 rfl (lv_at hl 0 rfl) ?_
  refine lv_ifnullN (tgt := 17) hx hb dX8_cancel_7 (by decide) ?_
  refine lv_iconst (v := 0) hx hb dX8_cancel_17 (by decide) ?_
  exact pc_zret (v := 0) (S := S) hx hb hr hlk hK hZ hA hW hS (by decide) (rfl) dX8_cancel_18
set_option maxHeartbeats 4000000 in
set_option maxRecDepth 100000 in
theorem c_X8_look (l : Launch) (D : va_G) (cy : Nat → ClassId) (A : Nat → Prop) (S : St) (h : Nat) (a b : Int32) (a_0 : sK S h = 8) (a_113 : sI S h 9 = 0) (a_114 : sI S h 10 = 0) (a_115 : sI S h 11 = 200) (a_116 : sI S h 12 = 400) (a_117 : sI S h 13 = 3) (a_118 : sI S h 14 = 2) (a_119 : sI S h 15 = 0) (a_120 : sI S h 16 = 0) (a_121 : sI S h 17 = 0) : MI l yX8_look wsX8_look ({ frames := 1, cells := 0, slots := 0, locals := 21 } : Room) 0 0 D cy A [.ref h, .int a, .int b] S (fun r S1 => r = (-1)) := by
  refine mt_start (cc := cX8_look) (maxL := 4) (ret := (some .int)) (by decide) rfl (Nat.le_of_ble_eq_true rfl) ?_
  intro p e s m args below meth c hx hb hr hlk hml hown hnm hts hK hZ hA hW hS ls hl
  have hl : lv_has ls 4 [(0, .ref h), (1, .int a), (2, .int b)] := hl
  have hown : s.vm.findClass RX8 = some m.cls := hown
  have F : CallFix p m c cX8_look 4 s args wsX8_look RX8 := ⟨hx, hb, hml, hown, hts⟩
  refine lv_aload_n hx hb dX8_look_0 rfl (lv_at hl 0 rfl) ?_
  refine lv_iload_n hx hb dX8_look_1 rfl (lv_at hl 1 rfl) ?_
  refine pc_Vq (As := [.int a]) (rest := []) F (c_X8_sessionOf l D cy A S h a a_0 a_113) (cwV 1 hts gX8_look_X8_sessionOf rfl rfl rfl (by decide +kernel) ⟨Nat.le_of_ble_eq_true rfl, Nat.le_of_ble_eq_true rfl⟩) hK hZ hA hW hS a_0 (by decide) rfl rfl hl.1 rfl (Nat.le_of_ble_eq_true rfl) dX8_look_2 ⟨Nat.le_of_ble_eq_true rfl, Nat.le_of_ble_eq_true rfl⟩ (fun v1 T2 H locs p3 hW hS => ?_)
  obtain ⟨eT2, p3⟩ := p3
  rw [eT2] at hW
  rw [show v1 = none from p3]
  refine lv_astore_nN (lv' := [(3, .null), (0, .ref h), (1, .int a), (2, .int b)]) hx hb dX8_look_5 rfl hl (by decide) rfl (fun ls hl => ?_)
  refine lv_aload_nN hx hb dX8_look_6 rfl (lv_at hl 0 rfl) ?_
  refine lv_ifnonnullN hx hb dX8_look_7 ?_
  refine lv_iconst (v := (-1)) hx hb dX8_look_10 (by decide) ?_
  exact pc_iret (v := (-1)) (S := S) hx hb hr hlk hK hZ hA hW hS (rfl) dX8_look_11
set_option maxHeartbeats 4000000 in
set_option maxRecDepth 100000 in
theorem c_X8_at (l : Launch) (D : va_G) (cy : Nat → ClassId) (A : Nat → Prop) (S : St) (h i1 i2 q1 w1 q3 w3 : Nat) (a b : Int32) (a_0 : sK S h = 8) (a_1 : sR S h 0 = some i1) (a_2 : sR S h 1 = some i2) (a_10 : sK S i1 = 1) (a_11 : sR S i1 0 = some q1) (a_12 : sK S q1 = 0) (a_13 : sR S q1 0 = some w1) (a_14 : sK S w1 = 12) (a_15 : sL S w1 = 32) (a_16 : ∀ j, sJ S w1 j = 0) (a_23 : sI S i1 2 = 0) (a_24 : sI S i1 3 = 300) (a_25 : sI S i1 4 = 0) (a_26 : sI S i1 5 = 0) (a_27 : sI S i1 6 = 0) (a_28 : sI S i1 7 = 0) (a_29 : sI S i1 8 = 0) (a_30 : sI S i1 9 = 0) (a_31 : sK S i2 = 1) (a_32 : sR S i2 0 = some q3) (a_33 : sK S q3 = 0) (a_34 : sR S q3 0 = some w3) (a_35 : sK S w3 = 12) (a_36 : sL S w3 = 32) (a_37 : ∀ j, sJ S w3 j = 0) (a_44 : sI S i2 2 = 0) (a_45 : sI S i2 3 = 300) (a_46 : sI S i2 4 = 0) (a_47 : sI S i2 5 = 0) (a_48 : sI S i2 6 = 0) (a_49 : sI S i2 7 = 0) (a_50 : sI S i2 8 = 0) (a_51 : sI S i2 9 = 0) (a_113 : sI S h 9 = 0) (a_114 : sI S h 10 = 0) (a_115 : sI S h 11 = 200) (a_116 : sI S h 12 = 400) (a_117 : sI S h 13 = 3) (a_118 : sI S h 14 = 2) (a_119 : sI S h 15 = 0) (a_120 : sI S h 16 = 0) (a_121 : sI S h 17 = 0) : MI l yX8_at wsX8_at ({ frames := 2, cells := 0, slots := 0, locals := 45 } : Room) 0 0 D cy A [.ref h, .int a, .int b] S (fun r S1 => r = (-1)) := by
  refine mt_start (cc := cX8_at) (maxL := 3) (ret := (some .int)) (by decide) rfl (Nat.le_of_ble_eq_true rfl) ?_
  intro p e s m args below meth c hx hb hr hlk hml hown hnm hts hK hZ hA hW hS ls hl
  have hl : lv_has ls 3 [(0, .ref h), (1, .int a), (2, .int b)] := hl
  have hown : s.vm.findClass RX8 = some m.cls := hown
  have F : CallFix p m c cX8_at 3 s args wsX8_at RX8 := ⟨hx, hb, hml, hown, hts⟩
  refine lv_iload_n hx hb dX8_at_0 rfl (lv_at hl 1 rfl) ?_
  refine lv_iconst (v := 2) hx hb dX8_at_1 (by decide) ?_
  refine pc_Si (As := [.int a, .int 2]) (rest := []) F (c_X8_isBelow l D cy A S a 2 ) (va_cwS 2 hts gX8_at_X8_isBelow rfl rfl rfl (by decide +kernel) ⟨Nat.le_of_ble_eq_true rfl, Nat.le_of_ble_eq_true rfl⟩) hK hZ hA hW hS rfl hl.1 rfl (Nat.le_of_ble_eq_true rfl) dX8_at_2 ⟨Nat.le_of_ble_eq_true rfl, Nat.le_of_ble_eq_true rfl⟩ (fun v1 T2 H locs p3 hW hS => ?_)
  obtain ⟨eT2, p3⟩ := p3
  rw [eT2] at hW
  have p3 := isb_lit (n := 2) rfl p3
  refine lv_if_eq (tgt := 17) hx hb dX8_at_5 (by decide) (fun c4 => ?_) (fun c4 => ?_)
  · have c4i : Int32.toInt v1 = (0 : Int) := (i3_eq _ _).mp c4
    refine lv_iconst (v := (-1)) hx hb dX8_at_17 (by decide) ?_
    exact pc_iret (v := (-1)) (S := S) hx hb hr hlk hK hZ hA hW hS (rfl) dX8_at_18
  · have c4i : ¬ (Int32.toInt v1 = (0 : Int)) := fun h9 => c4 ((i3_eq _ _).mpr h9)
    refine lv_aload_n hx hb dX8_at_8 rfl (lv_at hl 0 rfl) ?_
    refine lv_iload_n hx hb dX8_at_9 rfl (lv_at hl 1 rfl) ?_
    refine lv_iload_n hx hb dX8_at_10 rfl (lv_at hl 2 rfl) ?_
    refine pc_Vi (As := [.int a, .int b]) (rest := []) F (c_X8_numberAt l D cy A S h i1 i2 q1 w1 q3 w3 a b a_0 a_1 a_2 a_10 a_11 a_12 a_13 a_14 a_15 a_16 a_31 a_32 a_33 a_34 a_35 a_36 a_37 a_113) (cwV 2 hts gX8_at_X8_numberAt rfl rfl rfl (by decide +kernel) ⟨Nat.le_of_ble_eq_true rfl, Nat.le_of_ble_eq_true rfl⟩) hK hZ hA hW hS a_0 (by decide) rfl rfl hl.1 rfl (Nat.le_of_ble_eq_true rfl) dX8_at_11 ⟨Nat.le_of_ble_eq_true rfl, Nat.le_of_ble_eq_true rfl⟩ (fun v5 T6 H locs p7 hW hS => ?_)
    obtain ⟨eT6, p7⟩ := p7
    rw [eT6] at hW
    rw [show v5 = (-1) from p7]
    refine lv_goto (tgt := 18) hx hb dX8_at_14 (by decide) ?_
    exact pc_iret (v := (-1)) (S := S) hx hb hr hlk hK hZ hA hW hS (rfl) dX8_at_18
