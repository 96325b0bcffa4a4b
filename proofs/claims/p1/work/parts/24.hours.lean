set_option maxHeartbeats 4000000 in
set_option maxRecDepth 100000 in
theorem c_X0_has (l : Launch) (D : va_G) (cy : Nat → ClassId) (A : Nat → Prop) (S : St) (h w : Nat) (a : Int32) (hk : sK S h = 0) (hr0 : sR S h 0 = some w) (hkw : sK S w = 12) (hn : sL S w = 32) (hz : ∀ j, sJ S w j = 0) : MI l yX0_has wsX0_has ({ frames := 0, cells := 0, slots := 0, locals := 0 } : Room) 0 0 D cy A [.ref h, .int a] S (fun r S1 => S1 = S ∧ r = 0) := by
  refine mt_start (cc := cX0_has) (maxL := 2) (ret := (some .boolean)) (by decide) rfl (Nat.le_of_ble_eq_true rfl) ?_
  intro p e s m args below meth c hx hb hr hlk hml hown hnm hts hK hZ hA hW hS ls hl
  have hl : lv_has ls 2 [(0, .ref h), (1, .int a)] := hl
  have hown : s.vm.findClass RX0 = some m.cls := hown
  have F : CallFix p m c cX0_has 2 s args wsX0_has RX0 := ⟨hx, hb, hml, hown, hts⟩
  have wi0 : ∀ w ∈ u_ws RX0 TX0 1, w ∈ wsX0_has := by decide +kernel
  refine lv_iload_n hx hb dX0_has_0 rfl (lv_at hl 1 rfl) ?_
  refine lv_if_lt (tgt := 36) hx hb dX0_has_1 (by decide) (fun c1 => ?_) (fun c1 => ?_)
  · have c1i : Int32.toInt a < (0 : Int) := (i3_lt _ _).mp c1
    refine lv_iconst (v := 0) hx hb dX0_has_36 (by decide) ?_
    exact pc_zret (v := 0) (S := S) hx hb hr hlk hK hZ hA hW hS (by decide) (⟨rfl, rfl⟩) dX0_has_37
  · have c1i : ¬ (Int32.toInt a < (0 : Int)) := fun h9 => c1 ((i3_lt _ _).mpr h9)
    refine lv_iload_n hx hb dX0_has_4 rfl (lv_at hl 1 rfl) ?_
    refine lv_sipush (v := 2048) hx hb dX0_has_5 (by decide) ?_
    refine lv_icmp_ge (tgt := 36) hx hb dX0_has_8 (by decide) (fun c2 => ?_) (fun c2 => ?_)
    · have c2i : (2048 : Int) ≤ Int32.toInt a := (i3_le _ _).mp c2
      refine lv_iconst (v := 0) hx hb dX0_has_36 (by decide) ?_
      exact pc_zret (v := 0) (S := S) hx hb hr hlk hK hZ hA hW hS (by decide) (⟨rfl, rfl⟩) dX0_has_37
    · have c2i : ¬ ((2048 : Int) ≤ Int32.toInt a) := fun h9 => c2 ((i3_le _ _).mpr h9)
      refine lv_aload_n hx hb dX0_has_11 rfl (lv_at hl 0 rfl) ?_
      refine pg_gr (b := w) (ci := 0) (C := RX0) (T := TX0) (N := 1) hx hb hts wi0 hown hK hW hk (by decide) rfl 0 (by decide) (hts (.fieldLink RX0 9 "IceHall$HourSet" "words" "[J") (by decide +kernel)) (fun _ h9 => h9) rfl hr0 dX0_has_12 ?_
      refine lv_iload_n hx hb dX0_has_15 rfl (lv_at hl 1 rfl) ?_
      refine lv_bipush (v := 64) hx hb dX0_has_16 (by decide) ?_
      refine lv_idiv hx hb dX0_has_18 (by decide) ?_
      refine pg_lald hx hb hK hW hkw (by rw [hn]; exact hs_in c1 c2) dX0_has_19 ?_
      refine lv_iload_n hx hb dX0_has_20 rfl (lv_at hl 1 rfl) ?_
      refine lv_bipush (v := 64) hx hb dX0_has_21 (by decide) ?_
      refine lv_irem hx hb dX0_has_23 (by decide) ?_
      refine lv_lushr (v := (((sJ S w (Int32.toNatClampNeg (a / 64))).toUInt64 >>> ((Int32.toInt64 (a - a / 64 * 64)).toUInt64 &&& Int64.toUInt64 63)).toInt64)) hx hb dX0_has_24 rfl ?_
      refine lv_lconst (v := 1) hx hb dX0_has_25 (by decide) ?_
      refine lv_land hx hb dX0_has_26 ?_
      refine lv_lconst (v := 0) hx hb dX0_has_27 (by decide) ?_
      refine W.lcmp hx hb dX0_has_28 ?_
      refine lv_if_eq (tgt := 36) hx hb dX0_has_29 (by decide) (fun c3 => ?_) (fun c3 => absurd (hs_0 (hz _) _) c3)
      refine lv_iconst (v := 0) hx hb dX0_has_36 (by decide) ?_
      exact pc_zret (v := 0) (S := S) hx hb hr hlk hK hZ hA hW hS (by decide) (⟨rfl, rfl⟩) dX0_has_37
set_option maxHeartbeats 4000000 in
set_option maxRecDepth 100000 in
theorem c_X0_put (l : Launch) (D : va_G) (cy : Nat → ClassId) (A : Nat → Prop) (S : St) (h w : Nat) (a : Int32) (hk : sK S h = 0) (hr0 : sR S h 0 = some w) (hkw : sK S w = 12) (hn : sL S w = 32) : MV l yX0_put wsX0_put ({ frames := 0, cells := 0, slots := 0, locals := 0 } : Room) 0 0 D cy A [.ref h, .int a] S (fun S1 => sK S1 = sK S ∧ sR S1 = sR S ∧ sL S1 = sL S ∧ sI S1 = sI S) := by
  refine mt_start (cc := cX0_put) (maxL := 2) (ret := none) (by decide) rfl (Nat.le_of_ble_eq_true rfl) ?_
  intro p e s m args below meth c hx hb hr hlk hml hown hnm hts hK hZ hA hW hS ls hl
  have hl : lv_has ls 2 [(0, .ref h), (1, .int a)] := hl
  have hown : s.vm.findClass RX0 = some m.cls := hown
  have F : CallFix p m c cX0_put 2 s args wsX0_put RX0 := ⟨hx, hb, hml, hown, hts⟩
  have wi0 : ∀ w ∈ u_ws RX0 TX0 1, w ∈ wsX0_put := by decide +kernel
  refine lv_iload_n hx hb dX0_put_0 rfl (lv_at hl 1 rfl) ?_
  refine lv_if_lt (tgt := 29) hx hb dX0_put_1 (by decide) (fun c1 => ?_) (fun c1 => ?_)
  · have c1i : Int32.toInt a < (0 : Int) := (i3_lt _ _).mp c1
    exact pc_vret (S := S) hx hb hr hlk hK hZ hA hW hS (⟨rfl, rfl, rfl, rfl⟩) dX0_put_29
  · have c1i : ¬ (Int32.toInt a < (0 : Int)) := fun h9 => c1 ((i3_lt _ _).mpr h9)
    refine lv_iload_n hx hb dX0_put_4 rfl (lv_at hl 1 rfl) ?_
    refine lv_sipush (v := 2048) hx hb dX0_put_5 (by decide) ?_
    refine lv_icmp_ge (tgt := 29) hx hb dX0_put_8 (by decide) (fun c2 => ?_) (fun c2 => ?_)
    · have c2i : (2048 : Int) ≤ Int32.toInt a := (i3_le _ _).mp c2
      exact pc_vret (S := S) hx hb hr hlk hK hZ hA hW hS (⟨rfl, rfl, rfl, rfl⟩) dX0_put_29
    · have c2i : ¬ ((2048 : Int) ≤ Int32.toInt a) := fun h9 => c2 ((i3_le _ _).mpr h9)
      refine lv_aload_n hx hb dX0_put_11 rfl (lv_at hl 0 rfl) ?_
      refine pg_gr (b := w) (ci := 0) (C := RX0) (T := TX0) (N := 1) hx hb hts wi0 hown hK hW hk (by decide) rfl 0 (by decide) (hts (.fieldLink RX0 9 "IceHall$HourSet" "words" "[J") (by decide +kernel)) (fun _ h9 => h9) rfl hr0 dX0_put_12 ?_
      refine lv_iload_n hx hb dX0_put_15 rfl (lv_at hl 1 rfl) ?_
      refine lv_bipush (v := 64) hx hb dX0_put_16 (by decide) ?_
      refine lv_idiv hx hb dX0_put_18 (by decide) ?_
      refine lv_dup2_11 hx hb dX0_put_19 rfl rfl ?_
      refine pg_lald hx hb hK hW hkw (by rw [hn]; exact hs_in c1 c2) dX0_put_20 ?_
      refine lv_lconst (v := 1) hx hb dX0_put_21 (by decide) ?_
      refine lv_iload_n hx hb dX0_put_22 rfl (lv_at hl 1 rfl) ?_
      refine lv_bipush (v := 64) hx hb dX0_put_23 (by decide) ?_
      refine lv_irem hx hb dX0_put_25 (by decide) ?_
      refine lv_lshl (v := 1 <<< (Int32.toInt64 (a - a / 64 * 64) &&& 63)) hx hb dX0_put_26 rfl ?_
      refine lv_lor hx hb dX0_put_27 ?_
      refine pg_last hx hb hK hW hS hkw (by rw [hn]; exact hs_in c1 c2) dX0_put_28 (fun H locs hW hS => ?_)
      exact pc_vret (S := stJ S w (Int32.toNatClampNeg (a / 64)) ((sJ S w (Int32.toNatClampNeg (a / 64))) ||| (1 <<< (Int32.toInt64 (a - a / 64 * 64) &&& 63)))) hx hb hr hlk hK hZ hA hW hS (⟨rfl, rfl, rfl, rfl⟩) dX0_put_29
set_option maxHeartbeats 4000000 in
set_option maxRecDepth 100000 in
theorem c_X0_drop (l : Launch) (D : va_G) (cy : Nat → ClassId) (A : Nat → Prop) (S : St) (h w : Nat) (a : Int32) (hk : sK S h = 0) (hr0 : sR S h 0 = some w) (hkw : sK S w = 12) (hn : sL S w = 32) : MV l yX0_drop wsX0_drop ({ frames := 0, cells := 0, slots := 0, locals := 0 } : Room) 0 0 D cy A [.ref h, .int a] S (fun S1 => sK S1 = sK S ∧ sR S1 = sR S ∧ sL S1 = sL S ∧ sI S1 = sI S) := by
  refine mt_start (cc := cX0_drop) (maxL := 2) (ret := none) (by decide) rfl (Nat.le_of_ble_eq_true rfl) ?_
  intro p e s m args below meth c hx hb hr hlk hml hown hnm hts hK hZ hA hW hS ls hl
  have hl : lv_has ls 2 [(0, .ref h), (1, .int a)] := hl
  have hown : s.vm.findClass RX0 = some m.cls := hown
  have F : CallFix p m c cX0_drop 2 s args wsX0_drop RX0 := ⟨hx, hb, hml, hown, hts⟩
  have wi0 : ∀ w ∈ u_ws RX0 TX0 1, w ∈ wsX0_drop := by decide +kernel
  refine lv_iload_n hx hb dX0_drop_0 rfl (lv_at hl 1 rfl) ?_
  refine lv_if_lt (tgt := 33) hx hb dX0_drop_1 (by decide) (fun c1 => ?_) (fun c1 => ?_)
  · have c1i : Int32.toInt a < (0 : Int) := (i3_lt _ _).mp c1
    exact pc_vret (S := S) hx hb hr hlk hK hZ hA hW hS (⟨rfl, rfl, rfl, rfl⟩) dX0_drop_33
  · have c1i : ¬ (Int32.toInt a < (0 : Int)) := fun h9 => c1 ((i3_lt _ _).mpr h9)
    refine lv_iload_n hx hb dX0_drop_4 rfl (lv_at hl 1 rfl) ?_
    refine lv_sipush (v := 2048) hx hb dX0_drop_5 (by decide) ?_
    refine lv_icmp_ge (tgt := 33) hx hb dX0_drop_8 (by decide) (fun c2 => ?_) (fun c2 => ?_)
    · have c2i : (2048 : Int) ≤ Int32.toInt a := (i3_le _ _).mp c2
      exact pc_vret (S := S) hx hb hr hlk hK hZ hA hW hS (⟨rfl, rfl, rfl, rfl⟩) dX0_drop_33
    · have c2i : ¬ ((2048 : Int) ≤ Int32.toInt a) := fun h9 => c2 ((i3_le _ _).mpr h9)
      refine lv_aload_n hx hb dX0_drop_11 rfl (lv_at hl 0 rfl) ?_
      refine pg_gr (b := w) (ci := 0) (C := RX0) (T := TX0) (N := 1) hx hb hts wi0 hown hK hW hk (by decide) rfl 0 (by decide) (hts (.fieldLink RX0 9 "IceHall$HourSet" "words" "[J") (by decide +kernel)) (fun _ h9 => h9) rfl hr0 dX0_drop_12 ?_
      refine lv_iload_n hx hb dX0_drop_15 rfl (lv_at hl 1 rfl) ?_
      refine lv_bipush (v := 64) hx hb dX0_drop_16 (by decide) ?_
      refine lv_idiv hx hb dX0_drop_18 (by decide) ?_
      refine lv_dup2_11 hx hb dX0_drop_19 rfl rfl ?_
      refine pg_lald hx hb hK hW hkw (by rw [hn]; exact hs_in c1 c2) dX0_drop_20 ?_
      refine lv_lconst (v := 1) hx hb dX0_drop_21 (by decide) ?_
      refine lv_iload_n hx hb dX0_drop_22 rfl (lv_at hl 1 rfl) ?_
      refine lv_bipush (v := 64) hx hb dX0_drop_23 (by decide) ?_
      refine lv_irem hx hb dX0_drop_25 (by decide) ?_
      refine lv_lshl (v := 1 <<< (Int32.toInt64 (a - a / 64 * 64) &&& 63)) hx hb dX0_drop_26 rfl ?_
      refine lv_ldc2 (v := (-1)) hx hb hown (hts (.constantLong RX0 13 (-1)) (by decide +kernel)) dX0_drop_27 ?_
      refine lv_lxor hx hb dX0_drop_30 ?_
      refine lv_land hx hb dX0_drop_31 ?_
      refine pg_last hx hb hK hW hS hkw (by rw [hn]; exact hs_in c1 c2) dX0_drop_32 (fun H locs hW hS => ?_)
      exact pc_vret (S := stJ S w (Int32.toNatClampNeg (a / 64)) ((sJ S w (Int32.toNatClampNeg (a / 64))) &&& ((1 <<< (Int32.toInt64 (a - a / 64 * 64) &&& 63)) ^^^ ((-1))))) hx hb hr hlk hK hZ hA hW hS (⟨rfl, rfl, rfl, rfl⟩) dX0_drop_33
set_option maxHeartbeats 4000000 in
set_option maxRecDepth 100000 in
theorem c_X1_runThrough (l : Launch) (D : va_G) (cy : Nat → ClassId) (A : Nat → Prop) (S : St) (i q1 w1 : Nat) (a : Int32) (hk : sK S i = 1) (r0 : sR S i 0 = some q1) (kq1 : sK S q1 = 0) (rq1 : sR S q1 0 = some w1) (kw1 : sK S w1 = 12) (nw1 : sL S w1 = 32) (zw1 : ∀ j, sJ S w1 j = 0) : MI l yX1_runThrough wsX1_runThrough ({ frames := 1, cells := 0, slots := 0, locals := 21 } : Room) 0 0 D cy A [.ref i, .int a] S (fun r S1 => S1 = S ∧ r = 1) := by
  refine mt_start (cc := cX1_runThrough) (maxL := 4) (ret := (some .int)) (by decide) rfl (Nat.le_of_ble_eq_true rfl) ?_
  intro p e s m args below meth c hx hb hr hlk hml hown hnm hts hK hZ hA hW hS ls hl
  have hl : lv_has ls 4 [(0, .ref i), (1, .int a)] := hl
  have hown : s.vm.findClass RX1 = some m.cls := hown
  have F : CallFix p m c cX1_runThrough 4 s args wsX1_runThrough RX1 := ⟨hx, hb, hml, hown, hts⟩
  have wi1 : ∀ w ∈ u_ws RX1 TX1 10, w ∈ wsX1_runThrough := by decide +kernel
  refine lv_iconst (v := 1) hx hb dX1_runThrough_0 (by decide) ?_
  refine lv_istore_n (lv' := [(2, .int 1), (0, .ref i), (1, .int a)]) hx hb dX1_runThrough_1 rfl hl (by decide) rfl (fun ls hl => ?_)
  refine lv_iload_n hx hb dX1_runThrough_2 rfl (lv_at hl 2 rfl) ?_
  refine lv_iconst (v := 1) hx hb dX1_runThrough_3 (by decide) ?_
  refine lv_isub hx hb dX1_runThrough_4 ?_
  refine lv_istore_n (lv' := [(3, .int (a - 1)), (2, .int 1), (0, .ref i), (1, .int a)]) hx hb dX1_runThrough_5 rfl hl (by decide) rfl (fun ls hl => ?_)
  refine lv_iload_n hx hb dX1_runThrough_6 rfl (lv_at hl 0 rfl) ?_
  refine lv_if_lt (tgt := 30) hx hb dX1_runThrough_7 (by decide) (fun c1 => ?_) (fun c1 => ?_)
  · have c1i : Int32.toInt (a - 1) < (0 : Int) := (i3_lt _ _).mp c1
    refine lv_iload_n hx hb dX1_runThrough_30 rfl (lv_at hl 3 rfl) ?_
    refine lv_iconst (v := 1) hx hb dX1_runThrough_31 (by decide) ?_
    refine lv_iadd hx hb dX1_runThrough_32 ?_
    refine lv_istore_n (lv' := [(3, .int (a + 1)), (2, .int 1), (0, .ref i), (1, .int a)]) hx hb dX1_runThrough_33 rfl hl (by decide) rfl (fun ls hl => ?_)
    refine lv_iload_n hx hb dX1_runThrough_34 rfl (lv_at hl 0 rfl) ?_
    refine lv_sipush (v := 2048) hx hb dX1_runThrough_35 (by decide) ?_
    refine lv_icmp_ge (tgt := 61) hx hb dX1_runThrough_38 (by decide) (fun c2 => ?_) (fun c2 => ?_)
    · have c2i : (2048 : Int) ≤ Int32.toInt (a + 1) := (i3_le _ _).mp c2
      refine lv_iload_n hx hb dX1_runThrough_61 rfl (lv_at hl 1 rfl) ?_
      exact pc_iret (v := 1) (S := S) hx hb hr hlk hK hZ hA hW hS (⟨rfl, rfl⟩) dX1_runThrough_62
    · have c2i : ¬ ((2048 : Int) ≤ Int32.toInt (a + 1)) := fun h9 => c2 ((i3_le _ _).mpr h9)
      refine lv_aload_n hx hb dX1_runThrough_41 rfl (lv_at hl 2 rfl) ?_
      refine pg_gr (b := q1) (ci := 1) (C := RX1) (T := TX1) (N := 10) hx hb hts wi1 hown hK hW hk (by decide) rfl 0 (by decide) (hts (.fieldLink RX1 12 "IceHall$Ice" "taken" "LIceHall$HourSet;") (by decide +kernel)) (fun _ h9 => h9) rfl r0 dX1_runThrough_42 ?_
      refine lv_iload_n hx hb dX1_runThrough_45 rfl (lv_at hl 0 rfl) ?_
      refine pc_Vi (As := [.int (a + 1)]) (rest := []) F (c_X0_has l D cy A S q1 w1 (a + 1) kq1 rq1 kw1 nw1 zw1) (cwV 1 hts gX1_runThrough_X0_has rfl rfl rfl (by decide +kernel) ⟨Nat.le_of_ble_eq_true rfl, Nat.le_of_ble_eq_true rfl⟩) hK hZ hA hW hS kq1 (by decide) rfl rfl hl.1 rfl (Nat.le_of_ble_eq_true rfl) dX1_runThrough_46 ⟨Nat.le_of_ble_eq_true rfl, Nat.le_of_ble_eq_true rfl⟩ (fun v3 T4 H locs p5 hW hS => ?_)
      obtain ⟨eT4, p5⟩ := p5
      rw [eT4] at hW
      rw [show v3 = 0 from p5]
      refine lv_if_eq (tgt := 61) hx hb dX1_runThrough_49 (by decide) (fun c6 => ?_) (fun c6 => absurd (by decide) c6)
      refine lv_iload_n hx hb dX1_runThrough_61 rfl (lv_at hl 1 rfl) ?_
      exact pc_iret (v := 1) (S := S) hx hb hr hlk hK hZ hA hW hS (⟨rfl, rfl⟩) dX1_runThrough_62
  · have c1i : ¬ (Int32.toInt (a - 1) < (0 : Int)) := fun h9 => c1 ((i3_lt _ _).mpr h9)
    refine lv_aload_n hx hb dX1_runThrough_10 rfl (lv_at hl 2 rfl) ?_
    refine pg_gr (b := q1) (ci := 1) (C := RX1) (T := TX1) (N := 10) hx hb hts wi1 hown hK hW hk (by decide) rfl 0 (by decide) (hts (.fieldLink RX1 12 "IceHall$Ice" "taken" "LIceHall$HourSet;") (by decide +kernel)) (fun _ h9 => h9) rfl r0 dX1_runThrough_11 ?_
    refine lv_iload_n hx hb dX1_runThrough_14 rfl (lv_at hl 0 rfl) ?_
    refine pc_Vi (As := [.int (a - 1)]) (rest := []) F (c_X0_has l D cy A S q1 w1 (a - 1) kq1 rq1 kw1 nw1 zw1) (cwV 1 hts gX1_runThrough_X0_has rfl rfl rfl (by decide +kernel) ⟨Nat.le_of_ble_eq_true rfl, Nat.le_of_ble_eq_true rfl⟩) hK hZ hA hW hS kq1 (by decide) rfl rfl hl.1 rfl (Nat.le_of_ble_eq_true rfl) dX1_runThrough_15 ⟨Nat.le_of_ble_eq_true rfl, Nat.le_of_ble_eq_true rfl⟩ (fun v7 T8 H locs p9 hW hS => ?_)
    obtain ⟨eT8, p9⟩ := p9
    rw [eT8] at hW
    rw [show v7 = 0 from p9]
    refine lv_if_eq (tgt := 30) hx hb dX1_runThrough_18 (by decide) (fun c10 => ?_) (fun c10 => absurd (by decide) c10)
    refine lv_iload_n hx hb dX1_runThrough_30 rfl (lv_at hl 3 rfl) ?_
    refine lv_iconst (v := 1) hx hb dX1_runThrough_31 (by decide) ?_
    refine lv_iadd hx hb dX1_runThrough_32 ?_
    refine lv_istore_n (lv' := [(3, .int (a + 1)), (2, .int 1), (0, .ref i), (1, .int a)]) hx hb dX1_runThrough_33 rfl hl (by decide) rfl (fun ls hl => ?_)
    refine lv_iload_n hx hb dX1_runThrough_34 rfl (lv_at hl 0 rfl) ?_
    refine lv_sipush (v := 2048) hx hb dX1_runThrough_35 (by decide) ?_
    refine lv_icmp_ge (tgt := 61) hx hb dX1_runThrough_38 (by decide) (fun c11 => ?_) (fun c11 => ?_)
    · have c11i : (2048 : Int) ≤ Int32.toInt (a + 1) := (i3_le _ _).mp c11
      refine lv_iload_n hx hb dX1_runThrough_61 rfl (lv_at hl 1 rfl) ?_
      exact pc_iret (v := 1) (S := S) hx hb hr hlk hK hZ hA hW hS (⟨rfl, rfl⟩) dX1_runThrough_62
    · have c11i : ¬ ((2048 : Int) ≤ Int32.toInt (a + 1)) := fun h9 => c11 ((i3_le _ _).mpr h9)
      refine lv_aload_n hx hb dX1_runThrough_41 rfl (lv_at hl 2 rfl) ?_
      refine pg_gr (b := q1) (ci := 1) (C := RX1) (T := TX1) (N := 10) hx hb hts wi1 hown hK hW hk (by decide) rfl 0 (by decide) (hts (.fieldLink RX1 12 "IceHall$Ice" "taken" "LIceHall$HourSet;") (by decide +kernel)) (fun _ h9 => h9) rfl r0 dX1_runThrough_42 ?_
      refine lv_iload_n hx hb dX1_runThrough_45 rfl (lv_at hl 0 rfl) ?_
      refine pc_Vi (As := [.int (a + 1)]) (rest := []) F (c_X0_has l D cy A S q1 w1 (a + 1) kq1 rq1 kw1 nw1 zw1) (cwV 1 hts gX1_runThrough_X0_has rfl rfl rfl (by decide +kernel) ⟨Nat.le_of_ble_eq_true rfl, Nat.le_of_ble_eq_true rfl⟩) hK hZ hA hW hS kq1 (by decide) rfl rfl hl.1 rfl (Nat.le_of_ble_eq_true rfl) dX1_runThrough_46 ⟨Nat.le_of_ble_eq_true rfl, Nat.le_of_ble_eq_true rfl⟩ (fun v12 T13 H locs p14 hW hS => ?_)
      obtain ⟨eT13, p14⟩ := p14
      rw [eT13] at hW
      rw [show v12 = 0 from p14]
      refine lv_if_eq (tgt := 61) hx hb dX1_runThrough_49 (by decide) (fun c15 => ?_) (fun c15 => absurd (by decide) c15)
      refine lv_iload_n hx hb dX1_runThrough_61 rfl (lv_at hl 1 rfl) ?_
      exact pc_iret (v := 1) (S := S) hx hb hr hlk hK hZ hA hW hS (⟨rfl, rfl⟩) dX1_runThrough_62
set_option maxHeartbeats 4000000 in
set_option maxRecDepth 100000 in
theorem c_X1_hasRoom (l : Launch) (D : va_G) (cy : Nat → ClassId) (A : Nat → Prop) (S : St) (i q1 w1 q2 w2 : Nat) (a : Int32) (hk : sK S i = 1) (r0 : sR S i 0 = some q1) (kq1 : sK S q1 = 0) (rq1 : sR S q1 0 = some w1) (kw1 : sK S w1 = 12) (nw1 : sL S w1 = 32) (zw1 : ∀ j, sJ S w1 j = 0) (r1 : sR S i 1 = some q2) (kq2 : sK S q2 = 0) (rq2 : sR S q2 0 = some w2) (kw2 : sK S w2 = 12) (nw2 : sL S w2 = 32) (zw2 : ∀ j, sJ S w2 j = 0) : MI l yX1_hasRoom wsX1_hasRoom ({ frames := 2, cells := 0, slots := 0, locals := 44 } : Room) 0 0 D cy A [.ref i, .int a, .int 2] S (fun r S1 => S1 = S ∧ r = 1) := by
  refine mt_start (cc := cX1_hasRoom) (maxL := 3) (ret := (some .boolean)) (by decide) rfl (Nat.le_of_ble_eq_true rfl) ?_
  intro p e s m args below meth c hx hb hr hlk hml hown hnm hts hK hZ hA hW hS ls hl
  have hl : lv_has ls 3 [(0, .ref i), (1, .int a), (2, .int 2)] := hl
  have hown : s.vm.findClass RX1 = some m.cls := hown
  have F : CallFix p m c cX1_hasRoom 3 s args wsX1_hasRoom RX1 := ⟨hx, hb, hml, hown, hts⟩
  have wi1 : ∀ w ∈ u_ws RX1 TX1 10, w ∈ wsX1_hasRoom := by decide +kernel
  refine lv_aload_n hx hb dX1_hasRoom_0 rfl (lv_at hl 0 rfl) ?_
  refine pg_gr (b := q1) (ci := 1) (C := RX1) (T := TX1) (N := 10) hx hb hts wi1 hown hK hW hk (by decide) rfl 0 (by decide) (hts (.fieldLink RX1 12 "IceHall$Ice" "taken" "LIceHall$HourSet;") (by decide +kernel)) (fun _ h9 => h9) rfl r0 dX1_hasRoom_1 ?_
  refine lv_iload_n hx hb dX1_hasRoom_4 rfl (lv_at hl 1 rfl) ?_
  refine pc_Vi (As := [.int a]) (rest := []) F (c_X0_has l D cy A S q1 w1 a kq1 rq1 kw1 nw1 zw1) (cwV 1 hts gX1_hasRoom_X0_has rfl rfl rfl (by decide +kernel) ⟨Nat.le_of_ble_eq_true rfl, Nat.le_of_ble_eq_true rfl⟩) hK hZ hA hW hS kq1 (by decide) rfl rfl hl.1 rfl (Nat.le_of_ble_eq_true rfl) dX1_hasRoom_5 ⟨Nat.le_of_ble_eq_true rfl, Nat.le_of_ble_eq_true rfl⟩ (fun v1 T2 H locs p3 hW hS => ?_)
  obtain ⟨eT2, p3⟩ := p3
  rw [eT2] at hW
  rw [show v1 = 0 from p3]
  refine lv_if_ne (tgt := 35) hx hb dX1_hasRoom_8 (by decide) (fun c4 => absurd (by decide) c4) (fun c4 => ?_)
  refine lv_aload_n hx hb dX1_hasRoom_11 rfl (lv_at hl 0 rfl) ?_
  refine pg_gr (b := q2) (ci := 1) (C := RX1) (T := TX1) (N := 10) hx hb hts wi1 hown hK hW hk (by decide) rfl 1 (by decide) (hts (.fieldLink RX1 18 "IceHall$Ice" "closed" "LIceHall$HourSet;") (by decide +kernel)) (fun _ h9 => h9) rfl r1 dX1_hasRoom_12 ?_
  refine lv_iload_n hx hb dX1_hasRoom_15 rfl (lv_at hl 1 rfl) ?_
  refine pc_Vi (As := [.int a]) (rest := []) F (c_X0_has l D cy A S q2 w2 a kq2 rq2 kw2 nw2 zw2) (cwV 1 hts gX1_hasRoom_X0_has rfl rfl rfl (by decide +kernel) ⟨Nat.le_of_ble_eq_true rfl, Nat.le_of_ble_eq_true rfl⟩) hK hZ hA hW hS kq2 (by decide) rfl rfl hl.1 rfl (Nat.le_of_ble_eq_true rfl) dX1_hasRoom_16 ⟨Nat.le_of_ble_eq_true rfl, Nat.le_of_ble_eq_true rfl⟩ (fun v5 T6 H locs p7 hW hS => ?_)
  obtain ⟨eT6, p7⟩ := p7
  rw [eT6] at hW
  rw [show v5 = 0 from p7]
  refine lv_if_ne (tgt := 35) hx hb dX1_hasRoom_19 (by decide) (fun c8 => absurd (by decide) c8) (fun c8 => ?_)
  refine lv_aload_n hx hb dX1_hasRoom_22 rfl (lv_at hl 0 rfl) ?_
  refine lv_iload_n hx hb dX1_hasRoom_23 rfl (lv_at hl 1 rfl) ?_
  refine pc_Vi (As := [.int a]) (rest := []) F (c_X1_runThrough l D cy A S i q1 w1 a hk r0 kq1 rq1 kw1 nw1 zw1) (cwV 1 hts gX1_hasRoom_X1_runThrough rfl rfl rfl (by decide +kernel) ⟨Nat.le_of_ble_eq_true rfl, Nat.le_of_ble_eq_true rfl⟩) hK hZ hA hW hS hk (by decide) rfl rfl hl.1 rfl (Nat.le_of_ble_eq_true rfl) dX1_hasRoom_24 ⟨Nat.le_of_ble_eq_true rfl, Nat.le_of_ble_eq_true rfl⟩ (fun v9 T10 H locs p11 hW hS => ?_)
  obtain ⟨eT10, p11⟩ := p11
  rw [eT10] at hW
  rw [show v9 = 1 from p11]
  refine lv_iload_n hx hb dX1_hasRoom_27 rfl (lv_at hl 2 rfl) ?_
  refine lv_icmp_gt (tgt := 35) hx hb dX1_hasRoom_28 (by decide) (fun c12 => absurd c12 (by decide)) (fun c12 => ?_)
  refine lv_iconst (v := 1) hx hb dX1_hasRoom_31 (by decide) ?_
  refine lv_goto (tgt := 36) hx hb dX1_hasRoom_32 (by decide) ?_
  exact pc_zret (v := 1) (S := S) hx hb hr hlk hK hZ hA hW hS (by decide) (⟨rfl, rfl⟩) dX1_hasRoom_36
set_option maxHeartbeats 4000000 in
set_option maxRecDepth 100000 in
theorem c_X1_melt (l : Launch) (D : va_G) (cy : Nat → ClassId) (A : Nat → Prop) (S : St) (i : Nat) (a : Int32) (hk : sK S i = 1) : MV l yX1_melt wsX1_melt ({ frames := 1, cells := 0, slots := 0, locals := 60 } : Room) 0 0 D cy A [.ref i, .int a] S (fun S1 => sK S1 = sK S ∧ sR S1 = sR S ∧ sL S1 = sL S ∧ sJ S1 = sJ S ∧ ∀ b, b ≠ i → sI S1 b = sI S b) := by
  refine mt_start (cc := cX1_melt) (maxL := 3) (ret := none) (by decide) rfl (Nat.le_of_ble_eq_true rfl) ?_
  intro p e s m args below meth c hx hb hr hlk hml hown hnm hts hK hZ hA hW hS ls hl
  have hl : lv_has ls 3 [(0, .ref i), (1, .int a)] := hl
  have hown : s.vm.findClass RX1 = some m.cls := hown
  have F : CallFix p m c cX1_melt 3 s args wsX1_melt RX1 := ⟨hx, hb, hml, hown, hts⟩
  have wi1 : ∀ w ∈ u_ws RX1 TX1 10, w ∈ wsX1_melt := by decide +kernel
  refine lv_iload_n hx hb dX1_melt_0 rfl (lv_at hl 1 rfl) ?_
  refine lv_aload_n hx hb dX1_melt_1 rfl (lv_at hl 0 rfl) ?_
  refine pg_gi (ci := 1) (C := RX1) (T := TX1) (N := 10) hx hb hts wi1 hown hK hW hk (by decide) rfl 3 (by decide) (hts (.fieldLink RX1 25 "IceHall$Ice" "thickness" "I") (by decide +kernel)) (fun _ h9 => h9) rfl dX1_melt_2 ?_
  refine va_mmin hx hb (by rw [hml]; exact hl.1.symm) hown (hts (.methodLink RX1 54 Lib.Math.min.name) (by decide +kernel)) (hts (.static Lib.Math.min.name) (by decide +kernel)) (hts (.initialized "java/lang/Math") (by decide +kernel)) (hts (.code Lib.Math.min.name Lib.Math.min.code 2 (some .int)) (by decide +kernel)) (Nat.le_of_ble_eq_true rfl) (Nat.le_of_ble_eq_true rfl) (Nat.le_of_ble_eq_true rfl) (Nat.le_of_ble_eq_true rfl) dX1_melt_5 ?_
  refine lv_istore_n (lv' := [(2, .int (if (sI S i 3) < a then sI S i 3 else a)), (0, .ref i), (1, .int a)]) hx hb dX1_melt_8 rfl hl (by decide) rfl (fun ls hl => ?_)
  refine lv_aload_n hx hb dX1_melt_9 rfl (lv_at hl 1 rfl) ?_
  refine lv_dup hx hb dX1_melt_10 rfl ?_
  refine pg_gi (ci := 1) (C := RX1) (T := TX1) (N := 10) hx hb hts wi1 hown hK hW hk (by decide) rfl 3 (by decide) (hts (.fieldLink RX1 25 "IceHall$Ice" "thickness" "I") (by decide +kernel)) (fun _ h9 => h9) rfl dX1_melt_11 ?_
  refine lv_iload_n hx hb dX1_melt_14 rfl (lv_at hl 0 rfl) ?_
  refine lv_isub hx hb dX1_melt_15 ?_
  refine pg_pi (ci := 1) (C := RX1) (T := TX1) (N := 10) hx hb hts wi1 tyX1 tyX1_ok nmX1 hown hK hW hS hk (by decide) rfl 3 (by decide) (hts (.fieldLink RX1 25 "IceHall$Ice" "thickness" "I") (by decide +kernel)) (fun _ h9 => h9) rfl rfl rfl dX1_melt_16 (fun H locs hW hS => ?_)
  have w1 : sI (stI S i 3 ((sI S i 3) - (if (sI S i 3) < a then sI S i 3 else a))) i 3 = (sI S i 3) - (if (sI S i 3) < a then sI S i 3 else a) := iI_s
  refine lv_aload_n hx hb dX1_melt_19 rfl (lv_at hl 1 rfl) ?_
  refine lv_dup hx hb dX1_melt_20 rfl ?_
  refine pg_gi (ci := 1) (C := RX1) (T := TX1) (N := 10) hx hb hts wi1 hown hK hW hk (by decide) rfl 7 (by decide) (hts (.fieldLink RX1 37 "IceHall$Ice" "melted" "I") (by decide +kernel)) (fun _ h9 => h9) rfl dX1_melt_21 ?_
  refine lv_iload_n hx hb dX1_melt_24 rfl (lv_at hl 0 rfl) ?_
  refine lv_iadd hx hb dX1_melt_25 ?_
  refine pg_pi (ci := 1) (C := RX1) (T := TX1) (N := 10) hx hb hts wi1 tyX1 tyX1_ok nmX1 hown hK hW hS hk (by decide) rfl 7 (by decide) (hts (.fieldLink RX1 37 "IceHall$Ice" "melted" "I") (by decide +kernel)) (fun _ h9 => h9) rfl rfl rfl dX1_melt_26 (fun H locs hW hS => ?_)
  have w2 : sI (stI (stI S i 3 ((sI S i 3) - (if (sI S i 3) < a then sI S i 3 else a))) i 7 ((sI (stI S i 3 ((sI S i 3) - (if (sI S i 3) < a then sI S i 3 else a))) i 7) + (if (sI S i 3) < a then sI S i 3 else a))) i 3 = (sI S i 3) - (if (sI S i 3) < a then sI S i 3 else a) := (iI_k (by decide)).trans w1
  have w3 : sI (stI (stI S i 3 ((sI S i 3) - (if (sI S i 3) < a then sI S i 3 else a))) i 7 ((sI (stI S i 3 ((sI S i 3) - (if (sI S i 3) < a then sI S i 3 else a))) i 7) + (if (sI S i 3) < a then sI S i 3 else a))) i 7 = (sI (stI S i 3 ((sI S i 3) - (if (sI S i 3) < a then sI S i 3 else a))) i 7) + (if (sI S i 3) < a then sI S i 3 else a) := iI_s
  clear w1
  exact pc_vret (S := stI (stI S i 3 ((sI S i 3) - (if (sI S i 3) < a then sI S i 3 else a))) i 7 ((sI (stI S i 3 ((sI S i 3) - (if (sI S i 3) < a then sI S i 3 else a))) i 7) + (if (sI S i 3) < a then sI S i 3 else a))) hx hb hr hlk hK hZ hA hW hS (⟨rfl, rfl, rfl, rfl, fun b hb9 => by funext j; simp [iI, hb9]⟩) dX1_melt_29
set_option maxHeartbeats 4000000 in
set_option maxRecDepth 100000 in
theorem c_X1_shave (l : Launch) (D : va_G) (cy : Nat → ClassId) (A : Nat → Prop) (S : St) (i : Nat) (hk : sK S i = 1) : MV l yX1_shave wsX1_shave ({ frames := 1, cells := 0, slots := 0, locals := 60 } : Room) 0 0 D cy A [.ref i] S (fun S1 => sK S1 = sK S ∧ sR S1 = sR S ∧ sL S1 = sL S ∧ sJ S1 = sJ S ∧ ∀ b, b ≠ i → sI S1 b = sI S b) := by
  refine mt_start (cc := cX1_shave) (maxL := 2) (ret := none) (by decide) rfl (Nat.le_of_ble_eq_true rfl) ?_
  intro p e s m args below meth c hx hb hr hlk hml hown hnm hts hK hZ hA hW hS ls hl
  have hl : lv_has ls 2 [(0, .ref i)] := hl
  have hown : s.vm.findClass RX1 = some m.cls := hown
  have F : CallFix p m c cX1_shave 2 s args wsX1_shave RX1 := ⟨hx, hb, hml, hown, hts⟩
  have wi1 : ∀ w ∈ u_ws RX1 TX1 10, w ∈ wsX1_shave := by decide +kernel
  refine lv_aload_n hx hb dX1_shave_0 rfl (lv_at hl 0 rfl) ?_
  refine pg_gi (ci := 1) (C := RX1) (T := TX1) (N := 10) hx hb hts wi1 hown hK hW hk (by decide) rfl 8 (by decide) (hts (.fieldLink RX1 40 "IceHall$Ice" "toShave" "I") (by decide +kernel)) (fun _ h9 => h9) rfl dX1_shave_1 ?_
  refine lv_aload_n hx hb dX1_shave_4 rfl (lv_at hl 0 rfl) ?_
  refine pg_gi (ci := 1) (C := RX1) (T := TX1) (N := 10) hx hb hts wi1 hown hK hW hk (by decide) rfl 3 (by decide) (hts (.fieldLink RX1 25 "IceHall$Ice" "thickness" "I") (by decide +kernel)) (fun _ h9 => h9) rfl dX1_shave_5 ?_
  refine va_mmin hx hb (by rw [hml]; exact hl.1.symm) hown (hts (.methodLink RX1 54 Lib.Math.min.name) (by decide +kernel)) (hts (.static Lib.Math.min.name) (by decide +kernel)) (hts (.initialized "java/lang/Math") (by decide +kernel)) (hts (.code Lib.Math.min.name Lib.Math.min.code 2 (some .int)) (by decide +kernel)) (Nat.le_of_ble_eq_true rfl) (Nat.le_of_ble_eq_true rfl) (Nat.le_of_ble_eq_true rfl) (Nat.le_of_ble_eq_true rfl) dX1_shave_8 ?_
  refine lv_istore_n (lv' := [(1, .int (if (sI S i 3) < (sI S i 8) then sI S i 3 else sI S i 8)), (0, .ref i)]) hx hb dX1_shave_11 rfl hl (by decide) rfl (fun ls hl => ?_)
  refine lv_aload_n hx hb dX1_shave_12 rfl (lv_at hl 1 rfl) ?_
  refine lv_dup hx hb dX1_shave_13 rfl ?_
  refine pg_gi (ci := 1) (C := RX1) (T := TX1) (N := 10) hx hb hts wi1 hown hK hW hk (by decide) rfl 3 (by decide) (hts (.fieldLink RX1 25 "IceHall$Ice" "thickness" "I") (by decide +kernel)) (fun _ h9 => h9) rfl dX1_shave_14 ?_
  refine lv_iload_n hx hb dX1_shave_17 rfl (lv_at hl 0 rfl) ?_
  refine lv_isub hx hb dX1_shave_18 ?_
  refine pg_pi (ci := 1) (C := RX1) (T := TX1) (N := 10) hx hb hts wi1 tyX1 tyX1_ok nmX1 hown hK hW hS hk (by decide) rfl 3 (by decide) (hts (.fieldLink RX1 25 "IceHall$Ice" "thickness" "I") (by decide +kernel)) (fun _ h9 => h9) rfl rfl rfl dX1_shave_19 (fun H locs hW hS => ?_)
  have w1 : sI (stI S i 3 ((sI S i 3) - (if (sI S i 3) < (sI S i 8) then sI S i 3 else sI S i 8))) i 3 = (sI S i 3) - (if (sI S i 3) < (sI S i 8) then sI S i 3 else sI S i 8) := iI_s
  refine lv_aload_n hx hb dX1_shave_22 rfl (lv_at hl 1 rfl) ?_
  refine lv_dup hx hb dX1_shave_23 rfl ?_
  refine pg_gi (ci := 1) (C := RX1) (T := TX1) (N := 10) hx hb hts wi1 hown hK hW hk (by decide) rfl 5 (by decide) (hts (.fieldLink RX1 31 "IceHall$Ice" "shaved" "I") (by decide +kernel)) (fun _ h9 => h9) rfl dX1_shave_24 ?_
  refine lv_iload_n hx hb dX1_shave_27 rfl (lv_at hl 0 rfl) ?_
  refine lv_iadd hx hb dX1_shave_28 ?_
  refine pg_pi (ci := 1) (C := RX1) (T := TX1) (N := 10) hx hb hts wi1 tyX1 tyX1_ok nmX1 hown hK hW hS hk (by decide) rfl 5 (by decide) (hts (.fieldLink RX1 31 "IceHall$Ice" "shaved" "I") (by decide +kernel)) (fun _ h9 => h9) rfl rfl rfl dX1_shave_29 (fun H locs hW hS => ?_)
  have w2 : sI (stI (stI S i 3 ((sI S i 3) - (if (sI S i 3) < (sI S i 8) then sI S i 3 else sI S i 8))) i 5 ((sI (stI S i 3 ((sI S i 3) - (if (sI S i 3) < (sI S i 8) then sI S i 3 else sI S i 8))) i 5) + (if (sI S i 3) < (sI S i 8) then sI S i 3 else sI S i 8))) i 3 = (sI S i 3) - (if (sI S i 3) < (sI S i 8) then sI S i 3 else sI S i 8) := (iI_k (by decide)).trans w1
  have w3 : sI (stI (stI S i 3 ((sI S i 3) - (if (sI S i 3) < (sI S i 8) then sI S i 3 else sI S i 8))) i 5 ((sI (stI S i 3 ((sI S i 3) - (if (sI S i 3) < (sI S i 8) then sI S i 3 else sI S i 8))) i 5) + (if (sI S i 3) < (sI S i 8) then sI S i 3 else sI S i 8))) i 5 = (sI (stI S i 3 ((sI S i 3) - (if (sI S i 3) < (sI S i 8) then sI S i 3 else sI S i 8))) i 5) + (if (sI S i 3) < (sI S i 8) then sI S i 3 else sI S i 8) := iI_s
  clear w1
  refine lv_aload_n hx hb dX1_shave_32 rfl (lv_at hl 1 rfl) ?_
  refine lv_iconst (v := 0) hx hb dX1_shave_33 (by decide) ?_
  refine lv_aload_n hx hb dX1_shave_34 rfl (lv_at hl 1 rfl) ?_
  refine pg_gi (ci := 1) (C := RX1) (T := TX1) (N := 10) hx hb hts wi1 hown hK hW hk (by decide) rfl 4 (by decide) (hts (.fieldLink RX1 28 "IceHall$Ice" "ruts" "I") (by decide +kernel)) (fun _ h9 => h9) rfl dX1_shave_35 ?_
  refine lv_iload_n hx hb dX1_shave_38 rfl (lv_at hl 0 rfl) ?_
  refine lv_bipush (v := 10) hx hb dX1_shave_39 (by decide) ?_
  refine lv_imul hx hb dX1_shave_41 ?_
  refine lv_isub hx hb dX1_shave_42 ?_
  refine va_mmax hx hb (by rw [hml]; exact hl.1.symm) hown (hts (.methodLink RX1 80 Lib.Math.max.name) (by decide +kernel)) (hts (.static Lib.Math.max.name) (by decide +kernel)) (hts (.initialized "java/lang/Math") (by decide +kernel)) (hts (.code Lib.Math.max.name Lib.Math.max.code 2 (some .int)) (by decide +kernel)) (Nat.le_of_ble_eq_true rfl) (Nat.le_of_ble_eq_true rfl) (Nat.le_of_ble_eq_true rfl) (Nat.le_of_ble_eq_true rfl) dX1_shave_43 ?_
  refine pg_pi (ci := 1) (C := RX1) (T := TX1) (N := 10) hx hb hts wi1 tyX1 tyX1_ok nmX1 hown hK hW hS hk (by decide) rfl 4 (by decide) (hts (.fieldLink RX1 28 "IceHall$Ice" "ruts" "I") (by decide +kernel)) (fun _ h9 => h9) rfl rfl rfl dX1_shave_46 (fun H locs hW hS => ?_)
  have w4 : sI (stI (stI (stI S i 3 ((sI S i 3) - (if (sI S i 3) < (sI S i 8) then sI S i 3 else sI S i 8))) i 5 ((sI (stI S i 3 ((sI S i 3) - (if (sI S i 3) < (sI S i 8) then sI S i 3 else sI S i 8))) i 5) + (if (sI S i 3) < (sI S i 8) then sI S i 3 else sI S i 8))) i 4 (if 0 < ((sI (stI (stI S i 3 ((sI S i 3) - (if (sI S i 3) < (sI S i 8) then sI S i 3 else sI S i 8))) i 5 ((sI (stI S i 3 ((sI S i 3) - (if (sI S i 3) < (sI S i 8) then sI S i 3 else sI S i 8))) i 5) + (if (sI S i 3) < (sI S i 8) then sI S i 3 else sI S i 8))) i 4) - ((if (sI S i 3) < (sI S i 8) then sI S i 3 else sI S i 8) * 10)) then (sI (stI (stI S i 3 ((sI S i 3) - (if (sI S i 3) < (sI S i 8) then sI S i 3 else sI S i 8))) i 5 ((sI (stI S i 3 ((sI S i 3) - (if (sI S i 3) < (sI S i 8) then sI S i 3 else sI S i 8))) i 5) + (if (sI S i 3) < (sI S i 8) then sI S i 3 else sI S i 8))) i 4) - ((if (sI S i 3) < (sI S i 8) then sI S i 3 else sI S i 8) * 10) else 0)) i 3 = (sI S i 3) - (if (sI S i 3) < (sI S i 8) then sI S i 3 else sI S i 8) := (iI_k (by decide)).trans w2
  have w5 : sI (stI (stI (stI S i 3 ((sI S i 3) - (if (sI S i 3) < (sI S i 8) then sI S i 3 else sI S i 8))) i 5 ((sI (stI S i 3 ((sI S i 3) - (if (sI S i 3) < (sI S i 8) then sI S i 3 else sI S i 8))) i 5) + (if (sI S i 3) < (sI S i 8) then sI S i 3 else sI S i 8))) i 4 (if 0 < ((sI (stI (stI S i 3 ((sI S i 3) - (if (sI S i 3) < (sI S i 8) then sI S i 3 else sI S i 8))) i 5 ((sI (stI S i 3 ((sI S i 3) - (if (sI S i 3) < (sI S i 8) then sI S i 3 else sI S i 8))) i 5) + (if (sI S i 3) < (sI S i 8) then sI S i 3 else sI S i 8))) i 4) - ((if (sI S i 3) < (sI S i 8) then sI S i 3 else sI S i 8) * 10)) then (sI (stI (stI S i 3 ((sI S i 3) - (if (sI S i 3) < (sI S i 8) then sI S i 3 else sI S i 8))) i 5 ((sI (stI S i 3 ((sI S i 3) - (if (sI S i 3) < (sI S i 8) then sI S i 3 else sI S i 8))) i 5) + (if (sI S i 3) < (sI S i 8) then sI S i 3 else sI S i 8))) i 4) - ((if (sI S i 3) < (sI S i 8) then sI S i 3 else sI S i 8) * 10) else 0)) i 5 = (sI (stI S i 3 ((sI S i 3) - (if (sI S i 3) < (sI S i 8) then sI S i 3 else sI S i 8))) i 5) + (if (sI S i 3) < (sI S i 8) then sI S i 3 else sI S i 8) := (iI_k (by decide)).trans w3
  have w6 : sI (stI (stI (stI S i 3 ((sI S i 3) - (if (sI S i 3) < (sI S i 8) then sI S i 3 else sI S i 8))) i 5 ((sI (stI S i 3 ((sI S i 3) - (if (sI S i 3) < (sI S i 8) then sI S i 3 else sI S i 8))) i 5) + (if (sI S i 3) < (sI S i 8) then sI S i 3 else sI S i 8))) i 4 (if 0 < ((sI (stI (stI S i 3 ((sI S i 3) - (if (sI S i 3) < (sI S i 8) then sI S i 3 else sI S i 8))) i 5 ((sI (stI S i 3 ((sI S i 3) - (if (sI S i 3) < (sI S i 8) then sI S i 3 else sI S i 8))) i 5) + (if (sI S i 3) < (sI S i 8) then sI S i 3 else sI S i 8))) i 4) - ((if (sI S i 3) < (sI S i 8) then sI S i 3 else sI S i 8) * 10)) then (sI (stI (stI S i 3 ((sI S i 3) - (if (sI S i 3) < (sI S i 8) then sI S i 3 else sI S i 8))) i 5 ((sI (stI S i 3 ((sI S i 3) - (if (sI S i 3) < (sI S i 8) then sI S i 3 else sI S i 8))) i 5) + (if (sI S i 3) < (sI S i 8) then sI S i 3 else sI S i 8))) i 4) - ((if (sI S i 3) < (sI S i 8) then sI S i 3 else sI S i 8) * 10) else 0)) i 4 = if 0 < ((sI (stI (stI S i 3 ((sI S i 3) - (if (sI S i 3) < (sI S i 8) then sI S i 3 else sI S i 8))) i 5 ((sI (stI S i 3 ((sI S i 3) - (if (sI S i 3) < (sI S i 8) then sI S i 3 else sI S i 8))) i 5) + (if (sI S i 3) < (sI S i 8) then sI S i 3 else sI S i 8))) i 4) - ((if (sI S i 3) < (sI S i 8) then sI S i 3 else sI S i 8) * 10)) then (sI (stI (stI S i 3 ((sI S i 3) - (if (sI S i 3) < (sI S i 8) then sI S i 3 else sI S i 8))) i 5 ((sI (stI S i 3 ((sI S i 3) - (if (sI S i 3) < (sI S i 8) then sI S i 3 else sI S i 8))) i 5) + (if (sI S i 3) < (sI S i 8) then sI S i 3 else sI S i 8))) i 4) - ((if (sI S i 3) < (sI S i 8) then sI S i 3 else sI S i 8) * 10) else 0 := iI_s
  clear w2 w3
  exact pc_vret (S := stI (stI (stI S i 3 ((sI S i 3) - (if (sI S i 3) < (sI S i 8) then sI S i 3 else sI S i 8))) i 5 ((sI (stI S i 3 ((sI S i 3) - (if (sI S i 3) < (sI S i 8) then sI S i 3 else sI S i 8))) i 5) + (if (sI S i 3) < (sI S i 8) then sI S i 3 else sI S i 8))) i 4 (if 0 < ((sI (stI (stI S i 3 ((sI S i 3) - (if (sI S i 3) < (sI S i 8) then sI S i 3 else sI S i 8))) i 5 ((sI (stI S i 3 ((sI S i 3) - (if (sI S i 3) < (sI S i 8) then sI S i 3 else sI S i 8))) i 5) + (if (sI S i 3) < (sI S i 8) then sI S i 3 else sI S i 8))) i 4) - ((if (sI S i 3) < (sI S i 8) then sI S i 3 else sI S i 8) * 10)) then (sI (stI (stI S i 3 ((sI S i 3) - (if (sI S i 3) < (sI S i 8) then sI S i 3 else sI S i 8))) i 5 ((sI (stI S i 3 ((sI S i 3) - (if (sI S i 3) < (sI S i 8) then sI S i 3 else sI S i 8))) i 5) + (if (sI S i 3) < (sI S i 8) then sI S i 3 else sI S i 8))) i 4) - ((if (sI S i 3) < (sI S i 8) then sI S i 3 else sI S i 8) * 10) else 0)) hx hb hr hlk hK hZ hA hW hS (⟨rfl, rfl, rfl, rfl, fun b hb9 => by funext j; simp [iI, hb9]⟩) dX1_shave_49
