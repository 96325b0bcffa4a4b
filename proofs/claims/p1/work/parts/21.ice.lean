set_option maxHeartbeats 4000000 in
set_option maxRecDepth 100000 in
theorem c_X1_tellCut (l : Launch) (D : va_G) (cy : Nat → ClassId) (A : Nat → Prop) (S : St) (h : Nat) (a b : Int32) (hk : sK S h = 1) : MV l yX1_tellCut wsX1_tellCut ({ frames := 0, cells := 0, slots := 0, locals := 0 } : Room) 0 0 D cy A [.ref h, .int a, .int b] S (fun S1 => S1 = stI (stI S h 8 a) h 9 b) := by
  refine mt_start (cc := cX1_tellCut) (maxL := 3) (ret := none) (by decide) rfl (Nat.le_of_ble_eq_true rfl) ?_
  intro p e s m args below meth c hx hb hr hlk hml hown hnm hts hK hZ hA hW hS ls hl
  have hl : lv_has ls 3 [(0, .ref h), (1, .int a), (2, .int b)] := hl
  have hown : s.vm.findClass RX1 = some m.cls := hown
  have F : CallFix p m c cX1_tellCut 3 s args wsX1_tellCut RX1 := ⟨hx, hb, hml, hown, hts⟩
  have wi1 : ∀ w ∈ u_ws RX1 TX1 10, w ∈ wsX1_tellCut := by decide +kernel
  refine lv_aload_n hx hb dX1_tellCut_0 rfl (lv_at hl 0 rfl) ?_
  refine lv_iload_n hx hb dX1_tellCut_1 rfl (lv_at hl 1 rfl) ?_
  refine pg_pi (ci := 1) (C := RX1) (T := TX1) (N := 10) hx hb hts wi1 tyX1 tyX1_ok nmX1 hown hK hW hS hk (by decide) rfl 8 (by decide) (hts (.fieldLink RX1 40 "IceHall$Ice" "toShave" "I") (by decide +kernel)) (fun _ h9 => h9) rfl rfl rfl dX1_tellCut_2 (fun H locs hW hS => ?_)
  have w1 : sI (stI S h 8 a) h 8 = a := iI_s
  refine lv_aload_n hx hb dX1_tellCut_5 rfl (lv_at hl 0 rfl) ?_
  refine lv_iload_n hx hb dX1_tellCut_6 rfl (lv_at hl 2 rfl) ?_
  refine pg_pi (ci := 1) (C := RX1) (T := TX1) (N := 10) hx hb hts wi1 tyX1 tyX1_ok nmX1 hown hK hW hS hk (by decide) rfl 9 (by decide) (hts (.fieldLink RX1 43 "IceHall$Ice" "toFlood" "I") (by decide +kernel)) (fun _ h9 => h9) rfl rfl rfl dX1_tellCut_7 (fun H locs hW hS => ?_)
  have w2 : sI (stI (stI S h 8 a) h 9 b) h 8 = a := (iI_k (by decide)).trans w1
  have w3 : sI (stI (stI S h 8 a) h 9 b) h 9 = b := iI_s
  clear w1
  exact pc_vret (S := stI (stI S h 8 a) h 9 b) hx hb hr hlk hK hZ hA hW hS (rfl) dX1_tellCut_10
set_option maxHeartbeats 4000000 in
set_option maxRecDepth 100000 in
theorem c_X1_freeze (l : Launch) (D : va_G) (cy : Nat → ClassId) (A : Nat → Prop) (S : St) (h : Nat) (a : Int32) (hk : sK S h = 1) : MV l yX1_freeze wsX1_freeze ({ frames := 0, cells := 0, slots := 0, locals := 0 } : Room) 0 0 D cy A [.ref h, .int a] S (fun S1 => S1 = stI (stI S h 3 (sI S h 3 + a)) h 6 (sI S h 6 + a)) := by
  refine mt_start (cc := cX1_freeze) (maxL := 2) (ret := none) (by decide) rfl (Nat.le_of_ble_eq_true rfl) ?_
  intro p e s m args below meth c hx hb hr hlk hml hown hnm hts hK hZ hA hW hS ls hl
  have hl : lv_has ls 2 [(0, .ref h), (1, .int a)] := hl
  have hown : s.vm.findClass RX1 = some m.cls := hown
  have F : CallFix p m c cX1_freeze 2 s args wsX1_freeze RX1 := ⟨hx, hb, hml, hown, hts⟩
  have wi1 : ∀ w ∈ u_ws RX1 TX1 10, w ∈ wsX1_freeze := by decide +kernel
  refine lv_aload_n hx hb dX1_freeze_0 rfl (lv_at hl 0 rfl) ?_
  refine lv_dup hx hb dX1_freeze_1 rfl ?_
  refine pg_gi (ci := 1) (C := RX1) (T := TX1) (N := 10) hx hb hts wi1 hown hK hW hk (by decide) rfl 3 (by decide) (hts (.fieldLink RX1 25 "IceHall$Ice" "thickness" "I") (by decide +kernel)) (fun _ h9 => h9) rfl dX1_freeze_2 ?_
  refine lv_iload_n hx hb dX1_freeze_5 rfl (lv_at hl 1 rfl) ?_
  refine lv_iadd hx hb dX1_freeze_6 ?_
  refine pg_pi (ci := 1) (C := RX1) (T := TX1) (N := 10) hx hb hts wi1 tyX1 tyX1_ok nmX1 hown hK hW hS hk (by decide) rfl 3 (by decide) (hts (.fieldLink RX1 25 "IceHall$Ice" "thickness" "I") (by decide +kernel)) (fun _ h9 => h9) rfl rfl rfl dX1_freeze_7 (fun H locs hW hS => ?_)
  have w1 : sI (stI S h 3 ((sI S h 3) + a)) h 3 = (sI S h 3) + a := iI_s
  refine lv_aload_n hx hb dX1_freeze_10 rfl (lv_at hl 0 rfl) ?_
  refine lv_dup hx hb dX1_freeze_11 rfl ?_
  refine pg_gi (ci := 1) (C := RX1) (T := TX1) (N := 10) hx hb hts wi1 hown hK hW hk (by decide) rfl 6 (by decide) (hts (.fieldLink RX1 34 "IceHall$Ice" "flooded" "I") (by decide +kernel)) (fun _ h9 => h9) rfl dX1_freeze_12 ?_
  refine lv_iload_n hx hb dX1_freeze_15 rfl (lv_at hl 1 rfl) ?_
  refine lv_iadd hx hb dX1_freeze_16 ?_
  refine pg_pi (ci := 1) (C := RX1) (T := TX1) (N := 10) hx hb hts wi1 tyX1 tyX1_ok nmX1 hown hK hW hS hk (by decide) rfl 6 (by decide) (hts (.fieldLink RX1 34 "IceHall$Ice" "flooded" "I") (by decide +kernel)) (fun _ h9 => h9) rfl rfl rfl dX1_freeze_17 (fun H locs hW hS => ?_)
  have w2 : sI (stI (stI S h 3 ((sI S h 3) + a)) h 6 ((sI (stI S h 3 ((sI S h 3) + a)) h 6) + a)) h 3 = (sI S h 3) + a := (iI_k (by decide)).trans w1
  have w3 : sI (stI (stI S h 3 ((sI S h 3) + a)) h 6 ((sI (stI S h 3 ((sI S h 3) + a)) h 6) + a)) h 6 = (sI (stI S h 3 ((sI S h 3) + a)) h 6) + a := iI_s
  clear w1
  exact pc_vret (S := stI (stI S h 3 ((sI S h 3) + a)) h 6 ((sI (stI S h 3 ((sI S h 3) + a)) h 6) + a)) hx hb hr hlk hK hZ hA hW hS (by simp [iI]) dX1_freeze_20
set_option maxHeartbeats 4000000 in
set_option maxRecDepth 100000 in
theorem c_X8_iceOf (l : Launch) (D : va_G) (cy : Nat → ClassId) (A : Nat → Prop) (S : St) (h i1 i2 : Nat) (a : Int32) (hk : sK S h = 8) (h1 : sR S h 0 = some i1) (h2 : sR S h 1 = some i2) : MR l yX8_iceOf wsX8_iceOf ({ frames := 0, cells := 0, slots := 0, locals := 0 } : Room) 0 0 D cy A [.ref h, .int a] S (fun r S1 => S1 = S ∧ r = (if a = 0 then some i1 else some i2)) := by
  refine mt_start (cc := cX8_iceOf) (maxL := 2) (ret := (some (.object "IceHall$Ice"))) (by decide) rfl (Nat.le_of_ble_eq_true rfl) ?_
  intro p e s m args below meth c hx hb hr hlk hml hown hnm hts hK hZ hA hW hS ls hl
  have hl : lv_has ls 2 [(0, .ref h), (1, .int a)] := hl
  have hown : s.vm.findClass RX8 = some m.cls := hown
  have F : CallFix p m c cX8_iceOf 2 s args wsX8_iceOf RX8 := ⟨hx, hb, hml, hown, hts⟩
  have wi8 : ∀ w ∈ u_ws RX8 TX8 18, w ∈ wsX8_iceOf := by decide +kernel
  refine lv_iload_n hx hb dX8_iceOf_0 rfl (lv_at hl 1 rfl) ?_
  refine lv_if_ne (tgt := 11) hx hb dX8_iceOf_1 (by decide) (fun c1 => ?_) (fun c1 => ?_)
  · have c1i : ¬ (Int32.toInt a = (0 : Int)) := fun h9 => c1 ((i3_eq _ _).mpr h9)
    refine lv_aload_n hx hb dX8_iceOf_11 rfl (lv_at hl 0 rfl) ?_
    refine pg_gr (b := i2) (ci := 8) (C := RX8) (T := TX8) (N := 18) hx hb hts wi8 hown hK hW hk (by decide) rfl 1 (by decide) (hts (.fieldLink RX8 16 "IceHall" "secondIce" "LIceHall$Ice;") (by decide +kernel)) (fun _ h9 => h9) rfl h2 dX8_iceOf_12 ?_
    exact pc_aret (v := some i2) (S := S) hx hb hr hlk hK hZ hA hW hS (⟨rfl, by first | (rw [if_pos (by assumption)]; done) | (rw [if_neg (by assumption)]; done)⟩) dX8_iceOf_15
  · have c1i : Int32.toInt a = (0 : Int) := (i3_eq _ _).mp c1
    refine lv_aload_n hx hb dX8_iceOf_4 rfl (lv_at hl 0 rfl) ?_
    refine pg_gr (b := i1) (ci := 8) (C := RX8) (T := TX8) (N := 18) hx hb hts wi8 hown hK hW hk (by decide) rfl 0 (by decide) (hts (.fieldLink RX8 10 "IceHall" "firstIce" "LIceHall$Ice;") (by decide +kernel)) (fun _ h9 => h9) rfl h1 dX8_iceOf_5 ?_
    refine lv_goto (tgt := 15) hx hb dX8_iceOf_8 (by decide) ?_
    exact pc_aret (v := some i1) (S := S) hx hb hr hlk hK hZ hA hW hS (⟨rfl, by first | (rw [if_pos (by assumption)]; done) | (rw [if_neg (by assumption)]; done)⟩) dX8_iceOf_15
