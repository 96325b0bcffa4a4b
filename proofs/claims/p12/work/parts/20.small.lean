set_option maxHeartbeats 4000000 in
set_option maxRecDepth 100000 in
theorem b_X8_isBelow (l : Launch) (D : va_G) (cy : Nat → ClassId) (A : Nat → Prop) (S : St) (a b : Int32)  : MI l yX8_isBelow wsX8_isBelow ({ frames := 0, cells := 0, slots := 0, locals := 0 } : Room) 0 0 D cy A [.int a, .int b] S (fun r S1 => S1 = S ∧ ((r.toInt = 1 ∧ 0 ≤ a.toInt ∧ a.toInt < b.toInt) ∨ (r.toInt = 0 ∧ ¬ (0 ≤ a.toInt ∧ a.toInt < b.toInt)))) := by
  refine mt_start (cc := cX8_isBelow) (maxL := 2) (ret := (some .boolean)) (by decide) rfl (Nat.le_of_ble_eq_true rfl) ?_
  intro p e s m args below meth c hx hb hr hlk hml hown hnm hts hK hZ hA hW hS ls hl
  have hl : lv_has ls 2 [(0, .int a), (1, .int b)] := hl
  have hown : s.vm.findClass RX8 = some m.cls := hown
  have F : CallFix p m c cX8_isBelow 2 s args wsX8_isBelow RX8 := ⟨hx, hb, hml, hown, hts⟩
  refine lv_iload_n hx hb dX8_isBelow_0 rfl (lv_at hl 0 rfl) ?_
  refine lv_if_lt (tgt := 13) hx hb dX8_isBelow_1 (by decide) (fun c1 => ?_) (fun c1 => ?_)
  · have c1i : Int32.toInt a < (0 : Int) := (i3_lt _ _).mp c1
    refine lv_iconst (v := 0) hx hb dX8_isBelow_13 (by decide) ?_
    exact pc_zret (v := 0) (S := S) hx hb hr hlk hK hZ hA hW hS (by decide) (⟨rfl, Or.inr ⟨rfl, by omega⟩⟩) dX8_isBelow_14
  · have c1i : ¬ (Int32.toInt a < (0 : Int)) := fun h9 => c1 ((i3_lt _ _).mpr h9)
    refine lv_iload_n hx hb dX8_isBelow_4 rfl (lv_at hl 0 rfl) ?_
    refine lv_iload_n hx hb dX8_isBelow_5 rfl (lv_at hl 1 rfl) ?_
    refine lv_icmp_ge (tgt := 13) hx hb dX8_isBelow_6 (by decide) (fun c2 => ?_) (fun c2 => ?_)
    · have c2i : Int32.toInt b ≤ Int32.toInt a := (i3_le _ _).mp c2
      refine lv_iconst (v := 0) hx hb dX8_isBelow_13 (by decide) ?_
      exact pc_zret (v := 0) (S := S) hx hb hr hlk hK hZ hA hW hS (by decide) (⟨rfl, Or.inr ⟨rfl, by omega⟩⟩) dX8_isBelow_14
    · have c2i : ¬ (Int32.toInt b ≤ Int32.toInt a) := fun h9 => c2 ((i3_le _ _).mpr h9)
      refine lv_iconst (v := 1) hx hb dX8_isBelow_9 (by decide) ?_
      refine lv_goto (tgt := 14) hx hb dX8_isBelow_10 (by decide) ?_
      exact pc_zret (v := 1) (S := S) hx hb hr hlk hK hZ hA hW hS (by decide) (⟨rfl, Or.inl ⟨rfl, by omega⟩⟩) dX8_isBelow_14
set_option maxHeartbeats 4000000 in
set_option maxRecDepth 100000 in
theorem b_X8_isTenths (l : Launch) (D : va_G) (cy : Nat → ClassId) (A : Nat → Prop) (S : St) (a : Int32)  : MI l yX8_isTenths wsX8_isTenths ({ frames := 0, cells := 0, slots := 0, locals := 0 } : Room) 0 0 D cy A [.int a] S (fun r S1 => S1 = S ∧ ((r.toInt = 1 ∧ 0 ≤ a.toInt ∧ a.toInt ≤ 20) ∨ (r.toInt = 0 ∧ ¬ (0 ≤ a.toInt ∧ a.toInt ≤ 20)))) := by
  refine mt_start (cc := cX8_isTenths) (maxL := 1) (ret := (some .boolean)) (by decide) rfl (Nat.le_of_ble_eq_true rfl) ?_
  intro p e s m args below meth c hx hb hr hlk hml hown hnm hts hK hZ hA hW hS ls hl
  have hl : lv_has ls 1 [(0, .int a)] := hl
  have hown : s.vm.findClass RX8 = some m.cls := hown
  have F : CallFix p m c cX8_isTenths 1 s args wsX8_isTenths RX8 := ⟨hx, hb, hml, hown, hts⟩
  refine lv_iload_n hx hb dX8_isTenths_0 rfl (lv_at hl 0 rfl) ?_
  refine lv_if_lt (tgt := 14) hx hb dX8_isTenths_1 (by decide) (fun c1 => ?_) (fun c1 => ?_)
  · have c1i : Int32.toInt a < (0 : Int) := (i3_lt _ _).mp c1
    refine lv_iconst (v := 0) hx hb dX8_isTenths_14 (by decide) ?_
    exact pc_zret (v := 0) (S := S) hx hb hr hlk hK hZ hA hW hS (by decide) (⟨rfl, Or.inr ⟨rfl, by omega⟩⟩) dX8_isTenths_15
  · have c1i : ¬ (Int32.toInt a < (0 : Int)) := fun h9 => c1 ((i3_lt _ _).mpr h9)
    refine lv_iload_n hx hb dX8_isTenths_4 rfl (lv_at hl 0 rfl) ?_
    refine lv_bipush (v := 20) hx hb dX8_isTenths_5 (by decide) ?_
    refine lv_icmp_gt (tgt := 14) hx hb dX8_isTenths_7 (by decide) (fun c2 => ?_) (fun c2 => ?_)
    · have c2i : (20 : Int) < Int32.toInt a := (i3_lt _ _).mp c2
      refine lv_iconst (v := 0) hx hb dX8_isTenths_14 (by decide) ?_
      exact pc_zret (v := 0) (S := S) hx hb hr hlk hK hZ hA hW hS (by decide) (⟨rfl, Or.inr ⟨rfl, by omega⟩⟩) dX8_isTenths_15
    · have c2i : ¬ ((20 : Int) < Int32.toInt a) := fun h9 => c2 ((i3_lt _ _).mpr h9)
      refine lv_iconst (v := 1) hx hb dX8_isTenths_10 (by decide) ?_
      refine lv_goto (tgt := 15) hx hb dX8_isTenths_11 (by decide) ?_
      exact pc_zret (v := 1) (S := S) hx hb hr hlk hK hZ hA hW hS (by decide) (⟨rfl, Or.inl ⟨rfl, by omega⟩⟩) dX8_isTenths_15
set_option maxHeartbeats 4000000 in
set_option maxRecDepth 100000 in
theorem b_X8_isWarmth (l : Launch) (D : va_G) (cy : Nat → ClassId) (A : Nat → Prop) (S : St) (a : Int32)  : MI l yX8_isWarmth wsX8_isWarmth ({ frames := 0, cells := 0, slots := 0, locals := 0 } : Room) 0 0 D cy A [.int a] S (fun r S1 => S1 = S ∧ ((r.toInt = 1 ∧ -20 ≤ a.toInt ∧ a.toInt ≤ 40) ∨ (r.toInt = 0 ∧ ¬ (-20 ≤ a.toInt ∧ a.toInt ≤ 40)))) := by
  refine mt_start (cc := cX8_isWarmth) (maxL := 1) (ret := (some .boolean)) (by decide) rfl (Nat.le_of_ble_eq_true rfl) ?_
  intro p e s m args below meth c hx hb hr hlk hml hown hnm hts hK hZ hA hW hS ls hl
  have hl : lv_has ls 1 [(0, .int a)] := hl
  have hown : s.vm.findClass RX8 = some m.cls := hown
  have F : CallFix p m c cX8_isWarmth 1 s args wsX8_isWarmth RX8 := ⟨hx, hb, hml, hown, hts⟩
  refine lv_iload_n hx hb dX8_isWarmth_0 rfl (lv_at hl 0 rfl) ?_
  refine lv_bipush (v := (-20)) hx hb dX8_isWarmth_1 (by decide) ?_
  refine lv_icmp_lt (tgt := 16) hx hb dX8_isWarmth_3 (by decide) (fun c1 => ?_) (fun c1 => ?_)
  · have c1i : Int32.toInt a < (-20 : Int) := (i3_lt _ _).mp c1
    refine lv_iconst (v := 0) hx hb dX8_isWarmth_16 (by decide) ?_
    exact pc_zret (v := 0) (S := S) hx hb hr hlk hK hZ hA hW hS (by decide) (⟨rfl, Or.inr ⟨rfl, by omega⟩⟩) dX8_isWarmth_17
  · have c1i : ¬ (Int32.toInt a < (-20 : Int)) := fun h9 => c1 ((i3_lt _ _).mpr h9)
    refine lv_iload_n hx hb dX8_isWarmth_6 rfl (lv_at hl 0 rfl) ?_
    refine lv_bipush (v := 40) hx hb dX8_isWarmth_7 (by decide) ?_
    refine lv_icmp_gt (tgt := 16) hx hb dX8_isWarmth_9 (by decide) (fun c2 => ?_) (fun c2 => ?_)
    · have c2i : (40 : Int) < Int32.toInt a := (i3_lt _ _).mp c2
      refine lv_iconst (v := 0) hx hb dX8_isWarmth_16 (by decide) ?_
      exact pc_zret (v := 0) (S := S) hx hb hr hlk hK hZ hA hW hS (by decide) (⟨rfl, Or.inr ⟨rfl, by omega⟩⟩) dX8_isWarmth_17
    · have c2i : ¬ ((40 : Int) < Int32.toInt a) := fun h9 => c2 ((i3_lt _ _).mpr h9)
      refine lv_iconst (v := 1) hx hb dX8_isWarmth_12 (by decide) ?_
      refine lv_goto (tgt := 17) hx hb dX8_isWarmth_13 (by decide) ?_
      exact pc_zret (v := 1) (S := S) hx hb hr hlk hK hZ hA hW hS (by decide) (⟨rfl, Or.inl ⟨rfl, by omega⟩⟩) dX8_isWarmth_17
set_option maxHeartbeats 4000000 in
set_option maxRecDepth 100000 in
theorem b_X0_has (l : Launch) (D : va_G) (cy : Nat → ClassId) (A : Nat → Prop) (S : St) (h : Nat) (a : Int32) (hG0 : G S) (hk : sK S h = 0) : MI l yX0_has wsX0_has ({ frames := 0, cells := 0, slots := 0, locals := 0 } : Room) 0 0 D cy A [.ref h, .int a] S (fun r S1 => S1 = S ∧ True) := by
  refine mt_start (cc := cX0_has) (maxL := 2) (ret := (some .boolean)) (by decide) rfl (Nat.le_of_ble_eq_true rfl) ?_
  intro p e s m args below meth c hx hb hr hlk hml hown hnm hts hK hZ hA hW hS ls hl
  have hl : lv_has ls 2 [(0, .ref h), (1, .int a)] := hl
  have hown : s.vm.findClass RX0 = some m.cls := hown
  have F : CallFix p m c cX0_has 2 s args wsX0_has RX0 := ⟨hx, hb, hml, hown, hts⟩
  have wi0 : ∀ w ∈ u_ws RX0 TX0 1, w ∈ wsX0_has := by decide +kernel
  have hG := hG0
  refine lv_iload_n hx hb dX0_has_0 rfl (lv_at hl 1 rfl) ?_
  refine lv_if_lt (tgt := 36) hx hb dX0_has_1 (by decide) (fun c1 => ?_) (fun c1 => ?_)
  · have c1i : Int32.toInt a < (0 : Int) := (i3_lt _ _).mp c1
    refine lv_iconst (v := 0) hx hb dX0_has_36 (by decide) ?_
    exact pc_zret (v := 0) (S := S) hx hb hr hlk hK hZ hA hW hS (by decide) (⟨rfl, trivial⟩) dX0_has_37
  · have c1i : ¬ (Int32.toInt a < (0 : Int)) := fun h9 => c1 ((i3_lt _ _).mpr h9)
    refine lv_iload_n hx hb dX0_has_4 rfl (lv_at hl 1 rfl) ?_
    refine lv_sipush (v := 2048) hx hb dX0_has_5 (by decide) ?_
    refine lv_icmp_ge (tgt := 36) hx hb dX0_has_8 (by decide) (fun c2 => ?_) (fun c2 => ?_)
    · have c2i : (2048 : Int) ≤ Int32.toInt a := (i3_le _ _).mp c2
      refine lv_iconst (v := 0) hx hb dX0_has_36 (by decide) ?_
      exact pc_zret (v := 0) (S := S) hx hb hr hlk hK hZ hA hW hS (by decide) (⟨rfl, trivial⟩) dX0_has_37
    · have c2i : ¬ ((2048 : Int) ≤ Int32.toInt a) := fun h9 => c2 ((i3_le _ _).mpr h9)
      refine lv_aload_n hx hb dX0_has_11 rfl (lv_at hl 0 rfl) ?_
      obtain ⟨b3, rb3, kb3, nb3⟩ := hG0.r hk List.not_mem_nil 0 (show rty 0 0 = some (12, 32) from rfl)
      refine pg_gr (b := b3) (ci := 0) (C := RX0) (T := TX0) (N := 1) hx hb hts wi0 hown hK hW hk (by decide) rfl 0 (by decide) (hts (.fieldLink RX0 9 "IceHall$HourSet" "words" "[J") (by decide +kernel)) (fun _ h9 => h9) rfl rb3 dX0_has_12 ?_
      refine lv_iload_n hx hb dX0_has_15 rfl (lv_at hl 1 rfl) ?_
      refine lv_bipush (v := 64) hx hb dX0_has_16 (by decide) ?_
      refine lv_idiv hx hb dX0_has_18 (by decide) ?_
      refine pg_lald hx hb hK hW kb3 (by rw [show sL S b3 = 32 from nb3]; exact hs_in c1 c2) dX0_has_19 ?_
      refine lv_iload_n hx hb dX0_has_20 rfl (lv_at hl 1 rfl) ?_
      refine lv_bipush (v := 64) hx hb dX0_has_21 (by decide) ?_
      refine lv_irem hx hb dX0_has_23 (by decide) ?_
      refine lv_lushr (v := (((sJ S b3 (Int32.toNatClampNeg (a / 64))).toUInt64 >>> ((Int32.toInt64 (a - a / 64 * 64)).toUInt64 &&& Int64.toUInt64 63)).toInt64)) hx hb dX0_has_24 rfl ?_
      refine lv_lconst (v := 1) hx hb dX0_has_25 (by decide) ?_
      refine lv_land hx hb dX0_has_26 ?_
      refine lv_lconst (v := 0) hx hb dX0_has_27 (by decide) ?_
      refine W.lcmp hx hb dX0_has_28 ?_
      refine lv_if_eq (tgt := 36) hx hb dX0_has_29 (by decide) (fun c4 => ?_) (fun c4 => ?_)
      · have c4i : Int32.toInt (lg_cmp (((((sJ S b3 (Int32.toNatClampNeg (a / 64))).toUInt64 >>> ((Int32.toInt64 (a - a / 64 * 64)).toUInt64 &&& Int64.toUInt64 63)).toInt64)) &&& 1) 0) = (0 : Int) := (i3_eq _ _).mp c4
        refine lv_iconst (v := 0) hx hb dX0_has_36 (by decide) ?_
        exact pc_zret (v := 0) (S := S) hx hb hr hlk hK hZ hA hW hS (by decide) (⟨rfl, trivial⟩) dX0_has_37
      · have c4i : ¬ (Int32.toInt (lg_cmp (((((sJ S b3 (Int32.toNatClampNeg (a / 64))).toUInt64 >>> ((Int32.toInt64 (a - a / 64 * 64)).toUInt64 &&& Int64.toUInt64 63)).toInt64)) &&& 1) 0) = (0 : Int)) := fun h9 => c4 ((i3_eq _ _).mpr h9)
        refine lv_iconst (v := 1) hx hb dX0_has_32 (by decide) ?_
        refine lv_goto (tgt := 37) hx hb dX0_has_33 (by decide) ?_
        exact pc_zret (v := 1) (S := S) hx hb hr hlk hK hZ hA hW hS (by decide) (⟨rfl, trivial⟩) dX0_has_37
set_option maxHeartbeats 4000000 in
set_option maxRecDepth 100000 in
theorem b_X0_put (l : Launch) (D : va_G) (cy : Nat → ClassId) (A : Nat → Prop) (S : St) (h : Nat) (a : Int32) (hG0 : G S) (hk : sK S h = 0) : MV l yX0_put wsX0_put ({ frames := 0, cells := 0, slots := 0, locals := 0 } : Room) 0 0 D cy A [.ref h, .int a] S (fun S1 => G S1 ∧ Fr [] [] S S1 ∧ True) := by
  refine mt_start (cc := cX0_put) (maxL := 2) (ret := none) (by decide) rfl (Nat.le_of_ble_eq_true rfl) ?_
  intro p e s m args below meth c hx hb hr hlk hml hown hnm hts hK hZ hA hW hS ls hl
  have hl : lv_has ls 2 [(0, .ref h), (1, .int a)] := hl
  have hown : s.vm.findClass RX0 = some m.cls := hown
  have F : CallFix p m c cX0_put 2 s args wsX0_put RX0 := ⟨hx, hb, hml, hown, hts⟩
  have wi0 : ∀ w ∈ u_ws RX0 TX0 1, w ∈ wsX0_put := by decide +kernel
  have hG := hG0
  have hF : Fr [] [] S S := Fr.rf _ _ _
  refine lv_iload_n hx hb dX0_put_0 rfl (lv_at hl 1 rfl) ?_
  refine lv_if_lt (tgt := 29) hx hb dX0_put_1 (by decide) (fun c1 => ?_) (fun c1 => ?_)
  · have c1i : Int32.toInt a < (0 : Int) := (i3_lt _ _).mp c1
    exact pc_vret (S := S) hx hb hr hlk hK hZ hA hW hS (⟨hG, hF, trivial⟩) dX0_put_29
  · have c1i : ¬ (Int32.toInt a < (0 : Int)) := fun h9 => c1 ((i3_lt _ _).mpr h9)
    refine lv_iload_n hx hb dX0_put_4 rfl (lv_at hl 1 rfl) ?_
    refine lv_sipush (v := 2048) hx hb dX0_put_5 (by decide) ?_
    refine lv_icmp_ge (tgt := 29) hx hb dX0_put_8 (by decide) (fun c2 => ?_) (fun c2 => ?_)
    · have c2i : (2048 : Int) ≤ Int32.toInt a := (i3_le _ _).mp c2
      exact pc_vret (S := S) hx hb hr hlk hK hZ hA hW hS (⟨hG, hF, trivial⟩) dX0_put_29
    · have c2i : ¬ ((2048 : Int) ≤ Int32.toInt a) := fun h9 => c2 ((i3_le _ _).mpr h9)
      refine lv_aload_n hx hb dX0_put_11 rfl (lv_at hl 0 rfl) ?_
      obtain ⟨b3, rb3, kb3, nb3⟩ := hG0.r hk List.not_mem_nil 0 (show rty 0 0 = some (12, 32) from rfl)
      refine pg_gr (b := b3) (ci := 0) (C := RX0) (T := TX0) (N := 1) hx hb hts wi0 hown hK hW hk (by decide) rfl 0 (by decide) (hts (.fieldLink RX0 9 "IceHall$HourSet" "words" "[J") (by decide +kernel)) (fun _ h9 => h9) rfl rb3 dX0_put_12 ?_
      refine lv_iload_n hx hb dX0_put_15 rfl (lv_at hl 1 rfl) ?_
      refine lv_bipush (v := 64) hx hb dX0_put_16 (by decide) ?_
      refine lv_idiv hx hb dX0_put_18 (by decide) ?_
      refine lv_dup2_11 hx hb dX0_put_19 rfl rfl ?_
      refine pg_lald hx hb hK hW kb3 (by rw [show sL S b3 = 32 from nb3]; exact hs_in c1 c2) dX0_put_20 ?_
      refine lv_lconst (v := 1) hx hb dX0_put_21 (by decide) ?_
      refine lv_iload_n hx hb dX0_put_22 rfl (lv_at hl 1 rfl) ?_
      refine lv_bipush (v := 64) hx hb dX0_put_23 (by decide) ?_
      refine lv_irem hx hb dX0_put_25 (by decide) ?_
      refine lv_lshl (v := 1 <<< (Int32.toInt64 (a - a / 64 * 64) &&& 63)) hx hb dX0_put_26 rfl ?_
      refine lv_lor hx hb dX0_put_27 ?_
      refine pg_last hx hb hK hW hS kb3 (by rw [show sL S b3 = 32 from nb3]; exact hs_in c1 c2) dX0_put_28 (fun H locs hW hS => ?_)
      obtain ⟨S4, eS4⟩ : ∃ T : St, T = stJ S b3 (Int32.toNatClampNeg (a / 64)) ((sJ S b3 (Int32.toNatClampNeg (a / 64))) ||| (1 <<< (Int32.toInt64 (a - a / 64 * 64) &&& 63))) := ⟨_, rfl⟩
      rw [← eS4] at hW
      have hG : G S4 := by rw [eS4]; exact hG.J
      have hF : Fr [] [] S S4 := by rw [eS4]; exact hF.J
      clear eS4
      exact pc_vret (S := S4) hx hb hr hlk hK hZ hA hW hS (⟨hG, hF, trivial⟩) dX0_put_29
set_option maxHeartbeats 4000000 in
set_option maxRecDepth 100000 in
theorem b_X0_drop (l : Launch) (D : va_G) (cy : Nat → ClassId) (A : Nat → Prop) (S : St) (h : Nat) (a : Int32) (hG0 : G S) (hk : sK S h = 0) : MV l yX0_drop wsX0_drop ({ frames := 0, cells := 0, slots := 0, locals := 0 } : Room) 0 0 D cy A [.ref h, .int a] S (fun S1 => G S1 ∧ Fr [] [] S S1 ∧ True) := by
  refine mt_start (cc := cX0_drop) (maxL := 2) (ret := none) (by decide) rfl (Nat.le_of_ble_eq_true rfl) ?_
  intro p e s m args below meth c hx hb hr hlk hml hown hnm hts hK hZ hA hW hS ls hl
  have hl : lv_has ls 2 [(0, .ref h), (1, .int a)] := hl
  have hown : s.vm.findClass RX0 = some m.cls := hown
  have F : CallFix p m c cX0_drop 2 s args wsX0_drop RX0 := ⟨hx, hb, hml, hown, hts⟩
  have wi0 : ∀ w ∈ u_ws RX0 TX0 1, w ∈ wsX0_drop := by decide +kernel
  have hG := hG0
  have hF : Fr [] [] S S := Fr.rf _ _ _
  refine lv_iload_n hx hb dX0_drop_0 rfl (lv_at hl 1 rfl) ?_
  refine lv_if_lt (tgt := 33) hx hb dX0_drop_1 (by decide) (fun c1 => ?_) (fun c1 => ?_)
  · have c1i : Int32.toInt a < (0 : Int) := (i3_lt _ _).mp c1
    exact pc_vret (S := S) hx hb hr hlk hK hZ hA hW hS (⟨hG, hF, trivial⟩) dX0_drop_33
  · have c1i : ¬ (Int32.toInt a < (0 : Int)) := fun h9 => c1 ((i3_lt _ _).mpr h9)
    refine lv_iload_n hx hb dX0_drop_4 rfl (lv_at hl 1 rfl) ?_
    refine lv_sipush (v := 2048) hx hb dX0_drop_5 (by decide) ?_
    refine lv_icmp_ge (tgt := 33) hx hb dX0_drop_8 (by decide) (fun c2 => ?_) (fun c2 => ?_)
    · have c2i : (2048 : Int) ≤ Int32.toInt a := (i3_le _ _).mp c2
      exact pc_vret (S := S) hx hb hr hlk hK hZ hA hW hS (⟨hG, hF, trivial⟩) dX0_drop_33
    · have c2i : ¬ ((2048 : Int) ≤ Int32.toInt a) := fun h9 => c2 ((i3_le _ _).mpr h9)
      refine lv_aload_n hx hb dX0_drop_11 rfl (lv_at hl 0 rfl) ?_
      obtain ⟨b3, rb3, kb3, nb3⟩ := hG0.r hk List.not_mem_nil 0 (show rty 0 0 = some (12, 32) from rfl)
      refine pg_gr (b := b3) (ci := 0) (C := RX0) (T := TX0) (N := 1) hx hb hts wi0 hown hK hW hk (by decide) rfl 0 (by decide) (hts (.fieldLink RX0 9 "IceHall$HourSet" "words" "[J") (by decide +kernel)) (fun _ h9 => h9) rfl rb3 dX0_drop_12 ?_
      refine lv_iload_n hx hb dX0_drop_15 rfl (lv_at hl 1 rfl) ?_
      refine lv_bipush (v := 64) hx hb dX0_drop_16 (by decide) ?_
      refine lv_idiv hx hb dX0_drop_18 (by decide) ?_
      refine lv_dup2_11 hx hb dX0_drop_19 rfl rfl ?_
      refine pg_lald hx hb hK hW kb3 (by rw [show sL S b3 = 32 from nb3]; exact hs_in c1 c2) dX0_drop_20 ?_
      refine lv_lconst (v := 1) hx hb dX0_drop_21 (by decide) ?_
      refine lv_iload_n hx hb dX0_drop_22 rfl (lv_at hl 1 rfl) ?_
      refine lv_bipush (v := 64) hx hb dX0_drop_23 (by decide) ?_
      refine lv_irem hx hb dX0_drop_25 (by decide) ?_
      refine lv_lshl (v := 1 <<< (Int32.toInt64 (a - a / 64 * 64) &&& 63)) hx hb dX0_drop_26 rfl ?_
      refine lv_ldc2 (v := (-1)) hx hb hown (hts (.constantLong RX0 13 (-1)) (by decide +kernel)) dX0_drop_27 ?_
      refine lv_lxor hx hb dX0_drop_30 ?_
      refine lv_land hx hb dX0_drop_31 ?_
      refine pg_last hx hb hK hW hS kb3 (by rw [show sL S b3 = 32 from nb3]; exact hs_in c1 c2) dX0_drop_32 (fun H locs hW hS => ?_)
      obtain ⟨S4, eS4⟩ : ∃ T : St, T = stJ S b3 (Int32.toNatClampNeg (a / 64)) ((sJ S b3 (Int32.toNatClampNeg (a / 64))) &&& ((1 <<< (Int32.toInt64 (a - a / 64 * 64) &&& 63)) ^^^ ((-1)))) := ⟨_, rfl⟩
      rw [← eS4] at hW
      have hG : G S4 := by rw [eS4]; exact hG.J
      have hF : Fr [] [] S S4 := by rw [eS4]; exact hF.J
      clear eS4
      exact pc_vret (S := S4) hx hb hr hlk hK hZ hA hW hS (⟨hG, hF, trivial⟩) dX0_drop_33
set_option maxHeartbeats 4000000 in
set_option maxRecDepth 100000 in
theorem b_X1_runThrough (l : Launch) (D : va_G) (cy : Nat → ClassId) (A : Nat → Prop) (S : St) (h : Nat) (a : Int32) (hG0 : G S) (hk : sK S h = 1) : MI l yX1_runThrough wsX1_runThrough ({ frames := 1, cells := 0, slots := 0, locals := 21 } : Room) 0 0 D cy A [.ref h, .int a] S (fun r S1 => S1 = S ∧ True) := by
  refine mt_start (cc := cX1_runThrough) (maxL := 4) (ret := (some .int)) (by decide) rfl (Nat.le_of_ble_eq_true rfl) ?_
  intro p e s m args below meth c hx hb hr hlk hml hown hnm hts hK hZ hA hW hS ls hl
  have hl : lv_has ls 4 [(0, .ref h), (1, .int a)] := hl
  have hown : s.vm.findClass RX1 = some m.cls := hown
  have F : CallFix p m c cX1_runThrough 4 s args wsX1_runThrough RX1 := ⟨hx, hb, hml, hown, hts⟩
  have wi1 : ∀ w ∈ u_ws RX1 TX1 10, w ∈ wsX1_runThrough := by decide +kernel
  have hG := hG0
  refine lv_iconst (v := 1) hx hb dX1_runThrough_0 (by decide) ?_
  refine lv_istore_n (lv' := [(2, .int 1), (0, .ref h), (1, .int a)]) hx hb dX1_runThrough_1 rfl hl (by decide) rfl (fun ls hl => ?_)
  refine lv_iload_n hx hb dX1_runThrough_2 rfl (lv_at hl 2 rfl) ?_
  refine lv_iconst (v := 1) hx hb dX1_runThrough_3 (by decide) ?_
  refine lv_isub hx hb dX1_runThrough_4 ?_
  refine lv_istore_n (lv' := [(3, .int (a - 1)), (2, .int 1), (0, .ref h), (1, .int a)]) hx hb dX1_runThrough_5 rfl hl (by decide) rfl (fun ls hl => ?_)
  have loop6 : ∀ (zn : Nat) (n2 : Int32) (y : Int32) (H : Heap) (locs : List Loc) (ls : Array Slot), (y.toInt + 1).toNat < zn → PW D cy A S H → va_S A s.heap H locs → lv_has ls 4 [(0, .ref h), (1, .int a), (2, .int n2), (3, .int y)] → W p l e ({ frames := 1, cells := 0, slots := 0, locals := 21 } : Room) s m args below meth c H locs 0 0 (MQ below (va_Qi (fun r S1 => S1 = S ∧ True) (PU D cy A) A) args s 0 0 A) (F0 m 6 ls []) := by
    intro zn
    induction zn with
    | zero => intros; exact absurd (by assumption) (Nat.not_lt_zero _)
    | succ zn ih6 =>
      intro n2 y H locs ls  hme6 hW hS hl
      refine lv_iload_n hx hb dX1_runThrough_6 rfl (lv_at hl 3 rfl) ?_
      refine lv_if_lt (tgt := 30) hx hb dX1_runThrough_7 (by decide) (fun c1 => ?_) (fun c1 => ?_)
      · have c1i : Int32.toInt y < (0 : Int) := (i3_lt _ _).mp c1
        refine lv_iload_n hx hb dX1_runThrough_30 rfl (lv_at hl 1 rfl) ?_
        refine lv_iconst (v := 1) hx hb dX1_runThrough_31 (by decide) ?_
        refine lv_iadd hx hb dX1_runThrough_32 ?_
        refine lv_istore_n (lv' := [(3, .int (a + 1)), (0, .ref h), (1, .int a), (2, .int n2)]) hx hb dX1_runThrough_33 rfl hl (by decide) rfl (fun ls hl => ?_)
        have loop34 : ∀ (zn : Nat) (n2 : Int32) (y : Int32) (H : Heap) (locs : List Loc) (ls : Array Slot), (2048 - y.toInt).toNat < zn → PW D cy A S H → va_S A s.heap H locs → lv_has ls 4 [(0, .ref h), (1, .int a), (2, .int n2), (3, .int y)] → W p l e ({ frames := 1, cells := 0, slots := 0, locals := 21 } : Room) s m args below meth c H locs 0 0 (MQ below (va_Qi (fun r S1 => S1 = S ∧ True) (PU D cy A) A) args s 0 0 A) (F0 m 34 ls []) := by
          intro zn
          induction zn with
          | zero => intros; exact absurd (by assumption) (Nat.not_lt_zero _)
          | succ zn ih34 =>
            intro n2 y H locs ls  hme34 hW hS hl
            have hb9 := i3_bd y
            refine lv_iload_n hx hb dX1_runThrough_34 rfl (lv_at hl 3 rfl) ?_
            refine lv_sipush (v := 2048) hx hb dX1_runThrough_35 (by decide) ?_
            refine lv_icmp_ge (tgt := 61) hx hb dX1_runThrough_38 (by decide) (fun c2 => ?_) (fun c2 => ?_)
            · have c2i : (2048 : Int) ≤ Int32.toInt y := (i3_le _ _).mp c2
              refine lv_iload_n hx hb dX1_runThrough_61 rfl (lv_at hl 2 rfl) ?_
              exact pc_iret (v := n2) (S := S) hx hb hr hlk hK hZ hA hW hS (⟨rfl, trivial⟩) dX1_runThrough_62
            · have c2i : ¬ ((2048 : Int) ≤ Int32.toInt y) := fun h9 => c2 ((i3_le _ _).mpr h9)
              refine lv_aload_n hx hb dX1_runThrough_41 rfl (lv_at hl 0 rfl) ?_
              obtain ⟨b3, rb3, kb3, nb3⟩ := hG0.r hk List.not_mem_nil 0 (show rty 1 0 = some (0, 0) from rfl)
              refine pg_gr (b := b3) (ci := 1) (C := RX1) (T := TX1) (N := 10) hx hb hts wi1 hown hK hW hk (by decide) rfl 0 (by decide) (hts (.fieldLink RX1 12 "IceHall$Ice" "taken" "LIceHall$HourSet;") (by decide +kernel)) (fun _ h9 => h9) rfl rb3 dX1_runThrough_42 ?_
              refine lv_iload_n hx hb dX1_runThrough_45 rfl (lv_at hl 3 rfl) ?_
              refine pc_Vi (As := [.int y]) (rest := []) F (b_X0_has l D cy A S b3 y hG kb3) (cwV 1 hts gX1_runThrough_X0_has rfl rfl rfl (by decide +kernel) ⟨Nat.le_of_ble_eq_true rfl, Nat.le_of_ble_eq_true rfl⟩) hK hZ hA hW hS kb3 (by decide) rfl rfl hl.1 rfl (Nat.le_of_ble_eq_true rfl) dX1_runThrough_46 ⟨Nat.le_of_ble_eq_true rfl, Nat.le_of_ble_eq_true rfl⟩ (fun v4 T5 H locs p6 hW hS => ?_)
              obtain ⟨eT5, p6⟩ := p6
              rw [eT5] at hW
              clear eT5
              refine lv_if_eq (tgt := 61) hx hb dX1_runThrough_49 (by decide) (fun c7 => ?_) (fun c7 => ?_)
              · have c7i : Int32.toInt v4 = (0 : Int) := (i3_eq _ _).mp c7
                refine lv_iload_n hx hb dX1_runThrough_61 rfl (lv_at hl 2 rfl) ?_
                exact pc_iret (v := n2) (S := S) hx hb hr hlk hK hZ hA hW hS (⟨rfl, trivial⟩) dX1_runThrough_62
              · have c7i : ¬ (Int32.toInt v4 = (0 : Int)) := fun h9 => c7 ((i3_eq _ _).mpr h9)
                refine lv_iinc (v := n2 + 1) (lv' := [(2, .int (n2 + 1)), (0, .ref h), (1, .int a), (3, .int y)]) hx hb dX1_runThrough_52 hl (k := 2) rfl rfl (by decide) rfl (fun ls hl => ?_)
                refine lv_iinc (v := y + 1) (lv' := [(3, .int (y + 1)), (2, .int (n2 + 1)), (0, .ref h), (1, .int a)]) hx hb dX1_runThrough_55 hl (k := 3) rfl rfl (by decide) rfl (fun ls hl => ?_)
                have i8 : (y + 1).toInt = (y).toInt + 1 := i3_add rfl rfl (by omega) (by omega)
                refine lv_goto (tgt := 34) hx hb dX1_runThrough_58 (by decide) ?_
                exact ih34 (n2 + 1) (y + 1) _ _ ls  (by omega) hW hS (lv_cast (lv_sub hl [2, 3, 1, 0] rfl) (rfl))
        exact loop34 _ n2 (a + 1) _ _ ls  (Nat.lt_succ_self _) hW hS (lv_cast (lv_sub hl [1, 2, 3, 0] rfl) (rfl))
      · have c1i : ¬ (Int32.toInt y < (0 : Int)) := fun h9 => c1 ((i3_lt _ _).mpr h9)
        refine lv_aload_n hx hb dX1_runThrough_10 rfl (lv_at hl 0 rfl) ?_
        obtain ⟨b9, rb9, kb9, nb9⟩ := hG0.r hk List.not_mem_nil 0 (show rty 1 0 = some (0, 0) from rfl)
        refine pg_gr (b := b9) (ci := 1) (C := RX1) (T := TX1) (N := 10) hx hb hts wi1 hown hK hW hk (by decide) rfl 0 (by decide) (hts (.fieldLink RX1 12 "IceHall$Ice" "taken" "LIceHall$HourSet;") (by decide +kernel)) (fun _ h9 => h9) rfl rb9 dX1_runThrough_11 ?_
        refine lv_iload_n hx hb dX1_runThrough_14 rfl (lv_at hl 3 rfl) ?_
        refine pc_Vi (As := [.int y]) (rest := []) F (b_X0_has l D cy A S b9 y hG kb9) (cwV 1 hts gX1_runThrough_X0_has rfl rfl rfl (by decide +kernel) ⟨Nat.le_of_ble_eq_true rfl, Nat.le_of_ble_eq_true rfl⟩) hK hZ hA hW hS kb9 (by decide) rfl rfl hl.1 rfl (Nat.le_of_ble_eq_true rfl) dX1_runThrough_15 ⟨Nat.le_of_ble_eq_true rfl, Nat.le_of_ble_eq_true rfl⟩ (fun v10 T11 H locs p12 hW hS => ?_)
        obtain ⟨eT11, p12⟩ := p12
        rw [eT11] at hW
        clear eT11
        refine lv_if_eq (tgt := 30) hx hb dX1_runThrough_18 (by decide) (fun c13 => ?_) (fun c13 => ?_)
        · have c13i : Int32.toInt v10 = (0 : Int) := (i3_eq _ _).mp c13
          refine lv_iload_n hx hb dX1_runThrough_30 rfl (lv_at hl 1 rfl) ?_
          refine lv_iconst (v := 1) hx hb dX1_runThrough_31 (by decide) ?_
          refine lv_iadd hx hb dX1_runThrough_32 ?_
          refine lv_istore_n (lv' := [(3, .int (a + 1)), (0, .ref h), (1, .int a), (2, .int n2)]) hx hb dX1_runThrough_33 rfl hl (by decide) rfl (fun ls hl => ?_)
          have loop34 : ∀ (zn : Nat) (n2 : Int32) (y : Int32) (H : Heap) (locs : List Loc) (ls : Array Slot), (2048 - y.toInt).toNat < zn → PW D cy A S H → va_S A s.heap H locs → lv_has ls 4 [(0, .ref h), (1, .int a), (2, .int n2), (3, .int y)] → W p l e ({ frames := 1, cells := 0, slots := 0, locals := 21 } : Room) s m args below meth c H locs 0 0 (MQ below (va_Qi (fun r S1 => S1 = S ∧ True) (PU D cy A) A) args s 0 0 A) (F0 m 34 ls []) := by
            intro zn
            induction zn with
            | zero => intros; exact absurd (by assumption) (Nat.not_lt_zero _)
            | succ zn ih34 =>
              intro n2 y H locs ls  hme34 hW hS hl
              have hb9 := i3_bd y
              refine lv_iload_n hx hb dX1_runThrough_34 rfl (lv_at hl 3 rfl) ?_
              refine lv_sipush (v := 2048) hx hb dX1_runThrough_35 (by decide) ?_
              refine lv_icmp_ge (tgt := 61) hx hb dX1_runThrough_38 (by decide) (fun c14 => ?_) (fun c14 => ?_)
              · have c14i : (2048 : Int) ≤ Int32.toInt y := (i3_le _ _).mp c14
                refine lv_iload_n hx hb dX1_runThrough_61 rfl (lv_at hl 2 rfl) ?_
                exact pc_iret (v := n2) (S := S) hx hb hr hlk hK hZ hA hW hS (⟨rfl, trivial⟩) dX1_runThrough_62
              · have c14i : ¬ ((2048 : Int) ≤ Int32.toInt y) := fun h9 => c14 ((i3_le _ _).mpr h9)
                refine lv_aload_n hx hb dX1_runThrough_41 rfl (lv_at hl 0 rfl) ?_
                refine pg_gr (b := b9) (ci := 1) (C := RX1) (T := TX1) (N := 10) hx hb hts wi1 hown hK hW hk (by decide) rfl 0 (by decide) (hts (.fieldLink RX1 12 "IceHall$Ice" "taken" "LIceHall$HourSet;") (by decide +kernel)) (fun _ h9 => h9) rfl rb9 dX1_runThrough_42 ?_
                refine lv_iload_n hx hb dX1_runThrough_45 rfl (lv_at hl 3 rfl) ?_
                refine pc_Vi (As := [.int y]) (rest := []) F (b_X0_has l D cy A S b9 y hG kb9) (cwV 1 hts gX1_runThrough_X0_has rfl rfl rfl (by decide +kernel) ⟨Nat.le_of_ble_eq_true rfl, Nat.le_of_ble_eq_true rfl⟩) hK hZ hA hW hS kb9 (by decide) rfl rfl hl.1 rfl (Nat.le_of_ble_eq_true rfl) dX1_runThrough_46 ⟨Nat.le_of_ble_eq_true rfl, Nat.le_of_ble_eq_true rfl⟩ (fun v15 T16 H locs p17 hW hS => ?_)
                obtain ⟨eT16, p17⟩ := p17
                rw [eT16] at hW
                clear eT16
                refine lv_if_eq (tgt := 61) hx hb dX1_runThrough_49 (by decide) (fun c18 => ?_) (fun c18 => ?_)
                · have c18i : Int32.toInt v15 = (0 : Int) := (i3_eq _ _).mp c18
                  refine lv_iload_n hx hb dX1_runThrough_61 rfl (lv_at hl 2 rfl) ?_
                  exact pc_iret (v := n2) (S := S) hx hb hr hlk hK hZ hA hW hS (⟨rfl, trivial⟩) dX1_runThrough_62
                · have c18i : ¬ (Int32.toInt v15 = (0 : Int)) := fun h9 => c18 ((i3_eq _ _).mpr h9)
                  refine lv_iinc (v := n2 + 1) (lv' := [(2, .int (n2 + 1)), (0, .ref h), (1, .int a), (3, .int y)]) hx hb dX1_runThrough_52 hl (k := 2) rfl rfl (by decide) rfl (fun ls hl => ?_)
                  refine lv_iinc (v := y + 1) (lv' := [(3, .int (y + 1)), (2, .int (n2 + 1)), (0, .ref h), (1, .int a)]) hx hb dX1_runThrough_55 hl (k := 3) rfl rfl (by decide) rfl (fun ls hl => ?_)
                  have i19 : (y + 1).toInt = (y).toInt + 1 := i3_add rfl rfl (by omega) (by omega)
                  refine lv_goto (tgt := 34) hx hb dX1_runThrough_58 (by decide) ?_
                  exact ih34 (n2 + 1) (y + 1) _ _ ls  (by omega) hW hS (lv_cast (lv_sub hl [2, 3, 1, 0] rfl) (rfl))
          exact loop34 _ n2 (a + 1) _ _ ls  (Nat.lt_succ_self _) hW hS (lv_cast (lv_sub hl [1, 2, 3, 0] rfl) (rfl))
        · have c13i : ¬ (Int32.toInt v10 = (0 : Int)) := fun h9 => c13 ((i3_eq _ _).mpr h9)
          refine lv_iinc (v := n2 + 1) (lv' := [(2, .int (n2 + 1)), (0, .ref h), (1, .int a), (3, .int y)]) hx hb dX1_runThrough_21 hl (k := 2) rfl rfl (by decide) rfl (fun ls hl => ?_)
          refine lv_iinc (v := y + (-1)) (lv' := [(3, .int (y + (-1))), (2, .int (n2 + 1)), (0, .ref h), (1, .int a)]) hx hb dX1_runThrough_24 hl (k := 3) rfl rfl (by decide) rfl (fun ls hl => ?_)
          have i20 : (y + (-1)).toInt = (y).toInt - 1 := i3_dec (by omega)
          refine lv_goto (tgt := 6) hx hb dX1_runThrough_27 (by decide) ?_
          exact ih6 (n2 + 1) (y + (-1)) _ _ ls  (by omega) hW hS (lv_cast (lv_sub hl [2, 3, 1, 0] rfl) (rfl))
  exact loop6 _ 1 (a - 1) _ _ ls  (Nat.lt_succ_self _) hW hS (lv_cast (lv_sub hl [2, 3, 1, 0] rfl) (rfl))
set_option maxHeartbeats 4000000 in
set_option maxRecDepth 100000 in
theorem b_X1_hasRoom (l : Launch) (D : va_G) (cy : Nat → ClassId) (A : Nat → Prop) (S : St) (h : Nat) (a b : Int32) (hG0 : G S) (hk : sK S h = 1) : MI l yX1_hasRoom wsX1_hasRoom ({ frames := 2, cells := 0, slots := 0, locals := 44 } : Room) 0 0 D cy A [.ref h, .int a, .int b] S (fun r S1 => S1 = S ∧ True) := by
  refine mt_start (cc := cX1_hasRoom) (maxL := 3) (ret := (some .boolean)) (by decide) rfl (Nat.le_of_ble_eq_true rfl) ?_
  intro p e s m args below meth c hx hb hr hlk hml hown hnm hts hK hZ hA hW hS ls hl
  have hl : lv_has ls 3 [(0, .ref h), (1, .int a), (2, .int b)] := hl
  have hown : s.vm.findClass RX1 = some m.cls := hown
  have F : CallFix p m c cX1_hasRoom 3 s args wsX1_hasRoom RX1 := ⟨hx, hb, hml, hown, hts⟩
  have wi1 : ∀ w ∈ u_ws RX1 TX1 10, w ∈ wsX1_hasRoom := by decide +kernel
  have hG := hG0
  refine lv_aload_n hx hb dX1_hasRoom_0 rfl (lv_at hl 0 rfl) ?_
  obtain ⟨b1, rb1, kb1, nb1⟩ := hG0.r hk List.not_mem_nil 0 (show rty 1 0 = some (0, 0) from rfl)
  refine pg_gr (b := b1) (ci := 1) (C := RX1) (T := TX1) (N := 10) hx hb hts wi1 hown hK hW hk (by decide) rfl 0 (by decide) (hts (.fieldLink RX1 12 "IceHall$Ice" "taken" "LIceHall$HourSet;") (by decide +kernel)) (fun _ h9 => h9) rfl rb1 dX1_hasRoom_1 ?_
  refine lv_iload_n hx hb dX1_hasRoom_4 rfl (lv_at hl 1 rfl) ?_
  refine pc_Vi (As := [.int a]) (rest := []) F (b_X0_has l D cy A S b1 a hG kb1) (cwV 1 hts gX1_hasRoom_X0_has rfl rfl rfl (by decide +kernel) ⟨Nat.le_of_ble_eq_true rfl, Nat.le_of_ble_eq_true rfl⟩) hK hZ hA hW hS kb1 (by decide) rfl rfl hl.1 rfl (Nat.le_of_ble_eq_true rfl) dX1_hasRoom_5 ⟨Nat.le_of_ble_eq_true rfl, Nat.le_of_ble_eq_true rfl⟩ (fun v2 T3 H locs p4 hW hS => ?_)
  obtain ⟨eT3, p4⟩ := p4
  rw [eT3] at hW
  clear eT3
  refine lv_if_ne (tgt := 35) hx hb dX1_hasRoom_8 (by decide) (fun c5 => ?_) (fun c5 => ?_)
  · have c5i : ¬ (Int32.toInt v2 = (0 : Int)) := fun h9 => c5 ((i3_eq _ _).mpr h9)
    refine lv_iconst (v := 0) hx hb dX1_hasRoom_35 (by decide) ?_
    exact pc_zret (v := 0) (S := S) hx hb hr hlk hK hZ hA hW hS (by decide) (⟨rfl, trivial⟩) dX1_hasRoom_36
  · have c5i : Int32.toInt v2 = (0 : Int) := (i3_eq _ _).mp c5
    refine lv_aload_n hx hb dX1_hasRoom_11 rfl (lv_at hl 0 rfl) ?_
    obtain ⟨b6, rb6, kb6, nb6⟩ := hG0.r hk List.not_mem_nil 1 (show rty 1 1 = some (0, 0) from rfl)
    refine pg_gr (b := b6) (ci := 1) (C := RX1) (T := TX1) (N := 10) hx hb hts wi1 hown hK hW hk (by decide) rfl 1 (by decide) (hts (.fieldLink RX1 18 "IceHall$Ice" "closed" "LIceHall$HourSet;") (by decide +kernel)) (fun _ h9 => h9) rfl rb6 dX1_hasRoom_12 ?_
    refine lv_iload_n hx hb dX1_hasRoom_15 rfl (lv_at hl 1 rfl) ?_
    refine pc_Vi (As := [.int a]) (rest := []) F (b_X0_has l D cy A S b6 a hG kb6) (cwV 1 hts gX1_hasRoom_X0_has rfl rfl rfl (by decide +kernel) ⟨Nat.le_of_ble_eq_true rfl, Nat.le_of_ble_eq_true rfl⟩) hK hZ hA hW hS kb6 (by decide) rfl rfl hl.1 rfl (Nat.le_of_ble_eq_true rfl) dX1_hasRoom_16 ⟨Nat.le_of_ble_eq_true rfl, Nat.le_of_ble_eq_true rfl⟩ (fun v7 T8 H locs p9 hW hS => ?_)
    obtain ⟨eT8, p9⟩ := p9
    rw [eT8] at hW
    clear eT8
    refine lv_if_ne (tgt := 35) hx hb dX1_hasRoom_19 (by decide) (fun c10 => ?_) (fun c10 => ?_)
    · have c10i : ¬ (Int32.toInt v7 = (0 : Int)) := fun h9 => c10 ((i3_eq _ _).mpr h9)
      refine lv_iconst (v := 0) hx hb dX1_hasRoom_35 (by decide) ?_
      exact pc_zret (v := 0) (S := S) hx hb hr hlk hK hZ hA hW hS (by decide) (⟨rfl, trivial⟩) dX1_hasRoom_36
    · have c10i : Int32.toInt v7 = (0 : Int) := (i3_eq _ _).mp c10
      refine lv_aload_n hx hb dX1_hasRoom_22 rfl (lv_at hl 0 rfl) ?_
      refine lv_iload_n hx hb dX1_hasRoom_23 rfl (lv_at hl 1 rfl) ?_
      refine pc_Vi (As := [.int a]) (rest := []) F (b_X1_runThrough l D cy A S h a hG hk) (cwV 1 hts gX1_hasRoom_X1_runThrough rfl rfl rfl (by decide +kernel) ⟨Nat.le_of_ble_eq_true rfl, Nat.le_of_ble_eq_true rfl⟩) hK hZ hA hW hS hk (by decide) rfl rfl hl.1 rfl (Nat.le_of_ble_eq_true rfl) dX1_hasRoom_24 ⟨Nat.le_of_ble_eq_true rfl, Nat.le_of_ble_eq_true rfl⟩ (fun v11 T12 H locs p13 hW hS => ?_)
      obtain ⟨eT12, p13⟩ := p13
      rw [eT12] at hW
      clear eT12
      refine lv_iload_n hx hb dX1_hasRoom_27 rfl (lv_at hl 2 rfl) ?_
      refine lv_icmp_gt (tgt := 35) hx hb dX1_hasRoom_28 (by decide) (fun c14 => ?_) (fun c14 => ?_)
      · have c14i : Int32.toInt b < Int32.toInt v11 := (i3_lt _ _).mp c14
        refine lv_iconst (v := 0) hx hb dX1_hasRoom_35 (by decide) ?_
        exact pc_zret (v := 0) (S := S) hx hb hr hlk hK hZ hA hW hS (by decide) (⟨rfl, trivial⟩) dX1_hasRoom_36
      · have c14i : ¬ (Int32.toInt b < Int32.toInt v11) := fun h9 => c14 ((i3_lt _ _).mpr h9)
        refine lv_iconst (v := 1) hx hb dX1_hasRoom_31 (by decide) ?_
        refine lv_goto (tgt := 36) hx hb dX1_hasRoom_32 (by decide) ?_
        exact pc_zret (v := 1) (S := S) hx hb hr hlk hK hZ hA hW hS (by decide) (⟨rfl, trivial⟩) dX1_hasRoom_36
set_option maxHeartbeats 4000000 in
set_option maxRecDepth 100000 in
theorem b_X1_tellCut (l : Launch) (D : va_G) (cy : Nat → ClassId) (A : Nat → Prop) (S : St) (h : Nat) (a b : Int32) (hG0 : G S) (hk : sK S h = 1) : MV l yX1_tellCut wsX1_tellCut ({ frames := 0, cells := 0, slots := 0, locals := 0 } : Room) 0 0 D cy A [.ref h, .int a, .int b] S (fun S1 => G S1 ∧ Fr [] [108, 109] S S1 ∧ True) := by
  refine mt_start (cc := cX1_tellCut) (maxL := 3) (ret := none) (by decide) rfl (Nat.le_of_ble_eq_true rfl) ?_
  intro p e s m args below meth c hx hb hr hlk hml hown hnm hts hK hZ hA hW hS ls hl
  have hl : lv_has ls 3 [(0, .ref h), (1, .int a), (2, .int b)] := hl
  have hown : s.vm.findClass RX1 = some m.cls := hown
  have F : CallFix p m c cX1_tellCut 3 s args wsX1_tellCut RX1 := ⟨hx, hb, hml, hown, hts⟩
  have wi1 : ∀ w ∈ u_ws RX1 TX1 10, w ∈ wsX1_tellCut := by decide +kernel
  have hG := hG0
  have hF : Fr [] [108, 109] S S := Fr.rf _ _ _
  refine lv_aload_n hx hb dX1_tellCut_0 rfl (lv_at hl 0 rfl) ?_
  refine lv_iload_n hx hb dX1_tellCut_1 rfl (lv_at hl 1 rfl) ?_
  refine pg_pi (ci := 1) (C := RX1) (T := TX1) (N := 10) hx hb hts wi1 tyX1 tyX1_ok nmX1 hown hK hW hS hk (by decide) rfl 8 (by decide) (hts (.fieldLink RX1 40 "IceHall$Ice" "toShave" "I") (by decide +kernel)) (fun _ h9 => h9) rfl rfl rfl dX1_tellCut_2 (fun H locs hW hS => ?_)
  obtain ⟨S1, eS1⟩ : ∃ T : St, T = stI S h 8 a := ⟨_, rfl⟩
  rw [← eS1] at hW
  have hG : G S1 := by rw [eS1]; exact hG.I hk (ok_fr (by decide))
  have hF : Fr [] [108, 109] S S1 := by rw [eS1]; exact hF.I hk (by decide)
  clear eS1
  refine lv_aload_n hx hb dX1_tellCut_5 rfl (lv_at hl 0 rfl) ?_
  refine lv_iload_n hx hb dX1_tellCut_6 rfl (lv_at hl 2 rfl) ?_
  refine pg_pi (ci := 1) (C := RX1) (T := TX1) (N := 10) hx hb hts wi1 tyX1 tyX1_ok nmX1 hown hK hW hS (hF.k hk (by decide)) (by decide) rfl 9 (by decide) (hts (.fieldLink RX1 43 "IceHall$Ice" "toFlood" "I") (by decide +kernel)) (fun _ h9 => h9) rfl rfl rfl dX1_tellCut_7 (fun H locs hW hS => ?_)
  have kq2 : sK S1 h = 1 := (hF.k hk (by decide))
  obtain ⟨S3, eS3⟩ : ∃ T : St, T = stI S1 h 9 b := ⟨_, rfl⟩
  rw [← eS3] at hW
  have hG : G S3 := by rw [eS3]; exact hG.I kq2 (ok_fr (by decide))
  have hF : Fr [] [108, 109] S S3 := by rw [eS3]; exact hF.I kq2 (by decide)
  clear eS3
  exact pc_vret (S := S3) hx hb hr hlk hK hZ hA hW hS (⟨hG, hF, trivial⟩) dX1_tellCut_10
set_option maxHeartbeats 4000000 in
set_option maxRecDepth 100000 in
theorem b_X1_melt (l : Launch) (D : va_G) (cy : Nat → ClassId) (A : Nat → Prop) (S : St) (h : Nat) (a : Int32) (hG0 : G S) (hk : sK S h = 1) : MV l yX1_melt wsX1_melt ({ frames := 1, cells := 0, slots := 0, locals := 60 } : Room) 0 0 D cy A [.ref h, .int a] S (fun S1 => G S1 ∧ Fr [] [103, 107] S S1 ∧ True) := by
  refine mt_start (cc := cX1_melt) (maxL := 3) (ret := none) (by decide) rfl (Nat.le_of_ble_eq_true rfl) ?_
  intro p e s m args below meth c hx hb hr hlk hml hown hnm hts hK hZ hA hW hS ls hl
  have hl : lv_has ls 3 [(0, .ref h), (1, .int a)] := hl
  have hown : s.vm.findClass RX1 = some m.cls := hown
  have F : CallFix p m c cX1_melt 3 s args wsX1_melt RX1 := ⟨hx, hb, hml, hown, hts⟩
  have wi1 : ∀ w ∈ u_ws RX1 TX1 10, w ∈ wsX1_melt := by decide +kernel
  have hG := hG0
  have hF : Fr [] [103, 107] S S := Fr.rf _ _ _
  refine lv_iload_n hx hb dX1_melt_0 rfl (lv_at hl 1 rfl) ?_
  refine lv_aload_n hx hb dX1_melt_1 rfl (lv_at hl 0 rfl) ?_
  refine pg_gi (ci := 1) (C := RX1) (T := TX1) (N := 10) hx hb hts wi1 hown hK hW hk (by decide) rfl 3 (by decide) (hts (.fieldLink RX1 25 "IceHall$Ice" "thickness" "I") (by decide +kernel)) (fun _ h9 => h9) rfl dX1_melt_2 ?_
  refine va_mmin hx hb (by rw [hml]; exact hl.1.symm) hown (hts (.methodLink RX1 54 Lib.Math.min.name) (by decide +kernel)) (hts (.static Lib.Math.min.name) (by decide +kernel)) (hts (.initialized "java/lang/Math") (by decide +kernel)) (hts (.code Lib.Math.min.name Lib.Math.min.code 2 (some .int)) (by decide +kernel)) (Nat.le_of_ble_eq_true rfl) (Nat.le_of_ble_eq_true rfl) (Nat.le_of_ble_eq_true rfl) (Nat.le_of_ble_eq_true rfl) dX1_melt_5 ?_
  refine lv_topi (fun m1 em1 => ?_)
  refine lv_istore_n (lv' := [(2, .int m1), (0, .ref h), (1, .int a)]) hx hb dX1_melt_8 rfl hl (by decide) rfl (fun ls hl => ?_)
  refine lv_aload_n hx hb dX1_melt_9 rfl (lv_at hl 1 rfl) ?_
  refine lv_dup hx hb dX1_melt_10 rfl ?_
  refine pg_gi (ci := 1) (C := RX1) (T := TX1) (N := 10) hx hb hts wi1 hown hK hW hk (by decide) rfl 3 (by decide) (hts (.fieldLink RX1 25 "IceHall$Ice" "thickness" "I") (by decide +kernel)) (fun _ h9 => h9) rfl dX1_melt_11 ?_
  refine lv_iload_n hx hb dX1_melt_14 rfl (lv_at hl 0 rfl) ?_
  refine lv_isub hx hb dX1_melt_15 ?_
  refine pg_pi (ci := 1) (C := RX1) (T := TX1) (N := 10) hx hb hts wi1 tyX1 tyX1_ok nmX1 hown hK hW hS hk (by decide) rfl 3 (by decide) (hts (.fieldLink RX1 25 "IceHall$Ice" "thickness" "I") (by decide +kernel)) (fun _ h9 => h9) rfl rfl rfl dX1_melt_16 (fun H locs hW hS => ?_)
  obtain ⟨S2, eS2⟩ : ∃ T : St, T = stI S h 3 ((sI S h 3) - m1) := ⟨_, rfl⟩
  rw [← eS2] at hW
  have hG : G S2 := by rw [eS2]; exact hG.I hk (ok_fr (by decide))
  have hF : Fr [] [103, 107] S S2 := by rw [eS2]; exact hF.I hk (by decide)
  clear eS2
  refine lv_aload_n hx hb dX1_melt_19 rfl (lv_at hl 1 rfl) ?_
  refine lv_dup hx hb dX1_melt_20 rfl ?_
  refine pg_gi (ci := 1) (C := RX1) (T := TX1) (N := 10) hx hb hts wi1 hown hK hW (hF.k hk (by decide)) (by decide) rfl 7 (by decide) (hts (.fieldLink RX1 37 "IceHall$Ice" "melted" "I") (by decide +kernel)) (fun _ h9 => h9) rfl dX1_melt_21 ?_
  refine lv_iload_n hx hb dX1_melt_24 rfl (lv_at hl 0 rfl) ?_
  refine lv_iadd hx hb dX1_melt_25 ?_
  refine pg_pi (ci := 1) (C := RX1) (T := TX1) (N := 10) hx hb hts wi1 tyX1 tyX1_ok nmX1 hown hK hW hS (hF.k hk (by decide)) (by decide) rfl 7 (by decide) (hts (.fieldLink RX1 37 "IceHall$Ice" "melted" "I") (by decide +kernel)) (fun _ h9 => h9) rfl rfl rfl dX1_melt_26 (fun H locs hW hS => ?_)
  have kq3 : sK S2 h = 1 := (hF.k hk (by decide))
  obtain ⟨S4, eS4⟩ : ∃ T : St, T = stI S2 h 7 ((sI S2 h 7) + m1) := ⟨_, rfl⟩
  rw [← eS4] at hW
  have hG : G S4 := by rw [eS4]; exact hG.I kq3 (ok_fr (by decide))
  have hF : Fr [] [103, 107] S S4 := by rw [eS4]; exact hF.I kq3 (by decide)
  clear eS4
  exact pc_vret (S := S4) hx hb hr hlk hK hZ hA hW hS (⟨hG, hF, trivial⟩) dX1_melt_29
set_option maxHeartbeats 4000000 in
set_option maxRecDepth 100000 in
theorem b_X1_shave (l : Launch) (D : va_G) (cy : Nat → ClassId) (A : Nat → Prop) (S : St) (h : Nat) (hG0 : G S) (hk : sK S h = 1) : MV l yX1_shave wsX1_shave ({ frames := 1, cells := 0, slots := 0, locals := 60 } : Room) 0 0 D cy A [.ref h] S (fun S1 => G S1 ∧ Fr [] [103, 104, 105] S S1 ∧ True) := by
  refine mt_start (cc := cX1_shave) (maxL := 2) (ret := none) (by decide) rfl (Nat.le_of_ble_eq_true rfl) ?_
  intro p e s m args below meth c hx hb hr hlk hml hown hnm hts hK hZ hA hW hS ls hl
  have hl : lv_has ls 2 [(0, .ref h)] := hl
  have hown : s.vm.findClass RX1 = some m.cls := hown
  have F : CallFix p m c cX1_shave 2 s args wsX1_shave RX1 := ⟨hx, hb, hml, hown, hts⟩
  have wi1 : ∀ w ∈ u_ws RX1 TX1 10, w ∈ wsX1_shave := by decide +kernel
  have hG := hG0
  have hF : Fr [] [103, 104, 105] S S := Fr.rf _ _ _
  refine lv_aload_n hx hb dX1_shave_0 rfl (lv_at hl 0 rfl) ?_
  refine pg_gi (ci := 1) (C := RX1) (T := TX1) (N := 10) hx hb hts wi1 hown hK hW hk (by decide) rfl 8 (by decide) (hts (.fieldLink RX1 40 "IceHall$Ice" "toShave" "I") (by decide +kernel)) (fun _ h9 => h9) rfl dX1_shave_1 ?_
  refine lv_aload_n hx hb dX1_shave_4 rfl (lv_at hl 0 rfl) ?_
  refine pg_gi (ci := 1) (C := RX1) (T := TX1) (N := 10) hx hb hts wi1 hown hK hW hk (by decide) rfl 3 (by decide) (hts (.fieldLink RX1 25 "IceHall$Ice" "thickness" "I") (by decide +kernel)) (fun _ h9 => h9) rfl dX1_shave_5 ?_
  refine va_mmin hx hb (by rw [hml]; exact hl.1.symm) hown (hts (.methodLink RX1 54 Lib.Math.min.name) (by decide +kernel)) (hts (.static Lib.Math.min.name) (by decide +kernel)) (hts (.initialized "java/lang/Math") (by decide +kernel)) (hts (.code Lib.Math.min.name Lib.Math.min.code 2 (some .int)) (by decide +kernel)) (Nat.le_of_ble_eq_true rfl) (Nat.le_of_ble_eq_true rfl) (Nat.le_of_ble_eq_true rfl) (Nat.le_of_ble_eq_true rfl) dX1_shave_8 ?_
  refine lv_topi (fun m1 em1 => ?_)
  refine lv_istore_n (lv' := [(1, .int m1), (0, .ref h)]) hx hb dX1_shave_11 rfl hl (by decide) rfl (fun ls hl => ?_)
  refine lv_aload_n hx hb dX1_shave_12 rfl (lv_at hl 1 rfl) ?_
  refine lv_dup hx hb dX1_shave_13 rfl ?_
  refine pg_gi (ci := 1) (C := RX1) (T := TX1) (N := 10) hx hb hts wi1 hown hK hW hk (by decide) rfl 3 (by decide) (hts (.fieldLink RX1 25 "IceHall$Ice" "thickness" "I") (by decide +kernel)) (fun _ h9 => h9) rfl dX1_shave_14 ?_
  refine lv_iload_n hx hb dX1_shave_17 rfl (lv_at hl 0 rfl) ?_
  refine lv_isub hx hb dX1_shave_18 ?_
  refine pg_pi (ci := 1) (C := RX1) (T := TX1) (N := 10) hx hb hts wi1 tyX1 tyX1_ok nmX1 hown hK hW hS hk (by decide) rfl 3 (by decide) (hts (.fieldLink RX1 25 "IceHall$Ice" "thickness" "I") (by decide +kernel)) (fun _ h9 => h9) rfl rfl rfl dX1_shave_19 (fun H locs hW hS => ?_)
  obtain ⟨S2, eS2⟩ : ∃ T : St, T = stI S h 3 ((sI S h 3) - m1) := ⟨_, rfl⟩
  rw [← eS2] at hW
  have hG : G S2 := by rw [eS2]; exact hG.I hk (ok_fr (by decide))
  have hF : Fr [] [103, 104, 105] S S2 := by rw [eS2]; exact hF.I hk (by decide)
  clear eS2
  refine lv_aload_n hx hb dX1_shave_22 rfl (lv_at hl 1 rfl) ?_
  refine lv_dup hx hb dX1_shave_23 rfl ?_
  refine pg_gi (ci := 1) (C := RX1) (T := TX1) (N := 10) hx hb hts wi1 hown hK hW (hF.k hk (by decide)) (by decide) rfl 5 (by decide) (hts (.fieldLink RX1 31 "IceHall$Ice" "shaved" "I") (by decide +kernel)) (fun _ h9 => h9) rfl dX1_shave_24 ?_
  refine lv_iload_n hx hb dX1_shave_27 rfl (lv_at hl 0 rfl) ?_
  refine lv_iadd hx hb dX1_shave_28 ?_
  refine pg_pi (ci := 1) (C := RX1) (T := TX1) (N := 10) hx hb hts wi1 tyX1 tyX1_ok nmX1 hown hK hW hS (hF.k hk (by decide)) (by decide) rfl 5 (by decide) (hts (.fieldLink RX1 31 "IceHall$Ice" "shaved" "I") (by decide +kernel)) (fun _ h9 => h9) rfl rfl rfl dX1_shave_29 (fun H locs hW hS => ?_)
  have kq3 : sK S2 h = 1 := (hF.k hk (by decide))
  obtain ⟨S4, eS4⟩ : ∃ T : St, T = stI S2 h 5 ((sI S2 h 5) + m1) := ⟨_, rfl⟩
  rw [← eS4] at hW
  have hG : G S4 := by rw [eS4]; exact hG.I kq3 (ok_fr (by decide))
  have hF : Fr [] [103, 104, 105] S S4 := by rw [eS4]; exact hF.I kq3 (by decide)
  clear eS4
  refine lv_aload_n hx hb dX1_shave_32 rfl (lv_at hl 1 rfl) ?_
  refine lv_iconst (v := 0) hx hb dX1_shave_33 (by decide) ?_
  refine lv_aload_n hx hb dX1_shave_34 rfl (lv_at hl 1 rfl) ?_
  refine pg_gi (ci := 1) (C := RX1) (T := TX1) (N := 10) hx hb hts wi1 hown hK hW (hF.k hk (by decide)) (by decide) rfl 4 (by decide) (hts (.fieldLink RX1 28 "IceHall$Ice" "ruts" "I") (by decide +kernel)) (fun _ h9 => h9) rfl dX1_shave_35 ?_
  refine lv_iload_n hx hb dX1_shave_38 rfl (lv_at hl 0 rfl) ?_
  refine lv_bipush (v := 10) hx hb dX1_shave_39 (by decide) ?_
  refine lv_imul hx hb dX1_shave_41 ?_
  refine lv_isub hx hb dX1_shave_42 ?_
  refine va_mmax hx hb (by rw [hml]; exact hl.1.symm) hown (hts (.methodLink RX1 80 Lib.Math.max.name) (by decide +kernel)) (hts (.static Lib.Math.max.name) (by decide +kernel)) (hts (.initialized "java/lang/Math") (by decide +kernel)) (hts (.code Lib.Math.max.name Lib.Math.max.code 2 (some .int)) (by decide +kernel)) (Nat.le_of_ble_eq_true rfl) (Nat.le_of_ble_eq_true rfl) (Nat.le_of_ble_eq_true rfl) (Nat.le_of_ble_eq_true rfl) dX1_shave_43 ?_
  refine lv_topi (fun m5 em5 => ?_)
  refine pg_pi (ci := 1) (C := RX1) (T := TX1) (N := 10) hx hb hts wi1 tyX1 tyX1_ok nmX1 hown hK hW hS (hF.k hk (by decide)) (by decide) rfl 4 (by decide) (hts (.fieldLink RX1 28 "IceHall$Ice" "ruts" "I") (by decide +kernel)) (fun _ h9 => h9) rfl rfl rfl dX1_shave_46 (fun H locs hW hS => ?_)
  have kq6 : sK S4 h = 1 := (hF.k hk (by decide))
  obtain ⟨S7, eS7⟩ : ∃ T : St, T = stI S4 h 4 m5 := ⟨_, rfl⟩
  rw [← eS7] at hW
  have hG : G S7 := by rw [eS7]; exact hG.I kq6 (ok_fr (by decide))
  have hF : Fr [] [103, 104, 105] S S7 := by rw [eS7]; exact hF.I kq6 (by decide)
  clear eS7
  exact pc_vret (S := S7) hx hb hr hlk hK hZ hA hW hS (⟨hG, hF, trivial⟩) dX1_shave_49
set_option maxHeartbeats 4000000 in
set_option maxRecDepth 100000 in
theorem b_X1_freeze (l : Launch) (D : va_G) (cy : Nat → ClassId) (A : Nat → Prop) (S : St) (h : Nat) (a : Int32) (hG0 : G S) (hk : sK S h = 1) : MV l yX1_freeze wsX1_freeze ({ frames := 0, cells := 0, slots := 0, locals := 0 } : Room) 0 0 D cy A [.ref h, .int a] S (fun S1 => G S1 ∧ Fr [] [103, 106] S S1 ∧ True) := by
  refine mt_start (cc := cX1_freeze) (maxL := 2) (ret := none) (by decide) rfl (Nat.le_of_ble_eq_true rfl) ?_
  intro p e s m args below meth c hx hb hr hlk hml hown hnm hts hK hZ hA hW hS ls hl
  have hl : lv_has ls 2 [(0, .ref h), (1, .int a)] := hl
  have hown : s.vm.findClass RX1 = some m.cls := hown
  have F : CallFix p m c cX1_freeze 2 s args wsX1_freeze RX1 := ⟨hx, hb, hml, hown, hts⟩
  have wi1 : ∀ w ∈ u_ws RX1 TX1 10, w ∈ wsX1_freeze := by decide +kernel
  have hG := hG0
  have hF : Fr [] [103, 106] S S := Fr.rf _ _ _
  refine lv_aload_n hx hb dX1_freeze_0 rfl (lv_at hl 0 rfl) ?_
  refine lv_dup hx hb dX1_freeze_1 rfl ?_
  refine pg_gi (ci := 1) (C := RX1) (T := TX1) (N := 10) hx hb hts wi1 hown hK hW hk (by decide) rfl 3 (by decide) (hts (.fieldLink RX1 25 "IceHall$Ice" "thickness" "I") (by decide +kernel)) (fun _ h9 => h9) rfl dX1_freeze_2 ?_
  refine lv_iload_n hx hb dX1_freeze_5 rfl (lv_at hl 1 rfl) ?_
  refine lv_iadd hx hb dX1_freeze_6 ?_
  refine pg_pi (ci := 1) (C := RX1) (T := TX1) (N := 10) hx hb hts wi1 tyX1 tyX1_ok nmX1 hown hK hW hS hk (by decide) rfl 3 (by decide) (hts (.fieldLink RX1 25 "IceHall$Ice" "thickness" "I") (by decide +kernel)) (fun _ h9 => h9) rfl rfl rfl dX1_freeze_7 (fun H locs hW hS => ?_)
  obtain ⟨S1, eS1⟩ : ∃ T : St, T = stI S h 3 ((sI S h 3) + a) := ⟨_, rfl⟩
  rw [← eS1] at hW
  have hG : G S1 := by rw [eS1]; exact hG.I hk (ok_fr (by decide))
  have hF : Fr [] [103, 106] S S1 := by rw [eS1]; exact hF.I hk (by decide)
  clear eS1
  refine lv_aload_n hx hb dX1_freeze_10 rfl (lv_at hl 0 rfl) ?_
  refine lv_dup hx hb dX1_freeze_11 rfl ?_
  refine pg_gi (ci := 1) (C := RX1) (T := TX1) (N := 10) hx hb hts wi1 hown hK hW (hF.k hk (by decide)) (by decide) rfl 6 (by decide) (hts (.fieldLink RX1 34 "IceHall$Ice" "flooded" "I") (by decide +kernel)) (fun _ h9 => h9) rfl dX1_freeze_12 ?_
  refine lv_iload_n hx hb dX1_freeze_15 rfl (lv_at hl 1 rfl) ?_
  refine lv_iadd hx hb dX1_freeze_16 ?_
  refine pg_pi (ci := 1) (C := RX1) (T := TX1) (N := 10) hx hb hts wi1 tyX1 tyX1_ok nmX1 hown hK hW hS (hF.k hk (by decide)) (by decide) rfl 6 (by decide) (hts (.fieldLink RX1 34 "IceHall$Ice" "flooded" "I") (by decide +kernel)) (fun _ h9 => h9) rfl rfl rfl dX1_freeze_17 (fun H locs hW hS => ?_)
  have kq2 : sK S1 h = 1 := (hF.k hk (by decide))
  obtain ⟨S3, eS3⟩ : ∃ T : St, T = stI S1 h 6 ((sI S1 h 6) + a) := ⟨_, rfl⟩
  rw [← eS3] at hW
  have hG : G S3 := by rw [eS3]; exact hG.I kq2 (ok_fr (by decide))
  have hF : Fr [] [103, 106] S S3 := by rw [eS3]; exact hF.I kq2 (by decide)
  clear eS3
  exact pc_vret (S := S3) hx hb hr hlk hK hZ hA hW hS (⟨hG, hF, trivial⟩) dX1_freeze_20
set_option maxHeartbeats 4000000 in
set_option maxRecDepth 100000 in
theorem b_X6_stands (l : Launch) (D : va_G) (cy : Nat → ClassId) (A : Nat → Prop) (S : St) (h : Nat) (hG0 : G S) (hk : sK S h = 6) : MI l yX6_stands wsX6_stands ({ frames := 0, cells := 0, slots := 0, locals := 0 } : Room) 0 0 D cy A [.ref h] S (fun r S1 => S1 = S ∧ True) := by
  refine mt_start (cc := cX6_stands) (maxL := 1) (ret := (some .boolean)) (by decide) rfl (Nat.le_of_ble_eq_true rfl) ?_
  intro p e s m args below meth c hx hb hr hlk hml hown hnm hts hK hZ hA hW hS ls hl
  have hl : lv_has ls 1 [(0, .ref h)] := hl
  have hown : s.vm.findClass RX6 = some m.cls := hown
  have F : CallFix p m c cX6_stands 1 s args wsX6_stands RX6 := ⟨hx, hb, hml, hown, hts⟩
  have wi6 : ∀ w ∈ u_ws RX6 TX6 10, w ∈ wsX6_stands := by decide +kernel
  have hG := hG0
  refine lv_aload_n hx hb dX6_stands_0 rfl (lv_at hl 0 rfl) ?_
  refine pg_gi (ci := 6) (C := RX6) (T := TX6) (N := 10) hx hb hts wi6 hown hK hW hk (by decide) rfl 6 (by decide) (hts (.fieldLink RX6 9 "IceHall$Session" "state" "I") (by decide +kernel)) (fun _ h9 => h9) rfl dX6_stands_1 ?_
  refine lv_if_eq (tgt := 23) hx hb dX6_stands_4 (by decide) (fun c1 => ?_) (fun c1 => ?_)
  · have c1i : Int32.toInt (sI S h 6) = (0 : Int) := (i3_eq _ _).mp c1
    refine lv_iconst (v := 1) hx hb dX6_stands_23 (by decide) ?_
    refine lv_goto (tgt := 28) hx hb dX6_stands_24 (by decide) ?_
    exact pc_zret (v := 1) (S := S) hx hb hr hlk hK hZ hA hW hS (by decide) (⟨rfl, trivial⟩) dX6_stands_28
  · have c1i : ¬ (Int32.toInt (sI S h 6) = (0 : Int)) := fun h9 => c1 ((i3_eq _ _).mpr h9)
    refine lv_aload_n hx hb dX6_stands_7 rfl (lv_at hl 0 rfl) ?_
    refine pg_gi (ci := 6) (C := RX6) (T := TX6) (N := 10) hx hb hts wi6 hown hK hW hk (by decide) rfl 6 (by decide) (hts (.fieldLink RX6 9 "IceHall$Session" "state" "I") (by decide +kernel)) (fun _ h9 => h9) rfl dX6_stands_8 ?_
    refine lv_iconst (v := 1) hx hb dX6_stands_11 (by decide) ?_
    refine lv_icmp_eq (tgt := 23) hx hb dX6_stands_12 (by decide) (fun c2 => ?_) (fun c2 => ?_)
    · have c2i : Int32.toInt (sI S h 6) = (1 : Int) := (i3_eq _ _).mp c2
      refine lv_iconst (v := 1) hx hb dX6_stands_23 (by decide) ?_
      refine lv_goto (tgt := 28) hx hb dX6_stands_24 (by decide) ?_
      exact pc_zret (v := 1) (S := S) hx hb hr hlk hK hZ hA hW hS (by decide) (⟨rfl, trivial⟩) dX6_stands_28
    · have c2i : ¬ (Int32.toInt (sI S h 6) = (1 : Int)) := fun h9 => c2 ((i3_eq _ _).mpr h9)
      refine lv_aload_n hx hb dX6_stands_15 rfl (lv_at hl 0 rfl) ?_
      refine pg_gi (ci := 6) (C := RX6) (T := TX6) (N := 10) hx hb hts wi6 hown hK hW hk (by decide) rfl 6 (by decide) (hts (.fieldLink RX6 9 "IceHall$Session" "state" "I") (by decide +kernel)) (fun _ h9 => h9) rfl dX6_stands_16 ?_
      refine lv_iconst (v := 2) hx hb dX6_stands_19 (by decide) ?_
      refine lv_icmp_ne (tgt := 27) hx hb dX6_stands_20 (by decide) (fun c3 => ?_) (fun c3 => ?_)
      · have c3i : ¬ (Int32.toInt (sI S h 6) = (2 : Int)) := fun h9 => c3 ((i3_eq _ _).mpr h9)
        refine lv_iconst (v := 0) hx hb dX6_stands_27 (by decide) ?_
        exact pc_zret (v := 0) (S := S) hx hb hr hlk hK hZ hA hW hS (by decide) (⟨rfl, trivial⟩) dX6_stands_28
      · have c3i : Int32.toInt (sI S h 6) = (2 : Int) := (i3_eq _ _).mp c3
        refine lv_iconst (v := 1) hx hb dX6_stands_23 (by decide) ?_
        refine lv_goto (tgt := 28) hx hb dX6_stands_24 (by decide) ?_
        exact pc_zret (v := 1) (S := S) hx hb hr hlk hK hZ hA hW hS (by decide) (⟨rfl, trivial⟩) dX6_stands_28
set_option maxHeartbeats 4000000 in
set_option maxRecDepth 100000 in
theorem b_X6_hold (l : Launch) (D : va_G) (cy : Nat → ClassId) (A : Nat → Prop) (S : St) (h : Nat) (hG0 : G S) (hk : sK S h = 6) : MV l yX6_hold wsX6_hold ({ frames := 0, cells := 0, slots := 0, locals := 0 } : Room) 0 0 D cy A [.ref h] S (fun S1 => G S1 ∧ Fr [] [606, 608] S S1 ∧ True) := by
  refine mt_start (cc := cX6_hold) (maxL := 1) (ret := none) (by decide) rfl (Nat.le_of_ble_eq_true rfl) ?_
  intro p e s m args below meth c hx hb hr hlk hml hown hnm hts hK hZ hA hW hS ls hl
  have hl : lv_has ls 1 [(0, .ref h)] := hl
  have hown : s.vm.findClass RX6 = some m.cls := hown
  have F : CallFix p m c cX6_hold 1 s args wsX6_hold RX6 := ⟨hx, hb, hml, hown, hts⟩
  have wi6 : ∀ w ∈ u_ws RX6 TX6 10, w ∈ wsX6_hold := by decide +kernel
  have hG := hG0
  have hF : Fr [] [606, 608] S S := Fr.rf _ _ _
  refine lv_aload_n hx hb dX6_hold_0 rfl (lv_at hl 0 rfl) ?_
  refine lv_iconst (v := 1) hx hb dX6_hold_1 (by decide) ?_
  refine pg_pi (ci := 6) (C := RX6) (T := TX6) (N := 10) hx hb hts wi6 tyX6 tyX6_ok nmX6 hown hK hW hS hk (by decide) rfl 6 (by decide) (hts (.fieldLink RX6 9 "IceHall$Session" "state" "I") (by decide +kernel)) (fun _ h9 => h9) rfl rfl rfl dX6_hold_2 (fun H locs hW hS => ?_)
  obtain ⟨S1, eS1⟩ : ∃ T : St, T = stI S h 6 1 := ⟨_, rfl⟩
  rw [← eS1] at hW
  have hG : G S1 := by rw [eS1]; exact hG.I hk (ok_fr (by decide))
  have hF : Fr [] [606, 608] S S1 := by rw [eS1]; exact hF.I hk (by decide)
  clear eS1
  refine lv_aload_n hx hb dX6_hold_5 rfl (lv_at hl 0 rfl) ?_
  refine lv_aload_n hx hb dX6_hold_6 rfl (lv_at hl 0 rfl) ?_
  refine pg_gi (ci := 6) (C := RX6) (T := TX6) (N := 10) hx hb hts wi6 hown hK hW (hF.k hk (by decide)) (by decide) rfl 2 (by decide) (hts (.fieldLink RX6 41 "IceHall$Session" "fee" "I") (by decide +kernel)) (fun _ h9 => h9) rfl dX6_hold_7 ?_
  refine pg_pi (ci := 6) (C := RX6) (T := TX6) (N := 10) hx hb hts wi6 tyX6 tyX6_ok nmX6 hown hK hW hS (hF.k hk (by decide)) (by decide) rfl 8 (by decide) (hts (.fieldLink RX6 18 "IceHall$Session" "owes" "I") (by decide +kernel)) (fun _ h9 => h9) rfl rfl rfl dX6_hold_10 (fun H locs hW hS => ?_)
  have kq2 : sK S1 h = 6 := (hF.k hk (by decide))
  obtain ⟨S3, eS3⟩ : ∃ T : St, T = stI S1 h 8 (sI S1 h 2) := ⟨_, rfl⟩
  rw [← eS3] at hW
  have hG : G S3 := by rw [eS3]; exact hG.I kq2 (ok_fr (by decide))
  have hF : Fr [] [606, 608] S S3 := by rw [eS3]; exact hF.I kq2 (by decide)
  clear eS3
  exact pc_vret (S := S3) hx hb hr hlk hK hZ hA hW hS (⟨hG, hF, trivial⟩) dX6_hold_13
set_option maxHeartbeats 4000000 in
set_option maxRecDepth 100000 in
theorem b_X6_lose (l : Launch) (D : va_G) (cy : Nat → ClassId) (A : Nat → Prop) (S : St) (h : Nat) (a : Int32) (hG0 : G S) (hk : sK S h = 6) : MV l yX6_lose wsX6_lose ({ frames := 0, cells := 0, slots := 0, locals := 0 } : Room) 0 0 D cy A [.ref h, .int a] S (fun S1 => G S1 ∧ Fr [] [606, 607] S S1 ∧ True) := by
  refine mt_start (cc := cX6_lose) (maxL := 2) (ret := none) (by decide) rfl (Nat.le_of_ble_eq_true rfl) ?_
  intro p e s m args below meth c hx hb hr hlk hml hown hnm hts hK hZ hA hW hS ls hl
  have hl : lv_has ls 2 [(0, .ref h), (1, .int a)] := hl
  have hown : s.vm.findClass RX6 = some m.cls := hown
  have F : CallFix p m c cX6_lose 2 s args wsX6_lose RX6 := ⟨hx, hb, hml, hown, hts⟩
  have wi6 : ∀ w ∈ u_ws RX6 TX6 10, w ∈ wsX6_lose := by decide +kernel
  have hG := hG0
  have hF : Fr [] [606, 607] S S := Fr.rf _ _ _
  refine lv_aload_n hx hb dX6_lose_0 rfl (lv_at hl 0 rfl) ?_
  refine lv_iconst (v := 2) hx hb dX6_lose_1 (by decide) ?_
  refine pg_pi (ci := 6) (C := RX6) (T := TX6) (N := 10) hx hb hts wi6 tyX6 tyX6_ok nmX6 hown hK hW hS hk (by decide) rfl 6 (by decide) (hts (.fieldLink RX6 9 "IceHall$Session" "state" "I") (by decide +kernel)) (fun _ h9 => h9) rfl rfl rfl dX6_lose_2 (fun H locs hW hS => ?_)
  obtain ⟨S1, eS1⟩ : ∃ T : St, T = stI S h 6 2 := ⟨_, rfl⟩
  rw [← eS1] at hW
  have hG : G S1 := by rw [eS1]; exact hG.I hk (ok_fr (by decide))
  have hF : Fr [] [606, 607] S S1 := by rw [eS1]; exact hF.I hk (by decide)
  clear eS1
  refine lv_aload_n hx hb dX6_lose_5 rfl (lv_at hl 0 rfl) ?_
  refine lv_iload_n hx hb dX6_lose_6 rfl (lv_at hl 1 rfl) ?_
  refine pg_pi (ci := 6) (C := RX6) (T := TX6) (N := 10) hx hb hts wi6 tyX6 tyX6_ok nmX6 hown hK hW hS (hF.k hk (by decide)) (by decide) rfl 7 (by decide) (hts (.fieldLink RX6 15 "IceHall$Session" "whyLost" "I") (by decide +kernel)) (fun _ h9 => h9) rfl rfl rfl dX6_lose_7 (fun H locs hW hS => ?_)
  have kq2 : sK S1 h = 6 := (hF.k hk (by decide))
  obtain ⟨S3, eS3⟩ : ∃ T : St, T = stI S1 h 7 a := ⟨_, rfl⟩
  rw [← eS3] at hW
  have hG : G S3 := by rw [eS3]; exact hG.I kq2 (ok_fr (by decide))
  have hF : Fr [] [606, 607] S S3 := by rw [eS3]; exact hF.I kq2 (by decide)
  clear eS3
  exact pc_vret (S := S3) hx hb hr hlk hK hZ hA hW hS (⟨hG, hF, trivial⟩) dX6_lose_10
set_option maxHeartbeats 4000000 in
set_option maxRecDepth 100000 in
theorem b_X6_moveTo (l : Launch) (D : va_G) (cy : Nat → ClassId) (A : Nat → Prop) (S : St) (h : Nat) (a b : Int32) (hG0 : G S) (hk : sK S h = 6) : MV l yX6_moveTo wsX6_moveTo ({ frames := 0, cells := 0, slots := 0, locals := 0 } : Room) 0 0 D cy A [.ref h, .int a, .int b] S (fun S1 => G S1 ∧ Fr [] [604, 605, 609] S S1 ∧ True) := by
  refine mt_start (cc := cX6_moveTo) (maxL := 3) (ret := none) (by decide) rfl (Nat.le_of_ble_eq_true rfl) ?_
  intro p e s m args below meth c hx hb hr hlk hml hown hnm hts hK hZ hA hW hS ls hl
  have hl : lv_has ls 3 [(0, .ref h), (1, .int a), (2, .int b)] := hl
  have hown : s.vm.findClass RX6 = some m.cls := hown
  have F : CallFix p m c cX6_moveTo 3 s args wsX6_moveTo RX6 := ⟨hx, hb, hml, hown, hts⟩
  have wi6 : ∀ w ∈ u_ws RX6 TX6 10, w ∈ wsX6_moveTo := by decide +kernel
  have hG := hG0
  have hF : Fr [] [604, 605, 609] S S := Fr.rf _ _ _
  refine lv_aload_n hx hb dX6_moveTo_0 rfl (lv_at hl 0 rfl) ?_
  refine lv_iload_n hx hb dX6_moveTo_1 rfl (lv_at hl 1 rfl) ?_
  refine pg_pi (ci := 6) (C := RX6) (T := TX6) (N := 10) hx hb hts wi6 tyX6 tyX6_ok nmX6 hown hK hW hS hk (by decide) rfl 4 (by decide) (hts (.fieldLink RX6 30 "IceHall$Session" "onSheet" "I") (by decide +kernel)) (fun _ h9 => h9) rfl rfl rfl dX6_moveTo_2 (fun H locs hW hS => ?_)
  obtain ⟨S1, eS1⟩ : ∃ T : St, T = stI S h 4 a := ⟨_, rfl⟩
  rw [← eS1] at hW
  have hG : G S1 := by rw [eS1]; exact hG.I hk (ok_fr (by decide))
  have hF : Fr [] [604, 605, 609] S S1 := by rw [eS1]; exact hF.I hk (by decide)
  clear eS1
  refine lv_aload_n hx hb dX6_moveTo_5 rfl (lv_at hl 0 rfl) ?_
  refine lv_iload_n hx hb dX6_moveTo_6 rfl (lv_at hl 2 rfl) ?_
  refine pg_pi (ci := 6) (C := RX6) (T := TX6) (N := 10) hx hb hts wi6 tyX6 tyX6_ok nmX6 hown hK hW hS (hF.k hk (by decide)) (by decide) rfl 5 (by decide) (hts (.fieldLink RX6 33 "IceHall$Session" "hour" "I") (by decide +kernel)) (fun _ h9 => h9) rfl rfl rfl dX6_moveTo_7 (fun H locs hW hS => ?_)
  have kq2 : sK S1 h = 6 := (hF.k hk (by decide))
  obtain ⟨S3, eS3⟩ : ∃ T : St, T = stI S1 h 5 b := ⟨_, rfl⟩
  rw [← eS3] at hW
  have hG : G S3 := by rw [eS3]; exact hG.I kq2 (ok_fr (by decide))
  have hF : Fr [] [604, 605, 609] S S3 := by rw [eS3]; exact hF.I kq2 (by decide)
  clear eS3
  refine lv_aload_n hx hb dX6_moveTo_10 rfl (lv_at hl 0 rfl) ?_
  refine lv_dup hx hb dX6_moveTo_11 rfl ?_
  refine pg_gi (ci := 6) (C := RX6) (T := TX6) (N := 10) hx hb hts wi6 hown hK hW (hF.k hk (by decide)) (by decide) rfl 9 (by decide) (hts (.fieldLink RX6 21 "IceHall$Session" "timesMoved" "I") (by decide +kernel)) (fun _ h9 => h9) rfl dX6_moveTo_12 ?_
  refine lv_iconst (v := 1) hx hb dX6_moveTo_15 (by decide) ?_
  refine lv_iadd hx hb dX6_moveTo_16 ?_
  refine pg_pi (ci := 6) (C := RX6) (T := TX6) (N := 10) hx hb hts wi6 tyX6 tyX6_ok nmX6 hown hK hW hS (hF.k hk (by decide)) (by decide) rfl 9 (by decide) (hts (.fieldLink RX6 21 "IceHall$Session" "timesMoved" "I") (by decide +kernel)) (fun _ h9 => h9) rfl rfl rfl dX6_moveTo_17 (fun H locs hW hS => ?_)
  have kq4 : sK S3 h = 6 := (hF.k hk (by decide))
  obtain ⟨S5, eS5⟩ : ∃ T : St, T = stI S3 h 9 ((sI S3 h 9) + 1) := ⟨_, rfl⟩
  rw [← eS5] at hW
  have hG : G S5 := by rw [eS5]; exact hG.I kq4 (ok_fr (by decide))
  have hF : Fr [] [604, 605, 609] S S5 := by rw [eS5]; exact hF.I kq4 (by decide)
  clear eS5
  exact pc_vret (S := S5) hx hb hr hlk hK hZ hA hW hS (⟨hG, hF, trivial⟩) dX6_moveTo_20
set_option maxHeartbeats 4000000 in
set_option maxRecDepth 100000 in
theorem b_X4_isIn (l : Launch) (D : va_G) (cy : Nat → ClassId) (A : Nat → Prop) (S : St) (a b : Int32)  : MI l yX4_isIn wsX4_isIn ({ frames := 0, cells := 0, slots := 0, locals := 0 } : Room) 0 0 D cy A [.int a, .int b] S (fun r S1 => S1 = S ∧ True) := by
  refine mt_start (cc := cX4_isIn) (maxL := 2) (ret := (some .boolean)) (by decide) rfl (Nat.le_of_ble_eq_true rfl) ?_
  intro p e s m args below meth c hx hb hr hlk hml hown hnm hts hK hZ hA hW hS ls hl
  have hl : lv_has ls 2 [(0, .int a), (1, .int b)] := hl
  have hown : s.vm.findClass RX4 = some m.cls := hown
  have F : CallFix p m c cX4_isIn 2 s args wsX4_isIn RX4 := ⟨hx, hb, hml, hown, hts⟩
  refine lv_iload_n hx hb dX4_isIn_0 rfl (lv_at hl 0 rfl) ?_
  refine lv_iload_n hx hb dX4_isIn_1 rfl (lv_at hl 1 rfl) ?_
  refine lv_ishr hx hb dX4_isIn_2 ?_
  refine lv_iconst (v := 1) hx hb dX4_isIn_3 (by decide) ?_
  refine lv_iand hx hb dX4_isIn_4 ?_
  refine lv_if_eq (tgt := 12) hx hb dX4_isIn_5 (by decide) (fun c1 => ?_) (fun c1 => ?_)
  · have c1i : Int32.toInt ((a >>> (b &&& 31)) &&& 1) = (0 : Int) := (i3_eq _ _).mp c1
    refine lv_iconst (v := 0) hx hb dX4_isIn_12 (by decide) ?_
    exact pc_zret (v := 0) (S := S) hx hb hr hlk hK hZ hA hW hS (by decide) (⟨rfl, trivial⟩) dX4_isIn_13
  · have c1i : ¬ (Int32.toInt ((a >>> (b &&& 31)) &&& 1) = (0 : Int)) := fun h9 => c1 ((i3_eq _ _).mpr h9)
    refine lv_iconst (v := 1) hx hb dX4_isIn_8 (by decide) ?_
    refine lv_goto (tgt := 13) hx hb dX4_isIn_9 (by decide) ?_
    exact pc_zret (v := 1) (S := S) hx hb hr hlk hK hZ hA hW hS (by decide) (⟨rfl, trivial⟩) dX4_isIn_13
set_option maxHeartbeats 4000000 in
set_option maxRecDepth 100000 in
theorem b_X4_let (l : Launch) (D : va_G) (cy : Nat → ClassId) (A : Nat → Prop) (S : St) (h : Nat) (a b : Int32) (hG0 : G S) (hk : sK S h = 4) : MI l yX4_let wsX4_let ({ frames := 1, cells := 0, slots := 0, locals := 21 } : Room) 0 0 D cy A [.ref h, .int a, .int b] S (fun r S1 => S1 = S ∧ True) := by
  refine mt_start (cc := cX4_let) (maxL := 3) (ret := (some .boolean)) (by decide) rfl (Nat.le_of_ble_eq_true rfl) ?_
  intro p e s m args below meth c hx hb hr hlk hml hown hnm hts hK hZ hA hW hS ls hl
  have hl : lv_has ls 3 [(0, .ref h), (1, .int a), (2, .int b)] := hl
  have hown : s.vm.findClass RX4 = some m.cls := hown
  have F : CallFix p m c cX4_let 3 s args wsX4_let RX4 := ⟨hx, hb, hml, hown, hts⟩
  have wi4 : ∀ w ∈ u_ws RX4 TX4 6, w ∈ wsX4_let := by decide +kernel
  have hG := hG0
  refine lv_aload_n hx hb dX4_let_0 rfl (lv_at hl 0 rfl) ?_
  refine pg_gi (ci := 4) (C := RX4) (T := TX4) (N := 6) hx hb hts wi4 hown hK hW hk (by decide) rfl 0 (by decide) (hts (.fieldLink RX4 12 "IceHall$Rights" "clocks" "I") (by decide +kernel)) (fun _ h9 => h9) rfl dX4_let_1 ?_
  refine lv_iload_n hx hb dX4_let_4 rfl (lv_at hl 2 rfl) ?_
  refine lv_bipush (v := 24) hx hb dX4_let_5 (by decide) ?_
  refine lv_irem hx hb dX4_let_7 (by decide) ?_
  refine pc_Si (As := [.int (sI S h 0), .int (b - b / 24 * 24)]) (rest := []) F (b_X4_isIn l D cy A S (sI S h 0) (b - b / 24 * 24) ) (va_cwS 2 hts gX4_let_X4_isIn rfl rfl rfl (by decide +kernel) ⟨Nat.le_of_ble_eq_true rfl, Nat.le_of_ble_eq_true rfl⟩) hK hZ hA hW hS rfl hl.1 rfl (Nat.le_of_ble_eq_true rfl) dX4_let_8 ⟨Nat.le_of_ble_eq_true rfl, Nat.le_of_ble_eq_true rfl⟩ (fun v1 T2 H locs p3 hW hS => ?_)
  obtain ⟨eT2, p3⟩ := p3
  rw [eT2] at hW
  clear eT2
  refine lv_if_eq (tgt := 46) hx hb dX4_let_11 (by decide) (fun c4 => ?_) (fun c4 => ?_)
  · have c4i : Int32.toInt v1 = (0 : Int) := (i3_eq _ _).mp c4
    refine lv_iconst (v := 0) hx hb dX4_let_46 (by decide) ?_
    exact pc_zret (v := 0) (S := S) hx hb hr hlk hK hZ hA hW hS (by decide) (⟨rfl, trivial⟩) dX4_let_47
  · have c4i : ¬ (Int32.toInt v1 = (0 : Int)) := fun h9 => c4 ((i3_eq _ _).mpr h9)
    refine lv_aload_n hx hb dX4_let_14 rfl (lv_at hl 0 rfl) ?_
    refine pg_gi (ci := 4) (C := RX4) (T := TX4) (N := 6) hx hb hts wi4 hown hK hW hk (by decide) rfl 1 (by decide) (hts (.fieldLink RX4 16 "IceHall$Rights" "days" "I") (by decide +kernel)) (fun _ h9 => h9) rfl dX4_let_15 ?_
    refine lv_iload_n hx hb dX4_let_18 rfl (lv_at hl 2 rfl) ?_
    refine lv_bipush (v := 24) hx hb dX4_let_19 (by decide) ?_
    refine lv_idiv hx hb dX4_let_21 (by decide) ?_
    refine lv_bipush (v := 7) hx hb dX4_let_22 (by decide) ?_
    refine lv_irem hx hb dX4_let_24 (by decide) ?_
    refine pc_Si (As := [.int (sI S h 1), .int ((b / 24) - (b / 24) / 7 * 7)]) (rest := []) F (b_X4_isIn l D cy A S (sI S h 1) ((b / 24) - (b / 24) / 7 * 7) ) (va_cwS 2 hts gX4_let_X4_isIn rfl rfl rfl (by decide +kernel) ⟨Nat.le_of_ble_eq_true rfl, Nat.le_of_ble_eq_true rfl⟩) hK hZ hA hW hS rfl hl.1 rfl (Nat.le_of_ble_eq_true rfl) dX4_let_25 ⟨Nat.le_of_ble_eq_true rfl, Nat.le_of_ble_eq_true rfl⟩ (fun v5 T6 H locs p7 hW hS => ?_)
    obtain ⟨eT6, p7⟩ := p7
    rw [eT6] at hW
    clear eT6
    refine lv_if_eq (tgt := 46) hx hb dX4_let_28 (by decide) (fun c8 => ?_) (fun c8 => ?_)
    · have c8i : Int32.toInt v5 = (0 : Int) := (i3_eq _ _).mp c8
      refine lv_iconst (v := 0) hx hb dX4_let_46 (by decide) ?_
      exact pc_zret (v := 0) (S := S) hx hb hr hlk hK hZ hA hW hS (by decide) (⟨rfl, trivial⟩) dX4_let_47
    · have c8i : ¬ (Int32.toInt v5 = (0 : Int)) := fun h9 => c8 ((i3_eq _ _).mpr h9)
      refine lv_aload_n hx hb dX4_let_31 rfl (lv_at hl 0 rfl) ?_
      refine pg_gi (ci := 4) (C := RX4) (T := TX4) (N := 6) hx hb hts wi4 hown hK hW hk (by decide) rfl 2 (by decide) (hts (.fieldLink RX4 19 "IceHall$Rights" "kinds" "I") (by decide +kernel)) (fun _ h9 => h9) rfl dX4_let_32 ?_
      refine lv_iload_n hx hb dX4_let_35 rfl (lv_at hl 1 rfl) ?_
      refine pc_Si (As := [.int (sI S h 2), .int a]) (rest := []) F (b_X4_isIn l D cy A S (sI S h 2) a ) (va_cwS 2 hts gX4_let_X4_isIn rfl rfl rfl (by decide +kernel) ⟨Nat.le_of_ble_eq_true rfl, Nat.le_of_ble_eq_true rfl⟩) hK hZ hA hW hS rfl hl.1 rfl (Nat.le_of_ble_eq_true rfl) dX4_let_36 ⟨Nat.le_of_ble_eq_true rfl, Nat.le_of_ble_eq_true rfl⟩ (fun v9 T10 H locs p11 hW hS => ?_)
      obtain ⟨eT10, p11⟩ := p11
      rw [eT10] at hW
      clear eT10
      refine lv_if_eq (tgt := 46) hx hb dX4_let_39 (by decide) (fun c12 => ?_) (fun c12 => ?_)
      · have c12i : Int32.toInt v9 = (0 : Int) := (i3_eq _ _).mp c12
        refine lv_iconst (v := 0) hx hb dX4_let_46 (by decide) ?_
        exact pc_zret (v := 0) (S := S) hx hb hr hlk hK hZ hA hW hS (by decide) (⟨rfl, trivial⟩) dX4_let_47
      · have c12i : ¬ (Int32.toInt v9 = (0 : Int)) := fun h9 => c12 ((i3_eq _ _).mpr h9)
        refine lv_iconst (v := 1) hx hb dX4_let_42 (by decide) ?_
        refine lv_goto (tgt := 47) hx hb dX4_let_43 (by decide) ?_
        exact pc_zret (v := 1) (S := S) hx hb hr hlk hK hZ hA hW hS (by decide) (⟨rfl, trivial⟩) dX4_let_47
